section
-- ===== PART A: goes FIRST, ahead of the names: the tables' words, and 'selects' of the private methods out of them =====
/-- a private method of a class that the tables say can be made, by its rows of tables_1 -/
def lw_okq (q : MethodName × Nat) : Prop := (q.1.cls ≠ "java/lang/invoke/MethodHandle" ∧ q.1.cls ≠ "java/lang/invoke/VarHandle") ∧ Cond.instantiable q.1.cls q.2 ∈ tables_1 ∧ Cond.privateMethod q.1 ∈ tables_1 ∧ Cond.instanceMethod q.1 ∈ tables_1
theorem lw_p0 : lw_okq (⟨"BoundDesk$Span", "becomeEmpty", "()V"⟩, 2) := ⟨⟨by decide +kernel, by decide +kernel⟩, List.mem_of_getElem? (i := 36) (by decide +kernel), List.mem_of_getElem? (i := 68) (by decide +kernel), List.mem_of_getElem? (i := 69) (by decide +kernel)⟩
theorem lw_p1 : lw_okq (⟨"BoundDesk$Shape", "isPattern", "(I)Z"⟩, 2) := ⟨⟨by decide +kernel, by decide +kernel⟩, List.mem_of_getElem? (i := 20) (by decide +kernel), List.mem_of_getElem? (i := 79) (by decide +kernel), List.mem_of_getElem? (i := 80) (by decide +kernel)⟩
theorem lw_p2 : lw_okq (⟨"BoundDesk$Shape", "signBit", "()I"⟩, 2) := ⟨⟨by decide +kernel, by decide +kernel⟩, List.mem_of_getElem? (i := 20) (by decide +kernel), List.mem_of_getElem? (i := 83) (by decide +kernel), List.mem_of_getElem? (i := 84) (by decide +kernel)⟩
theorem lw_p3 : lw_okq (⟨"BoundDesk$Shape", "endlessPattern", "()I"⟩, 2) := ⟨⟨by decide +kernel, by decide +kernel⟩, List.mem_of_getElem? (i := 20) (by decide +kernel), List.mem_of_getElem? (i := 87) (by decide +kernel), List.mem_of_getElem? (i := 88) (by decide +kernel)⟩
theorem lw_p4 : lw_okq (⟨"BoundDesk$Shape", "numberOf", "(I)J"⟩, 2) := ⟨⟨by decide +kernel, by decide +kernel⟩, List.mem_of_getElem? (i := 20) (by decide +kernel), List.mem_of_getElem? (i := 91) (by decide +kernel), List.mem_of_getElem? (i := 92) (by decide +kernel)⟩
theorem lw_p5 : lw_okq (⟨"BoundDesk$Shape", "sizeOf", "(I)J"⟩, 2) := ⟨⟨by decide +kernel, by decide +kernel⟩, List.mem_of_getElem? (i := 20) (by decide +kernel), List.mem_of_getElem? (i := 95) (by decide +kernel), List.mem_of_getElem? (i := 96) (by decide +kernel)⟩
theorem lw_p6 : lw_okq (⟨"BoundDesk$Span", "become", "(JJ)V"⟩, 2) := ⟨⟨by decide +kernel, by decide +kernel⟩, List.mem_of_getElem? (i := 36) (by decide +kernel), List.mem_of_getElem? (i := 102) (by decide +kernel), List.mem_of_getElem? (i := 103) (by decide +kernel)⟩
theorem lw_p7 : lw_okq (⟨"BoundDesk$Span", "kindNumber", "()I"⟩, 2) := ⟨⟨by decide +kernel, by decide +kernel⟩, List.mem_of_getElem? (i := 36) (by decide +kernel), List.mem_of_getElem? (i := 114) (by decide +kernel), List.mem_of_getElem? (i := 115) (by decide +kernel)⟩
theorem lw_p8 : lw_okq (⟨"BoundDesk$Span", "isEmpty", "()Z"⟩, 2) := ⟨⟨by decide +kernel, by decide +kernel⟩, List.mem_of_getElem? (i := 36) (by decide +kernel), List.mem_of_getElem? (i := 118) (by decide +kernel), List.mem_of_getElem? (i := 119) (by decide +kernel)⟩
theorem lw_p9 : lw_okq (⟨"BoundDesk", "isFilled", "(I)Z"⟩, 4) := ⟨⟨by decide +kernel, by decide +kernel⟩, List.mem_of_getElem? (i := 12) (by decide +kernel), List.mem_of_getElem? (i := 128) (by decide +kernel), List.mem_of_getElem? (i := 129) (by decide +kernel)⟩
theorem lw_p10 : lw_okq (⟨"BoundDesk$Span", "holdsAllOf", "(LBoundDesk$Span;)Z"⟩, 2) := ⟨⟨by decide +kernel, by decide +kernel⟩, List.mem_of_getElem? (i := 36) (by decide +kernel), List.mem_of_getElem? (i := 133) (by decide +kernel), List.mem_of_getElem? (i := 134) (by decide +kernel)⟩
theorem lw_p11 : lw_okq (⟨"java/lang/Throwable", "fillInStackTrace", "(I)Ljava/lang/Throwable;"⟩, 6) := ⟨⟨by decide +kernel, by decide +kernel⟩, List.mem_of_getElem? (i := 189) (by decide +kernel), List.mem_of_getElem? (i := 187) (by decide +kernel), List.mem_of_getElem? (i := 188) (by decide +kernel)⟩
theorem lw_p12 : lw_okq (⟨"BoundDesk", "reckonOne", "(ILBoundDesk$Span;)V"⟩, 4) := ⟨⟨by decide +kernel, by decide +kernel⟩, List.mem_of_getElem? (i := 12) (by decide +kernel), List.mem_of_getElem? (i := 220) (by decide +kernel), List.mem_of_getElem? (i := 221) (by decide +kernel)⟩
theorem lw_p13 : lw_okq (⟨"BoundDesk", "takeSize", "(LBoundDesk$Span;)V"⟩, 4) := ⟨⟨by decide +kernel, by decide +kernel⟩, List.mem_of_getElem? (i := 12) (by decide +kernel), List.mem_of_getElem? (i := 224) (by decide +kernel), List.mem_of_getElem? (i := 225) (by decide +kernel)⟩
theorem lw_p14 : lw_okq (⟨"BoundDesk", "productNotAbove", "(JJ)J"⟩, 4) := ⟨⟨by decide +kernel, by decide +kernel⟩, List.mem_of_getElem? (i := 12) (by decide +kernel), List.mem_of_getElem? (i := 231) (by decide +kernel), List.mem_of_getElem? (i := 232) (by decide +kernel)⟩
theorem lw_p15 : lw_okq (⟨"BoundDesk$Shape", "unitBits", "()I"⟩, 2) := ⟨⟨by decide +kernel, by decide +kernel⟩, List.mem_of_getElem? (i := 20) (by decide +kernel), List.mem_of_getElem? (i := 235) (by decide +kernel), List.mem_of_getElem? (i := 236) (by decide +kernel)⟩
def lw_privs_1 : List (MethodName × Nat) := [(⟨"BoundDesk$Span", "becomeEmpty", "()V"⟩, 2), (⟨"BoundDesk$Shape", "isPattern", "(I)Z"⟩, 2), (⟨"BoundDesk$Shape", "signBit", "()I"⟩, 2), (⟨"BoundDesk$Shape", "endlessPattern", "()I"⟩, 2), (⟨"BoundDesk$Shape", "numberOf", "(I)J"⟩, 2), (⟨"BoundDesk$Shape", "sizeOf", "(I)J"⟩, 2), (⟨"BoundDesk$Span", "become", "(JJ)V"⟩, 2), (⟨"BoundDesk$Span", "kindNumber", "()I"⟩, 2), (⟨"BoundDesk$Span", "isEmpty", "()Z"⟩, 2), (⟨"BoundDesk", "isFilled", "(I)Z"⟩, 4), (⟨"BoundDesk$Span", "holdsAllOf", "(LBoundDesk$Span;)Z"⟩, 2), (⟨"java/lang/Throwable", "fillInStackTrace", "(I)Ljava/lang/Throwable;"⟩, 6), (⟨"BoundDesk", "reckonOne", "(ILBoundDesk$Span;)V"⟩, 4), (⟨"BoundDesk", "takeSize", "(LBoundDesk$Span;)V"⟩, 4), (⟨"BoundDesk", "productNotAbove", "(JJ)J"⟩, 4), (⟨"BoundDesk$Shape", "unitBits", "()I"⟩, 2)]
theorem lw_r1 : ∀ q ∈ lw_privs_1, lw_okq q := List.forall_mem_cons.mpr ⟨lw_p0, List.forall_mem_cons.mpr ⟨lw_p1, List.forall_mem_cons.mpr ⟨lw_p2, List.forall_mem_cons.mpr ⟨lw_p3, List.forall_mem_cons.mpr ⟨lw_p4, List.forall_mem_cons.mpr ⟨lw_p5, List.forall_mem_cons.mpr ⟨lw_p6, List.forall_mem_cons.mpr ⟨lw_p7, List.forall_mem_cons.mpr ⟨lw_p8, List.forall_mem_cons.mpr ⟨lw_p9, List.forall_mem_cons.mpr ⟨lw_p10, List.forall_mem_cons.mpr ⟨lw_p11, List.forall_mem_cons.mpr ⟨lw_p12, List.forall_mem_cons.mpr ⟨lw_p13, List.forall_mem_cons.mpr ⟨lw_p14, List.forall_mem_cons.mpr ⟨lw_p15, fun _ h => absurd h List.not_mem_nil⟩⟩⟩⟩⟩⟩⟩⟩⟩⟩⟩⟩⟩⟩⟩⟩
theorem lw_p16 : lw_okq (⟨"BoundDesk", "productNotBelow", "(JJ)J"⟩, 4) := ⟨⟨by decide +kernel, by decide +kernel⟩, List.mem_of_getElem? (i := 12) (by decide +kernel), List.mem_of_getElem? (i := 239) (by decide +kernel), List.mem_of_getElem? (i := 240) (by decide +kernel)⟩
theorem lw_p17 : lw_okq (⟨"BoundDesk", "takeRoot", "(LBoundDesk$Span;)V"⟩, 4) := ⟨⟨by decide +kernel, by decide +kernel⟩, List.mem_of_getElem? (i := 12) (by decide +kernel), List.mem_of_getElem? (i := 243) (by decide +kernel), List.mem_of_getElem? (i := 244) (by decide +kernel)⟩
theorem lw_p18 : lw_okq (⟨"BoundDesk", "rootNotAbove", "(J)J"⟩, 4) := ⟨⟨by decide +kernel, by decide +kernel⟩, List.mem_of_getElem? (i := 12) (by decide +kernel), List.mem_of_getElem? (i := 247) (by decide +kernel), List.mem_of_getElem? (i := 248) (by decide +kernel)⟩
theorem lw_p19 : lw_okq (⟨"BoundDesk", "rootNotBelow", "(J)J"⟩, 4) := ⟨⟨by decide +kernel, by decide +kernel⟩, List.mem_of_getElem? (i := 12) (by decide +kernel), List.mem_of_getElem? (i := 254) (by decide +kernel), List.mem_of_getElem? (i := 255) (by decide +kernel)⟩
theorem lw_p20 : lw_okq (⟨"BoundDesk", "reckonTwo", "(ILBoundDesk$Span;LBoundDesk$Span;)V"⟩, 4) := ⟨⟨by decide +kernel, by decide +kernel⟩, List.mem_of_getElem? (i := 12) (by decide +kernel), List.mem_of_getElem? (i := 258) (by decide +kernel), List.mem_of_getElem? (i := 259) (by decide +kernel)⟩
theorem lw_p21 : lw_okq (⟨"BoundDesk", "join", "(LBoundDesk$Span;LBoundDesk$Span;)V"⟩, 4) := ⟨⟨by decide +kernel, by decide +kernel⟩, List.mem_of_getElem? (i := 12) (by decide +kernel), List.mem_of_getElem? (i := 262) (by decide +kernel), List.mem_of_getElem? (i := 263) (by decide +kernel)⟩
theorem lw_p22 : lw_okq (⟨"BoundDesk", "multiply", "(LBoundDesk$Span;LBoundDesk$Span;)V"⟩, 4) := ⟨⟨by decide +kernel, by decide +kernel⟩, List.mem_of_getElem? (i := 12) (by decide +kernel), List.mem_of_getElem? (i := 272) (by decide +kernel), List.mem_of_getElem? (i := 273) (by decide +kernel)⟩
theorem lw_p23 : lw_okq (⟨"BoundDesk", "divide", "(LBoundDesk$Span;LBoundDesk$Span;)V"⟩, 4) := ⟨⟨by decide +kernel, by decide +kernel⟩, List.mem_of_getElem? (i := 12) (by decide +kernel), List.mem_of_getElem? (i := 276) (by decide +kernel), List.mem_of_getElem? (i := 277) (by decide +kernel)⟩
theorem lw_p24 : lw_okq (⟨"BoundDesk", "divideByAbove", "(LBoundDesk$Span;JJLBoundDesk$Span;)V"⟩, 4) := ⟨⟨by decide +kernel, by decide +kernel⟩, List.mem_of_getElem? (i := 12) (by decide +kernel), List.mem_of_getElem? (i := 280) (by decide +kernel), List.mem_of_getElem? (i := 281) (by decide +kernel)⟩
theorem lw_p25 : lw_okq (⟨"BoundDesk", "leastQuotient", "(JJJ)J"⟩, 4) := ⟨⟨by decide +kernel, by decide +kernel⟩, List.mem_of_getElem? (i := 12) (by decide +kernel), List.mem_of_getElem? (i := 284) (by decide +kernel), List.mem_of_getElem? (i := 285) (by decide +kernel)⟩
theorem lw_p26 : lw_okq (⟨"BoundDesk", "meet", "(LBoundDesk$Span;LBoundDesk$Span;)V"⟩, 4) := ⟨⟨by decide +kernel, by decide +kernel⟩, List.mem_of_getElem? (i := 12) (by decide +kernel), List.mem_of_getElem? (i := 291) (by decide +kernel), List.mem_of_getElem? (i := 292) (by decide +kernel)⟩
theorem lw_p27 : lw_okq (⟨"BoundDesk", "keep", "(LBoundDesk$Span;LBoundDesk$Span;)I"⟩, 4) := ⟨⟨by decide +kernel, by decide +kernel⟩, List.mem_of_getElem? (i := 12) (by decide +kernel), List.mem_of_getElem? (i := 295) (by decide +kernel), List.mem_of_getElem? (i := 296) (by decide +kernel)⟩
theorem lw_p28 : lw_okq (⟨"BoundDesk$Shape", "notAbove", "(J)J"⟩, 2) := ⟨⟨by decide +kernel, by decide +kernel⟩, List.mem_of_getElem? (i := 20) (by decide +kernel), List.mem_of_getElem? (i := 299) (by decide +kernel), List.mem_of_getElem? (i := 300) (by decide +kernel)⟩
theorem lw_p29 : lw_okq (⟨"BoundDesk$Shape", "sizeNotBelow", "(J)J"⟩, 2) := ⟨⟨by decide +kernel, by decide +kernel⟩, List.mem_of_getElem? (i := 20) (by decide +kernel), List.mem_of_getElem? (i := 303) (by decide +kernel), List.mem_of_getElem? (i := 304) (by decide +kernel)⟩
theorem lw_p30 : lw_okq (⟨"BoundDesk$Shape", "extraBits", "(J)I"⟩, 2) := ⟨⟨by decide +kernel, by decide +kernel⟩, List.mem_of_getElem? (i := 20) (by decide +kernel), List.mem_of_getElem? (i := 307) (by decide +kernel), List.mem_of_getElem? (i := 308) (by decide +kernel)⟩
theorem lw_p31 : lw_okq (⟨"BoundDesk$Shape", "sizeNotAbove", "(J)J"⟩, 2) := ⟨⟨by decide +kernel, by decide +kernel⟩, List.mem_of_getElem? (i := 20) (by decide +kernel), List.mem_of_getElem? (i := 312) (by decide +kernel), List.mem_of_getElem? (i := 313) (by decide +kernel)⟩
def lw_privs_2 : List (MethodName × Nat) := [(⟨"BoundDesk", "productNotBelow", "(JJ)J"⟩, 4), (⟨"BoundDesk", "takeRoot", "(LBoundDesk$Span;)V"⟩, 4), (⟨"BoundDesk", "rootNotAbove", "(J)J"⟩, 4), (⟨"BoundDesk", "rootNotBelow", "(J)J"⟩, 4), (⟨"BoundDesk", "reckonTwo", "(ILBoundDesk$Span;LBoundDesk$Span;)V"⟩, 4), (⟨"BoundDesk", "join", "(LBoundDesk$Span;LBoundDesk$Span;)V"⟩, 4), (⟨"BoundDesk", "multiply", "(LBoundDesk$Span;LBoundDesk$Span;)V"⟩, 4), (⟨"BoundDesk", "divide", "(LBoundDesk$Span;LBoundDesk$Span;)V"⟩, 4), (⟨"BoundDesk", "divideByAbove", "(LBoundDesk$Span;JJLBoundDesk$Span;)V"⟩, 4), (⟨"BoundDesk", "leastQuotient", "(JJJ)J"⟩, 4), (⟨"BoundDesk", "meet", "(LBoundDesk$Span;LBoundDesk$Span;)V"⟩, 4), (⟨"BoundDesk", "keep", "(LBoundDesk$Span;LBoundDesk$Span;)I"⟩, 4), (⟨"BoundDesk$Shape", "notAbove", "(J)J"⟩, 2), (⟨"BoundDesk$Shape", "sizeNotBelow", "(J)J"⟩, 2), (⟨"BoundDesk$Shape", "extraBits", "(J)I"⟩, 2), (⟨"BoundDesk$Shape", "sizeNotAbove", "(J)J"⟩, 2)]
theorem lw_r2 : ∀ q ∈ lw_privs_2, lw_okq q := List.forall_mem_cons.mpr ⟨lw_p16, List.forall_mem_cons.mpr ⟨lw_p17, List.forall_mem_cons.mpr ⟨lw_p18, List.forall_mem_cons.mpr ⟨lw_p19, List.forall_mem_cons.mpr ⟨lw_p20, List.forall_mem_cons.mpr ⟨lw_p21, List.forall_mem_cons.mpr ⟨lw_p22, List.forall_mem_cons.mpr ⟨lw_p23, List.forall_mem_cons.mpr ⟨lw_p24, List.forall_mem_cons.mpr ⟨lw_p25, List.forall_mem_cons.mpr ⟨lw_p26, List.forall_mem_cons.mpr ⟨lw_p27, List.forall_mem_cons.mpr ⟨lw_p28, List.forall_mem_cons.mpr ⟨lw_p29, List.forall_mem_cons.mpr ⟨lw_p30, List.forall_mem_cons.mpr ⟨lw_p31, fun _ h => absurd h List.not_mem_nil⟩⟩⟩⟩⟩⟩⟩⟩⟩⟩⟩⟩⟩⟩⟩⟩
theorem lw_p32 : lw_okq (⟨"BoundDesk$Shape", "notBelow", "(J)J"⟩, 2) := ⟨⟨by decide +kernel, by decide +kernel⟩, List.mem_of_getElem? (i := 20) (by decide +kernel), List.mem_of_getElem? (i := 316) (by decide +kernel), List.mem_of_getElem? (i := 317) (by decide +kernel)⟩
theorem lw_p33 : lw_okq (⟨"BoundDesk$Shape", "patternOf", "(J)I"⟩, 2) := ⟨⟨by decide +kernel, by decide +kernel⟩, List.mem_of_getElem? (i := 20) (by decide +kernel), List.mem_of_getElem? (i := 363) (by decide +kernel), List.mem_of_getElem? (i := 364) (by decide +kernel)⟩
theorem lw_p34 : lw_okq (⟨"BoundDesk$Shape", "unsignedOf", "(J)I"⟩, 2) := ⟨⟨by decide +kernel, by decide +kernel⟩, List.mem_of_getElem? (i := 20) (by decide +kernel), List.mem_of_getElem? (i := 367) (by decide +kernel), List.mem_of_getElem? (i := 368) (by decide +kernel)⟩
theorem lw_p35 : lw_okq (⟨"BoundDesk$Span", "lacksAnEnd", "()Z"⟩, 2) := ⟨⟨by decide +kernel, by decide +kernel⟩, List.mem_of_getElem? (i := 36) (by decide +kernel), List.mem_of_getElem? (i := 385) (by decide +kernel), List.mem_of_getElem? (i := 386) (by decide +kernel)⟩
theorem lw_p36 : lw_okq (⟨"BoundDesk$Shape", "patternOfHalf", "(J)I"⟩, 2) := ⟨⟨by decide +kernel, by decide +kernel⟩, List.mem_of_getElem? (i := 20) (by decide +kernel), List.mem_of_getElem? (i := 390) (by decide +kernel), List.mem_of_getElem? (i := 391) (by decide +kernel)⟩
theorem lw_p37 : lw_okq (⟨"BoundDeskModel", "isPattern", "(I)Z"⟩, 12) := ⟨⟨by decide +kernel, by decide +kernel⟩, List.mem_of_getElem? (i := 403) (by decide +kernel), List.mem_of_getElem? (i := 463) (by decide +kernel), List.mem_of_getElem? (i := 464) (by decide +kernel)⟩
theorem lw_p38 : lw_okq (⟨"BoundDeskModel", "endless", "()I"⟩, 12) := ⟨⟨by decide +kernel, by decide +kernel⟩, List.mem_of_getElem? (i := 403) (by decide +kernel), List.mem_of_getElem? (i := 467) (by decide +kernel), List.mem_of_getElem? (i := 468) (by decide +kernel)⟩
theorem lw_p39 : lw_okq (⟨"BoundDeskModel", "number", "(I)J"⟩, 12) := ⟨⟨by decide +kernel, by decide +kernel⟩, List.mem_of_getElem? (i := 403) (by decide +kernel), List.mem_of_getElem? (i := 471) (by decide +kernel), List.mem_of_getElem? (i := 472) (by decide +kernel)⟩
theorem lw_p40 : lw_okq (⟨"BoundDeskModel", "raise", "(I)I"⟩, 12) := ⟨⟨by decide +kernel, by decide +kernel⟩, List.mem_of_getElem? (i := 403) (by decide +kernel), List.mem_of_getElem? (i := 485) (by decide +kernel), List.mem_of_getElem? (i := 486) (by decide +kernel)⟩
theorem lw_p41 : lw_okq (⟨"BoundDeskModel", "alone", "(II)V"⟩, 12) := ⟨⟨by decide +kernel, by decide +kernel⟩, List.mem_of_getElem? (i := 403) (by decide +kernel), List.mem_of_getElem? (i := 489) (by decide +kernel), List.mem_of_getElem? (i := 490) (by decide +kernel)⟩
theorem lw_p42 : lw_okq (⟨"BoundDeskModel", "sizes", "(JJ)V"⟩, 12) := ⟨⟨by decide +kernel, by decide +kernel⟩, List.mem_of_getElem? (i := 403) (by decide +kernel), List.mem_of_getElem? (i := 493) (by decide +kernel), List.mem_of_getElem? (i := 494) (by decide +kernel)⟩
theorem lw_p43 : lw_okq (⟨"BoundDeskModel", "product", "(JJJJ)V"⟩, 12) := ⟨⟨by decide +kernel, by decide +kernel⟩, List.mem_of_getElem? (i := 403) (by decide +kernel), List.mem_of_getElem? (i := 500) (by decide +kernel), List.mem_of_getElem? (i := 501) (by decide +kernel)⟩
theorem lw_p44 : lw_okq (⟨"BoundDeskModel", "fine", "()I"⟩, 12) := ⟨⟨by decide +kernel, by decide +kernel⟩, List.mem_of_getElem? (i := 403) (by decide +kernel), List.mem_of_getElem? (i := 510) (by decide +kernel), List.mem_of_getElem? (i := 511) (by decide +kernel)⟩
theorem lw_p45 : lw_okq (⟨"BoundDeskModel", "span", "(JJJ)V"⟩, 12) := ⟨⟨by decide +kernel, by decide +kernel⟩, List.mem_of_getElem? (i := 403) (by decide +kernel), List.mem_of_getElem? (i := 514) (by decide +kernel), List.mem_of_getElem? (i := 515) (by decide +kernel)⟩
theorem lw_p46 : lw_okq (⟨"BoundDeskModel", "rounded", "(JJZ)J"⟩, 12) := ⟨⟨by decide +kernel, by decide +kernel⟩, List.mem_of_getElem? (i := 403) (by decide +kernel), List.mem_of_getElem? (i := 518) (by decide +kernel), List.mem_of_getElem? (i := 519) (by decide +kernel)⟩
theorem lw_p47 : lw_okq (⟨"BoundDeskModel", "most", "()J"⟩, 12) := ⟨⟨by decide +kernel, by decide +kernel⟩, List.mem_of_getElem? (i := 403) (by decide +kernel), List.mem_of_getElem? (i := 525) (by decide +kernel), List.mem_of_getElem? (i := 526) (by decide +kernel)⟩
def lw_privs_3 : List (MethodName × Nat) := [(⟨"BoundDesk$Shape", "notBelow", "(J)J"⟩, 2), (⟨"BoundDesk$Shape", "patternOf", "(J)I"⟩, 2), (⟨"BoundDesk$Shape", "unsignedOf", "(J)I"⟩, 2), (⟨"BoundDesk$Span", "lacksAnEnd", "()Z"⟩, 2), (⟨"BoundDesk$Shape", "patternOfHalf", "(J)I"⟩, 2), (⟨"BoundDeskModel", "isPattern", "(I)Z"⟩, 12), (⟨"BoundDeskModel", "endless", "()I"⟩, 12), (⟨"BoundDeskModel", "number", "(I)J"⟩, 12), (⟨"BoundDeskModel", "raise", "(I)I"⟩, 12), (⟨"BoundDeskModel", "alone", "(II)V"⟩, 12), (⟨"BoundDeskModel", "sizes", "(JJ)V"⟩, 12), (⟨"BoundDeskModel", "product", "(JJJJ)V"⟩, 12), (⟨"BoundDeskModel", "fine", "()I"⟩, 12), (⟨"BoundDeskModel", "span", "(JJJ)V"⟩, 12), (⟨"BoundDeskModel", "rounded", "(JJZ)J"⟩, 12), (⟨"BoundDeskModel", "most", "()J"⟩, 12)]
theorem lw_r3 : ∀ q ∈ lw_privs_3, lw_okq q := List.forall_mem_cons.mpr ⟨lw_p32, List.forall_mem_cons.mpr ⟨lw_p33, List.forall_mem_cons.mpr ⟨lw_p34, List.forall_mem_cons.mpr ⟨lw_p35, List.forall_mem_cons.mpr ⟨lw_p36, List.forall_mem_cons.mpr ⟨lw_p37, List.forall_mem_cons.mpr ⟨lw_p38, List.forall_mem_cons.mpr ⟨lw_p39, List.forall_mem_cons.mpr ⟨lw_p40, List.forall_mem_cons.mpr ⟨lw_p41, List.forall_mem_cons.mpr ⟨lw_p42, List.forall_mem_cons.mpr ⟨lw_p43, List.forall_mem_cons.mpr ⟨lw_p44, List.forall_mem_cons.mpr ⟨lw_p45, List.forall_mem_cons.mpr ⟨lw_p46, List.forall_mem_cons.mpr ⟨lw_p47, fun _ h => absurd h List.not_mem_nil⟩⟩⟩⟩⟩⟩⟩⟩⟩⟩⟩⟩⟩⟩⟩⟩
theorem lw_p48 : lw_okq (⟨"BoundDeskModel", "roots", "(JJ)V"⟩, 12) := ⟨⟨by decide +kernel, by decide +kernel⟩, List.mem_of_getElem? (i := 403) (by decide +kernel), List.mem_of_getElem? (i := 530) (by decide +kernel), List.mem_of_getElem? (i := 531) (by decide +kernel)⟩
theorem lw_p49 : lw_okq (⟨"BoundDeskModel", "divide", "(II)V"⟩, 12) := ⟨⟨by decide +kernel, by decide +kernel⟩, List.mem_of_getElem? (i := 403) (by decide +kernel), List.mem_of_getElem? (i := 537) (by decide +kernel), List.mem_of_getElem? (i := 538) (by decide +kernel)⟩
theorem lw_p50 : lw_okq (⟨"BoundDeskModel", "ratio", "(JJJJ)V"⟩, 12) := ⟨⟨by decide +kernel, by decide +kernel⟩, List.mem_of_getElem? (i := 403) (by decide +kernel), List.mem_of_getElem? (i := 541) (by decide +kernel), List.mem_of_getElem? (i := 542) (by decide +kernel)⟩
theorem lw_p51 : lw_okq (⟨"BoundDeskModel", "quotient", "(JJZ)J"⟩, 12) := ⟨⟨by decide +kernel, by decide +kernel⟩, List.mem_of_getElem? (i := 403) (by decide +kernel), List.mem_of_getElem? (i := 545) (by decide +kernel), List.mem_of_getElem? (i := 546) (by decide +kernel)⟩
theorem lw_p52 : lw_okq (⟨"BoundDeskModel", "two", "(III)V"⟩, 12) := ⟨⟨by decide +kernel, by decide +kernel⟩, List.mem_of_getElem? (i := 403) (by decide +kernel), List.mem_of_getElem? (i := 549) (by decide +kernel), List.mem_of_getElem? (i := 550) (by decide +kernel)⟩
theorem lw_p53 : lw_okq (⟨"BoundDeskModel", "keep", "(I)I"⟩, 12) := ⟨⟨by decide +kernel, by decide +kernel⟩, List.mem_of_getElem? (i := 403) (by decide +kernel), List.mem_of_getElem? (i := 559) (by decide +kernel), List.mem_of_getElem? (i := 560) (by decide +kernel)⟩
theorem lw_p54 : lw_okq (⟨"BoundDeskModel", "pattern", "(J)I"⟩, 12) := ⟨⟨by decide +kernel, by decide +kernel⟩, List.mem_of_getElem? (i := 403) (by decide +kernel), List.mem_of_getElem? (i := 580) (by decide +kernel), List.mem_of_getElem? (i := 581) (by decide +kernel)⟩
def lw_privs_4 : List (MethodName × Nat) := [(⟨"BoundDeskModel", "roots", "(JJ)V"⟩, 12), (⟨"BoundDeskModel", "divide", "(II)V"⟩, 12), (⟨"BoundDeskModel", "ratio", "(JJJJ)V"⟩, 12), (⟨"BoundDeskModel", "quotient", "(JJZ)J"⟩, 12), (⟨"BoundDeskModel", "two", "(III)V"⟩, 12), (⟨"BoundDeskModel", "keep", "(I)I"⟩, 12), (⟨"BoundDeskModel", "pattern", "(J)I"⟩, 12)]
theorem lw_r4 : ∀ q ∈ lw_privs_4, lw_okq q := List.forall_mem_cons.mpr ⟨lw_p48, List.forall_mem_cons.mpr ⟨lw_p49, List.forall_mem_cons.mpr ⟨lw_p50, List.forall_mem_cons.mpr ⟨lw_p51, List.forall_mem_cons.mpr ⟨lw_p52, List.forall_mem_cons.mpr ⟨lw_p53, List.forall_mem_cons.mpr ⟨lw_p54, fun _ h => absurd h List.not_mem_nil⟩⟩⟩⟩⟩⟩⟩
def lw_privs : List (MethodName × Nat) := lw_privs_1 ++ (lw_privs_2 ++ (lw_privs_3 ++ (lw_privs_4)))
def lw_tbl : List Cond := k2_sels lw_privs ++ tables_1
theorem lw_privs_ok : ∀ q ∈ lw_privs, lw_okq q := by
  show ∀ q ∈ lw_privs_1 ++ (lw_privs_2 ++ (lw_privs_3 ++ (lw_privs_4))), lw_okq q
  exact List.forall_mem_append.mpr ⟨lw_r1, List.forall_mem_append.mpr ⟨lw_r2, List.forall_mem_append.mpr ⟨lw_r3, lw_r4⟩⟩⟩
end
section
def RX0 : String := "BoundDesk$Shape"
def TX0 : u_T := fun k => match k with
  | 0 => ("BoundDesk$Shape", "exponentBits", "I", false)
  | _ => ("BoundDesk$Shape", "fractionBits", "I", false)
def tyX0 : Nat → FieldType := fun k => match k with
  | 0 => .int
  | _ => .int
theorem nmX0 : ∀ a, a < 2 → ∀ b, b < 2 → a ≠ b → (TX0 a).2.1 ≠ (TX0 b).2.1 := by decide +kernel
theorem tyX0_ok : ∀ k, k < 2 → parseFieldDescriptor (TX0 k).2.2.1 = some (tyX0 k) := by decide +kernel
def RX1 : String := "BoundDesk$Span"
def TX1 : u_T := fun k => match k with
  | 0 => ("BoundDesk$Span", "least", "J", false)
  | _ => ("BoundDesk$Span", "most", "J", false)
def tyX1 : Nat → FieldType := fun k => match k with
  | 0 => .long
  | _ => .long
theorem nmX1 : ∀ a, a < 2 → ∀ b, b < 2 → a ≠ b → (TX1 a).2.1 ≠ (TX1 b).2.1 := by decide +kernel
theorem tyX1_ok : ∀ k, k < 2 → parseFieldDescriptor (TX1 k).2.2.1 = some (tyX1 k) := by decide +kernel
def RX2 : String := "BoundDesk"
def TX2 : u_T := fun k => match k with
  | 0 => ("BoundDesk", "shape", "LBoundDesk$Shape;", true)
  | 1 => ("BoundDesk", "places", "[LBoundDesk$Span;", true)
  | 2 => ("BoundDesk", "made", "LBoundDesk$Span;", true)
  | _ => ("BoundDesk", "second", "LBoundDesk$Span;", true)
def tyX2 : Nat → FieldType := fun k => match k with
  | 0 => .object "BoundDesk$Shape"
  | 1 => .array (.object "BoundDesk$Span")
  | 2 => .object "BoundDesk$Span"
  | _ => .object "BoundDesk$Span"
theorem nmX2 : ∀ a, a < 4 → ∀ b, b < 4 → a ≠ b → (TX2 a).2.1 ≠ (TX2 b).2.1 := by decide +kernel
theorem tyX2_ok : ∀ k, k < 4 → parseFieldDescriptor (TX2 k).2.2.1 = some (tyX2 k) := by decide +kernel
def RX3 : String := "BoundDeskModel"
def TX3 : u_T := fun k => match k with
  | 0 => ("BoundDeskModel", "thrown", "I", false)
  | 1 => ("BoundDeskModel", "widthE", "I", false)
  | 2 => ("BoundDeskModel", "widthM", "I", false)
  | 3 => ("BoundDeskModel", "some", "[Z", true)
  | 4 => ("BoundDeskModel", "lows", "[J", true)
  | 5 => ("BoundDeskModel", "highs", "[J", true)
  | 6 => ("BoundDeskModel", "is", "Z", false)
  | 7 => ("BoundDeskModel", "from", "J", false)
  | 8 => ("BoundDeskModel", "to", "J", false)
  | 9 => ("BoundDeskModel", "isPart", "Z", false)
  | 10 => ("BoundDeskModel", "partFrom", "J", false)
  | _ => ("BoundDeskModel", "partTo", "J", false)
def tyX3 : Nat → FieldType := fun k => match k with
  | 0 => .int
  | 1 => .int
  | 2 => .int
  | 3 => .array .boolean
  | 4 => .array .long
  | 5 => .array .long
  | 6 => .boolean
  | 7 => .long
  | 8 => .long
  | 9 => .boolean
  | 10 => .long
  | _ => .long
theorem nmX3 : ∀ a, a < 12 → ∀ b, b < 12 → a ≠ b → (TX3 a).2.1 ≠ (TX3 b).2.1 := by decide +kernel
theorem tyX3_ok : ∀ k, k < 12 → parseFieldDescriptor (TX3 k).2.2.1 = some (tyX3 k) := by decide +kernel
def RL : String := "BoundDeskLaw"
def RJM : String := "java/lang/Math"
abbrev vwCl : List vw_C := [(RX0, TX0, 2), (RX1, TX1, 2), (RX2, TX2, 4), (RX3, TX3, 12)]
abbrev cX0_init : ByteArray := prog_2_method_1_code
def yX0_init : MethodName := ⟨RX0, "<init>", "(II)V"⟩
abbrev cX0_unitBits : ByteArray := prog_2_method_2_code
def yX0_unitBits : MethodName := ⟨RX0, "unitBits", "()I"⟩
abbrev cX0_signBit : ByteArray := prog_2_method_3_code
def yX0_signBit : MethodName := ⟨RX0, "signBit", "()I"⟩
abbrev cX0_endlessPattern : ByteArray := prog_2_method_4_code
def yX0_endlessPattern : MethodName := ⟨RX0, "endlessPattern", "()I"⟩
abbrev cX0_isPattern : ByteArray := prog_2_method_5_code
def yX0_isPattern : MethodName := ⟨RX0, "isPattern", "(I)Z"⟩
abbrev cX0_numberOf : ByteArray := prog_2_method_6_code
def yX0_numberOf : MethodName := ⟨RX0, "numberOf", "(I)J"⟩
abbrev cX0_sizeOf : ByteArray := prog_2_method_7_code
def yX0_sizeOf : MethodName := ⟨RX0, "sizeOf", "(I)J"⟩
abbrev cX0_patternOf : ByteArray := prog_2_method_8_code
def yX0_patternOf : MethodName := ⟨RX0, "patternOf", "(J)I"⟩
abbrev cX0_unsignedOf : ByteArray := prog_2_method_9_code
def yX0_unsignedOf : MethodName := ⟨RX0, "unsignedOf", "(J)I"⟩
abbrev cX0_extraBits : ByteArray := prog_2_method_10_code
def yX0_extraBits : MethodName := ⟨RX0, "extraBits", "(J)I"⟩
abbrev cX0_notAbove : ByteArray := prog_2_method_11_code
def yX0_notAbove : MethodName := ⟨RX0, "notAbove", "(J)J"⟩
abbrev cX0_notBelow : ByteArray := prog_2_method_12_code
def yX0_notBelow : MethodName := ⟨RX0, "notBelow", "(J)J"⟩
abbrev cX0_sizeNotAbove : ByteArray := prog_2_method_13_code
def yX0_sizeNotAbove : MethodName := ⟨RX0, "sizeNotAbove", "(J)J"⟩
abbrev cX0_sizeNotBelow : ByteArray := prog_2_method_14_code
def yX0_sizeNotBelow : MethodName := ⟨RX0, "sizeNotBelow", "(J)J"⟩
abbrev cX0_patternOfHalf : ByteArray := prog_2_method_15_code
def yX0_patternOfHalf : MethodName := ⟨RX0, "patternOfHalf", "(J)I"⟩
abbrev cX1_init : ByteArray := prog_3_method_1_code
def yX1_init : MethodName := ⟨RX1, "<init>", "()V"⟩
abbrev cX1_become : ByteArray := prog_3_method_2_code
def yX1_become : MethodName := ⟨RX1, "become", "(JJ)V"⟩
abbrev cX1_becomeEmpty : ByteArray := prog_3_method_3_code
def yX1_becomeEmpty : MethodName := ⟨RX1, "becomeEmpty", "()V"⟩
abbrev cX1_isEmpty : ByteArray := prog_3_method_4_code
def yX1_isEmpty : MethodName := ⟨RX1, "isEmpty", "()Z"⟩
abbrev cX1_lacksAnEnd : ByteArray := prog_3_method_5_code
def yX1_lacksAnEnd : MethodName := ⟨RX1, "lacksAnEnd", "()Z"⟩
abbrev cX1_holdsAllOf : ByteArray := prog_3_method_6_code
def yX1_holdsAllOf : MethodName := ⟨RX1, "holdsAllOf", "(LBoundDesk$Span;)Z"⟩
abbrev cX1_kindNumber : ByteArray := prog_3_method_7_code
def yX1_kindNumber : MethodName := ⟨RX1, "kindNumber", "()I"⟩
abbrev cX2_init : ByteArray := prog_1_method_1_code
def yX2_init : MethodName := ⟨RX2, "<init>", "()V"⟩
abbrev cX2_format : ByteArray := prog_1_method_2_code
def yX2_format : MethodName := ⟨RX2, "format", "(II)Z"⟩
abbrev cX2_set : ByteArray := prog_1_method_3_code
def yX2_set : MethodName := ⟨RX2, "set", "(III)Z"⟩
abbrev cX2_clear : ByteArray := prog_1_method_4_code
def yX2_clear : MethodName := ⟨RX2, "clear", "(I)Z"⟩
abbrev cX2_does : ByteArray := prog_1_method_5_code
def yX2_does : MethodName := ⟨RX2, "does", "(IIII)I"⟩
abbrev cX2_part : ByteArray := prog_1_method_6_code
def yX2_part : MethodName := ⟨RX2, "part", "(III)I"⟩
abbrev cX2_sum : ByteArray := prog_1_method_7_code
def yX2_sum : MethodName := ⟨RX2, "sum", "(III)I"⟩
abbrev cX2_kind : ByteArray := prog_1_method_8_code
def yX2_kind : MethodName := ⟨RX2, "kind", "(I)I"⟩
abbrev cX2_low : ByteArray := prog_1_method_9_code
def yX2_low : MethodName := ⟨RX2, "low", "(I)I"⟩
abbrev cX2_high : ByteArray := prog_1_method_10_code
def yX2_high : MethodName := ⟨RX2, "high", "(I)I"⟩
abbrev cX2_middle : ByteArray := prog_1_method_11_code
def yX2_middle : MethodName := ⟨RX2, "middle", "(I)I"⟩
abbrev cX2_width : ByteArray := prog_1_method_12_code
def yX2_width : MethodName := ⟨RX2, "width", "(I)I"⟩
abbrev cX2_compare : ByteArray := prog_1_method_13_code
def yX2_compare : MethodName := ⟨RX2, "compare", "(II)I"⟩
abbrev cX2_has : ByteArray := prog_1_method_14_code
def yX2_has : MethodName := ⟨RX2, "has", "(II)Z"⟩
abbrev cX2_isPlace : ByteArray := prog_1_method_15_code
def yX2_isPlace : MethodName := ⟨RX2, "isPlace", "(I)Z"⟩
abbrev cX2_isFilled : ByteArray := prog_1_method_16_code
def yX2_isFilled : MethodName := ⟨RX2, "isFilled", "(I)Z"⟩
abbrev cX2_keep : ByteArray := prog_1_method_17_code
def yX2_keep : MethodName := ⟨RX2, "keep", "(LBoundDesk$Span;LBoundDesk$Span;)I"⟩
abbrev cX2_reckonTwo : ByteArray := prog_1_method_18_code
def yX2_reckonTwo : MethodName := ⟨RX2, "reckonTwo", "(ILBoundDesk$Span;LBoundDesk$Span;)V"⟩
abbrev cX2_reckonOne : ByteArray := prog_1_method_19_code
def yX2_reckonOne : MethodName := ⟨RX2, "reckonOne", "(ILBoundDesk$Span;)V"⟩
abbrev cX2_join : ByteArray := prog_1_method_20_code
def yX2_join : MethodName := ⟨RX2, "join", "(LBoundDesk$Span;LBoundDesk$Span;)V"⟩
abbrev cX2_meet : ByteArray := prog_1_method_21_code
def yX2_meet : MethodName := ⟨RX2, "meet", "(LBoundDesk$Span;LBoundDesk$Span;)V"⟩
abbrev cX2_add : ByteArray := prog_1_method_22_code
def yX2_add : MethodName := ⟨RX2, "add", "(LBoundDesk$Span;LBoundDesk$Span;)V"⟩
abbrev cX2_multiply : ByteArray := prog_1_method_23_code
def yX2_multiply : MethodName := ⟨RX2, "multiply", "(LBoundDesk$Span;LBoundDesk$Span;)V"⟩
abbrev cX2_divide : ByteArray := prog_1_method_24_code
def yX2_divide : MethodName := ⟨RX2, "divide", "(LBoundDesk$Span;LBoundDesk$Span;)V"⟩
abbrev cX2_divideByAbove : ByteArray := prog_1_method_25_code
def yX2_divideByAbove : MethodName := ⟨RX2, "divideByAbove", "(LBoundDesk$Span;JJLBoundDesk$Span;)V"⟩
abbrev cX2_leastQuotient : ByteArray := prog_1_method_26_code
def yX2_leastQuotient : MethodName := ⟨RX2, "leastQuotient", "(JJJ)J"⟩
abbrev cX2_takeSize : ByteArray := prog_1_method_27_code
def yX2_takeSize : MethodName := ⟨RX2, "takeSize", "(LBoundDesk$Span;)V"⟩
abbrev cX2_takeRoot : ByteArray := prog_1_method_28_code
def yX2_takeRoot : MethodName := ⟨RX2, "takeRoot", "(LBoundDesk$Span;)V"⟩
abbrev cX2_rootNotAbove : ByteArray := prog_1_method_29_code
def yX2_rootNotAbove : MethodName := ⟨RX2, "rootNotAbove", "(J)J"⟩
abbrev cX2_rootNotBelow : ByteArray := prog_1_method_30_code
def yX2_rootNotBelow : MethodName := ⟨RX2, "rootNotBelow", "(J)J"⟩
abbrev cX2_wholeRoot : ByteArray := prog_1_method_31_code
def yX2_wholeRoot : MethodName := ⟨RX2, "wholeRoot", "(J)J"⟩
abbrev cX2_isEndless : ByteArray := prog_1_method_32_code
def yX2_isEndless : MethodName := ⟨RX2, "isEndless", "(J)Z"⟩
abbrev cX2_plus : ByteArray := prog_1_method_33_code
def yX2_plus : MethodName := ⟨RX2, "plus", "(JJ)J"⟩
abbrev cX2_productNotAbove : ByteArray := prog_1_method_34_code
def yX2_productNotAbove : MethodName := ⟨RX2, "productNotAbove", "(JJ)J"⟩
abbrev cX2_productNotBelow : ByteArray := prog_1_method_35_code
def yX2_productNotBelow : MethodName := ⟨RX2, "productNotBelow", "(JJ)J"⟩
abbrev cX3_init : ByteArray := prog_5_method_1_code
def yX3_init : MethodName := ⟨RX3, "<init>", "()V"⟩
abbrev cX3_thrown : ByteArray := prog_5_method_2_code
def yX3_thrown : MethodName := ⟨RX3, "thrown", "()I"⟩
abbrev cX3_raise : ByteArray := prog_5_method_3_code
def yX3_raise : MethodName := ⟨RX3, "raise", "(I)I"⟩
abbrev cX3_isPlace : ByteArray := prog_5_method_4_code
def yX3_isPlace : MethodName := ⟨RX3, "isPlace", "(I)Z"⟩
abbrev cX3_format : ByteArray := prog_5_method_5_code
def yX3_format : MethodName := ⟨RX3, "format", "(II)Z"⟩
abbrev cX3_fine : ByteArray := prog_5_method_6_code
def yX3_fine : MethodName := ⟨RX3, "fine", "()I"⟩
abbrev cX3_most : ByteArray := prog_5_method_7_code
def yX3_most : MethodName := ⟨RX3, "most", "()J"⟩
abbrev cX3_endless : ByteArray := prog_5_method_8_code
def yX3_endless : MethodName := ⟨RX3, "endless", "()I"⟩
abbrev cX3_isPattern : ByteArray := prog_5_method_9_code
def yX3_isPattern : MethodName := ⟨RX3, "isPattern", "(I)Z"⟩
abbrev cX3_number : ByteArray := prog_5_method_10_code
def yX3_number : MethodName := ⟨RX3, "number", "(I)J"⟩
abbrev cX3_length : ByteArray := prog_5_method_11_code
def yX3_length : MethodName := ⟨RX3, "length", "(J)I"⟩
abbrev cX3_pattern : ByteArray := prog_5_method_12_code
def yX3_pattern : MethodName := ⟨RX3, "pattern", "(J)I"⟩
abbrev cX3_rounded : ByteArray := prog_5_method_13_code
def yX3_rounded : MethodName := ⟨RX3, "rounded", "(JJZ)J"⟩
abbrev cX3_set : ByteArray := prog_5_method_14_code
def yX3_set : MethodName := ⟨RX3, "set", "(III)Z"⟩
abbrev cX3_clear : ByteArray := prog_5_method_15_code
def yX3_clear : MethodName := ⟨RX3, "clear", "(I)Z"⟩
abbrev cX3_keep : ByteArray := prog_5_method_16_code
def yX3_keep : MethodName := ⟨RX3, "keep", "(I)I"⟩
abbrev cX3_isEnd : ByteArray := prog_5_method_17_code
def yX3_isEnd : MethodName := ⟨RX3, "isEnd", "(J)Z"⟩
abbrev cX3_span : ByteArray := prog_5_method_18_code
def yX3_span : MethodName := ⟨RX3, "span", "(JJJ)V"⟩
abbrev cX3_plus : ByteArray := prog_5_method_19_code
def yX3_plus : MethodName := ⟨RX3, "plus", "(JJJ)J"⟩
abbrev cX3_times : ByteArray := prog_5_method_20_code
def yX3_times : MethodName := ⟨RX3, "times", "(JJ)J"⟩
abbrev cX3_product : ByteArray := prog_5_method_21_code
def yX3_product : MethodName := ⟨RX3, "product", "(JJJJ)V"⟩
abbrev cX3_ratio : ByteArray := prog_5_method_22_code
def yX3_ratio : MethodName := ⟨RX3, "ratio", "(JJJJ)V"⟩
abbrev cX3_quotient : ByteArray := prog_5_method_23_code
def yX3_quotient : MethodName := ⟨RX3, "quotient", "(JJZ)J"⟩
abbrev cX3_divide : ByteArray := prog_5_method_24_code
def yX3_divide : MethodName := ⟨RX3, "divide", "(II)V"⟩
abbrev cX3_less : ByteArray := prog_5_method_25_code
def yX3_less : MethodName := ⟨RX3, "less", "(JJ)J"⟩
abbrev cX3_more : ByteArray := prog_5_method_26_code
def yX3_more : MethodName := ⟨RX3, "more", "(JJ)J"⟩
abbrev cX3_root : ByteArray := prog_5_method_27_code
def yX3_root : MethodName := ⟨RX3, "root", "(J)J"⟩
abbrev cX3_roots : ByteArray := prog_5_method_28_code
def yX3_roots : MethodName := ⟨RX3, "roots", "(JJ)V"⟩
abbrev cX3_sizes : ByteArray := prog_5_method_29_code
def yX3_sizes : MethodName := ⟨RX3, "sizes", "(JJ)V"⟩
abbrev cX3_two : ByteArray := prog_5_method_30_code
def yX3_two : MethodName := ⟨RX3, "two", "(III)V"⟩
abbrev cX3_alone : ByteArray := prog_5_method_31_code
def yX3_alone : MethodName := ⟨RX3, "alone", "(II)V"⟩
abbrev cX3_does : ByteArray := prog_5_method_32_code
def yX3_does : MethodName := ⟨RX3, "does", "(IIII)I"⟩
abbrev cX3_part : ByteArray := prog_5_method_33_code
def yX3_part : MethodName := ⟨RX3, "part", "(III)I"⟩
abbrev cX3_sum : ByteArray := prog_5_method_34_code
def yX3_sum : MethodName := ⟨RX3, "sum", "(III)I"⟩
abbrev cX3_kind : ByteArray := prog_5_method_35_code
def yX3_kind : MethodName := ⟨RX3, "kind", "(I)I"⟩
abbrev cX3_low : ByteArray := prog_5_method_36_code
def yX3_low : MethodName := ⟨RX3, "low", "(I)I"⟩
abbrev cX3_high : ByteArray := prog_5_method_37_code
def yX3_high : MethodName := ⟨RX3, "high", "(I)I"⟩
abbrev cX3_middle : ByteArray := prog_5_method_38_code
def yX3_middle : MethodName := ⟨RX3, "middle", "(I)I"⟩
abbrev cX3_width : ByteArray := prog_5_method_39_code
def yX3_width : MethodName := ⟨RX3, "width", "(I)I"⟩
abbrev cX3_compare : ByteArray := prog_5_method_40_code
def yX3_compare : MethodName := ⟨RX3, "compare", "(II)I"⟩
abbrev cX3_has : ByteArray := prog_5_method_41_code
def yX3_has : MethodName := ⟨RX3, "has", "(II)Z"⟩
abbrev cL_does : ByteArray := method_3_code
def yL_does : MethodName := ⟨RL, "does", "(LBoundDesk;IIII[J)I"⟩
abbrev cL_part : ByteArray := method_4_code
def yL_part : MethodName := ⟨RL, "part", "(LBoundDesk;III[J)I"⟩
abbrev cL_sum : ByteArray := method_5_code
def yL_sum : MethodName := ⟨RL, "sum", "(LBoundDesk;III[J)I"⟩
abbrev cL_low : ByteArray := method_6_code
def yL_low : MethodName := ⟨RL, "low", "(LBoundDesk;I[J)I"⟩
abbrev cL_high : ByteArray := method_7_code
def yL_high : MethodName := ⟨RL, "high", "(LBoundDesk;I[J)I"⟩
abbrev cL_middle : ByteArray := method_8_code
def yL_middle : MethodName := ⟨RL, "middle", "(LBoundDesk;I[J)I"⟩
abbrev cL_width : ByteArray := method_9_code
def yL_width : MethodName := ⟨RL, "width", "(LBoundDesk;I[J)I"⟩
abbrev cL_law : ByteArray := code
def yL_law : MethodName := ⟨RL, "law", "([I)Z"⟩
abbrev cJM_floorDiv : ByteArray := prog_8_method_49_code
def yJM_floorDiv : MethodName := ⟨RJM, "floorDiv", "(JJ)J"⟩
end
section
-- MY OWN ROWS OVER THE KIT: one global list of words, worlds as lists, contracts that say the answer and the new world
def kp_nest : Cond → Bool
  | .fieldLinkNest _ _ _ _ _ _ => true
  | .methodLinkNest _ _ _ _ => true
  | .stringRef _ _ _ => true
  | .castable _ _ => true
  | .declares _ => true
  | .arrayOver (.object _) => true
  | _ => false
theorem kp_str {o t : String} {k : Nat} {A A' : Array Value} {u U : State} (hv : U.vm = u.vm) (h : (Cond.stringRef o k t).before A u = true) : (Cond.stringRef o k t).before A' U = true := by
  simp only [Cond.before, Cond.holds, Cond.value, State.names, State.poolOf?, State.resolvedAt?, hv] at h ⊢
  exact h
def kp_w (w : Cond) : Bool := goodWord w || kp_nest w
theorem kp_at {args a' : Array Value} {s U : State} (hW : s.WarmedH U.vm) {w : Cond} (hk : kp_w w = true) (h : w.before args s = true) : w.before a' U = true := by
  by_cases g : goodWord w = true
  · exact word_at hW (good_of_word g) h
  · have hn : kp_nest w = true := by
      unfold kp_w at hk
      rw [Bool.or_eq_true] at hk
      exact hk.resolve_left g
    unfold kp_nest at hn
    split at hn
    · exact va_Nw.use rfl (va_Nw.warmF hW (va_Nw.of rfl h))
    · exact va_Nw.use rfl (va_Nw.warmM hW (va_Nw.of rfl h))
    · exact kp_str (u := s.setVm U.vm) rfl (Cond.stringRef_warmed (args := args) hW h)
    · exact va_Nw.use rfl (va_Nw.warmC hW (va_Nw.of rfl h))
    · exact va_Nw.use rfl (va_Nw.warmD hW (va_Nw.of rfl h))
    · exact va_AO.use (va_AO.moved hW.alike (va_AO.of h))
    · exact absurd hn (by decide)
/-- every lasting word of the tables holds here -/
def kp_E (U : State) : Prop := ∀ w ∈ lw_tbl, kp_w w = true → w.before #[] U = true
theorem kp_E.warm {s U : State} (h : kp_E s) (hW : s.WarmedH U.vm) : kp_E U := fun w hw hk => kp_at hW hk (h w hw hk)
theorem kp_E.use {s : State} {args : Array Value} (h : kp_E s) : ∀ w ∈ lw_tbl, kp_w w = true → w.before args s = true := fun w hw hk => kp_at (State.WarmedH.refl s) hk (h w hw hk)
theorem kp_E.of {s : State} {args : Array Value} (h : ∀ w ∈ lw_tbl, w.before args s = true) : kp_E s := fun w hw hk => kp_at (State.WarmedH.refl s) hk (h w hw)
/-- the start of a contract: words, classes, the cells ws, nothing of ours below sz -/
def kp_P (D : va_G) (ty : List (ClassId × FieldType)) (sz : Nat) (ws : va_W) (U : State) : Prop := kp_E U ∧ va_K D vwCl ty U ∧ va_P D vwCl ws U.heap ∧ sz ≤ U.heap.size
theorem kp_P.blind {D : va_G} {ty : List (ClassId × FieldType)} {sz : Nat} {ws : va_W} {av : List Value} : FrameBlind (va_Pc av (kp_P D ty sz ws)) := by
  intro a U g mk h
  obtain ⟨h0, h1, h2, h3, h4⟩ := h
  exact ⟨h0, h1.warm (U := U.calling g mk a) (State.WarmedH.refl U), va_K.moved (u := U) (U := U.calling g mk a) (Vm.Alike.refl U.vm) h2, h3, h4⟩
theorem kp_P.at {D : va_G} {ty : List (ClassId × FieldType)} {sz : Nat} {ws : va_W} {s : State} {H : Heap} (hE : kp_E s) (hK : va_K D vwCl ty s) (hP : va_P D vwCl ws H) (hz : sz ≤ H.size) {av : List Value} : ∀ U : State, U.heap = H → s.WarmedH U.vm → va_Pc av (kp_P D ty sz ws) av.toArray U :=
  fun U hU hW => ⟨rfl, hE.warm hW, va_K.moved hW.alike hK, by rw [hU]; exact hP, by rw [hU]; exact hz⟩
abbrev kp_A (sz : Nat) : Nat → Prop := fun q => sz ≤ q
/-- the end of a contract: the answer r, the cells ws' -/
def kp_Q (D : va_G) (sz : Nat) (r : Option Value) (ws' : va_W) : Array Value → State → Outcome → State → Prop := fun _ st oc t => oc = .returned r ∧ va_P D vwCl ws' t.heap ∧ va_F (kp_A sz) st t
/-- A CONTRACT: with the arguments av and the cells ws the method y answers r and leaves the cells ws'; nothing below sz is written; mc cells of ms slots are made -/
def kp_M (l : Launch) (y : MethodName) (cc : ByteArray) (nL : Nat) (ret : Option FieldType) (rm : Room) (D : va_G) (ty : List (ClassId × FieldType)) (sz : Nat) (av : List Value) (ws : va_W) (r : Option Value) (ws' : va_W) : Prop :=
  Met l y [Cond.code y cc nL ret] rm (va_Pc av (kp_P D ty sz ws)) (kp_Q D sz r ws') rm.cells rm.slots (kp_A sz)
/-- A CONTRACT OF A READER: it answers r, and the heap is as it was -/
def kp_QR (r : Option Value) : Array Value → State → Outcome → State → Prop := fun _ st oc t => oc = .returned r ∧ t.heap = st.heap
def kp_R (l : Launch) (y : MethodName) (cc : ByteArray) (nL : Nat) (ret : Option FieldType) (rm : Room) (D : va_G) (ty : List (ClassId × FieldType)) (sz : Nat) (av : List Value) (ws : va_W) (r : Option Value) : Prop :=
  Met l y [Cond.code y cc nL ret] rm (va_Pc av (kp_P D ty sz ws)) (kp_QR r) 0 0 (fun _ => False)
/-- what a body knows of itself -/
def kp_B (p : Program) (l : Launch) (s : State) (m : MethodId) (args : Array Value) (meth : Method) (c : Code) (own : String) (cc : ByteArray) (nL : Nat) (ret : Option FieldType) (D : va_G) (ty : List (ClassId × FieldType)) (sz : Nat) : Prop :=
  p.tables.exec = Jvm.exec ∧ c.code = cc ∧ c.maxLocals = nL ∧ s.vm.findClass own = some m.cls ∧ meth.locks = false ∧ meth.sig.returnType = ret ∧ (∀ w ∈ lw_tbl, kp_w w = true → w.before args s = true) ∧ kp_E s ∧ va_K D vwCl ty s ∧ sz ≤ s.heap.size
theorem kp_body {l : Launch} {y : MethodName} {cc : ByteArray} {nL : Nat} {ret : Option FieldType} {rm : Room} {D : va_G} {ty : List (ClassId × FieldType)} {sz : Nat} {av : List Value} {ws : va_W} {r : Option Value} {ws' : va_W}
    (hy : plainName y.cls = true) (hn : (lg_sl av).length ≤ nL) {lv : List (Nat × Value)} (hlv : lv_args 0 av = lv)
    (body : ∀ (p : Program) (e : Env) (s : State) (m : MethodId) (args : Array Value) (below : List Frame) (meth : Method) (c : Code) (ls : Array Slot), kp_B p l s m args meth c y.cls cc nL ret D ty sz → (y.name = "<init>" → meth.name = "<init>") → lv_has ls nL lv → va_P D vwCl ws s.heap → va_S (kp_A sz) s.heap s.heap [] →
      W p l e rm s m args below meth c s.heap [] 0 0 (MQ below (kp_Q D sz r ws') args s rm.cells rm.slots (kp_A sz)) (F0 m 0 ls [])) :
    kp_M l y cc nL ret rm D ty sz av ws r ws' := by
  refine Met.ofW (cc := cc) (maxL := nL) (ret := ret) hy rfl ?_
  intro p e s m args below meth c s₁ B hml hv
  obtain ⟨rfl, hE, hK, hP, hz⟩ := hv
  have hl := lv_entry av (n := nL) hn
  rw [lg_entry_eq]
  generalize (lg_sl av ++ List.replicate (nL - (lg_sl av).length) Slot.unset).toArray = ls at hl ⊢
  rw [hlv] at hl
  exact body p e s m av.toArray below meth c ls ⟨B.exec, B.bytes, hml, findClass_of_methodNamed B.named, B.notSynchronized, B.returns, hE.use, hE, hK, hz⟩ (fun h => (name_of_methodNamed B.named B.method).1.trans h) hl hP va_S.rf
def z_min (x y : Int64) : Int64 := if y < x then y else x
def z_max (x y : Int64) : Int64 := if y < x then x else y
theorem kp_bodyR {l : Launch} {y : MethodName} {cc : ByteArray} {nL : Nat} {ret : Option FieldType} {rm : Room} {D : va_G} {ty : List (ClassId × FieldType)} {sz : Nat} {av : List Value} {ws : va_W} {r : Option Value}
    (hy : plainName y.cls = true) (hn : (lg_sl av).length ≤ nL) {lv : List (Nat × Value)} (hlv : lv_args 0 av = lv)
    (body : ∀ (p : Program) (e : Env) (s : State) (m : MethodId) (args : Array Value) (below : List Frame) (meth : Method) (c : Code) (ls : Array Slot), kp_B p l s m args meth c y.cls cc nL ret D ty sz → lv_has ls nL lv → va_P D vwCl ws s.heap → va_S (kp_A sz) s.heap s.heap [] →
      W p l e rm s m args below meth c s.heap [] 0 0 (MQ below (kp_QR r) args s 0 0 (fun _ => False)) (F0 m 0 ls [])) :
    kp_R l y cc nL ret rm D ty sz av ws r := by
  refine Met.ofW (cc := cc) (maxL := nL) (ret := ret) hy rfl ?_
  intro p e s m args below meth c s₁ B hml hv
  obtain ⟨rfl, hE, hK, hP, hz⟩ := hv
  have hl := lv_entry av (n := nL) hn
  rw [lg_entry_eq]
  generalize (lg_sl av ++ List.replicate (nL - (lg_sl av).length) Slot.unset).toArray = ls at hl ⊢
  rw [hlv] at hl
  exact body p e s m av.toArray below meth c ls ⟨B.exec, B.bytes, hml, findClass_of_methodNamed B.named, B.notSynchronized, B.returns, hE.use, hE, hK, hz⟩ hl hP va_S.rf
theorem kp_bodyRF {l : Launch} {y : MethodName} {cc : ByteArray} {nL : Nat} {ret : Option FieldType} {rm : Room} {D : va_G} {ty : List (ClassId × FieldType)} {sz : Nat} {av : List Value} {ws : va_W} {r : Option Value}
    (hy : plainFor y = true) (hn : (lg_sl av).length ≤ nL) {lv : List (Nat × Value)} (hlv : lv_args 0 av = lv)
    (body : ∀ (p : Program) (e : Env) (s : State) (m : MethodId) (args : Array Value) (below : List Frame) (meth : Method) (c : Code) (ls : Array Slot), kp_B p l s m args meth c y.cls cc nL ret D ty sz → lv_has ls nL lv → va_P D vwCl ws s.heap → va_S (kp_A sz) s.heap s.heap [] →
      W p l e rm s m args below meth c s.heap [] 0 0 (MQ below (kp_QR r) args s 0 0 (fun _ => False)) (F0 m 0 ls [])) :
    kp_R l y cc nL ret rm D ty sz av ws r := by
  refine va_MetF (cc := cc) (maxL := nL) (ret := ret) hy rfl ?_
  intro p e s m args below meth c s₁ B hml hv
  obtain ⟨rfl, hE, hK, hP, hz⟩ := hv
  have hl := lv_entry av (n := nL) hn
  rw [lg_entry_eq]
  generalize (lg_sl av ++ List.replicate (nL - (lg_sl av).length) Slot.unset).toArray = ls at hl ⊢
  rw [hlv] at hl
  exact body p e s m av.toArray below meth c ls ⟨B.exec, B.bytes, hml, findClass_of_methodNamed B.named, B.notSynchronized, B.returns, hE.use, hE, hK, hz⟩ hl hP va_S.rf
section KPR
variable {p : Program} {l : Launch} {e : Env} {R : Room} {s : State} {m : MethodId} {args : Array Value} {below : List Frame} {meth : Method} {c : Code} {H : Heap} {locs : List Loc} {cells slots : Nat} {Q : State → Prop}
variable {own : String} {cc : ByteArray} {nL : Nat} {ret : Option FieldType} {D : va_G} {ty : List (ClassId × FieldType)} {sz pc : Nat} {ls : Array Slot} {rest : List Value} {ws ws' : va_W} {r : Option Value}
theorem kp_hz (B : kp_B p l s m args meth c own cc nL ret D ty sz) (hS : va_S (kp_A sz) s.heap H locs) : sz ≤ H.size := Nat.le_trans B.2.2.2.2.2.2.2.2.2 hS.1
-- ends
theorem kp_reti {v : Int32} (B : kp_B p l s m args meth c own cc nL (some .int) D ty sz) (hP : va_P D vwCl ws' H) (hS : va_S (kp_A sz) s.heap H locs) (hv : r = some (.int v)) (hdg : decode cc pc = .ok (.ireturn, 1)) :
    W p l e R s m args below meth c H locs cells slots (MQ below (kp_Q D sz r ws') args s cells slots (kp_A sz)) (F0 m pc ls [.int v]) := by
  obtain ⟨hx, hb, hml, ho, hlk, hr, hw, hE, hK, hz⟩ := B
  exact W.iret (v := v) hx hb hr (fun t ht hW => ⟨by rw [hv], by rw [ht]; exact hP, hS.F ht⟩) hS.2.2 hdg hlk
theorem kp_retz {v : Int32} (B : kp_B p l s m args meth c own cc nL (some .boolean) D ty sz) (hP : va_P D vwCl ws' H) (hS : va_S (kp_A sz) s.heap H locs) (hv : r = some (.int v)) (h01 : v = 0 ∨ v = 1) (hdg : decode cc pc = .ok (.ireturn, 1)) :
    W p l e R s m args below meth c H locs cells slots (MQ below (kp_Q D sz r ws') args s cells slots (kp_A sz)) (F0 m pc ls [.int v]) := by
  obtain ⟨hx, hb, hml, ho, hlk, hr, hw, hE, hK, hz⟩ := B
  exact W.zret (v := v) hx hb hr (by rcases h01 with h | h <;> subst h <;> rfl) (fun t ht hW => ⟨by rw [hv], by rw [ht]; exact hP, hS.F ht⟩) hS.2.2 hdg hlk
theorem kp_retl {v : Int64} (B : kp_B p l s m args meth c own cc nL (some .long) D ty sz) (hP : va_P D vwCl ws' H) (hS : va_S (kp_A sz) s.heap H locs) (hv : r = some (.long v)) (hdg : decode cc pc = .ok (.lreturn, 1)) :
    W p l e R s m args below meth c H locs cells slots (MQ below (kp_Q D sz r ws') args s cells slots (kp_A sz)) (F0 m pc ls [.long v]) := by
  obtain ⟨hx, hb, hml, ho, hlk, hr, hw, hE, hK, hz⟩ := B
  exact W.lret (v := v) hx hb hr (fun t ht hW => ⟨by rw [hv], by rw [ht]; exact hP, hS.F ht⟩) hS.2.2 hdg hlk
theorem kp_retv (B : kp_B p l s m args meth c own cc nL none D ty sz) (hP : va_P D vwCl ws' H) (hS : va_S (kp_A sz) s.heap H locs) (hv : r = none) (hdg : decode cc pc = .ok (.return_, 1)) :
    W p l e R s m args below meth c H locs cells slots (MQ below (kp_Q D sz r ws') args s cells slots (kp_A sz)) (F0 m pc ls []) := by
  obtain ⟨hx, hb, hml, ho, hlk, hr, hw, hE, hK, hz⟩ := B
  exact W.vret hx hb hr (fun t ht hW => ⟨by rw [hv], by rw [ht]; exact hP, hS.F ht⟩) hS.2.2 hdg hlk
theorem kp_retiR {v : Int32} (B : kp_B p l s m args meth c own cc nL (some .int) D ty sz) (hv : r = some (.int v)) (hdg : decode cc pc = .ok (.ireturn, 1)) :
    W p l e R s m args below meth c s.heap [] cells slots (MQ below (kp_QR r) args s cells slots (fun _ => False)) (F0 m pc ls [.int v]) := by
  obtain ⟨hx, hb, hml, ho, hlk, hr, hw, hE, hK, hz⟩ := B
  exact W.iret (v := v) hx hb hr (fun t ht hW => ⟨by rw [hv], ht⟩) (fun _ h => nomatch h) hdg hlk
theorem kp_retzR {v : Int32} (B : kp_B p l s m args meth c own cc nL (some .boolean) D ty sz) (hv : r = some (.int v)) (h01 : v = 0 ∨ v = 1) (hdg : decode cc pc = .ok (.ireturn, 1)) :
    W p l e R s m args below meth c s.heap [] cells slots (MQ below (kp_QR r) args s cells slots (fun _ => False)) (F0 m pc ls [.int v]) := by
  obtain ⟨hx, hb, hml, ho, hlk, hr, hw, hE, hK, hz⟩ := B
  exact W.zret (v := v) hx hb hr (by rcases h01 with h | h <;> subst h <;> rfl) (fun t ht hW => ⟨by rw [hv], ht⟩) (fun _ h => nomatch h) hdg hlk
theorem kp_retlR {v : Int64} (B : kp_B p l s m args meth c own cc nL (some .long) D ty sz) (hv : r = some (.long v)) (hdg : decode cc pc = .ok (.lreturn, 1)) :
    W p l e R s m args below meth c s.heap [] cells slots (MQ below (kp_QR r) args s cells slots (fun _ => False)) (F0 m pc ls [.long v]) := by
  obtain ⟨hx, hb, hml, ho, hlk, hr, hw, hE, hK, hz⟩ := B
  exact W.lret (v := v) hx hb hr (fun t ht hW => ⟨by rw [hv], ht⟩) (fun _ h => nomatch h) hdg hlk
-- comparisons of longs: lcmp and the branch behind it
theorem kp_llt (hx : p.tables.exec = Jvm.exec) (hb : c.code = cc) {x y : Int64} {off : Int} {tgt : Nat} (d1 : decode cc pc = .ok (.lcmp, 1)) (d2 : decode cc (pc + 1) = .ok (.ifCond .lt off, 3)) (ht : ((pc + 1 : Nat) : Int) + off = (tgt : Int))
    (kt : x < y → W p l e R s m args below meth c H locs cells slots Q (F0 m tgt ls rest)) (kf : ¬ x < y → W p l e R s m args below meth c H locs cells slots Q (F0 m (pc + 4) ls rest)) : W p l e R s m args below meth c H locs cells slots Q (F0 m pc ls (.long y :: .long x :: rest)) := by
  refine W.lcmp hx hb d1 ?_
  refine lv_if_lt (tgt := tgt) hx hb d2 ht (fun h => kt ?_) (fun h => kf ?_)
  · rcases Int64.lt_or_le x y with q | q
    · exact q
    · exact absurd ((lg_cmp_ge x y).mpr q) (Int32.not_le.mpr h)
  · intro q
    exact h (Int32.not_le.mp (fun z => Int64.not_le.mpr q ((lg_cmp_ge x y).mp z)))
theorem kp_lge (hx : p.tables.exec = Jvm.exec) (hb : c.code = cc) {x y : Int64} {off : Int} {tgt : Nat} (d1 : decode cc pc = .ok (.lcmp, 1)) (d2 : decode cc (pc + 1) = .ok (.ifCond .ge off, 3)) (ht : ((pc + 1 : Nat) : Int) + off = (tgt : Int))
    (kt : y ≤ x → W p l e R s m args below meth c H locs cells slots Q (F0 m tgt ls rest)) (kf : ¬ y ≤ x → W p l e R s m args below meth c H locs cells slots Q (F0 m (pc + 4) ls rest)) : W p l e R s m args below meth c H locs cells slots Q (F0 m pc ls (.long y :: .long x :: rest)) := by
  refine W.lcmp hx hb d1 ?_
  exact lv_if_ge (tgt := tgt) hx hb d2 ht (fun h => kt ((lg_cmp_ge x y).mp h)) (fun h => kf (fun q => h ((lg_cmp_ge x y).mpr q)))
theorem kp_lle (hx : p.tables.exec = Jvm.exec) (hb : c.code = cc) {x y : Int64} {off : Int} {tgt : Nat} (d1 : decode cc pc = .ok (.lcmp, 1)) (d2 : decode cc (pc + 1) = .ok (.ifCond .le off, 3)) (ht : ((pc + 1 : Nat) : Int) + off = (tgt : Int))
    (kt : x ≤ y → W p l e R s m args below meth c H locs cells slots Q (F0 m tgt ls rest)) (kf : ¬ x ≤ y → W p l e R s m args below meth c H locs cells slots Q (F0 m (pc + 4) ls rest)) : W p l e R s m args below meth c H locs cells slots Q (F0 m pc ls (.long y :: .long x :: rest)) := by
  refine W.lcmp hx hb d1 ?_
  exact lv_if_le (tgt := tgt) hx hb d2 ht (fun h => kt ((lg_cmp_le x y).mp h)) (fun h => kf (fun q => h ((lg_cmp_le x y).mpr q)))
theorem kp_lgt (hx : p.tables.exec = Jvm.exec) (hb : c.code = cc) {x y : Int64} {off : Int} {tgt : Nat} (d1 : decode cc pc = .ok (.lcmp, 1)) (d2 : decode cc (pc + 1) = .ok (.ifCond .gt off, 3)) (ht : ((pc + 1 : Nat) : Int) + off = (tgt : Int))
    (kt : y < x → W p l e R s m args below meth c H locs cells slots Q (F0 m tgt ls rest)) (kf : ¬ y < x → W p l e R s m args below meth c H locs cells slots Q (F0 m (pc + 4) ls rest)) : W p l e R s m args below meth c H locs cells slots Q (F0 m pc ls (.long y :: .long x :: rest)) := by
  refine W.lcmp hx hb d1 ?_
  refine lv_if_gt (tgt := tgt) hx hb d2 ht (fun h => kt ?_) (fun h => kf ?_)
  · rcases Int64.lt_or_le y x with q | q
    · exact q
    · exact absurd ((lg_cmp_le x y).mpr q) (Int32.not_le.mpr h)
  · intro q
    exact h (Int32.not_le.mp (fun z => Int64.not_le.mpr q ((lg_cmp_le x y).mp z)))
theorem kp_cmp0 (x y : Int64) : lg_cmp x y = 0 ↔ x = y := by
  constructor
  · intro h
    have h1 := (lg_cmp_ge x y).mp (by rw [h]; decide)
    have h2 := (lg_cmp_le x y).mp (by rw [h]; decide)
    exact Int64.le_antisymm h2 h1
  · intro h
    subst h
    simp [lg_cmp]
theorem kp_leq (hx : p.tables.exec = Jvm.exec) (hb : c.code = cc) {x y : Int64} {off : Int} {tgt : Nat} (d1 : decode cc pc = .ok (.lcmp, 1)) (d2 : decode cc (pc + 1) = .ok (.ifCond .eq off, 3)) (ht : ((pc + 1 : Nat) : Int) + off = (tgt : Int))
    (kt : x = y → W p l e R s m args below meth c H locs cells slots Q (F0 m tgt ls rest)) (kf : ¬ x = y → W p l e R s m args below meth c H locs cells slots Q (F0 m (pc + 4) ls rest)) : W p l e R s m args below meth c H locs cells slots Q (F0 m pc ls (.long y :: .long x :: rest)) := by
  refine W.lcmp hx hb d1 ?_
  exact lv_if_eq (tgt := tgt) hx hb d2 ht (fun h => kt ((kp_cmp0 x y).mp h)) (fun h => kf (fun q => h ((kp_cmp0 x y).mpr q)))
theorem kp_lne (hx : p.tables.exec = Jvm.exec) (hb : c.code = cc) {x y : Int64} {off : Int} {tgt : Nat} (d1 : decode cc pc = .ok (.lcmp, 1)) (d2 : decode cc (pc + 1) = .ok (.ifCond .ne off, 3)) (ht : ((pc + 1 : Nat) : Int) + off = (tgt : Int))
    (kt : ¬ x = y → W p l e R s m args below meth c H locs cells slots Q (F0 m tgt ls rest)) (kf : x = y → W p l e R s m args below meth c H locs cells slots Q (F0 m (pc + 4) ls rest)) : W p l e R s m args below meth c H locs cells slots Q (F0 m pc ls (.long y :: .long x :: rest)) := by
  refine W.lcmp hx hb d1 ?_
  exact lv_if_ne (tgt := tgt) hx hb d2 ht (fun h => kt (fun q => h ((kp_cmp0 x y).mpr q))) (fun h => kf ((kp_cmp0 x y).mp h))
theorem kp_jI {a b : Int32} (h : a = b) (k : W p l e R s m args below meth c H locs cells slots Q (F0 m pc ls (.int b :: rest))) : W p l e R s m args below meth c H locs cells slots Q (F0 m pc ls (.int a :: rest)) := h ▸ k
theorem kp_jJ {a b : Int64} (h : a = b) (k : W p l e R s m args below meth c H locs cells slots Q (F0 m pc ls (.long b :: rest))) : W p l e R s m args below meth c H locs cells slots Q (F0 m pc ls (.long a :: rest)) := h ▸ k
theorem kp_jl {nL : Nat} {lv lv' : List (Nat × Value)} (h : lv_has ls nL lv) (e : lv = lv') : lv_has ls nL lv' := e ▸ h
-- calls
variable {y : MethodName} {bytes : ByteArray} {maxL index : Nat} {rt : Option FieldType} {rm : Room} {b : Addr} {As st0 : List Value} {host : String}
/-- what the tables say of a call's target -/
def kp_T (y : MethodName) (bytes : ByteArray) (maxL : Nat) (rt : Option FieldType) (n : Nat) : Prop := Cond.code y bytes maxL rt ∈ lw_tbl ∧ Cond.initialized y.cls ∈ lw_tbl ∧ (y.cls ≠ "java/lang/invoke/MethodHandle" ∧ y.cls ≠ "java/lang/invoke/VarHandle") ∧ (parseMethodDescriptor y.desc).map (fun d => d.parameters.length) = some n
theorem kp_go (hr : va_Run p l e R s m args below meth c H locs cells slots rm.cells rm.slots (F0 m pc ls st0) rest (kp_Q D sz r ws' As.toArray) (kp_A sz)) (hS : va_S (kp_A sz) s.heap H locs)
    (kk : ∀ (H1 : Heap) (locs1 : List Loc), va_P D vwCl ws' H1 → va_S (kp_A sz) s.heap H1 locs1 → W p l e R s m args below meth c H1 locs1 (cells + rm.cells) (slots + rm.slots) Q (F0 m (pc + 3) ls (r.toList ++ rest))) : W p l e R s m args below meth c H locs cells slots Q (F0 m pc ls st0) := by
  intro T hT X
  obtain ⟨v, st₀, t, T', L, h0, X', hL, e1, e2, ⟨hv, hp, hz, hk⟩, st⟩ := hr T hT X
  cases hv
  rw [h0] at hz hk
  obtain ⟨t2, a1, b1⟩ := kk T'.heap (locs ++ L) (by rw [e1]; exact hp)
    ⟨Nat.le_trans hS.1 (by rw [e1]; exact hz), fun q h1 h2 => by rw [e1, hk q (Nat.lt_of_lt_of_le h1 hS.1) h2]; exact hS.2.1 q h1 h2, fun q hq => by
      rcases List.mem_append.mp hq with h | h
      · exact hS.2.2 q h
      · exact hL q h⟩ T' rfl X'
  exact ⟨t2, st t2 a1, b1⟩
theorem kp_code1 (hw : ∀ w ∈ lw_tbl, kp_w w = true → w.before args s = true) (h : Cond.code y bytes maxL rt ∈ lw_tbl) : ∀ w ∈ [Cond.code y bytes maxL rt], ∀ (a' : Array Value) (U : State), s.WarmedH U.vm → w.before a' U = true := by
  intro w hm a' U hW
  rw [List.mem_singleton.mp hm]
  exact kp_at hW rfl (hw _ h rfl)
theorem kp_goR (hr : va_Run p l e R s m args below meth c H locs cells slots 0 0 (F0 m pc ls st0) rest (kp_QR r As.toArray) (fun _ => False))
    (kk : W p l e R s m args below meth c H locs cells slots Q (F0 m (pc + 3) ls (r.toList ++ rest))) : W p l e R s m args below meth c H locs cells slots Q (F0 m pc ls st0) := by
  intro T hT X
  obtain ⟨v, st₀, t, T', L, h0, X', hL, e1, e2, ⟨hv, hh⟩, st⟩ := hr T hT X
  cases hv
  have hn : L = [] := by
    cases L with
    | nil => rfl
    | cons a L => exact absurd (hL a List.mem_cons_self) (fun h => h)
  subst hn
  rw [List.append_nil] at X'
  obtain ⟨t2, a1, b1⟩ := kk T' (by rw [e1, hh, h0]) X'
  exact ⟨t2, st t2 a1, b1⟩
/-- a virtual call of a method of its own class -/
theorem kp_callV (B : kp_B p l s m args meth c own cc nL ret D ty sz) (hM : kp_M l y bytes maxL rt rm D ty sz (.ref b :: As) ws r ws') (hT : kp_T y bytes maxL rt As.length)
    (hl : Cond.methodLink own index y ∈ lw_tbl) (hi : Cond.instanceMethod y ∈ lw_tbl) (hs : Cond.selects y.cls y y ∈ lw_tbl) (hrc : ∃ cell : Cell, H[b]? = some cell ∧ cell.vm.isStatics = false ∧ s.vm.findClass y.cls = some cell.cls)
    (hR : rm.frames + 1 ≤ R.frames ∧ 8 + (maxL + 11) + rm.locals ≤ R.locals) {cells1 slots1 : Nat} (hc1 : cells + rm.cells = cells1) (hs1 : slots + rm.slots = slots1) (hC : cells1 ≤ R.cells ∧ slots1 ≤ R.slots) (hst : st0 = As.reverse ++ .ref b :: rest) (hrt : (rest.map fun v => v.category).sum ≤ 8) (hls : ls.size = nL)
    (hP : va_P D vwCl ws H) (hS : va_S (kp_A sz) s.heap H locs) (hdg : decode cc pc = .ok (.invokevirtual index, 3))
    {st1 : List Value} (hst1 : r.toList ++ rest = st1) (kk : ∀ (H1 : Heap) (locs1 : List Loc), va_P D vwCl ws' H1 → va_S (kp_A sz) s.heap H1 locs1 → W p l e R s m args below meth c H1 locs1 cells1 slots1 Q (F0 m (pc + 3) ls st1)) : W p l e R s m args below meth c H locs cells slots Q (F0 m pc ls st0) := by
  subst hst1; subst hc1; subst hs1
  have hz := kp_hz B hS
  obtain ⟨hx, hb, hml, ho, hlk, hr, hw, hE, hK, -⟩ := B
  obtain ⟨t1, t2, t3, t4⟩ := hT
  exact kp_go (rm := rm) (As := .ref b :: As) (va_runV (Ts := []) (C := y.cls) (bytes := bytes) (maxL := maxL) (ret := rt) (n := As.length) (As := As) (rest := rest) (b := b) ⟨hx, hb, hml, ho, fun _ h => nomatch h⟩ hM
    ⟨⟨rfl, rfl, hR.1, hR.2, kp_code1 hw t1, List.mem_singleton.mpr rfl, hw _ t1 rfl, hw _ t2 rfl, t3, fun sig h => by rw [h] at t4; exact (Option.some.inj t4).symm, hw _ hl rfl⟩, hw _ hi rfl, hw _ hs rfl⟩
    ⟨kp_P.blind, hrc, kp_P.at hE hK hP hz⟩ rfl rfl hls hst (lv_room hrt) hdg hC) hS kk
/-- a virtual call of a private method of a nest mate -/
theorem kp_callN (B : kp_B p l s m args meth c own cc nL ret D ty sz) (hM : kp_M l y bytes maxL rt rm D ty sz (.ref b :: As) ws r ws') (hT : kp_T y bytes maxL rt As.length)
    (hl : Cond.methodLinkNest own index y host ∈ lw_tbl) (hi : Cond.instanceMethod y ∈ lw_tbl) (hs : Cond.selects y.cls y y ∈ lw_tbl) (hrc : ∃ cell : Cell, H[b]? = some cell ∧ cell.vm.isStatics = false ∧ s.vm.findClass y.cls = some cell.cls)
    (hR : rm.frames + 1 ≤ R.frames ∧ 8 + (maxL + 11) + rm.locals ≤ R.locals) {cells1 slots1 : Nat} (hc1 : cells + rm.cells = cells1) (hs1 : slots + rm.slots = slots1) (hC : cells1 ≤ R.cells ∧ slots1 ≤ R.slots) (hst : st0 = As.reverse ++ .ref b :: rest) (hrt : (rest.map fun v => v.category).sum ≤ 8) (hls : ls.size = nL)
    (hP : va_P D vwCl ws H) (hS : va_S (kp_A sz) s.heap H locs) (hdg : decode cc pc = .ok (.invokevirtual index, 3))
    {st1 : List Value} (hst1 : r.toList ++ rest = st1) (kk : ∀ (H1 : Heap) (locs1 : List Loc), va_P D vwCl ws' H1 → va_S (kp_A sz) s.heap H1 locs1 → W p l e R s m args below meth c H1 locs1 cells1 slots1 Q (F0 m (pc + 3) ls st1)) : W p l e R s m args below meth c H locs cells slots Q (F0 m pc ls st0) := by
  subst hst1; subst hc1; subst hs1
  have hz := kp_hz B hS
  obtain ⟨hx, hb, hml, ho, hlk, hr, hw, hE, hK, -⟩ := B
  obtain ⟨t1, t2, t3, t4⟩ := hT
  exact kp_go (rm := rm) (As := .ref b :: As) (va_runVN (Ts := []) (C := y.cls) (bytes := bytes) (maxL := maxL) (ret := rt) (n := As.length) (As := As) (rest := rest) (b := b) (host := host) ⟨hx, hb, hml, ho, fun _ h => nomatch h⟩ hM
    ⟨⟨⟨rfl, rfl, hR.1, hR.2, kp_code1 hw t1, List.mem_singleton.mpr rfl⟩, hw _ t1 rfl, hw _ t2 rfl, t3, fun sig h => by rw [h] at t4; exact (Option.some.inj t4).symm, hw _ hl rfl⟩, hw _ hi rfl, hw _ hs rfl⟩
    ⟨kp_P.blind, hrc, kp_P.at hE hK hP hz⟩ rfl rfl hls hst (lv_room hrt) hdg hC) hS kk
/-- a static call of a method of its own class -/
theorem kp_callS (B : kp_B p l s m args meth c own cc nL ret D ty sz) (hM : kp_M l y bytes maxL rt rm D ty sz As ws r ws') (hT : kp_T y bytes maxL rt As.length)
    (hl : Cond.methodLink own index y ∈ lw_tbl) (hi : Cond.static y ∈ lw_tbl)
    (hR : rm.frames + 1 ≤ R.frames ∧ 8 + (maxL + 11) + rm.locals ≤ R.locals) {cells1 slots1 : Nat} (hc1 : cells + rm.cells = cells1) (hs1 : slots + rm.slots = slots1) (hC : cells1 ≤ R.cells ∧ slots1 ≤ R.slots) (hst : st0 = As.reverse ++ rest) (hrt : (rest.map fun v => v.category).sum ≤ 8) (hls : ls.size = nL)
    (hP : va_P D vwCl ws H) (hS : va_S (kp_A sz) s.heap H locs) (hdg : decode cc pc = .ok (.invokestatic index, 3))
    {st1 : List Value} (hst1 : r.toList ++ rest = st1) (kk : ∀ (H1 : Heap) (locs1 : List Loc), va_P D vwCl ws' H1 → va_S (kp_A sz) s.heap H1 locs1 → W p l e R s m args below meth c H1 locs1 cells1 slots1 Q (F0 m (pc + 3) ls st1)) : W p l e R s m args below meth c H locs cells slots Q (F0 m pc ls st0) := by
  subst hst1; subst hc1; subst hs1
  have hz := kp_hz B hS
  obtain ⟨hx, hb, hml, ho, hlk, hr, hw, hE, hK, -⟩ := B
  obtain ⟨t1, t2, t3, t4⟩ := hT
  exact kp_go (rm := rm) (As := As) (va_runS (Ts := []) (bytes := bytes) (maxL := maxL) (ret := rt) (n := As.length) (As := As) (rest := rest) ⟨hx, hb, hml, ho, fun _ h => nomatch h⟩ hM
    ⟨⟨rfl, rfl, hR.1, hR.2, kp_code1 hw t1, List.mem_singleton.mpr rfl, hw _ t1 rfl, hw _ t2 rfl, t3, fun sig h => by rw [h] at t4; exact (Option.some.inj t4).symm, hw _ hl rfl⟩, hw _ hi rfl⟩
    ⟨kp_P.blind, kp_P.at hE hK hP hz⟩ rfl rfl hls hst (lv_room hrt) hdg hC) hS kk
/-- of a reader: a virtual call of a method of its own class -/
theorem kp_callVR (B : kp_B p l s m args meth c own cc nL ret D ty sz) (hM : kp_R l y bytes maxL rt rm D ty sz (.ref b :: As) ws r) (hT : kp_T y bytes maxL rt As.length)
    (hl : Cond.methodLink own index y ∈ lw_tbl) (hi : Cond.instanceMethod y ∈ lw_tbl) (hs : Cond.selects y.cls y y ∈ lw_tbl) (hrc : ∃ cell : Cell, H[b]? = some cell ∧ cell.vm.isStatics = false ∧ s.vm.findClass y.cls = some cell.cls)
    (hR : rm.frames + 1 ≤ R.frames ∧ 8 + (maxL + 11) + rm.locals ≤ R.locals) (h0 : rm.cells = 0 ∧ rm.slots = 0) (hC : cells ≤ R.cells ∧ slots ≤ R.slots) (hst : st0 = As.reverse ++ .ref b :: rest) (hrt : (rest.map fun v => v.category).sum ≤ 8) (hls : ls.size = nL)
    (hP : va_P D vwCl ws H) (hS : va_S (kp_A sz) s.heap H locs) (hdg : decode cc pc = .ok (.invokevirtual index, 3))
    {st1 : List Value} (hst1 : r.toList ++ rest = st1) (kk : W p l e R s m args below meth c H locs cells slots Q (F0 m (pc + 3) ls st1)) : W p l e R s m args below meth c H locs cells slots Q (F0 m pc ls st0) := by
  subst hst1
  have hz := kp_hz B hS
  obtain ⟨hx, hb, hml, ho, hlk, hr, hw, hE, hK, -⟩ := B
  obtain ⟨t1, t2, t3, t4⟩ := hT
  exact kp_goR (As := .ref b :: As) (va_runV (Ts := []) (C := y.cls) (bytes := bytes) (maxL := maxL) (ret := rt) (n := As.length) (As := As) (rest := rest) (b := b) ⟨hx, hb, hml, ho, fun _ h => nomatch h⟩ hM
    ⟨⟨h0.1, h0.2, hR.1, hR.2, kp_code1 hw t1, List.mem_singleton.mpr rfl, hw _ t1 rfl, hw _ t2 rfl, t3, fun sig h => by rw [h] at t4; exact (Option.some.inj t4).symm, hw _ hl rfl⟩, hw _ hi rfl, hw _ hs rfl⟩
    ⟨kp_P.blind, hrc, kp_P.at hE hK hP hz⟩ rfl rfl hls hst (lv_room hrt) hdg hC) kk
/-- of a reader: a virtual call of a private method of a nest mate -/
theorem kp_callNR (B : kp_B p l s m args meth c own cc nL ret D ty sz) (hM : kp_R l y bytes maxL rt rm D ty sz (.ref b :: As) ws r) (hT : kp_T y bytes maxL rt As.length)
    (hl : Cond.methodLinkNest own index y host ∈ lw_tbl) (hi : Cond.instanceMethod y ∈ lw_tbl) (hs : Cond.selects y.cls y y ∈ lw_tbl) (hrc : ∃ cell : Cell, H[b]? = some cell ∧ cell.vm.isStatics = false ∧ s.vm.findClass y.cls = some cell.cls)
    (hR : rm.frames + 1 ≤ R.frames ∧ 8 + (maxL + 11) + rm.locals ≤ R.locals) (h0 : rm.cells = 0 ∧ rm.slots = 0) (hC : cells ≤ R.cells ∧ slots ≤ R.slots) (hst : st0 = As.reverse ++ .ref b :: rest) (hrt : (rest.map fun v => v.category).sum ≤ 8) (hls : ls.size = nL)
    (hP : va_P D vwCl ws H) (hS : va_S (kp_A sz) s.heap H locs) (hdg : decode cc pc = .ok (.invokevirtual index, 3))
    {st1 : List Value} (hst1 : r.toList ++ rest = st1) (kk : W p l e R s m args below meth c H locs cells slots Q (F0 m (pc + 3) ls st1)) : W p l e R s m args below meth c H locs cells slots Q (F0 m pc ls st0) := by
  subst hst1
  have hz := kp_hz B hS
  obtain ⟨hx, hb, hml, ho, hlk, hr, hw, hE, hK, -⟩ := B
  obtain ⟨t1, t2, t3, t4⟩ := hT
  exact kp_goR (As := .ref b :: As) (va_runVN (Ts := []) (C := y.cls) (bytes := bytes) (maxL := maxL) (ret := rt) (n := As.length) (As := As) (rest := rest) (b := b) (host := host) ⟨hx, hb, hml, ho, fun _ h => nomatch h⟩ hM
    ⟨⟨⟨h0.1, h0.2, hR.1, hR.2, kp_code1 hw t1, List.mem_singleton.mpr rfl⟩, hw _ t1 rfl, hw _ t2 rfl, t3, fun sig h => by rw [h] at t4; exact (Option.some.inj t4).symm, hw _ hl rfl⟩, hw _ hi rfl, hw _ hs rfl⟩
    ⟨kp_P.blind, hrc, kp_P.at hE hK hP hz⟩ rfl rfl hls hst (lv_room hrt) hdg hC) kk
/-- of a reader: a static call of a method of its own class -/
theorem kp_callSR (B : kp_B p l s m args meth c own cc nL ret D ty sz) (hM : kp_R l y bytes maxL rt rm D ty sz As ws r) (hT : kp_T y bytes maxL rt As.length)
    (hl : Cond.methodLink own index y ∈ lw_tbl) (hi : Cond.static y ∈ lw_tbl)
    (hR : rm.frames + 1 ≤ R.frames ∧ 8 + (maxL + 11) + rm.locals ≤ R.locals) (h0 : rm.cells = 0 ∧ rm.slots = 0) (hC : cells ≤ R.cells ∧ slots ≤ R.slots) (hst : st0 = As.reverse ++ rest) (hrt : (rest.map fun v => v.category).sum ≤ 8) (hls : ls.size = nL)
    (hP : va_P D vwCl ws H) (hS : va_S (kp_A sz) s.heap H locs) (hdg : decode cc pc = .ok (.invokestatic index, 3))
    {st1 : List Value} (hst1 : r.toList ++ rest = st1) (kk : W p l e R s m args below meth c H locs cells slots Q (F0 m (pc + 3) ls st1)) : W p l e R s m args below meth c H locs cells slots Q (F0 m pc ls st0) := by
  subst hst1
  have hz := kp_hz B hS
  obtain ⟨hx, hb, hml, ho, hlk, hr, hw, hE, hK, -⟩ := B
  obtain ⟨t1, t2, t3, t4⟩ := hT
  exact kp_goR (As := As) (va_runS (Ts := []) (bytes := bytes) (maxL := maxL) (ret := rt) (n := As.length) (As := As) (rest := rest) ⟨hx, hb, hml, ho, fun _ h => nomatch h⟩ hM
    ⟨⟨h0.1, h0.2, hR.1, hR.2, kp_code1 hw t1, List.mem_singleton.mpr rfl, hw _ t1 rfl, hw _ t2 rfl, t3, fun sig h => by rw [h] at t4; exact (Option.some.inj t4).symm, hw _ hl rfl⟩, hw _ hi rfl⟩
    ⟨kp_P.blind, kp_P.at hE hK hP hz⟩ rfl rfl hls hst (lv_room hrt) hdg hC) kk
/-- a private constructor of a nest mate -/
theorem kp_callI (B : kp_B p l s m args meth c own cc nL ret D ty sz) (hM : kp_M l y bytes maxL none rm D ty sz (.ref b :: As) ws r ws') (hT : kp_T y bytes maxL none As.length) (hn : y.name = "<init>")
    (hl : Cond.methodLinkNest own index y host ∈ lw_tbl) (hi : Cond.instanceMethod y ∈ lw_tbl)
    (hR : rm.frames + 1 ≤ R.frames ∧ 8 + (maxL + 11) + rm.locals ≤ R.locals) {cells1 slots1 : Nat} (hc1 : cells + rm.cells = cells1) (hs1 : slots + rm.slots = slots1) (hC : cells1 ≤ R.cells ∧ slots1 ≤ R.slots) (hst : st0 = As.reverse ++ .ref b :: rest) (hrt : (rest.map fun v => v.category).sum ≤ 8) (hls : ls.size = nL)
    (hP : va_P D vwCl ws H) (hS : va_S (kp_A sz) s.heap H locs) (hdg : decode cc pc = .ok (.invokespecial index, 3))
    {st1 : List Value} (hst1 : r.toList ++ rest = st1) (kk : ∀ (H1 : Heap) (locs1 : List Loc), va_P D vwCl ws' H1 → va_S (kp_A sz) s.heap H1 locs1 → W p l e R s m args below meth c H1 locs1 cells1 slots1 Q (F0 m (pc + 3) ls st1)) : W p l e R s m args below meth c H locs cells slots Q (F0 m pc ls st0) := by
  subst hst1; subst hc1; subst hs1
  have hz := kp_hz B hS
  obtain ⟨hx, hb, hml, ho, hlk, hr, hw, hE, hK, -⟩ := B
  obtain ⟨t1, t2, t3, t4⟩ := hT
  exact kp_go (rm := rm) (As := .ref b :: As) (va_runIN (Ts := []) (bytes := bytes) (maxL := maxL) (n := As.length) (As := As) (rest := rest) (b := b) (host := host) ⟨hx, hb, hml, ho, fun _ h => nomatch h⟩ hM
    ⟨⟨⟨rfl, rfl, hR.1, hR.2, kp_code1 hw t1, List.mem_singleton.mpr rfl⟩, hw _ t1 rfl, hw _ t2 rfl, t3, fun sig h => by rw [h] at t4; exact (Option.some.inj t4).symm, hw _ hl rfl⟩, hn, hw _ hi rfl⟩
    ⟨kp_P.blind, kp_P.at hE hK hP hz⟩ rfl rfl hls hst (lv_room hrt) hdg hC) hS kk
/-- Math.min, Math.max of two longs -/
theorem kp_min {x y : Int64} (B : kp_B p l s m args meth c own cc nL ret D ty sz) (hls : ls.size = nL) (k1 : Cond.methodLink own index Lib.MathLoose.min_long.x ∈ lw_tbl) (k2 : Cond.static Lib.MathLoose.min_long.x ∈ lw_tbl) (k3 : Cond.initialized "java/lang/Math" ∈ lw_tbl) (k4 : Cond.code Lib.MathLoose.min_long.x Lib.MathLoose.min_long.code 4 (some .long) ∈ lw_tbl)
    (hframes : 1 ≤ R.frames) (hlocals : (rest.map fun v => v.category).sum + 15 ≤ R.locals) (hc : cells ≤ R.cells) (hs : slots ≤ R.slots) (hdg : decode cc pc = .ok (.invokestatic index, 3))
    (kk : W p l e R s m args below meth c H locs cells slots Q (F0 m (pc + 3) ls (.long (z_min x y) :: rest))) : W p l e R s m args below meth c H locs cells slots Q (F0 m pc ls (.long y :: .long x :: rest)) := by
  obtain ⟨hx, hb, hml, ho, hlk, hr, hw, hE, hK, hz⟩ := B
  exact va_mmin_long hx hb (hml.trans hls.symm) ho (hw _ k1 rfl) (hw _ k2 rfl) (hw _ k3 rfl) (hw _ k4 rfl) hframes hlocals hc hs hdg kk
theorem kp_max {x y : Int64} (B : kp_B p l s m args meth c own cc nL ret D ty sz) (hls : ls.size = nL) (k1 : Cond.methodLink own index Lib.MathLoose.max_long.x ∈ lw_tbl) (k2 : Cond.static Lib.MathLoose.max_long.x ∈ lw_tbl) (k3 : Cond.initialized "java/lang/Math" ∈ lw_tbl) (k4 : Cond.code Lib.MathLoose.max_long.x Lib.MathLoose.max_long.code 4 (some .long) ∈ lw_tbl)
    (hframes : 1 ≤ R.frames) (hlocals : (rest.map fun v => v.category).sum + 15 ≤ R.locals) (hc : cells ≤ R.cells) (hs : slots ≤ R.slots) (hdg : decode cc pc = .ok (.invokestatic index, 3))
    (kk : W p l e R s m args below meth c H locs cells slots Q (F0 m (pc + 3) ls (.long (z_max x y) :: rest))) : W p l e R s m args below meth c H locs cells slots Q (F0 m pc ls (.long y :: .long x :: rest)) := by
  obtain ⟨hx, hb, hml, ho, hlk, hr, hw, hE, hK, hz⟩ := B
  exact va_mmax_long hx hb (hml.trans hls.symm) ho (hw _ k1 rfl) (hw _ k2 rfl) (hw _ k3 rfl) (hw _ k4 rfl) hframes hlocals hc hs hdg kk
end KPR
end
section
-- METHODS THAT THROW, AND THE CATCHING OF IT (launches without stack traces)
/-- what a throw needs of the heap: Throwable's two statics -/
def kx_ws : List Cond := [.isRef (.static Bundle.tN "UNASSIGNED_STACK" Bundle.steD), .isRef (.static Bundle.tN "SUPPRESSED_SENTINEL" Bundle.listD), .laysStatic Bundle.tN "UNASSIGNED_STACK" Bundle.steD, .laysStatic Bundle.tN "SUPPRESSED_SENTINEL" Bundle.listD]
def kx_H (U : State) : Prop := ∀ (A : Array Value), ∀ w ∈ kx_ws, w.before A U = true
theorem kx_one {s U : State} {A B : Array Value} {C n d : String} (hl : (Cond.laysStatic C n d).before A s = true) (hr : (Cond.isRef (.static C n d)).before A s = true) (hvm : s.vm.Alike U.vm) (hq : ∀ q, q < s.heap.size → U.heap[q]? = s.heap[q]?) :
    (Cond.laysStatic C n d).before B U = true ∧ (Cond.isRef (.static C n d)).before B U = true := by
  obtain ⟨c, k, i, f, a, cell, h1, h2, h3, h4, h5, h6, h7, h8, h9⟩ := Cond.laysStatic_spec hl
  obtain ⟨k', hi', he⟩ := State.fieldFound?_setVm hvm h2
  have h5' : U.heap[a]? = some cell := by rw [hq a (Array.getElem?_eq_some_iff.mp h5).1]; exact h5
  have h4' : k'.statics = some a := by rw [he]; exact h4
  have h9' : k'.staticTypes[f.slot]? = some f.type := by rw [he]; exact h9
  have hi2 : U.fieldFound? C n d = some (c, k', i, f) := hi'
  refine ⟨?_, ?_⟩
  · show (Cond.laysStatic C n d).holds B U none U [] = true
    exact Cond.laysStatic_of (by rw [hvm.findClass]; exact h1) hi2 h3 h4' h5' h6 h7 h8 h9'
  · have e1 : (Term.static C n d).eval A s none [] s = cell.slots[f.slot]? := by simp [Term.eval, State.fieldNamed?, h2, h3, h4, h5, h6]
    have e2 : (Term.static C n d).eval B U none [] U = cell.slots[f.slot]? := by simp [Term.eval, State.fieldNamed?, hi2, h3, h4', h5', h6]
    simp only [Cond.before, Cond.holds, Cond.value, e1] at hr
    simp only [Cond.before, Cond.holds, Cond.value, e2]
    exact hr
theorem kx_H.of {s U : State} {A : Array Value} (h : ∀ w ∈ kx_ws, w.before A s = true) (hvm : s.vm.Alike U.vm) (hq : ∀ q, q < s.heap.size → U.heap[q]? = s.heap[q]?) : kx_H U := by
  intro B w hw
  have a1 := kx_one (B := B) (h _ (List.mem_of_getElem? (i := 2) rfl)) (h _ (List.mem_of_getElem? (i := 0) rfl)) hvm hq
  have a2 := kx_one (B := B) (h _ (List.mem_of_getElem? (i := 3) rfl)) (h _ (List.mem_of_getElem? (i := 1) rfl)) hvm hq
  simp only [kx_ws, List.mem_cons, List.not_mem_nil, or_false] at hw
  rcases hw with rfl | rfl | rfl | rfl
  · exact a1.2
  · exact a2.2
  · exact a1.1
  · exact a2.1
theorem kx_H.at {s U : State} (h : kx_H s) (hvm : s.vm.Alike U.vm) (hq : U.heap = s.heap) : kx_H U := kx_H.of (A := #[]) (h #[]) hvm (fun q _ => by rw [hq])
/-- the end of a method that may throw: f says which -/
def kx_Q (D : va_G) (sz : Nat) (f : Option Value) (ws' : va_W) (E : String) : Array Value → State → Outcome → State → Prop := fun _ st oc t =>
  (∃ v : Value, f = some v ∧ oc = .returned (some v) ∧ va_P D vwCl ws' t.heap ∧ va_F (kp_A sz) st t ∧ ∃ L, FrameEnd st oc t L 1 6 ∧ ∀ q ∈ L, kp_A sz q.base) ∨
  (∃ (q : Addr) (ce : Cell), f = none ∧ oc = .threw q ∧ t.heap[q]? = some ce ∧ ce.vm = .none ∧ st.vm.findClass E = some ce.cls ∧ st.WarmedH t.vm ∧ st.sameButNew ({ t with vm := st.vm } : State) [] 1 6)
def kx_P (D : va_G) (ty : List (ClassId × FieldType)) (sz : Nat) (ws : va_W) (U : State) : Prop := kp_P D ty sz ws U ∧ kx_H U
def kx_M (l : Launch) (y : MethodName) (cc : ByteArray) (nL : Nat) (ret : Option FieldType) (rm : Room) (D : va_G) (ty : List (ClassId × FieldType)) (sz : Nat) (av : List Value) (ws : va_W) (f : Option Value) (ws' : va_W) (E : String) : Prop :=
  MetFree l y (headSpec [Cond.code y cc nL ret] rm) (va_Pc av (kx_P D ty sz ws)) (fun _ _ _ _ _ => True) (kx_Q D sz f ws' E)
def kx_MQ (below : List Frame) (Qx : Array Value → State → Outcome → State → Prop) (args : Array Value) (s : State) : State → Prop := fun t => ∃ o, t.status = .running ∧ Ended t below o ∧ Qx args s o t
theorem kx_body {l : Launch} {y : MethodName} {cc : ByteArray} {nL : Nat} {ret : Option FieldType} {rm : Room} {D : va_G} {ty : List (ClassId × FieldType)} {sz : Nat} {av : List Value} {ws : va_W} {f : Option Value} {ws' : va_W} {E : String}
    (hy : plainName y.cls = true) (hn : (lg_sl av).length ≤ nL) {lv : List (Nat × Value)} (hlv : lv_args 0 av = lv)
    (body : ∀ (p : Program) (e : Env) (s : State) (m : MethodId) (args : Array Value) (below : List Frame) (meth : Method) (c : Code) (ls : Array Slot), kp_B p l s m args meth c y.cls cc nL ret D ty sz → (∀ x ∈ c.exceptionTable.toList, False) → kx_H s → lv_has ls nL lv → va_P D vwCl ws s.heap → va_S (kp_A sz) s.heap s.heap [] →
      W p l e rm s m args below meth c s.heap [] 0 0 (kx_MQ below (kx_Q D sz f ws' E) args s) (F0 m 0 ls [])) :
    kx_M l y cc nL ret rm D ty sz av ws f ws' E := by
  refine MetFree.of_bodyS (code := cc) (maxLocals := nL) (ret := ret) hy ?_ ?_
  · intro args s m h hn
    obtain ⟨meth, c, h1, h2, h3, h4, h5, h6, -, -⟩ := Cond.code_spec hn (atoms_spec (ws := [Cond.code y cc nL ret]) h _ List.mem_cons_self)
    exact ⟨meth, c, h1, h2, h3, h4, h5, h6⟩
  · intro p e s m args below meth c s₁ B hml hv _
    obtain ⟨rfl, ⟨hE, hK, hP, hz⟩, hH⟩ := hv
    have hh0 : s₁.heap = s.heap := by rw [B.state]; rfl
    have hexc : ∀ x ∈ c.exceptionTable.toList, False := by
      have h7 := B.noHandlers (atoms_spec (ws := [Cond.code y cc nL ret]) B.pre _ List.mem_cons_self)
      intro x hx
      rw [Array.isEmpty_iff.mp h7] at hx
      cases hx
    have hl := lv_entry av (n := nL) hn
    have K : W p l e rm s m av.toArray below meth c s.heap [] 0 0 (kx_MQ below (kx_Q D sz f ws' E) av.toArray s) (entryFrame m av.toArray nL) := by
      rw [lg_entry_eq]
      generalize (lg_sl av ++ List.replicate (nL - (lg_sl av).length) Slot.unset).toArray = ls at hl ⊢
      rw [hlv] at hl
      exact body p e s m av.toArray below meth c ls ⟨B.exec, B.bytes, hml, findClass_of_methodNamed B.named, B.notSynchronized, B.returns, hE.use, hE, hK, hz⟩ hexc hH hl hP va_S.rf
    obtain ⟨t, a1, o, b1, b2, b3⟩ := K s₁ hh0 (Stand.of_body B)
    exact ⟨t, o, a1, b1, b2, b3⟩
section KXR
variable {p : Program} {l : Launch} {e : Env} {R : Room} {s : State} {m : MethodId} {args : Array Value} {below : List Frame} {meth : Method} {c : Code} {H : Heap} {locs : List Loc} {cells slots : Nat} {Q : State → Prop}
variable {own : String} {cc : ByteArray} {nL : Nat} {ret : Option FieldType} {D : va_G} {ty : List (ClassId × FieldType)} {sz pc : Nat} {ls : Array Slot} {rest : List Value} {ws ws' : va_W} {f : Option Value} {E : String}
theorem kx_reti {v : Int32} (B : kp_B p l s m args meth c own cc nL (some .int) D ty sz) (hP : va_P D vwCl ws' H) (hS : va_S (kp_A sz) s.heap H locs) (hf : f = some (.int v)) (hdg : decode cc pc = .ok (.ireturn, 1)) :
    W p l e R s m args below meth c H locs 0 0 (kx_MQ below (kx_Q D sz f ws' E) args s) (F0 m pc ls [.int v]) := by
  obtain ⟨hx, hb, hml, ho, hlk, hr, hw, hE, hK, hz⟩ := B
  intro T hT X
  obtain ⟨t, a1, o, b1, b2, b3, L, b4, b5⟩ := W.iret (Qc := fun _ st oc t => oc = .returned (some (.int v)) ∧ va_P D vwCl ws' t.heap ∧ va_F (kp_A sz) st t) (free := kp_A sz) (v := v) hx hb hr (fun t ht hW => ⟨rfl, by rw [ht]; exact hP, hS.F ht⟩) hS.2.2 hdg hlk T hT X
  exact ⟨t, a1, o, b1, b2, Or.inl ⟨.int v, hf, b3.1, b3.2.1, b3.2.2, L, ⟨b4.1, b4.2.1, b4.2.2.mono (by omega) (by omega)⟩, b5⟩⟩
/-- throw new E("text") -/
theorem kx_throw {cls text : String} {names : List String} {ik is ic : Nat} (B : kp_B p l s m args meth c own cc nL ret D ty sz) (htr : l.stackTraces = false) (hexc : ∀ x ∈ c.exceptionTable.toList, False) (hH : kx_H s)
    (hcls : Bundle.fit cls = true) (hnames : ∀ n ∈ names, Bundle.fit n = true) (hat : ∀ w ∈ Bundle.ownAtoms own ic cls names, w ∈ kx_ws ∨ (w ∈ lw_tbl ∧ kp_w w = true))
    (k1 : Cond.classLink own ik cls ∈ lw_tbl) (k2 : Cond.initialized cls ∈ lw_tbl) (k3 : Cond.stringRef own is text ∈ lw_tbl) (hls : ls.size = nL)
    (d0 : decode cc pc = .ok (.new ik, 3)) (d3 : decode cc (pc + 3) = .ok (.dup, 1)) (d4 : decode cc (pc + 4) = .ok (.ldc is, 2)) (d6 : decode cc (pc + 6) = .ok (.invokespecial ic, 3)) (d9 : decode cc (pc + 9) = .ok (.athrow, 1))
    (hRf : names.length + 3 < R.frames) (hRl : 13 * (names.length + 1) + 43 ≤ R.locals) (hRc : 1 ≤ R.cells) (hRs : 6 ≤ R.slots) (hf : f = none) :
    W p l e R s m args below meth c s.heap [] 0 0 (kx_MQ below (kx_Q D sz f ws' cls) args s) (F0 m pc ls []) := by
  obtain ⟨hx, hb, hml, ho, hlk, hr, hw, hE, hK, hz⟩ := B
  intro T hT X
  have htr' : e.platform.stackTraces = false := (show e.platform.stackTraces = l.stackTraces by rw [X.admits.platform]).trans htr
  have h : ∀ w ∈ Bundle.ownAtoms own ic cls names, w.before args s = true := fun w hm => (hat w hm).elim (fun q => hH args w q) (fun q => hw w q.1 q.2)
  have hins : (Cond.instantiable cls 6).before args s = true := h _ (by simp [Bundle.ownAtoms])
  have hstr := hw _ k3 rfl
  obtain ⟨_, _, _, sa, -, -, -, -, -, hev⟩ := Cond.stringRef_spec ho hstr
  obtain ⟨vm₁, cX, kX, hfX, hkX, -, -, X₁, st1⟩ := X.newCold hx (own := own) (C := cls) (index := ik) (n := 6) ho (hw _ k1 rfl) hins (hw _ k2 rfl) (g := F0 m pc ls []) rfl (by rw [hb]; exact d0) (by omega) (by omega)
  generalize hT1 : (T.setVm vm₁).pushCell { cls := cX, slots := kX.instanceTypes.map defaultValue, vm := .none } = T1 at X₁ st1
  have hcat : (Value.ref T.heap.size).category = 1 := rfl
  have hcellA : T1.heap[T.heap.size]? = some (freshCell cX kX) := by rw [← hT1]; exact State.heap_pushCell_size _ _
  have d3' : decode c.code (pc + 3) = .ok (.dup, 1) := by rw [hb]; exact d3
  have d4' : decode c.code (pc + 4) = .ok (.ldc is, 2) := by rw [hb]; exact d4
  obtain ⟨U, hsteps, hrun, hend, hW, hsame, ce, hce, hO⟩ := X₁.ctorThrowS hx htr' (own := own) (cls := cls) (names := names) (ic := ic) ho hcls hnames h (fun x hx => nomatch hx) hfX hkX hcellA (by rw [hT]; exact Nat.le_refl _) (msg := .ref sa) rfl
    (g := { method := m, pc := pc + 6, locals := ls, stack := .ref sa :: .ref T.heap.size :: .ref T.heap.size :: [], locked := none }) rfl (hls.trans hml.symm) rfl rfl (rest := []) rfl
    (by rw [hb]; exact d6) (by rw [hb]; exact d9) (fun x hx => (hexc x hx).elim) hRf (by simp only [List.map_cons, List.sum_cons, List.map_nil, List.sum_nil, hcat]; omega) hlk
  refine ⟨U, ?_, .threw T.heap.size, hrun, hend, Or.inr ⟨T.heap.size, ce, hf, rfl, hce, hO.vm, hO.cls, hW, hsame.mono (by omega) (by omega)⟩⟩
  refine st1 _ ?_
  show Steps p.tables e below (T1.setTop { method := m, pc := pc + 3, locals := ls, stack := .ref T.heap.size :: [], locked := none }) _
  jvm_step X₁.here [X₁.here.top, hx, d3', Value.category]
  exact X₁.ldcString hx (own := own) (text := text) (index := is) (a := sa) ho hstr hev
    (g := { method := m, pc := pc + 4, locals := ls, stack := .ref T.heap.size :: .ref T.heap.size :: [], locked := none }) rfl d4' _ hsteps
/-- throw new NoSuchElementException("text"): its constructor's link to the one above is at another place than the others' -/
theorem kx_throwN {text : String} {ik is ic : Nat} (B : kp_B p l s m args meth c own cc nL ret D ty sz) (htr : l.stackTraces = false) (hexc : ∀ x ∈ c.exceptionTable.toList, False) (hH : kx_H s)
    (k0 : Cond.methodLink own ic (Bundle.initS "java/util/NoSuchElementException") ∈ lw_tbl)
    (k1 : Cond.classLink own ik "java/util/NoSuchElementException" ∈ lw_tbl) (k2 : Cond.initialized "java/util/NoSuchElementException" ∈ lw_tbl) (k3 : Cond.stringRef own is text ∈ lw_tbl) (hls : ls.size = nL)
    (d0 : decode cc pc = .ok (.new ik, 3)) (d3 : decode cc (pc + 3) = .ok (.dup, 1)) (d4 : decode cc (pc + 4) = .ok (.ldc is, 2)) (d6 : decode cc (pc + 6) = .ok (.invokespecial ic, 3)) (d9 : decode cc (pc + 9) = .ok (.athrow, 1))
    (hRf : 5 < R.frames) (hRl : 82 ≤ R.locals) (hRc : 1 ≤ R.cells) (hRs : 6 ≤ R.slots) (hf : f = none) :
    W p l e R s m args below meth c s.heap [] 0 0 (kx_MQ below (kx_Q D sz f ws' "java/util/NoSuchElementException") args s) (F0 m pc ls []) := by
  sorry
/-- what was there before a throw is there behind it -/
theorem kx_kept {st t : State} {k n : Nat} (h : st.sameButNew ({ t with vm := st.vm } : State) [] k n) : st.heap.size ≤ t.heap.size ∧ ∀ q : Nat, q < st.heap.size → t.heap[q]? = st.heap[q]? := by
  obtain ⟨-, h2, -, -, -, h6⟩ := h
  refine ⟨h2, fun q hq => ?_⟩
  obtain ⟨c9, e1, e2, e3, e4⟩ := h6 q _ (Array.getElem?_eq_getElem hq)
  have hs : c9.slots = (st.heap[q]).slots := Array.ext_getElem? fun i => e4 i (fun hm => nomatch hm)
  have h9 : c9 = st.heap[q] := by
    rw [hs] at e2
    exact e2
  have e5 : t.heap[q]? = some c9 := e1
  rw [e5, h9, Array.getElem?_eq_getElem hq]
/-- an exception q flies over the frame g -/
def kx_W (p : Program) (l : Launch) (e : Env) (R : Room) (s : State) (m : MethodId) (args : Array Value) (below : List Frame) (meth : Method) (c : Code) (H : Heap) (locs : List Loc) (cells slots : Nat) (Q : State → Prop) (g : JFrame) (q : Addr) : Prop :=
  ∀ T : State, T.heap = H → Stand p l e R s m args below meth c T locs cells slots → ∃ t, Steps p.tables e below ((T.setTop g).pushFrame (.throwing q)) t ∧ Q t
variable {y : MethodName} {bytes : ByteArray} {maxL index : Nat} {rt : Option FieldType} {rm : Room} {b : Addr} {As st0 : List Value}
/-- a virtual call of a method that may throw -/
theorem kx_callV (B : kp_B p l s m args meth c own cc nL ret D ty sz) (hM : kx_M l y bytes maxL rt rm D ty sz (.ref b :: As) ws f ws' E) (hT : kp_T y bytes maxL rt As.length)
    (hl : Cond.methodLink own index y ∈ lw_tbl) (hi : Cond.instanceMethod y ∈ lw_tbl) (hs : Cond.selects y.cls y y ∈ lw_tbl) (hrc : ∃ cell : Cell, H[b]? = some cell ∧ cell.vm.isStatics = false ∧ s.vm.findClass y.cls = some cell.cls)
    (hR : rm.frames + 1 ≤ R.frames ∧ 8 + (maxL + 11) + rm.locals ≤ R.locals) (h16 : rm.cells = 1 ∧ rm.slots = 6) (hC : cells + 1 ≤ R.cells ∧ slots + 6 ≤ R.slots) (hst : st0 = As.reverse ++ .ref b :: rest) (hrt : (rest.map fun v => v.category).sum ≤ 8) (hls : ls.size = nL)
    (hP : va_P D vwCl ws H) (hS : va_S (kp_A sz) s.heap H locs) (hX : ∀ U : State, U.heap = H → s.vm.Alike U.vm → kx_H U) (hdg : decode cc pc = .ok (.invokevirtual index, 3))
    (kr : ∀ (v : Value) (H1 : Heap) (locs1 : List Loc), f = some v → va_P D vwCl ws' H1 → va_S (kp_A sz) s.heap H1 locs1 → W p l e R s m args below meth c H1 locs1 (cells + 1) (slots + 6) Q (F0 m (pc + 3) ls (v :: rest)))
    (kt : ∀ (q : Addr) (ce : Cell) (H1 : Heap), f = none → H1[q]? = some ce → ce.vm = .none → s.vm.findClass E = some ce.cls → va_P D vwCl ws H1 → va_S (kp_A sz) s.heap H1 locs → kx_W p l e R s m args below meth c H1 locs (cells + 1) (slots + 6) Q (F0 m pc ls rest) q) :
    W p l e R s m args below meth c H locs cells slots Q (F0 m pc ls st0) := by
  have hz := kp_hz B hS
  obtain ⟨hx, hb, hml, ho, hlk, hr, hw, hE, hK, -⟩ := B
  obtain ⟨t1, t2, t3, t4⟩ := hT
  obtain ⟨cellB, hcB, hoB, hclB⟩ := hrc
  intro T hTH X
  subst hst
  obtain ⟨mk, methM, hnamed, hmethM, hstM, habM⟩ := Cond.instanceMethod_spec (hw _ hi rfl)
  obtain ⟨methM', cM, hmethM', hcM, -, hlM, -, -, -, hsigM⟩ := Cond.code_spec hnamed (hw _ t1 rfl)
  cases hmethM.symm.trans hmethM'
  obtain ⟨c2, r2, m2, q1, q2, q3, q4, kP, hkP, hkPi⟩ := Cond.selects_spec (hw _ hs rfl)
  cases hclB.symm.trans q1
  cases (State.methodFound?_of_named hnamed t3).symm.trans q2
  cases hnamed.symm.trans q3
  have hselP : selectMethod e.platform s.vm cellB.cls mk = .method mk := by rw [Launch.admits_selectMethod X.admits]; exact q4
  obtain ⟨vm₁, X₁, hstep₁⟩ := X.invokevirtual hx ho (hw _ hl rfl) hnamed hmethM hstM hkP hkPi t3 (a := b) (cell := cellB) (by rw [hTH]; exact hcB)
    (fun z h => by rw [h] at hoB; cases hoB) hselP hmethM habM hkP hkPi (g := F0 m pc ls (As.reverse ++ .ref b :: rest)) rfl (argsL := As) (rest := rest) (by rw [hsigM] at t4; exact (Option.some.inj t4).symm) rfl (by rw [hb]; exact hdg)
  have hn1 : (T.setVm vm₁).methodNamed? y = some mk := X₁.named hnamed
  obtain ⟨methY, cY, hmY, hcY, -, hlY, -, -, -, -⟩ := Cond.code_spec hn1 (kp_at (a' := #[]) X₁.warmed rfl (hw _ t1 rfl))
  obtain ⟨kY, hkY, -⟩ := className_of_methodNamed hn1
  have hinitY : kY.init = .initialized := Cond.initialized_spec (findClass_of_methodNamed hn1) hkY (kp_at (a' := #[]) X₁.warmed rfl (hw _ t2 rfl))
  have hg0 : (2 * (F0 m pc ls rest).monitorRoom + ((F0 m pc ls rest).stack.map fun v => v.category).sum ≤ 8) := lv_room hrt
  have happ : (headSpec [Cond.code y bytes maxL rt] rm).appliesLoose y e.platform ((T.setVm vm₁).calling (F0 m pc ls rest) mk (Value.ref b :: As).toArray) = true :=
    Spec.appliesLoose_calling (g := F0 m pc ls rest) X₁.here (by rw [hb]; exact hdg) hn1 hkY hinitY
      (X₁.room_calling (g := F0 m pc ls rest) (R' := (headSpec [Cond.code y bytes maxL rt] rm).room) (hls.trans hml.symm) hmY hcY hR.1 (by rw [hlY]; have := hR.2; show _ + rm.locals ≤ _; omega) (by show cells + rm.cells ≤ _; omega) (by show slots + rm.slots ≤ _; omega))
      (atoms_intro fun w hm => by rw [List.mem_singleton.mp hm]; exact kp_at X₁.warmed rfl (hw _ t1 rfl))
  have hPc : va_Pc (Value.ref b :: As) (kx_P D ty sz ws) (Value.ref b :: As).toArray ((T.setVm vm₁).calling (F0 m pc ls rest) mk (Value.ref b :: As).toArray) := by
    have h1 := kp_P.at (av := Value.ref b :: As) hE hK hP hz ((T.setVm vm₁).calling (F0 m pc ls rest) mk (Value.ref b :: As).toArray) hTH X₁.warmed
    exact ⟨rfl, h1.2, hX _ hTH X₁.warmed.alike⟩
  obtain ⟨mid, hmid⟩ := X₁.here.above
  have hfr : ((T.setVm vm₁).setTop (F0 m pc ls rest)).frames = (.java (F0 m pc ls rest) :: mid) ++ below := by rw [State.frames_setTop' _ X₁.here.top, hmid]; rfl
  obtain ⟨o, s₂, hsteps, -, hend, hq⟩ := Steps.callFree hM p X.admits X.cas X.clock (acts := []) hfr happ hPc trivial
  rw [State.frames_setTop' _ X₁.here.top, X₁.tail] at hend
  have hst0 : (((T.setVm vm₁).setTop (F0 m pc ls rest)).pushFrame (.invoking mk (Value.ref b :: As).toArray)).heap = H := hTH
  rcases hq with ⟨v, hfv, rfl, hp, hF, L, hFE, hL⟩ | ⟨q, ce, hfn, rfl, hce, hcv, hcl, hW2, hsm⟩
  · obtain ⟨T', X', hW', hsame', ht⟩ := X₁.outOf (g := F0 m pc ls rest) rfl (by rw [hb]; exact hdg) hend hFE.2.1 hFE.2.2
    have hheap : T'.heap = s₂.heap := by rw [ht]; rfl
    obtain ⟨hz1, hk1⟩ := hF
    rw [hst0] at hz1 hk1
    obtain ⟨t9, a1, b1⟩ := kr v T'.heap (locs ++ L) hfv (by rw [hheap]; exact hp)
      ⟨Nat.le_trans hS.1 (by rw [hheap]; exact hz1), fun q h1 h2 => by rw [hheap, hk1 q (Nat.lt_of_lt_of_le h1 hS.1) h2]; exact hS.2.1 q h1 h2, fun q hq => by
        rcases List.mem_append.mp hq with h | h
        · exact hS.2.2 q h
        · exact hL q h⟩ T' rfl X'
    refine ⟨t9, hstep₁ _ fun acts => ?_, b1⟩
    rw [doInvoke_state]
    refine hsteps.trans ?_
    rw [ht]
    exact a1
  · obtain ⟨T', X', hW', hsame', ht⟩ := X₁.outOfThrown (g := F0 m pc ls rest) rfl hend hW2 hsm
    have hheap : T'.heap = s₂.heap := by rw [ht]; exact (Stand.throwing_heap T' _ q).symm
    obtain ⟨hz1, hk1⟩ := kx_kept hsm
    rw [hst0] at hz1 hk1
    rw [List.append_nil] at X'
    obtain ⟨t9, a1, b1⟩ := kt q ce T'.heap hfn (by rw [hheap]; exact hce) hcv (by rw [← X₁.warmed.alike.findClass]; exact hcl) (hP.kept (fun k z hk => by rw [hheap]; exact hk1 z.1 (hP k z hk).lt))
      ⟨Nat.le_trans hS.1 (by rw [hheap]; exact hz1), fun q h1 h2 => by rw [hheap, hk1 q (Nat.lt_of_lt_of_le h1 hS.1)]; exact hS.2.1 q h1 h2, hS.2.2⟩ T' rfl X'
    refine ⟨t9, hstep₁ _ fun acts => ?_, b1⟩
    rw [doInvoke_state]
    refine hsteps.trans ?_
    rw [ht]
    exact a1
/-- caught by the one row of this method's table -/
theorem kx_catch {x : ExceptionTableEntry} {q : Addr} {ce : Cell} (B : kp_B p l s m args meth c own cc nL ret D ty sz) (htab : c.exceptionTable.toList = [x]) (hcov : covers x pc = true) (h0 : x.catchType ≠ 0)
    (hl : Cond.classLink own x.catchType E ∈ lw_tbl) (hca : Cond.castable E E ∈ lw_tbl) (hcell : H[q]? = some ce) (hv : ce.vm = .none) (hcl : s.vm.findClass E = some ce.cls)
    (kk : W p l e R s m args below meth c H locs cells slots Q (F0 m x.handlerPc ls [.ref q])) : kx_W p l e R s m args below meth c H locs cells slots Q (F0 m pc ls rest) q := by
  obtain ⟨hx, hb, hml, ho, hlk, hr, hw, hE, hK, hz⟩ := B
  intro T hT X
  have hpl : e.platform.magicAccessors = ({} : Platform).magicAccessors := by rw [X.admits.platform]
  obtain ⟨c3, c4, hc3, hc4, hasg⟩ := Cond.castable_spec (hw _ hca rfl)
  cases Option.some.inj (hc3.symm.trans hcl)
  cases Option.some.inj (hc4.symm.trans hcl)
  obtain ⟨c5, hc5, hcl5⟩ := Cond.classLink_spec ho (hw _ hl rfl) e.platform hpl
  cases Option.some.inj (hc5.symm.trans hcl)
  obtain ⟨dk, _, _, kt, hd, _, _, _, _, hkt, _, hopen⟩ := hcl5.here
  have hW' : s.WarmedH (T.vm.noted m.cls x.catchType (.cls ce.cls)) := X.warmed.noted hd hopen (State.rightAt_cls hcl5)
  have X' := X.noted hW'
  obtain ⟨t, a1, b1⟩ := kk (T.setVm (T.vm.noted m.cls x.catchType (.cls ce.cls))) hT X'
  refine ⟨t, ?_, b1⟩
  have hL : T.vm.ClassLinks e.platform m.cls x.catchType ce.cls := X.warmed.classLinks hcl5
  obtain ⟨ha, ht⟩ := (resolveClass_links e.toSetting hL).op (op := VmOp.resolveClass m.cls x.catchType) rfl
  obtain ⟨kt', hkt', -⟩ := hW'.alike.2.2 _ _ hkt
  have hfit : (T.vm.noted m.cls x.catchType (.cls ce.cls)).assignable ce.cls ce.cls = true := by rw [hW'.alike.assignable]; exact hasg
  have hcov' := hcov
  simp only [covers] at hcov'
  have hfind : ∀ (Q : Handler → Pre) (E : CtlPost) (d : Bool) (acts : List Action), wp (findHandler (F0 m pc ls rest) q) Q E e d acts ((T.setTop (F0 m pc ls rest)).pushFrame (.throwing q)) ↔ Q (.found x.handlerPc) d acts (((T.setTop (F0 m pc ls rest)).pushFrame (.throwing q)).setVm (T.vm.noted m.cls x.catchType (.cls ce.cls))) := by
    intro Q E d acts
    have hvm9 : ((T.setTop (F0 m pc ls rest)).pushFrame (.throwing q)).vm = T.vm := Stand.throwing_vm T _ q
    have hhp9 : ((T.setTop (F0 m pc ls rest)).pushFrame (.throwing q)).heap[q]? = some ce := by rw [Stand.throwing_heap, hT]; exact hcell
    have hob9 : ∀ k, ce.vm ≠ .statics k := fun k h => by rw [hv] at h; cases h
    rw [W.findHandler_eq (meth := meth) (code := c) (by rw [hvm9]; exact X.method') X.code, htab]
    generalize (T.setTop (F0 m pc ls rest)).pushFrame (.throwing q) = S at hvm9 hhp9 ⊢
    rw [← hvm9] at ha ht hkt' hfit ⊢
    simp [findHandler.go, hcov', h0, ha, ht, hhp9, hob9, hkt', hfit, VmOp.dirties, VmOp.acts]
  obtain ⟨hgo, hwi⟩ := X.here.throwing (g := F0 m pc ls rest) q
  refine Steps.head hgo hwi ?_
  have hstep : (stepThrowing e ((T.setTop (F0 m pc ls rest)).pushFrame (.throwing q)) q (.java (F0 m pc ls rest) :: T.frames.tail)).Is ((((T.setTop (F0 m pc ls rest)).pushFrame (.throwing q)).setVm (T.vm.noted m.cls x.catchType (.cls ce.cls))).setFrames (.java { F0 m pc ls rest with pc := x.handlerPc, stack := [.ref q] } :: T.frames.tail)) [] := by
    simp only [stepThrowing, searchFrame, vmDo]
    generalize hr9 : Sem.go _ e false [] ((T.setTop (F0 m pc ls rest)).pushFrame (.throwing q)) = res
    obtain ⟨as, rfl, ha9⟩ := Sem.eq_ok_of hr9 (a := Handler.found x.handlerPc) (s' := ((T.setTop (F0 m pc ls rest)).pushFrame (.throwing q)).setVm (T.vm.noted m.cls x.catchType (.cls ce.cls))) (acts' := []) (by simp [hfind _ _ _ _])
    exact ⟨rfl, ha9⟩
  rw [stepThread_throwing (frames_entered X.here.top _), hstep.1]
  obtain ⟨g₀, hg⟩ := Option.isSome_iff_exists.mp X.here.top
  obtain ⟨r, hr⟩ := State.topJava?_eq_some.mp hg
  have hr' : (T.setVm (T.vm.noted m.cls x.catchType (.cls ce.cls))).frames = .java g₀ :: r := hr
  rw [State.setTop_of_frames _ hr'] at a1
  have hsv : ∀ (u : State) (vm' : Vm) (F G : List Frame), ((u.setFrames F).setVm vm').setFrames G = (u.setVm vm').setFrames G := by
    intro u vm' F G
    have h1 : (u.setFrames F).setVm vm' = (u.setVm vm').setFrames F := rfl
    rw [h1, State.setFrames_setFrames]
  rw [hr, List.tail_cons, State.pushFrame, hsv, State.setTop_of_frames _ hr, hsv]
  exact a1
end KXR
end
section
-- THE CLASS'S OWN WORLD: the desk, its shape, its array, ten spans (0..7 the places, 8 made, 9 second), and whatever else Z
abbrev cw_C : Type := Int32 × Int32 × (Nat → Int64 × Int64)
abbrev cw_G : Type := Nat × Nat × Nat × ClassId × (Nat → Nat)
def aD (G : cw_G) : Nat := G.1
def aS (G : cw_G) : Nat := G.2.1
def aP (G : cw_G) : Nat := G.2.2.1
def aA (G : cw_G) : ClassId := G.2.2.2.1
def aN (G : cw_G) (k : Nat) : Nat := G.2.2.2.2 k
def cw_inf : Int64 := 1152921504606846976
def cw_s0 (c : cw_C) (k : Nat) (v : Int64) : cw_C := (c.1, c.2.1, va_up c.2.2 k (v, (c.2.2 k).2))
def cw_s1 (c : cw_C) (k : Nat) (v : Int64) : cw_C := (c.1, c.2.1, va_up c.2.2 k ((c.2.2 k).1, v))
def cw_e0 (c : cw_C) (v : Int32) : cw_C := (v, c.2)
def cw_e1 (c : cw_C) (v : Int32) : cw_C := (c.1, v, c.2.2)
def cw_n (G : cw_G) (c : cw_C) (k : Nat) : Nat × va_E := (aN G k, .inr (1, [.long (c.2.2 k).1, .long (c.2.2 k).2]))
def cw_W (G : cw_G) (c : cw_C) (Z : va_W) : va_W :=
  (aD G, .inr (2, [.ref (aS G), .ref (aP G), .ref (aN G 8), .ref (aN G 9)])) :: (aS G, .inr (0, [.int c.1, .int c.2.1])) :: (aP G, .inl (aA G, 8, .inr (.inr (.inr (.inr (fun i => some (aN G i)))))))
    :: cw_n G c 0 :: cw_n G c 1 :: cw_n G c 2 :: cw_n G c 3 :: cw_n G c 4 :: cw_n G c 5 :: cw_n G c 6 :: cw_n G c 7 :: cw_n G c 8 :: cw_n G c 9 :: Z
def cw_ok (ty : List (ClassId × FieldType)) (sz : Nat) (G : cw_G) (Z : va_W) : Prop := ty[0]? = some (aA G, .object RX1) ∧ ∀ c : cw_C, va_D (kp_A sz) (cw_W G c Z)
theorem cw_10 {k : Nat} (hk : k < 10) : k = 0 ∨ k = 1 ∨ k = 2 ∨ k = 3 ∨ k = 4 ∨ k = 5 ∨ k = 6 ∨ k = 7 ∨ k = 8 ∨ k = 9 := by omega
theorem cw_at {G : cw_G} {c : cw_C} {Z : va_W} {k : Nat} (hk : k < 10) : (cw_W G c Z)[3 + k]? = some (aN G k, .inr (1, [.long (c.2.2 k).1, .long (c.2.2 k).2])) := by
  rcases cw_10 hk with rfl | rfl | rfl | rfl | rfl | rfl | rfl | rfl | rfl | rfl <;> rfl
theorem cw_put0 {G : cw_G} {c : cw_C} {Z : va_W} {k : Nat} (hk : k < 10) (v : Int64) : (cw_W G c Z).set (3 + k) (aN G k, .inr (1, [.long v, .long (c.2.2 k).2])) = cw_W G (cw_s0 c k v) Z := by
  rcases cw_10 hk with rfl | rfl | rfl | rfl | rfl | rfl | rfl | rfl | rfl | rfl <;> rfl
theorem cw_put1 {G : cw_G} {c : cw_C} {Z : va_W} {k : Nat} (hk : k < 10) (v : Int64) : (cw_W G c Z).set (3 + k) (aN G k, .inr (1, [.long (c.2.2 k).1, .long v])) = cw_W G (cw_s1 c k v) Z := by
  rcases cw_10 hk with rfl | rfl | rfl | rfl | rfl | rfl | rfl | rfl | rfl | rfl <;> rfl
theorem ul_D : ∀ w ∈ u_ws RX2 TX2 4, w ∈ lw_tbl ∧ kp_w w = true := by decide +kernel
theorem ul_S : ∀ w ∈ u_ws RX0 TX0 2, w ∈ lw_tbl ∧ kp_w w = true := by decide +kernel
theorem ul_N : ∀ w ∈ u_ws RX1 TX1 2, w ∈ lw_tbl ∧ kp_w w = true := by decide +kernel
section KCR
variable {p : Program} {l : Launch} {e : Env} {R : Room} {s : State} {m : MethodId} {args : Array Value} {below : List Frame} {meth : Method} {cd : Code} {H : Heap} {locs : List Loc} {cells slots : Nat} {Q : State → Prop}
variable {own : String} {cc : ByteArray} {nL : Nat} {ret : Option FieldType} {D : va_G} {ty : List (ClassId × FieldType)} {sz pc idx : Nat} {ls : Array Slot} {rest : List Value} {G : cw_G} {c : cw_C} {Z : va_W}
theorem kc_getD {j : Nat} {v : Value} (B : kp_B p l s m args meth cd own cc nL ret D ty sz) (hP : va_P D vwCl (cw_W G c Z) H) (hv : [Value.ref (aS G), .ref (aP G), .ref (aN G 8), .ref (aN G 9)][j]? = some v) (hj : j < 4)
    (hl : Cond.fieldLink own idx RX2 (TX2 j).2.1 (TX2 j).2.2.1 ∈ lw_tbl) (hdg : decode cc pc = .ok (.getfield idx, 3))
    (kk : W p l e R s m args below meth cd H locs cells slots Q (F0 m (pc + 3) ls (v :: rest))) : W p l e R s m args below meth cd H locs cells slots Q (F0 m pc ls (.ref (aD G) :: rest)) := by
  obtain ⟨hx, hb, hml, ho, hlk, hr, hw, hE, hK, hz⟩ := B
  exact va_get (D := D) (ci := 2) (C := RX2) (T := TX2) (N := 4) (ref := RX2) hx hb (Ts := u_ws RX2 TX2 4) (fun w h => hw w (ul_D w h).1 (ul_D w h).2) (fun _ h => h) ho hK hP 0 rfl rfl j hj (hw _ hl rfl) (fun x h => by rcases (show j = 0 ∨ j = 1 ∨ j = 2 ∨ j = 3 by omega) with rfl | rfl | rfl | rfl <;> exact h) hv hdg kk
theorem kc_getS {j : Nat} {v : Value} (B : kp_B p l s m args meth cd own cc nL ret D ty sz) (hP : va_P D vwCl (cw_W G c Z) H) (hv : [Value.int c.1, .int c.2.1][j]? = some v) (hj : j < 2)
    (hl : Cond.fieldLink own idx RX0 (TX0 j).2.1 (TX0 j).2.2.1 ∈ lw_tbl) (hdg : decode cc pc = .ok (.getfield idx, 3))
    (kk : W p l e R s m args below meth cd H locs cells slots Q (F0 m (pc + 3) ls (v :: rest))) : W p l e R s m args below meth cd H locs cells slots Q (F0 m pc ls (.ref (aS G) :: rest)) := by
  obtain ⟨hx, hb, hml, ho, hlk, hr, hw, hE, hK, hz⟩ := B
  exact va_get (D := D) (ci := 0) (C := RX0) (T := TX0) (N := 2) (ref := RX0) hx hb (Ts := u_ws RX0 TX0 2) (fun w h => hw w (ul_S w h).1 (ul_S w h).2) (fun _ h => h) ho hK hP 1 rfl rfl j hj (hw _ hl rfl) (fun x h => by rcases (show j = 0 ∨ j = 1 by omega) with rfl | rfl <;> exact h) hv hdg kk
theorem kc_getN {j k : Nat} {v : Value} (B : kp_B p l s m args meth cd own cc nL ret D ty sz) (hP : va_P D vwCl (cw_W G c Z) H) (hk : k < 10) (hv : [Value.long (c.2.2 k).1, .long (c.2.2 k).2][j]? = some v) (hj : j < 2)
    (hl : Cond.fieldLink own idx RX1 (TX1 j).2.1 (TX1 j).2.2.1 ∈ lw_tbl) (hdg : decode cc pc = .ok (.getfield idx, 3))
    (kk : W p l e R s m args below meth cd H locs cells slots Q (F0 m (pc + 3) ls (v :: rest))) : W p l e R s m args below meth cd H locs cells slots Q (F0 m pc ls (.ref (aN G k) :: rest)) := by
  obtain ⟨hx, hb, hml, ho, hlk, hr, hw, hE, hK, hz⟩ := B
  exact va_get (D := D) (ci := 1) (C := RX1) (T := TX1) (N := 2) (ref := RX1) hx hb (Ts := u_ws RX1 TX1 2) (fun w h => hw w (ul_N w h).1 (ul_N w h).2) (fun _ h => h) ho hK hP (3 + k) (cw_at hk) rfl j hj (hw _ hl rfl) (fun x h => by rcases (show j = 0 ∨ j = 1 by omega) with rfl | rfl <;> exact h) hv hdg kk
theorem kc_getNX {j k : Nat} {v : Value} {host : String} (B : kp_B p l s m args meth cd own cc nL ret D ty sz) (hP : va_P D vwCl (cw_W G c Z) H) (hk : k < 10) (hv : [Value.long (c.2.2 k).1, .long (c.2.2 k).2][j]? = some v) (hj : j < 2)
    (hl : Cond.fieldLinkNest own idx RX1 (TX1 j).2.1 (TX1 j).2.2.1 host ∈ lw_tbl) (hdg : decode cc pc = .ok (.getfield idx, 3))
    (kk : W p l e R s m args below meth cd H locs cells slots Q (F0 m (pc + 3) ls (v :: rest))) : W p l e R s m args below meth cd H locs cells slots Q (F0 m pc ls (.ref (aN G k) :: rest)) := by
  obtain ⟨hx, hb, hml, ho, hlk, hr, hw, hE, hK, hz⟩ := B
  exact va_getN (D := D) (ci := 1) (C := RX1) (T := TX1) (N := 2) (ref := RX1) hx hb (Ts := u_ws RX1 TX1 2) (fun w h => hw w (ul_N w h).1 (ul_N w h).2) (fun _ h => h) ho hK hP (3 + k) (cw_at hk) rfl j hj (hw _ hl rfl) (fun x h => by rcases (show j = 0 ∨ j = 1 by omega) with rfl | rfl <;> exact h) hv hdg kk
theorem kc_putN0 {k : Nat} {v : Int64} (B : kp_B p l s m args meth cd own cc nL ret D ty sz) (hG : cw_ok ty sz G Z) (hP : va_P D vwCl (cw_W G c Z) H) (hS : va_S (kp_A sz) s.heap H locs) (hk : k < 10)
    (hl : Cond.fieldLink own idx RX1 (TX1 0).2.1 (TX1 0).2.2.1 ∈ lw_tbl) (hdg : decode cc pc = .ok (.putfield idx, 3))
    (kk : ∀ (H1 : Heap) (locs1 : List Loc), va_P D vwCl (cw_W G (cw_s0 c k v) Z) H1 → va_S (kp_A sz) s.heap H1 locs1 → W p l e R s m args below meth cd H1 locs1 cells slots Q (F0 m (pc + 3) ls rest)) : W p l e R s m args below meth cd H locs cells slots Q (F0 m pc ls (.long v :: .ref (aN G k) :: rest)) := by
  obtain ⟨hx, hb, hml, ho, hlk, hr, hw, hE, hK, hz⟩ := B
  refine va_put (D := D) (ci := 1) (v := .long v) (ty := .long) (C := RX1) (T := TX1) (N := 2) (ref := RX1) hx hb (Ts := u_ws RX1 TX1 2) (fun w h => hw w (ul_N w h).1 (ul_N w h).2) (fun _ h => h) tyX1 tyX1_ok nmX1 ho hK hP (hG.2 c) hS (3 + k) (cw_at hk) rfl 0 (by decide) (hw _ hl rfl) (fun _ h9 => h9) rfl (by decide +kernel) rfl rfl (Nat.le_of_ble_eq_true rfl) hdg (fun H locs hP hD hS => ?_)
  exact kk H locs (by rw [← cw_put0 hk]; exact hP) hS
theorem kc_putN1 {k : Nat} {v : Int64} (B : kp_B p l s m args meth cd own cc nL ret D ty sz) (hG : cw_ok ty sz G Z) (hP : va_P D vwCl (cw_W G c Z) H) (hS : va_S (kp_A sz) s.heap H locs) (hk : k < 10)
    (hl : Cond.fieldLink own idx RX1 (TX1 1).2.1 (TX1 1).2.2.1 ∈ lw_tbl) (hdg : decode cc pc = .ok (.putfield idx, 3))
    (kk : ∀ (H1 : Heap) (locs1 : List Loc), va_P D vwCl (cw_W G (cw_s1 c k v) Z) H1 → va_S (kp_A sz) s.heap H1 locs1 → W p l e R s m args below meth cd H1 locs1 cells slots Q (F0 m (pc + 3) ls rest)) : W p l e R s m args below meth cd H locs cells slots Q (F0 m pc ls (.long v :: .ref (aN G k) :: rest)) := by
  obtain ⟨hx, hb, hml, ho, hlk, hr, hw, hE, hK, hz⟩ := B
  refine va_put (D := D) (ci := 1) (v := .long v) (ty := .long) (C := RX1) (T := TX1) (N := 2) (ref := RX1) hx hb (Ts := u_ws RX1 TX1 2) (fun w h => hw w (ul_N w h).1 (ul_N w h).2) (fun _ h => h) tyX1 tyX1_ok nmX1 ho hK hP (hG.2 c) hS (3 + k) (cw_at hk) rfl 1 (by decide) (hw _ hl rfl) (fun _ h9 => h9) rfl (by decide +kernel) rfl rfl (Nat.le_of_ble_eq_true rfl) hdg (fun H locs hP hD hS => ?_)
  exact kk H locs (by rw [← cw_put1 hk]; exact hP) hS
theorem kc_putSX0 {v : Int32} {host : String} (B : kp_B p l s m args meth cd own cc nL ret D ty sz) (hG : cw_ok ty sz G Z) (hP : va_P D vwCl (cw_W G c Z) H) (hS : va_S (kp_A sz) s.heap H locs)
    (hl : Cond.fieldLinkNest own idx RX0 (TX0 0).2.1 (TX0 0).2.2.1 host ∈ lw_tbl) (hdg : decode cc pc = .ok (.putfield idx, 3))
    (kk : ∀ (H1 : Heap) (locs1 : List Loc), va_P D vwCl (cw_W G (cw_e0 c v) Z) H1 → va_S (kp_A sz) s.heap H1 locs1 → W p l e R s m args below meth cd H1 locs1 cells slots Q (F0 m (pc + 3) ls rest)) : W p l e R s m args below meth cd H locs cells slots Q (F0 m pc ls (.int v :: .ref (aS G) :: rest)) := by
  obtain ⟨hx, hb, hml, ho, hlk, hr, hw, hE, hK, hz⟩ := B
  exact va_putN (D := D) (ci := 0) (v := .int v) (ty := .int) (C := RX0) (T := TX0) (N := 2) (ref := RX0) hx hb (Ts := u_ws RX0 TX0 2) (fun w h => hw w (ul_S w h).1 (ul_S w h).2) (fun _ h => h) tyX0 tyX0_ok nmX0 ho hK hP (hG.2 c) hS 1 rfl rfl 0 (by decide) (hw _ hl rfl) (fun _ h9 => h9) rfl (by decide +kernel) rfl rfl (Nat.le_of_ble_eq_true rfl) hdg (fun H locs hP hD hS => kk H locs hP hS)
theorem kc_putSX1 {v : Int32} {host : String} (B : kp_B p l s m args meth cd own cc nL ret D ty sz) (hG : cw_ok ty sz G Z) (hP : va_P D vwCl (cw_W G c Z) H) (hS : va_S (kp_A sz) s.heap H locs)
    (hl : Cond.fieldLinkNest own idx RX0 (TX0 1).2.1 (TX0 1).2.2.1 host ∈ lw_tbl) (hdg : decode cc pc = .ok (.putfield idx, 3))
    (kk : ∀ (H1 : Heap) (locs1 : List Loc), va_P D vwCl (cw_W G (cw_e1 c v) Z) H1 → va_S (kp_A sz) s.heap H1 locs1 → W p l e R s m args below meth cd H1 locs1 cells slots Q (F0 m (pc + 3) ls rest)) : W p l e R s m args below meth cd H locs cells slots Q (F0 m pc ls (.int v :: .ref (aS G) :: rest)) := by
  obtain ⟨hx, hb, hml, ho, hlk, hr, hw, hE, hK, hz⟩ := B
  exact va_putN (D := D) (ci := 0) (v := .int v) (ty := .int) (C := RX0) (T := TX0) (N := 2) (ref := RX0) hx hb (Ts := u_ws RX0 TX0 2) (fun w h => hw w (ul_S w h).1 (ul_S w h).2) (fun _ h => h) tyX0 tyX0_ok nmX0 ho hK hP (hG.2 c) hS 1 rfl rfl 1 (by decide) (hw _ hl rfl) (fun _ h9 => h9) rfl (by decide +kernel) rfl rfl (Nat.le_of_ble_eq_true rfl) hdg (fun H locs hP hD hS => kk H locs hP hS)
/-- places[i] -/
theorem kc_aald {i : Int32} (B : kp_B p l s m args meth cd own cc nL ret D ty sz) (hG : cw_ok ty sz G Z) (hP : va_P D vwCl (cw_W G c Z) H) (hi : vp_in i 8) (hdg : decode cc pc = .ok (.aaload, 1))
    (kk : W p l e R s m args below meth cd H locs cells slots Q (F0 m (pc + 1) ls (.ref (aN G i.toNatClampNeg) :: rest))) : W p l e R s m args below meth cd H locs cells slots Q (F0 m pc ls (.int i :: .ref (aP G) :: rest)) := by
  obtain ⟨hx, hb, hml, ho, hlk, hr, hw, hE, hK, hz⟩ := B
  exact va_aldq (D := D) hx hb hK hP 2 0 rfl hG.1 hi hdg kk
theorem kc_rcD (B : kp_B p l s m args meth cd own cc nL ret D ty sz) (hP : va_P D vwCl (cw_W G c Z) H) : ∃ cell : Cell, H[aD G]? = some cell ∧ cell.vm.isStatics = false ∧ s.vm.findClass RX2 = some cell.cls := va_recv B.2.2.2.2.2.2.2.2.1 hP (ci := 2) (q0 := 0) (q := (RX2, TX2, 4)) rfl rfl
theorem kc_rcS (B : kp_B p l s m args meth cd own cc nL ret D ty sz) (hP : va_P D vwCl (cw_W G c Z) H) : ∃ cell : Cell, H[aS G]? = some cell ∧ cell.vm.isStatics = false ∧ s.vm.findClass RX0 = some cell.cls := va_recv B.2.2.2.2.2.2.2.2.1 hP (ci := 0) (q0 := 1) (q := (RX0, TX0, 2)) rfl rfl
theorem kc_rcN {k : Nat} (B : kp_B p l s m args meth cd own cc nL ret D ty sz) (hP : va_P D vwCl (cw_W G c Z) H) (hk : k < 10) : ∃ cell : Cell, H[aN G k]? = some cell ∧ cell.vm.isStatics = false ∧ s.vm.findClass RX1 = some cell.cls := va_recv B.2.2.2.2.2.2.2.2.1 hP (ci := 1) (q0 := 3 + k) (q := (RX1, TX1, 2)) rfl (cw_at hk)
theorem kc_in10 {i : Int32} (h : vp_in i 8) : i.toNatClampNeg < 10 := by
  obtain ⟨j, hj, rfl⟩ := vp_in_of h (by decide)
  rw [nI_clamp (by omega)]
  omega
theorem kc_01 {v : Int32} (h : v = 0 ∨ v = 1) : v = 0 ∨ v = 1 := h
end KCR
end
section
theorem dX0_init_0 : decode cX0_init 0 = .ok (.aload_n 0, 1) := by decide +kernel
theorem dX0_init_1 : decode cX0_init 1 = .ok (.invokespecial 3, 3) := by decide +kernel
theorem dX0_init_4 : decode cX0_init 4 = .ok (.aload_n 0, 1) := by decide +kernel
theorem dX0_init_5 : decode cX0_init 5 = .ok (.iload_n 1, 1) := by decide +kernel
theorem dX0_init_6 : decode cX0_init 6 = .ok (.putfield 9, 3) := by decide +kernel
theorem dX0_init_9 : decode cX0_init 9 = .ok (.aload_n 0, 1) := by decide +kernel
theorem dX0_init_10 : decode cX0_init 10 = .ok (.iload_n 2, 1) := by decide +kernel
theorem dX0_init_11 : decode cX0_init 11 = .ok (.putfield 15, 3) := by decide +kernel
theorem dX0_init_14 : decode cX0_init 14 = .ok (.return_, 1) := by decide +kernel
theorem dX0_unitBits_0 : decode cX0_unitBits 0 = .ok (.iconst 1, 1) := by decide +kernel
theorem dX0_unitBits_1 : decode cX0_unitBits 1 = .ok (.aload_n 0, 1) := by decide +kernel
theorem dX0_unitBits_2 : decode cX0_unitBits 2 = .ok (.getfield 9, 3) := by decide +kernel
theorem dX0_unitBits_5 : decode cX0_unitBits 5 = .ok (.iconst 1, 1) := by decide +kernel
theorem dX0_unitBits_6 : decode cX0_unitBits 6 = .ok (.isub, 1) := by decide +kernel
theorem dX0_unitBits_7 : decode cX0_unitBits 7 = .ok (.ishl, 1) := by decide +kernel
theorem dX0_unitBits_8 : decode cX0_unitBits 8 = .ok (.iconst 2, 1) := by decide +kernel
theorem dX0_unitBits_9 : decode cX0_unitBits 9 = .ok (.isub, 1) := by decide +kernel
theorem dX0_unitBits_10 : decode cX0_unitBits 10 = .ok (.aload_n 0, 1) := by decide +kernel
theorem dX0_unitBits_11 : decode cX0_unitBits 11 = .ok (.getfield 15, 3) := by decide +kernel
theorem dX0_unitBits_14 : decode cX0_unitBits 14 = .ok (.iadd, 1) := by decide +kernel
theorem dX0_unitBits_15 : decode cX0_unitBits 15 = .ok (.ireturn, 1) := by decide +kernel
theorem dX0_signBit_0 : decode cX0_signBit 0 = .ok (.iconst 1, 1) := by decide +kernel
theorem dX0_signBit_1 : decode cX0_signBit 1 = .ok (.aload_n 0, 1) := by decide +kernel
theorem dX0_signBit_2 : decode cX0_signBit 2 = .ok (.getfield 9, 3) := by decide +kernel
theorem dX0_signBit_5 : decode cX0_signBit 5 = .ok (.aload_n 0, 1) := by decide +kernel
theorem dX0_signBit_6 : decode cX0_signBit 6 = .ok (.getfield 15, 3) := by decide +kernel
theorem dX0_signBit_9 : decode cX0_signBit 9 = .ok (.iadd, 1) := by decide +kernel
theorem dX0_signBit_10 : decode cX0_signBit 10 = .ok (.ishl, 1) := by decide +kernel
theorem dX0_signBit_11 : decode cX0_signBit 11 = .ok (.ireturn, 1) := by decide +kernel
theorem dX0_endlessPattern_0 : decode cX0_endlessPattern 0 = .ok (.iconst 1, 1) := by decide +kernel
theorem dX0_endlessPattern_1 : decode cX0_endlessPattern 1 = .ok (.aload_n 0, 1) := by decide +kernel
theorem dX0_endlessPattern_2 : decode cX0_endlessPattern 2 = .ok (.getfield 9, 3) := by decide +kernel
theorem dX0_endlessPattern_5 : decode cX0_endlessPattern 5 = .ok (.ishl, 1) := by decide +kernel
theorem dX0_endlessPattern_6 : decode cX0_endlessPattern 6 = .ok (.iconst 1, 1) := by decide +kernel
theorem dX0_endlessPattern_7 : decode cX0_endlessPattern 7 = .ok (.isub, 1) := by decide +kernel
theorem dX0_endlessPattern_8 : decode cX0_endlessPattern 8 = .ok (.aload_n 0, 1) := by decide +kernel
theorem dX0_endlessPattern_9 : decode cX0_endlessPattern 9 = .ok (.getfield 15, 3) := by decide +kernel
theorem dX0_endlessPattern_12 : decode cX0_endlessPattern 12 = .ok (.ishl, 1) := by decide +kernel
theorem dX0_endlessPattern_13 : decode cX0_endlessPattern 13 = .ok (.ireturn, 1) := by decide +kernel
theorem dX0_isPattern_0 : decode cX0_isPattern 0 = .ok (.iload_n 1, 1) := by decide +kernel
theorem dX0_isPattern_1 : decode cX0_isPattern 1 = .ok (.ifCond .lt 32, 3) := by decide +kernel
theorem dX0_isPattern_4 : decode cX0_isPattern 4 = .ok (.iload_n 1, 1) := by decide +kernel
theorem dX0_isPattern_5 : decode cX0_isPattern 5 = .ok (.iconst 2, 1) := by decide +kernel
theorem dX0_isPattern_6 : decode cX0_isPattern 6 = .ok (.aload_n 0, 1) := by decide +kernel
theorem dX0_isPattern_7 : decode cX0_isPattern 7 = .ok (.invokevirtual 18, 3) := by decide +kernel
theorem dX0_isPattern_10 : decode cX0_isPattern 10 = .ok (.imul, 1) := by decide +kernel
theorem dX0_isPattern_11 : decode cX0_isPattern 11 = .ok (.if_icmp .ge 22, 3) := by decide +kernel
theorem dX0_isPattern_14 : decode cX0_isPattern 14 = .ok (.iload_n 1, 1) := by decide +kernel
theorem dX0_isPattern_15 : decode cX0_isPattern 15 = .ok (.aload_n 0, 1) := by decide +kernel
theorem dX0_isPattern_16 : decode cX0_isPattern 16 = .ok (.invokevirtual 18, 3) := by decide +kernel
theorem dX0_isPattern_19 : decode cX0_isPattern 19 = .ok (.iconst 1, 1) := by decide +kernel
theorem dX0_isPattern_20 : decode cX0_isPattern 20 = .ok (.isub, 1) := by decide +kernel
theorem dX0_isPattern_21 : decode cX0_isPattern 21 = .ok (.iand, 1) := by decide +kernel
theorem dX0_isPattern_22 : decode cX0_isPattern 22 = .ok (.aload_n 0, 1) := by decide +kernel
theorem dX0_isPattern_23 : decode cX0_isPattern 23 = .ok (.invokevirtual 22, 3) := by decide +kernel
theorem dX0_isPattern_26 : decode cX0_isPattern 26 = .ok (.if_icmp .gt 7, 3) := by decide +kernel
theorem dX0_isPattern_29 : decode cX0_isPattern 29 = .ok (.iconst 1, 1) := by decide +kernel
theorem dX0_isPattern_30 : decode cX0_isPattern 30 = .ok (.goto 4, 3) := by decide +kernel
theorem dX0_isPattern_33 : decode cX0_isPattern 33 = .ok (.iconst 0, 1) := by decide +kernel
theorem dX0_isPattern_34 : decode cX0_isPattern 34 = .ok (.ireturn, 1) := by decide +kernel
theorem dX0_numberOf_0 : decode cX0_numberOf 0 = .ok (.aload_n 0, 1) := by decide +kernel
theorem dX0_numberOf_1 : decode cX0_numberOf 1 = .ok (.iload_n 1, 1) := by decide +kernel
theorem dX0_numberOf_2 : decode cX0_numberOf 2 = .ok (.aload_n 0, 1) := by decide +kernel
theorem dX0_numberOf_3 : decode cX0_numberOf 3 = .ok (.invokevirtual 18, 3) := by decide +kernel
theorem dX0_numberOf_6 : decode cX0_numberOf 6 = .ok (.iconst 1, 1) := by decide +kernel
theorem dX0_numberOf_7 : decode cX0_numberOf 7 = .ok (.isub, 1) := by decide +kernel
theorem dX0_numberOf_8 : decode cX0_numberOf 8 = .ok (.iand, 1) := by decide +kernel
theorem dX0_numberOf_9 : decode cX0_numberOf 9 = .ok (.invokevirtual 25, 3) := by decide +kernel
theorem dX0_numberOf_12 : decode cX0_numberOf 12 = .ok (.lstore_n 2, 1) := by decide +kernel
theorem dX0_numberOf_13 : decode cX0_numberOf 13 = .ok (.iload_n 1, 1) := by decide +kernel
theorem dX0_numberOf_14 : decode cX0_numberOf 14 = .ok (.aload_n 0, 1) := by decide +kernel
theorem dX0_numberOf_15 : decode cX0_numberOf 15 = .ok (.invokevirtual 18, 3) := by decide +kernel
theorem dX0_numberOf_18 : decode cX0_numberOf 18 = .ok (.iand, 1) := by decide +kernel
theorem dX0_numberOf_19 : decode cX0_numberOf 19 = .ok (.ifCond .eq 8, 3) := by decide +kernel
theorem dX0_numberOf_22 : decode cX0_numberOf 22 = .ok (.lload_n 2, 1) := by decide +kernel
theorem dX0_numberOf_23 : decode cX0_numberOf 23 = .ok (.lneg, 1) := by decide +kernel
theorem dX0_numberOf_24 : decode cX0_numberOf 24 = .ok (.goto 4, 3) := by decide +kernel
theorem dX0_numberOf_27 : decode cX0_numberOf 27 = .ok (.lload_n 2, 1) := by decide +kernel
theorem dX0_numberOf_28 : decode cX0_numberOf 28 = .ok (.lreturn, 1) := by decide +kernel
theorem dX0_sizeOf_0 : decode cX0_sizeOf 0 = .ok (.iload_n 1, 1) := by decide +kernel
theorem dX0_sizeOf_1 : decode cX0_sizeOf 1 = .ok (.aload_n 0, 1) := by decide +kernel
theorem dX0_sizeOf_2 : decode cX0_sizeOf 2 = .ok (.invokevirtual 22, 3) := by decide +kernel
theorem dX0_sizeOf_5 : decode cX0_sizeOf 5 = .ok (.if_icmp .ne 7, 3) := by decide +kernel
theorem dX0_sizeOf_8 : decode cX0_sizeOf 8 = .ok (.ldc2_w 29, 3) := by decide +kernel
theorem dX0_sizeOf_11 : decode cX0_sizeOf 11 = .ok (.lreturn, 1) := by decide +kernel
theorem dX0_sizeOf_12 : decode cX0_sizeOf 12 = .ok (.iload_n 1, 1) := by decide +kernel
theorem dX0_sizeOf_13 : decode cX0_sizeOf 13 = .ok (.aload_n 0, 1) := by decide +kernel
theorem dX0_sizeOf_14 : decode cX0_sizeOf 14 = .ok (.getfield 15, 3) := by decide +kernel
theorem dX0_sizeOf_17 : decode cX0_sizeOf 17 = .ok (.ishr, 1) := by decide +kernel
theorem dX0_sizeOf_18 : decode cX0_sizeOf 18 = .ok (.istore_n 2, 1) := by decide +kernel
theorem dX0_sizeOf_19 : decode cX0_sizeOf 19 = .ok (.iload_n 1, 1) := by decide +kernel
theorem dX0_sizeOf_20 : decode cX0_sizeOf 20 = .ok (.iconst 1, 1) := by decide +kernel
theorem dX0_sizeOf_21 : decode cX0_sizeOf 21 = .ok (.aload_n 0, 1) := by decide +kernel
theorem dX0_sizeOf_22 : decode cX0_sizeOf 22 = .ok (.getfield 15, 3) := by decide +kernel
theorem dX0_sizeOf_25 : decode cX0_sizeOf 25 = .ok (.ishl, 1) := by decide +kernel
theorem dX0_sizeOf_26 : decode cX0_sizeOf 26 = .ok (.iconst 1, 1) := by decide +kernel
theorem dX0_sizeOf_27 : decode cX0_sizeOf 27 = .ok (.isub, 1) := by decide +kernel
theorem dX0_sizeOf_28 : decode cX0_sizeOf 28 = .ok (.iand, 1) := by decide +kernel
theorem dX0_sizeOf_29 : decode cX0_sizeOf 29 = .ok (.i2l, 1) := by decide +kernel
theorem dX0_sizeOf_30 : decode cX0_sizeOf 30 = .ok (.lstore_n 3, 1) := by decide +kernel
theorem dX0_sizeOf_31 : decode cX0_sizeOf 31 = .ok (.iload_n 2, 1) := by decide +kernel
theorem dX0_sizeOf_32 : decode cX0_sizeOf 32 = .ok (.ifCond .ne 7, 3) := by decide +kernel
theorem dX0_sizeOf_35 : decode cX0_sizeOf 35 = .ok (.lload_n 3, 1) := by decide +kernel
theorem dX0_sizeOf_36 : decode cX0_sizeOf 36 = .ok (.goto 15, 3) := by decide +kernel
theorem dX0_sizeOf_39 : decode cX0_sizeOf 39 = .ok (.lconst 1, 1) := by decide +kernel
theorem dX0_sizeOf_40 : decode cX0_sizeOf 40 = .ok (.aload_n 0, 1) := by decide +kernel
theorem dX0_sizeOf_41 : decode cX0_sizeOf 41 = .ok (.getfield 15, 3) := by decide +kernel
theorem dX0_sizeOf_44 : decode cX0_sizeOf 44 = .ok (.lshl, 1) := by decide +kernel
theorem dX0_sizeOf_45 : decode cX0_sizeOf 45 = .ok (.lload_n 3, 1) := by decide +kernel
theorem dX0_sizeOf_46 : decode cX0_sizeOf 46 = .ok (.ladd, 1) := by decide +kernel
theorem dX0_sizeOf_47 : decode cX0_sizeOf 47 = .ok (.iload_n 2, 1) := by decide +kernel
theorem dX0_sizeOf_48 : decode cX0_sizeOf 48 = .ok (.iconst 1, 1) := by decide +kernel
theorem dX0_sizeOf_49 : decode cX0_sizeOf 49 = .ok (.isub, 1) := by decide +kernel
theorem dX0_sizeOf_50 : decode cX0_sizeOf 50 = .ok (.lshl, 1) := by decide +kernel
theorem dX0_sizeOf_51 : decode cX0_sizeOf 51 = .ok (.lreturn, 1) := by decide +kernel
theorem dX0_patternOf_0 : decode cX0_patternOf 0 = .ok (.lload_n 1, 1) := by decide +kernel
theorem dX0_patternOf_1 : decode cX0_patternOf 1 = .ok (.lconst 0, 1) := by decide +kernel
theorem dX0_patternOf_2 : decode cX0_patternOf 2 = .ok (.lcmp, 1) := by decide +kernel
theorem dX0_patternOf_3 : decode cX0_patternOf 3 = .ok (.ifCond .ge 17, 3) := by decide +kernel
theorem dX0_patternOf_6 : decode cX0_patternOf 6 = .ok (.aload_n 0, 1) := by decide +kernel
theorem dX0_patternOf_7 : decode cX0_patternOf 7 = .ok (.invokevirtual 18, 3) := by decide +kernel
theorem dX0_patternOf_10 : decode cX0_patternOf 10 = .ok (.aload_n 0, 1) := by decide +kernel
theorem dX0_patternOf_11 : decode cX0_patternOf 11 = .ok (.lload_n 1, 1) := by decide +kernel
theorem dX0_patternOf_12 : decode cX0_patternOf 12 = .ok (.lneg, 1) := by decide +kernel
theorem dX0_patternOf_13 : decode cX0_patternOf 13 = .ok (.invokevirtual 31, 3) := by decide +kernel
theorem dX0_patternOf_16 : decode cX0_patternOf 16 = .ok (.ior, 1) := by decide +kernel
theorem dX0_patternOf_17 : decode cX0_patternOf 17 = .ok (.goto 8, 3) := by decide +kernel
theorem dX0_patternOf_20 : decode cX0_patternOf 20 = .ok (.aload_n 0, 1) := by decide +kernel
theorem dX0_patternOf_21 : decode cX0_patternOf 21 = .ok (.lload_n 1, 1) := by decide +kernel
theorem dX0_patternOf_22 : decode cX0_patternOf 22 = .ok (.invokevirtual 31, 3) := by decide +kernel
theorem dX0_patternOf_25 : decode cX0_patternOf 25 = .ok (.ireturn, 1) := by decide +kernel
theorem dX0_unsignedOf_0 : decode cX0_unsignedOf 0 = .ok (.lload_n 1, 1) := by decide +kernel
theorem dX0_unsignedOf_1 : decode cX0_unsignedOf 1 = .ok (.ldc2_w 29, 3) := by decide +kernel
theorem dX0_unsignedOf_4 : decode cX0_unsignedOf 4 = .ok (.lcmp, 1) := by decide +kernel
theorem dX0_unsignedOf_5 : decode cX0_unsignedOf 5 = .ok (.ifCond .ne 8, 3) := by decide +kernel
theorem dX0_unsignedOf_8 : decode cX0_unsignedOf 8 = .ok (.aload_n 0, 1) := by decide +kernel
theorem dX0_unsignedOf_9 : decode cX0_unsignedOf 9 = .ok (.invokevirtual 22, 3) := by decide +kernel
theorem dX0_unsignedOf_12 : decode cX0_unsignedOf 12 = .ok (.ireturn, 1) := by decide +kernel
theorem dX0_unsignedOf_13 : decode cX0_unsignedOf 13 = .ok (.aload_n 0, 1) := by decide +kernel
theorem dX0_unsignedOf_14 : decode cX0_unsignedOf 14 = .ok (.lload_n 1, 1) := by decide +kernel
theorem dX0_unsignedOf_15 : decode cX0_unsignedOf 15 = .ok (.invokevirtual 35, 3) := by decide +kernel
theorem dX0_unsignedOf_18 : decode cX0_unsignedOf 18 = .ok (.istore_n 3, 1) := by decide +kernel
theorem dX0_unsignedOf_19 : decode cX0_unsignedOf 19 = .ok (.iload_n 3, 1) := by decide +kernel
theorem dX0_unsignedOf_20 : decode cX0_unsignedOf 20 = .ok (.aload_n 0, 1) := by decide +kernel
theorem dX0_unsignedOf_21 : decode cX0_unsignedOf 21 = .ok (.getfield 15, 3) := by decide +kernel
theorem dX0_unsignedOf_24 : decode cX0_unsignedOf 24 = .ok (.ishl, 1) := by decide +kernel
theorem dX0_unsignedOf_25 : decode cX0_unsignedOf 25 = .ok (.lload_n 1, 1) := by decide +kernel
theorem dX0_unsignedOf_26 : decode cX0_unsignedOf 26 = .ok (.iload_n 3, 1) := by decide +kernel
theorem dX0_unsignedOf_27 : decode cX0_unsignedOf 27 = .ok (.lshr, 1) := by decide +kernel
theorem dX0_unsignedOf_28 : decode cX0_unsignedOf 28 = .ok (.l2i, 1) := by decide +kernel
theorem dX0_unsignedOf_29 : decode cX0_unsignedOf 29 = .ok (.iadd, 1) := by decide +kernel
theorem dX0_unsignedOf_30 : decode cX0_unsignedOf 30 = .ok (.ireturn, 1) := by decide +kernel
theorem dX0_extraBits_0 : decode cX0_extraBits 0 = .ok (.iconst 0, 1) := by decide +kernel
theorem dX0_extraBits_1 : decode cX0_extraBits 1 = .ok (.istore_n 3, 1) := by decide +kernel
theorem dX0_extraBits_2 : decode cX0_extraBits 2 = .ok (.iload_n 3, 1) := by decide +kernel
theorem dX0_extraBits_3 : decode cX0_extraBits 3 = .ok (.bipush 62, 2) := by decide +kernel
theorem dX0_extraBits_5 : decode cX0_extraBits 5 = .ok (.if_icmp .ge 26, 3) := by decide +kernel
theorem dX0_extraBits_8 : decode cX0_extraBits 8 = .ok (.lload_n 1, 1) := by decide +kernel
theorem dX0_extraBits_9 : decode cX0_extraBits 9 = .ok (.iload_n 3, 1) := by decide +kernel
theorem dX0_extraBits_10 : decode cX0_extraBits 10 = .ok (.lshr, 1) := by decide +kernel
theorem dX0_extraBits_11 : decode cX0_extraBits 11 = .ok (.ldc2_w 38, 3) := by decide +kernel
theorem dX0_extraBits_14 : decode cX0_extraBits 14 = .ok (.aload_n 0, 1) := by decide +kernel
theorem dX0_extraBits_15 : decode cX0_extraBits 15 = .ok (.getfield 15, 3) := by decide +kernel
theorem dX0_extraBits_18 : decode cX0_extraBits 18 = .ok (.lshl, 1) := by decide +kernel
theorem dX0_extraBits_19 : decode cX0_extraBits 19 = .ok (.lcmp, 1) := by decide +kernel
theorem dX0_extraBits_20 : decode cX0_extraBits 20 = .ok (.ifCond .ge 5, 3) := by decide +kernel
theorem dX0_extraBits_23 : decode cX0_extraBits 23 = .ok (.iload_n 3, 1) := by decide +kernel
theorem dX0_extraBits_24 : decode cX0_extraBits 24 = .ok (.ireturn, 1) := by decide +kernel
theorem dX0_extraBits_25 : decode cX0_extraBits 25 = .ok (.iinc 3 1, 3) := by decide +kernel
theorem dX0_extraBits_28 : decode cX0_extraBits 28 = .ok (.goto (-26), 3) := by decide +kernel
theorem dX0_extraBits_31 : decode cX0_extraBits 31 = .ok (.bipush 62, 2) := by decide +kernel
theorem dX0_extraBits_33 : decode cX0_extraBits 33 = .ok (.ireturn, 1) := by decide +kernel
theorem dX0_notAbove_0 : decode cX0_notAbove 0 = .ok (.lload_n 1, 1) := by decide +kernel
theorem dX0_notAbove_1 : decode cX0_notAbove 1 = .ok (.lconst 0, 1) := by decide +kernel
theorem dX0_notAbove_2 : decode cX0_notAbove 2 = .ok (.lcmp, 1) := by decide +kernel
theorem dX0_notAbove_3 : decode cX0_notAbove 3 = .ok (.ifCond .ge 13, 3) := by decide +kernel
theorem dX0_notAbove_6 : decode cX0_notAbove 6 = .ok (.aload_n 0, 1) := by decide +kernel
theorem dX0_notAbove_7 : decode cX0_notAbove 7 = .ok (.lload_n 1, 1) := by decide +kernel
theorem dX0_notAbove_8 : decode cX0_notAbove 8 = .ok (.lneg, 1) := by decide +kernel
theorem dX0_notAbove_9 : decode cX0_notAbove 9 = .ok (.invokevirtual 40, 3) := by decide +kernel
theorem dX0_notAbove_12 : decode cX0_notAbove 12 = .ok (.lneg, 1) := by decide +kernel
theorem dX0_notAbove_13 : decode cX0_notAbove 13 = .ok (.goto 8, 3) := by decide +kernel
theorem dX0_notAbove_16 : decode cX0_notAbove 16 = .ok (.aload_n 0, 1) := by decide +kernel
theorem dX0_notAbove_17 : decode cX0_notAbove 17 = .ok (.lload_n 1, 1) := by decide +kernel
theorem dX0_notAbove_18 : decode cX0_notAbove 18 = .ok (.invokevirtual 44, 3) := by decide +kernel
theorem dX0_notAbove_21 : decode cX0_notAbove 21 = .ok (.lreturn, 1) := by decide +kernel
theorem dX0_notBelow_0 : decode cX0_notBelow 0 = .ok (.aload_n 0, 1) := by decide +kernel
theorem dX0_notBelow_1 : decode cX0_notBelow 1 = .ok (.lload_n 1, 1) := by decide +kernel
theorem dX0_notBelow_2 : decode cX0_notBelow 2 = .ok (.lneg, 1) := by decide +kernel
theorem dX0_notBelow_3 : decode cX0_notBelow 3 = .ok (.invokevirtual 47, 3) := by decide +kernel
theorem dX0_notBelow_6 : decode cX0_notBelow 6 = .ok (.lneg, 1) := by decide +kernel
theorem dX0_notBelow_7 : decode cX0_notBelow 7 = .ok (.lreturn, 1) := by decide +kernel
theorem dX0_sizeNotAbove_0 : decode cX0_sizeNotAbove 0 = .ok (.aload_n 0, 1) := by decide +kernel
theorem dX0_sizeNotAbove_1 : decode cX0_sizeNotAbove 1 = .ok (.aload_n 0, 1) := by decide +kernel
theorem dX0_sizeNotAbove_2 : decode cX0_sizeNotAbove 2 = .ok (.invokevirtual 22, 3) := by decide +kernel
theorem dX0_sizeNotAbove_5 : decode cX0_sizeNotAbove 5 = .ok (.iconst 1, 1) := by decide +kernel
theorem dX0_sizeNotAbove_6 : decode cX0_sizeNotAbove 6 = .ok (.isub, 1) := by decide +kernel
theorem dX0_sizeNotAbove_7 : decode cX0_sizeNotAbove 7 = .ok (.invokevirtual 25, 3) := by decide +kernel
theorem dX0_sizeNotAbove_10 : decode cX0_sizeNotAbove 10 = .ok (.lstore_n 3, 1) := by decide +kernel
theorem dX0_sizeNotAbove_11 : decode cX0_sizeNotAbove 11 = .ok (.lload_n 1, 1) := by decide +kernel
theorem dX0_sizeNotAbove_12 : decode cX0_sizeNotAbove 12 = .ok (.lload_n 3, 1) := by decide +kernel
theorem dX0_sizeNotAbove_13 : decode cX0_sizeNotAbove 13 = .ok (.lcmp, 1) := by decide +kernel
theorem dX0_sizeNotAbove_14 : decode cX0_sizeNotAbove 14 = .ok (.ifCond .le 5, 3) := by decide +kernel
theorem dX0_sizeNotAbove_17 : decode cX0_sizeNotAbove 17 = .ok (.lload_n 3, 1) := by decide +kernel
theorem dX0_sizeNotAbove_18 : decode cX0_sizeNotAbove 18 = .ok (.lreturn, 1) := by decide +kernel
theorem dX0_sizeNotAbove_19 : decode cX0_sizeNotAbove 19 = .ok (.aload_n 0, 1) := by decide +kernel
theorem dX0_sizeNotAbove_20 : decode cX0_sizeNotAbove 20 = .ok (.lload_n 1, 1) := by decide +kernel
theorem dX0_sizeNotAbove_21 : decode cX0_sizeNotAbove 21 = .ok (.invokevirtual 35, 3) := by decide +kernel
theorem dX0_sizeNotAbove_24 : decode cX0_sizeNotAbove 24 = .ok (.istore 5, 2) := by decide +kernel
theorem dX0_sizeNotAbove_26 : decode cX0_sizeNotAbove 26 = .ok (.lload_n 1, 1) := by decide +kernel
theorem dX0_sizeNotAbove_27 : decode cX0_sizeNotAbove 27 = .ok (.iload 5, 2) := by decide +kernel
theorem dX0_sizeNotAbove_29 : decode cX0_sizeNotAbove 29 = .ok (.lshr, 1) := by decide +kernel
theorem dX0_sizeNotAbove_30 : decode cX0_sizeNotAbove 30 = .ok (.iload 5, 2) := by decide +kernel
theorem dX0_sizeNotAbove_32 : decode cX0_sizeNotAbove 32 = .ok (.lshl, 1) := by decide +kernel
theorem dX0_sizeNotAbove_33 : decode cX0_sizeNotAbove 33 = .ok (.lreturn, 1) := by decide +kernel
theorem dX0_sizeNotBelow_0 : decode cX0_sizeNotBelow 0 = .ok (.lload_n 1, 1) := by decide +kernel
theorem dX0_sizeNotBelow_1 : decode cX0_sizeNotBelow 1 = .ok (.aload_n 0, 1) := by decide +kernel
theorem dX0_sizeNotBelow_2 : decode cX0_sizeNotBelow 2 = .ok (.aload_n 0, 1) := by decide +kernel
theorem dX0_sizeNotBelow_3 : decode cX0_sizeNotBelow 3 = .ok (.invokevirtual 22, 3) := by decide +kernel
theorem dX0_sizeNotBelow_6 : decode cX0_sizeNotBelow 6 = .ok (.iconst 1, 1) := by decide +kernel
theorem dX0_sizeNotBelow_7 : decode cX0_sizeNotBelow 7 = .ok (.isub, 1) := by decide +kernel
theorem dX0_sizeNotBelow_8 : decode cX0_sizeNotBelow 8 = .ok (.invokevirtual 25, 3) := by decide +kernel
theorem dX0_sizeNotBelow_11 : decode cX0_sizeNotBelow 11 = .ok (.lcmp, 1) := by decide +kernel
theorem dX0_sizeNotBelow_12 : decode cX0_sizeNotBelow 12 = .ok (.ifCond .le 7, 3) := by decide +kernel
theorem dX0_sizeNotBelow_15 : decode cX0_sizeNotBelow 15 = .ok (.ldc2_w 29, 3) := by decide +kernel
theorem dX0_sizeNotBelow_18 : decode cX0_sizeNotBelow 18 = .ok (.lreturn, 1) := by decide +kernel
theorem dX0_sizeNotBelow_19 : decode cX0_sizeNotBelow 19 = .ok (.aload_n 0, 1) := by decide +kernel
theorem dX0_sizeNotBelow_20 : decode cX0_sizeNotBelow 20 = .ok (.lload_n 1, 1) := by decide +kernel
theorem dX0_sizeNotBelow_21 : decode cX0_sizeNotBelow 21 = .ok (.invokevirtual 35, 3) := by decide +kernel
theorem dX0_sizeNotBelow_24 : decode cX0_sizeNotBelow 24 = .ok (.istore_n 3, 1) := by decide +kernel
theorem dX0_sizeNotBelow_25 : decode cX0_sizeNotBelow 25 = .ok (.lload_n 1, 1) := by decide +kernel
theorem dX0_sizeNotBelow_26 : decode cX0_sizeNotBelow 26 = .ok (.lconst 1, 1) := by decide +kernel
theorem dX0_sizeNotBelow_27 : decode cX0_sizeNotBelow 27 = .ok (.iload_n 3, 1) := by decide +kernel
theorem dX0_sizeNotBelow_28 : decode cX0_sizeNotBelow 28 = .ok (.lshl, 1) := by decide +kernel
theorem dX0_sizeNotBelow_29 : decode cX0_sizeNotBelow 29 = .ok (.ladd, 1) := by decide +kernel
theorem dX0_sizeNotBelow_30 : decode cX0_sizeNotBelow 30 = .ok (.lconst 1, 1) := by decide +kernel
theorem dX0_sizeNotBelow_31 : decode cX0_sizeNotBelow 31 = .ok (.lsub, 1) := by decide +kernel
theorem dX0_sizeNotBelow_32 : decode cX0_sizeNotBelow 32 = .ok (.iload_n 3, 1) := by decide +kernel
theorem dX0_sizeNotBelow_33 : decode cX0_sizeNotBelow 33 = .ok (.lshr, 1) := by decide +kernel
theorem dX0_sizeNotBelow_34 : decode cX0_sizeNotBelow 34 = .ok (.iload_n 3, 1) := by decide +kernel
theorem dX0_sizeNotBelow_35 : decode cX0_sizeNotBelow 35 = .ok (.lshl, 1) := by decide +kernel
theorem dX0_sizeNotBelow_36 : decode cX0_sizeNotBelow 36 = .ok (.lreturn, 1) := by decide +kernel
theorem dX0_patternOfHalf_0 : decode cX0_patternOfHalf 0 = .ok (.aload_n 0, 1) := by decide +kernel
theorem dX0_patternOfHalf_1 : decode cX0_patternOfHalf 1 = .ok (.lload_n 1, 1) := by decide +kernel
theorem dX0_patternOfHalf_2 : decode cX0_patternOfHalf 2 = .ok (.iconst 1, 1) := by decide +kernel
theorem dX0_patternOfHalf_3 : decode cX0_patternOfHalf 3 = .ok (.lshr, 1) := by decide +kernel
theorem dX0_patternOfHalf_4 : decode cX0_patternOfHalf 4 = .ok (.invokevirtual 47, 3) := by decide +kernel
theorem dX0_patternOfHalf_7 : decode cX0_patternOfHalf 7 = .ok (.lstore_n 3, 1) := by decide +kernel
theorem dX0_patternOfHalf_8 : decode cX0_patternOfHalf 8 = .ok (.aload_n 0, 1) := by decide +kernel
theorem dX0_patternOfHalf_9 : decode cX0_patternOfHalf 9 = .ok (.lload_n 1, 1) := by decide +kernel
theorem dX0_patternOfHalf_10 : decode cX0_patternOfHalf 10 = .ok (.lload_n 1, 1) := by decide +kernel
theorem dX0_patternOfHalf_11 : decode cX0_patternOfHalf 11 = .ok (.iconst 1, 1) := by decide +kernel
theorem dX0_patternOfHalf_12 : decode cX0_patternOfHalf 12 = .ok (.lshr, 1) := by decide +kernel
theorem dX0_patternOfHalf_13 : decode cX0_patternOfHalf 13 = .ok (.lsub, 1) := by decide +kernel
theorem dX0_patternOfHalf_14 : decode cX0_patternOfHalf 14 = .ok (.invokevirtual 50, 3) := by decide +kernel
theorem dX0_patternOfHalf_17 : decode cX0_patternOfHalf 17 = .ok (.lstore 5, 2) := by decide +kernel
theorem dX0_patternOfHalf_19 : decode cX0_patternOfHalf 19 = .ok (.lload_n 1, 1) := by decide +kernel
theorem dX0_patternOfHalf_20 : decode cX0_patternOfHalf 20 = .ok (.ldc2_w 38, 3) := by decide +kernel
theorem dX0_patternOfHalf_23 : decode cX0_patternOfHalf 23 = .ok (.lload_n 3, 1) := by decide +kernel
theorem dX0_patternOfHalf_24 : decode cX0_patternOfHalf 24 = .ok (.lmul, 1) := by decide +kernel
theorem dX0_patternOfHalf_25 : decode cX0_patternOfHalf 25 = .ok (.lsub, 1) := by decide +kernel
theorem dX0_patternOfHalf_26 : decode cX0_patternOfHalf 26 = .ok (.lstore 7, 2) := by decide +kernel
theorem dX0_patternOfHalf_28 : decode cX0_patternOfHalf 28 = .ok (.ldc2_w 38, 3) := by decide +kernel
theorem dX0_patternOfHalf_31 : decode cX0_patternOfHalf 31 = .ok (.lload 5, 2) := by decide +kernel
theorem dX0_patternOfHalf_33 : decode cX0_patternOfHalf 33 = .ok (.lmul, 1) := by decide +kernel
theorem dX0_patternOfHalf_34 : decode cX0_patternOfHalf 34 = .ok (.lload_n 1, 1) := by decide +kernel
theorem dX0_patternOfHalf_35 : decode cX0_patternOfHalf 35 = .ok (.lsub, 1) := by decide +kernel
theorem dX0_patternOfHalf_36 : decode cX0_patternOfHalf 36 = .ok (.lstore 9, 2) := by decide +kernel
theorem dX0_patternOfHalf_38 : decode cX0_patternOfHalf 38 = .ok (.aload_n 0, 1) := by decide +kernel
theorem dX0_patternOfHalf_39 : decode cX0_patternOfHalf 39 = .ok (.lload_n 3, 1) := by decide +kernel
theorem dX0_patternOfHalf_40 : decode cX0_patternOfHalf 40 = .ok (.invokevirtual 53, 3) := by decide +kernel
theorem dX0_patternOfHalf_43 : decode cX0_patternOfHalf 43 = .ok (.istore 11, 2) := by decide +kernel
theorem dX0_patternOfHalf_45 : decode cX0_patternOfHalf 45 = .ok (.lload 7, 2) := by decide +kernel
theorem dX0_patternOfHalf_47 : decode cX0_patternOfHalf 47 = .ok (.lload 9, 2) := by decide +kernel
theorem dX0_patternOfHalf_49 : decode cX0_patternOfHalf 49 = .ok (.lcmp, 1) := by decide +kernel
theorem dX0_patternOfHalf_50 : decode cX0_patternOfHalf 50 = .ok (.ifCond .lt 18, 3) := by decide +kernel
theorem dX0_patternOfHalf_53 : decode cX0_patternOfHalf 53 = .ok (.lload 7, 2) := by decide +kernel
theorem dX0_patternOfHalf_55 : decode cX0_patternOfHalf 55 = .ok (.lload 9, 2) := by decide +kernel
theorem dX0_patternOfHalf_57 : decode cX0_patternOfHalf 57 = .ok (.lcmp, 1) := by decide +kernel
theorem dX0_patternOfHalf_58 : decode cX0_patternOfHalf 58 = .ok (.ifCond .ne 14, 3) := by decide +kernel
theorem dX0_patternOfHalf_61 : decode cX0_patternOfHalf 61 = .ok (.iload 11, 2) := by decide +kernel
theorem dX0_patternOfHalf_63 : decode cX0_patternOfHalf 63 = .ok (.iconst 1, 1) := by decide +kernel
theorem dX0_patternOfHalf_64 : decode cX0_patternOfHalf 64 = .ok (.iand, 1) := by decide +kernel
theorem dX0_patternOfHalf_65 : decode cX0_patternOfHalf 65 = .ok (.ifCond .ne 7, 3) := by decide +kernel
theorem dX0_patternOfHalf_68 : decode cX0_patternOfHalf 68 = .ok (.iconst 1, 1) := by decide +kernel
theorem dX0_patternOfHalf_69 : decode cX0_patternOfHalf 69 = .ok (.goto 4, 3) := by decide +kernel
theorem dX0_patternOfHalf_72 : decode cX0_patternOfHalf 72 = .ok (.iconst 0, 1) := by decide +kernel
theorem dX0_patternOfHalf_73 : decode cX0_patternOfHalf 73 = .ok (.istore 12, 2) := by decide +kernel
theorem dX0_patternOfHalf_75 : decode cX0_patternOfHalf 75 = .ok (.iload 12, 2) := by decide +kernel
theorem dX0_patternOfHalf_77 : decode cX0_patternOfHalf 77 = .ok (.ifCond .eq 8, 3) := by decide +kernel
theorem dX0_patternOfHalf_80 : decode cX0_patternOfHalf 80 = .ok (.iload 11, 2) := by decide +kernel
theorem dX0_patternOfHalf_82 : decode cX0_patternOfHalf 82 = .ok (.goto 9, 3) := by decide +kernel
theorem dX0_patternOfHalf_85 : decode cX0_patternOfHalf 85 = .ok (.aload_n 0, 1) := by decide +kernel
theorem dX0_patternOfHalf_86 : decode cX0_patternOfHalf 86 = .ok (.lload 5, 2) := by decide +kernel
theorem dX0_patternOfHalf_88 : decode cX0_patternOfHalf 88 = .ok (.invokevirtual 53, 3) := by decide +kernel
theorem dX0_patternOfHalf_91 : decode cX0_patternOfHalf 91 = .ok (.ireturn, 1) := by decide +kernel
theorem dX1_init_0 : decode cX1_init 0 = .ok (.aload_n 0, 1) := by decide +kernel
theorem dX1_init_1 : decode cX1_init 1 = .ok (.invokespecial 3, 3) := by decide +kernel
theorem dX1_init_4 : decode cX1_init 4 = .ok (.aload_n 0, 1) := by decide +kernel
theorem dX1_init_5 : decode cX1_init 5 = .ok (.lconst 1, 1) := by decide +kernel
theorem dX1_init_6 : decode cX1_init 6 = .ok (.putfield 9, 3) := by decide +kernel
theorem dX1_init_9 : decode cX1_init 9 = .ok (.aload_n 0, 1) := by decide +kernel
theorem dX1_init_10 : decode cX1_init 10 = .ok (.lconst 0, 1) := by decide +kernel
theorem dX1_init_11 : decode cX1_init 11 = .ok (.putfield 15, 3) := by decide +kernel
theorem dX1_init_14 : decode cX1_init 14 = .ok (.return_, 1) := by decide +kernel
theorem dX1_become_0 : decode cX1_become 0 = .ok (.aload_n 0, 1) := by decide +kernel
theorem dX1_become_1 : decode cX1_become 1 = .ok (.lload_n 1, 1) := by decide +kernel
theorem dX1_become_2 : decode cX1_become 2 = .ok (.putfield 9, 3) := by decide +kernel
theorem dX1_become_5 : decode cX1_become 5 = .ok (.aload_n 0, 1) := by decide +kernel
theorem dX1_become_6 : decode cX1_become 6 = .ok (.lload_n 3, 1) := by decide +kernel
theorem dX1_become_7 : decode cX1_become 7 = .ok (.putfield 15, 3) := by decide +kernel
theorem dX1_become_10 : decode cX1_become 10 = .ok (.return_, 1) := by decide +kernel
theorem dX1_becomeEmpty_0 : decode cX1_becomeEmpty 0 = .ok (.aload_n 0, 1) := by decide +kernel
theorem dX1_becomeEmpty_1 : decode cX1_becomeEmpty 1 = .ok (.lconst 1, 1) := by decide +kernel
theorem dX1_becomeEmpty_2 : decode cX1_becomeEmpty 2 = .ok (.putfield 9, 3) := by decide +kernel
theorem dX1_becomeEmpty_5 : decode cX1_becomeEmpty 5 = .ok (.aload_n 0, 1) := by decide +kernel
theorem dX1_becomeEmpty_6 : decode cX1_becomeEmpty 6 = .ok (.lconst 0, 1) := by decide +kernel
theorem dX1_becomeEmpty_7 : decode cX1_becomeEmpty 7 = .ok (.putfield 15, 3) := by decide +kernel
theorem dX1_becomeEmpty_10 : decode cX1_becomeEmpty 10 = .ok (.return_, 1) := by decide +kernel
theorem dX1_isEmpty_0 : decode cX1_isEmpty 0 = .ok (.aload_n 0, 1) := by decide +kernel
theorem dX1_isEmpty_1 : decode cX1_isEmpty 1 = .ok (.getfield 9, 3) := by decide +kernel
theorem dX1_isEmpty_4 : decode cX1_isEmpty 4 = .ok (.aload_n 0, 1) := by decide +kernel
theorem dX1_isEmpty_5 : decode cX1_isEmpty 5 = .ok (.getfield 15, 3) := by decide +kernel
theorem dX1_isEmpty_8 : decode cX1_isEmpty 8 = .ok (.lcmp, 1) := by decide +kernel
theorem dX1_isEmpty_9 : decode cX1_isEmpty 9 = .ok (.ifCond .le 7, 3) := by decide +kernel
theorem dX1_isEmpty_12 : decode cX1_isEmpty 12 = .ok (.iconst 1, 1) := by decide +kernel
theorem dX1_isEmpty_13 : decode cX1_isEmpty 13 = .ok (.goto 4, 3) := by decide +kernel
theorem dX1_isEmpty_16 : decode cX1_isEmpty 16 = .ok (.iconst 0, 1) := by decide +kernel
theorem dX1_isEmpty_17 : decode cX1_isEmpty 17 = .ok (.ireturn, 1) := by decide +kernel
theorem dX1_lacksAnEnd_0 : decode cX1_lacksAnEnd 0 = .ok (.aload_n 0, 1) := by decide +kernel
theorem dX1_lacksAnEnd_1 : decode cX1_lacksAnEnd 1 = .ok (.getfield 9, 3) := by decide +kernel
theorem dX1_lacksAnEnd_4 : decode cX1_lacksAnEnd 4 = .ok (.ldc2_w 18, 3) := by decide +kernel
theorem dX1_lacksAnEnd_7 : decode cX1_lacksAnEnd 7 = .ok (.lcmp, 1) := by decide +kernel
theorem dX1_lacksAnEnd_8 : decode cX1_lacksAnEnd 8 = .ok (.ifCond .eq 14, 3) := by decide +kernel
theorem dX1_lacksAnEnd_11 : decode cX1_lacksAnEnd 11 = .ok (.aload_n 0, 1) := by decide +kernel
theorem dX1_lacksAnEnd_12 : decode cX1_lacksAnEnd 12 = .ok (.getfield 15, 3) := by decide +kernel
theorem dX1_lacksAnEnd_15 : decode cX1_lacksAnEnd 15 = .ok (.ldc2_w 20, 3) := by decide +kernel
theorem dX1_lacksAnEnd_18 : decode cX1_lacksAnEnd 18 = .ok (.lcmp, 1) := by decide +kernel
theorem dX1_lacksAnEnd_19 : decode cX1_lacksAnEnd 19 = .ok (.ifCond .ne 7, 3) := by decide +kernel
theorem dX1_lacksAnEnd_22 : decode cX1_lacksAnEnd 22 = .ok (.iconst 1, 1) := by decide +kernel
theorem dX1_lacksAnEnd_23 : decode cX1_lacksAnEnd 23 = .ok (.goto 4, 3) := by decide +kernel
theorem dX1_lacksAnEnd_26 : decode cX1_lacksAnEnd 26 = .ok (.iconst 0, 1) := by decide +kernel
theorem dX1_lacksAnEnd_27 : decode cX1_lacksAnEnd 27 = .ok (.ireturn, 1) := by decide +kernel
theorem dX1_holdsAllOf_0 : decode cX1_holdsAllOf 0 = .ok (.aload_n 0, 1) := by decide +kernel
theorem dX1_holdsAllOf_1 : decode cX1_holdsAllOf 1 = .ok (.getfield 9, 3) := by decide +kernel
theorem dX1_holdsAllOf_4 : decode cX1_holdsAllOf 4 = .ok (.aload_n 1, 1) := by decide +kernel
theorem dX1_holdsAllOf_5 : decode cX1_holdsAllOf 5 = .ok (.getfield 9, 3) := by decide +kernel
theorem dX1_holdsAllOf_8 : decode cX1_holdsAllOf 8 = .ok (.lcmp, 1) := by decide +kernel
theorem dX1_holdsAllOf_9 : decode cX1_holdsAllOf 9 = .ok (.ifCond .gt 19, 3) := by decide +kernel
theorem dX1_holdsAllOf_12 : decode cX1_holdsAllOf 12 = .ok (.aload_n 1, 1) := by decide +kernel
theorem dX1_holdsAllOf_13 : decode cX1_holdsAllOf 13 = .ok (.getfield 15, 3) := by decide +kernel
theorem dX1_holdsAllOf_16 : decode cX1_holdsAllOf 16 = .ok (.aload_n 0, 1) := by decide +kernel
theorem dX1_holdsAllOf_17 : decode cX1_holdsAllOf 17 = .ok (.getfield 15, 3) := by decide +kernel
theorem dX1_holdsAllOf_20 : decode cX1_holdsAllOf 20 = .ok (.lcmp, 1) := by decide +kernel
theorem dX1_holdsAllOf_21 : decode cX1_holdsAllOf 21 = .ok (.ifCond .gt 7, 3) := by decide +kernel
theorem dX1_holdsAllOf_24 : decode cX1_holdsAllOf 24 = .ok (.iconst 1, 1) := by decide +kernel
theorem dX1_holdsAllOf_25 : decode cX1_holdsAllOf 25 = .ok (.goto 4, 3) := by decide +kernel
theorem dX1_holdsAllOf_28 : decode cX1_holdsAllOf 28 = .ok (.iconst 0, 1) := by decide +kernel
theorem dX1_holdsAllOf_29 : decode cX1_holdsAllOf 29 = .ok (.ireturn, 1) := by decide +kernel
theorem dX1_kindNumber_0 : decode cX1_kindNumber 0 = .ok (.aload_n 0, 1) := by decide +kernel
theorem dX1_kindNumber_1 : decode cX1_kindNumber 1 = .ok (.invokevirtual 22, 3) := by decide +kernel
theorem dX1_kindNumber_4 : decode cX1_kindNumber 4 = .ok (.ifCond .eq 5, 3) := by decide +kernel
theorem dX1_kindNumber_7 : decode cX1_kindNumber 7 = .ok (.iconst 0, 1) := by decide +kernel
theorem dX1_kindNumber_8 : decode cX1_kindNumber 8 = .ok (.ireturn, 1) := by decide +kernel
theorem dX1_kindNumber_9 : decode cX1_kindNumber 9 = .ok (.aload_n 0, 1) := by decide +kernel
theorem dX1_kindNumber_10 : decode cX1_kindNumber 10 = .ok (.getfield 9, 3) := by decide +kernel
theorem dX1_kindNumber_13 : decode cX1_kindNumber 13 = .ok (.ldc2_w 18, 3) := by decide +kernel
theorem dX1_kindNumber_16 : decode cX1_kindNumber 16 = .ok (.lcmp, 1) := by decide +kernel
theorem dX1_kindNumber_17 : decode cX1_kindNumber 17 = .ok (.ifCond .ne 20, 3) := by decide +kernel
theorem dX1_kindNumber_20 : decode cX1_kindNumber 20 = .ok (.aload_n 0, 1) := by decide +kernel
theorem dX1_kindNumber_21 : decode cX1_kindNumber 21 = .ok (.getfield 15, 3) := by decide +kernel
theorem dX1_kindNumber_24 : decode cX1_kindNumber 24 = .ok (.ldc2_w 20, 3) := by decide +kernel
theorem dX1_kindNumber_27 : decode cX1_kindNumber 27 = .ok (.lcmp, 1) := by decide +kernel
theorem dX1_kindNumber_28 : decode cX1_kindNumber 28 = .ok (.ifCond .ne 7, 3) := by decide +kernel
theorem dX1_kindNumber_31 : decode cX1_kindNumber 31 = .ok (.iconst 5, 1) := by decide +kernel
theorem dX1_kindNumber_32 : decode cX1_kindNumber 32 = .ok (.goto 4, 3) := by decide +kernel
theorem dX1_kindNumber_35 : decode cX1_kindNumber 35 = .ok (.iconst 4, 1) := by decide +kernel
theorem dX1_kindNumber_36 : decode cX1_kindNumber 36 = .ok (.ireturn, 1) := by decide +kernel
theorem dX1_kindNumber_37 : decode cX1_kindNumber 37 = .ok (.aload_n 0, 1) := by decide +kernel
theorem dX1_kindNumber_38 : decode cX1_kindNumber 38 = .ok (.getfield 15, 3) := by decide +kernel
theorem dX1_kindNumber_41 : decode cX1_kindNumber 41 = .ok (.ldc2_w 20, 3) := by decide +kernel
theorem dX1_kindNumber_44 : decode cX1_kindNumber 44 = .ok (.lcmp, 1) := by decide +kernel
theorem dX1_kindNumber_45 : decode cX1_kindNumber 45 = .ok (.ifCond .ne 5, 3) := by decide +kernel
theorem dX1_kindNumber_48 : decode cX1_kindNumber 48 = .ok (.iconst 3, 1) := by decide +kernel
theorem dX1_kindNumber_49 : decode cX1_kindNumber 49 = .ok (.ireturn, 1) := by decide +kernel
theorem dX1_kindNumber_50 : decode cX1_kindNumber 50 = .ok (.aload_n 0, 1) := by decide +kernel
theorem dX1_kindNumber_51 : decode cX1_kindNumber 51 = .ok (.getfield 9, 3) := by decide +kernel
theorem dX1_kindNumber_54 : decode cX1_kindNumber 54 = .ok (.aload_n 0, 1) := by decide +kernel
theorem dX1_kindNumber_55 : decode cX1_kindNumber 55 = .ok (.getfield 15, 3) := by decide +kernel
theorem dX1_kindNumber_58 : decode cX1_kindNumber 58 = .ok (.lcmp, 1) := by decide +kernel
theorem dX1_kindNumber_59 : decode cX1_kindNumber 59 = .ok (.ifCond .ne 7, 3) := by decide +kernel
theorem dX1_kindNumber_62 : decode cX1_kindNumber 62 = .ok (.iconst 1, 1) := by decide +kernel
theorem dX1_kindNumber_63 : decode cX1_kindNumber 63 = .ok (.goto 4, 3) := by decide +kernel
theorem dX1_kindNumber_66 : decode cX1_kindNumber 66 = .ok (.iconst 2, 1) := by decide +kernel
theorem dX1_kindNumber_67 : decode cX1_kindNumber 67 = .ok (.ireturn, 1) := by decide +kernel
theorem dJM_floorDiv_0 : decode cJM_floorDiv 0 = .ok (.lload_n 0, 1) := by decide +kernel
theorem dJM_floorDiv_1 : decode cJM_floorDiv 1 = .ok (.lload_n 2, 1) := by decide +kernel
theorem dJM_floorDiv_2 : decode cJM_floorDiv 2 = .ok (.ldiv, 1) := by decide +kernel
theorem dJM_floorDiv_3 : decode cJM_floorDiv 3 = .ok (.lstore 4, 2) := by decide +kernel
theorem dJM_floorDiv_5 : decode cJM_floorDiv 5 = .ok (.lload_n 0, 1) := by decide +kernel
theorem dJM_floorDiv_6 : decode cJM_floorDiv 6 = .ok (.lload_n 2, 1) := by decide +kernel
theorem dJM_floorDiv_7 : decode cJM_floorDiv 7 = .ok (.lxor, 1) := by decide +kernel
theorem dJM_floorDiv_8 : decode cJM_floorDiv 8 = .ok (.lconst 0, 1) := by decide +kernel
theorem dJM_floorDiv_9 : decode cJM_floorDiv 9 = .ok (.lcmp, 1) := by decide +kernel
theorem dJM_floorDiv_10 : decode cJM_floorDiv 10 = .ok (.ifCond .ge 17, 3) := by decide +kernel
theorem dJM_floorDiv_13 : decode cJM_floorDiv 13 = .ok (.lload 4, 2) := by decide +kernel
theorem dJM_floorDiv_15 : decode cJM_floorDiv 15 = .ok (.lload_n 2, 1) := by decide +kernel
theorem dJM_floorDiv_16 : decode cJM_floorDiv 16 = .ok (.lmul, 1) := by decide +kernel
theorem dJM_floorDiv_17 : decode cJM_floorDiv 17 = .ok (.lload_n 0, 1) := by decide +kernel
theorem dJM_floorDiv_18 : decode cJM_floorDiv 18 = .ok (.lcmp, 1) := by decide +kernel
theorem dJM_floorDiv_19 : decode cJM_floorDiv 19 = .ok (.ifCond .eq 8, 3) := by decide +kernel
theorem dJM_floorDiv_22 : decode cJM_floorDiv 22 = .ok (.lload 4, 2) := by decide +kernel
theorem dJM_floorDiv_24 : decode cJM_floorDiv 24 = .ok (.lconst 1, 1) := by decide +kernel
theorem dJM_floorDiv_25 : decode cJM_floorDiv 25 = .ok (.lsub, 1) := by decide +kernel
theorem dJM_floorDiv_26 : decode cJM_floorDiv 26 = .ok (.lreturn, 1) := by decide +kernel
theorem dJM_floorDiv_27 : decode cJM_floorDiv 27 = .ok (.lload 4, 2) := by decide +kernel
theorem dJM_floorDiv_29 : decode cJM_floorDiv 29 = .ok (.lreturn, 1) := by decide +kernel
end
section
theorem dX2_init_0 : decode cX2_init 0 = .ok (.aload_n 0, 1) := by decide +kernel
theorem dX2_init_1 : decode cX2_init 1 = .ok (.invokespecial 1, 3) := by decide +kernel
theorem dX2_init_4 : decode cX2_init 4 = .ok (.aload_n 0, 1) := by decide +kernel
theorem dX2_init_5 : decode cX2_init 5 = .ok (.new 7, 3) := by decide +kernel
theorem dX2_init_8 : decode cX2_init 8 = .ok (.dup, 1) := by decide +kernel
theorem dX2_init_9 : decode cX2_init 9 = .ok (.iconst 4, 1) := by decide +kernel
theorem dX2_init_10 : decode cX2_init 10 = .ok (.bipush 10, 2) := by decide +kernel
theorem dX2_init_12 : decode cX2_init 12 = .ok (.invokespecial 9, 3) := by decide +kernel
theorem dX2_init_15 : decode cX2_init 15 = .ok (.putfield 12, 3) := by decide +kernel
theorem dX2_init_18 : decode cX2_init 18 = .ok (.aload_n 0, 1) := by decide +kernel
theorem dX2_init_19 : decode cX2_init 19 = .ok (.bipush 8, 2) := by decide +kernel
theorem dX2_init_21 : decode cX2_init 21 = .ok (.anewarray 18, 3) := by decide +kernel
theorem dX2_init_24 : decode cX2_init 24 = .ok (.putfield 20, 3) := by decide +kernel
theorem dX2_init_27 : decode cX2_init 27 = .ok (.iconst 0, 1) := by decide +kernel
theorem dX2_init_28 : decode cX2_init 28 = .ok (.istore_n 1, 1) := by decide +kernel
theorem dX2_init_29 : decode cX2_init 29 = .ok (.iload_n 1, 1) := by decide +kernel
theorem dX2_init_30 : decode cX2_init 30 = .ok (.bipush 8, 2) := by decide +kernel
theorem dX2_init_32 : decode cX2_init 32 = .ok (.if_icmp .ge 22, 3) := by decide +kernel
theorem dX2_init_35 : decode cX2_init 35 = .ok (.aload_n 0, 1) := by decide +kernel
theorem dX2_init_36 : decode cX2_init 36 = .ok (.getfield 20, 3) := by decide +kernel
theorem dX2_init_39 : decode cX2_init 39 = .ok (.iload_n 1, 1) := by decide +kernel
theorem dX2_init_40 : decode cX2_init 40 = .ok (.new 18, 3) := by decide +kernel
theorem dX2_init_43 : decode cX2_init 43 = .ok (.dup, 1) := by decide +kernel
theorem dX2_init_44 : decode cX2_init 44 = .ok (.invokespecial 24, 3) := by decide +kernel
theorem dX2_init_47 : decode cX2_init 47 = .ok (.aastore, 1) := by decide +kernel
theorem dX2_init_48 : decode cX2_init 48 = .ok (.iinc 1 1, 3) := by decide +kernel
theorem dX2_init_51 : decode cX2_init 51 = .ok (.goto (-22), 3) := by decide +kernel
theorem dX2_init_54 : decode cX2_init 54 = .ok (.aload_n 0, 1) := by decide +kernel
theorem dX2_init_55 : decode cX2_init 55 = .ok (.new 18, 3) := by decide +kernel
theorem dX2_init_58 : decode cX2_init 58 = .ok (.dup, 1) := by decide +kernel
theorem dX2_init_59 : decode cX2_init 59 = .ok (.invokespecial 24, 3) := by decide +kernel
theorem dX2_init_62 : decode cX2_init 62 = .ok (.putfield 25, 3) := by decide +kernel
theorem dX2_init_65 : decode cX2_init 65 = .ok (.aload_n 0, 1) := by decide +kernel
theorem dX2_init_66 : decode cX2_init 66 = .ok (.new 18, 3) := by decide +kernel
theorem dX2_init_69 : decode cX2_init 69 = .ok (.dup, 1) := by decide +kernel
theorem dX2_init_70 : decode cX2_init 70 = .ok (.invokespecial 24, 3) := by decide +kernel
theorem dX2_init_73 : decode cX2_init 73 = .ok (.putfield 29, 3) := by decide +kernel
theorem dX2_init_76 : decode cX2_init 76 = .ok (.return_, 1) := by decide +kernel
theorem dX2_format_0 : decode cX2_format 0 = .ok (.iload_n 1, 1) := by decide +kernel
theorem dX2_format_1 : decode cX2_format 1 = .ok (.iconst 2, 1) := by decide +kernel
theorem dX2_format_2 : decode cX2_format 2 = .ok (.if_icmp .lt 19, 3) := by decide +kernel
theorem dX2_format_5 : decode cX2_format 5 = .ok (.iload_n 1, 1) := by decide +kernel
theorem dX2_format_6 : decode cX2_format 6 = .ok (.iconst 4, 1) := by decide +kernel
theorem dX2_format_7 : decode cX2_format 7 = .ok (.if_icmp .gt 14, 3) := by decide +kernel
theorem dX2_format_10 : decode cX2_format 10 = .ok (.iload_n 2, 1) := by decide +kernel
theorem dX2_format_11 : decode cX2_format 11 = .ok (.iconst 1, 1) := by decide +kernel
theorem dX2_format_12 : decode cX2_format 12 = .ok (.if_icmp .lt 9, 3) := by decide +kernel
theorem dX2_format_15 : decode cX2_format 15 = .ok (.iload_n 2, 1) := by decide +kernel
theorem dX2_format_16 : decode cX2_format 16 = .ok (.bipush 10, 2) := by decide +kernel
theorem dX2_format_18 : decode cX2_format 18 = .ok (.if_icmp .le 5, 3) := by decide +kernel
theorem dX2_format_21 : decode cX2_format 21 = .ok (.iconst 0, 1) := by decide +kernel
theorem dX2_format_22 : decode cX2_format 22 = .ok (.ireturn, 1) := by decide +kernel
theorem dX2_format_23 : decode cX2_format 23 = .ok (.aload_n 0, 1) := by decide +kernel
theorem dX2_format_24 : decode cX2_format 24 = .ok (.getfield 12, 3) := by decide +kernel
theorem dX2_format_27 : decode cX2_format 27 = .ok (.iload_n 1, 1) := by decide +kernel
theorem dX2_format_28 : decode cX2_format 28 = .ok (.putfield 32, 3) := by decide +kernel
theorem dX2_format_31 : decode cX2_format 31 = .ok (.aload_n 0, 1) := by decide +kernel
theorem dX2_format_32 : decode cX2_format 32 = .ok (.getfield 12, 3) := by decide +kernel
theorem dX2_format_35 : decode cX2_format 35 = .ok (.iload_n 2, 1) := by decide +kernel
theorem dX2_format_36 : decode cX2_format 36 = .ok (.putfield 36, 3) := by decide +kernel
theorem dX2_format_39 : decode cX2_format 39 = .ok (.iconst 0, 1) := by decide +kernel
theorem dX2_format_40 : decode cX2_format 40 = .ok (.istore_n 3, 1) := by decide +kernel
theorem dX2_format_41 : decode cX2_format 41 = .ok (.iload_n 3, 1) := by decide +kernel
theorem dX2_format_42 : decode cX2_format 42 = .ok (.bipush 8, 2) := by decide +kernel
theorem dX2_format_44 : decode cX2_format 44 = .ok (.if_icmp .ge 18, 3) := by decide +kernel
theorem dX2_format_47 : decode cX2_format 47 = .ok (.aload_n 0, 1) := by decide +kernel
theorem dX2_format_48 : decode cX2_format 48 = .ok (.getfield 20, 3) := by decide +kernel
theorem dX2_format_51 : decode cX2_format 51 = .ok (.iload_n 3, 1) := by decide +kernel
theorem dX2_format_52 : decode cX2_format 52 = .ok (.aaload, 1) := by decide +kernel
theorem dX2_format_53 : decode cX2_format 53 = .ok (.invokevirtual 39, 3) := by decide +kernel
theorem dX2_format_56 : decode cX2_format 56 = .ok (.iinc 3 1, 3) := by decide +kernel
theorem dX2_format_59 : decode cX2_format 59 = .ok (.goto (-18), 3) := by decide +kernel
theorem dX2_format_62 : decode cX2_format 62 = .ok (.iconst 1, 1) := by decide +kernel
theorem dX2_format_63 : decode cX2_format 63 = .ok (.ireturn, 1) := by decide +kernel
theorem dX2_set_0 : decode cX2_set 0 = .ok (.iload_n 1, 1) := by decide +kernel
theorem dX2_set_1 : decode cX2_set 1 = .ok (.invokestatic 42, 3) := by decide +kernel
theorem dX2_set_4 : decode cX2_set 4 = .ok (.ifCond .eq 25, 3) := by decide +kernel
theorem dX2_set_7 : decode cX2_set 7 = .ok (.aload_n 0, 1) := by decide +kernel
theorem dX2_set_8 : decode cX2_set 8 = .ok (.getfield 12, 3) := by decide +kernel
theorem dX2_set_11 : decode cX2_set 11 = .ok (.iload_n 2, 1) := by decide +kernel
theorem dX2_set_12 : decode cX2_set 12 = .ok (.invokevirtual 46, 3) := by decide +kernel
theorem dX2_set_15 : decode cX2_set 15 = .ok (.ifCond .eq 14, 3) := by decide +kernel
theorem dX2_set_18 : decode cX2_set 18 = .ok (.aload_n 0, 1) := by decide +kernel
theorem dX2_set_19 : decode cX2_set 19 = .ok (.getfield 12, 3) := by decide +kernel
theorem dX2_set_22 : decode cX2_set 22 = .ok (.iload_n 3, 1) := by decide +kernel
theorem dX2_set_23 : decode cX2_set 23 = .ok (.invokevirtual 46, 3) := by decide +kernel
theorem dX2_set_26 : decode cX2_set 26 = .ok (.ifCond .ne 5, 3) := by decide +kernel
theorem dX2_set_29 : decode cX2_set 29 = .ok (.iconst 0, 1) := by decide +kernel
theorem dX2_set_30 : decode cX2_set 30 = .ok (.ireturn, 1) := by decide +kernel
theorem dX2_set_31 : decode cX2_set 31 = .ok (.aload_n 0, 1) := by decide +kernel
theorem dX2_set_32 : decode cX2_set 32 = .ok (.getfield 12, 3) := by decide +kernel
theorem dX2_set_35 : decode cX2_set 35 = .ok (.iload_n 2, 1) := by decide +kernel
theorem dX2_set_36 : decode cX2_set 36 = .ok (.invokevirtual 49, 3) := by decide +kernel
theorem dX2_set_39 : decode cX2_set 39 = .ok (.lstore 4, 2) := by decide +kernel
theorem dX2_set_41 : decode cX2_set 41 = .ok (.aload_n 0, 1) := by decide +kernel
theorem dX2_set_42 : decode cX2_set 42 = .ok (.getfield 12, 3) := by decide +kernel
theorem dX2_set_45 : decode cX2_set 45 = .ok (.iload_n 3, 1) := by decide +kernel
theorem dX2_set_46 : decode cX2_set 46 = .ok (.invokevirtual 49, 3) := by decide +kernel
theorem dX2_set_49 : decode cX2_set 49 = .ok (.lstore 6, 2) := by decide +kernel
theorem dX2_set_51 : decode cX2_set 51 = .ok (.lload 4, 2) := by decide +kernel
theorem dX2_set_53 : decode cX2_set 53 = .ok (.ldc2_w 53, 3) := by decide +kernel
theorem dX2_set_56 : decode cX2_set 56 = .ok (.lcmp, 1) := by decide +kernel
theorem dX2_set_57 : decode cX2_set 57 = .ok (.ifCond .eq 20, 3) := by decide +kernel
theorem dX2_set_60 : decode cX2_set 60 = .ok (.lload 6, 2) := by decide +kernel
theorem dX2_set_62 : decode cX2_set 62 = .ok (.ldc2_w 55, 3) := by decide +kernel
theorem dX2_set_65 : decode cX2_set 65 = .ok (.lcmp, 1) := by decide +kernel
theorem dX2_set_66 : decode cX2_set 66 = .ok (.ifCond .eq 11, 3) := by decide +kernel
theorem dX2_set_69 : decode cX2_set 69 = .ok (.lload 4, 2) := by decide +kernel
theorem dX2_set_71 : decode cX2_set 71 = .ok (.lload 6, 2) := by decide +kernel
theorem dX2_set_73 : decode cX2_set 73 = .ok (.lcmp, 1) := by decide +kernel
theorem dX2_set_74 : decode cX2_set 74 = .ok (.ifCond .le 5, 3) := by decide +kernel
theorem dX2_set_77 : decode cX2_set 77 = .ok (.iconst 0, 1) := by decide +kernel
theorem dX2_set_78 : decode cX2_set 78 = .ok (.ireturn, 1) := by decide +kernel
theorem dX2_set_79 : decode cX2_set 79 = .ok (.aload_n 0, 1) := by decide +kernel
theorem dX2_set_80 : decode cX2_set 80 = .ok (.getfield 20, 3) := by decide +kernel
theorem dX2_set_83 : decode cX2_set 83 = .ok (.iload_n 1, 1) := by decide +kernel
theorem dX2_set_84 : decode cX2_set 84 = .ok (.aaload, 1) := by decide +kernel
theorem dX2_set_85 : decode cX2_set 85 = .ok (.lload 4, 2) := by decide +kernel
theorem dX2_set_87 : decode cX2_set 87 = .ok (.lload 6, 2) := by decide +kernel
theorem dX2_set_89 : decode cX2_set 89 = .ok (.invokevirtual 57, 3) := by decide +kernel
theorem dX2_set_92 : decode cX2_set 92 = .ok (.iconst 1, 1) := by decide +kernel
theorem dX2_set_93 : decode cX2_set 93 = .ok (.ireturn, 1) := by decide +kernel
theorem dX2_clear_0 : decode cX2_clear 0 = .ok (.iload_n 1, 1) := by decide +kernel
theorem dX2_clear_1 : decode cX2_clear 1 = .ok (.invokestatic 42, 3) := by decide +kernel
theorem dX2_clear_4 : decode cX2_clear 4 = .ok (.ifCond .ne 5, 3) := by decide +kernel
theorem dX2_clear_7 : decode cX2_clear 7 = .ok (.iconst 0, 1) := by decide +kernel
theorem dX2_clear_8 : decode cX2_clear 8 = .ok (.ireturn, 1) := by decide +kernel
theorem dX2_clear_9 : decode cX2_clear 9 = .ok (.aload_n 0, 1) := by decide +kernel
theorem dX2_clear_10 : decode cX2_clear 10 = .ok (.getfield 20, 3) := by decide +kernel
theorem dX2_clear_13 : decode cX2_clear 13 = .ok (.iload_n 1, 1) := by decide +kernel
theorem dX2_clear_14 : decode cX2_clear 14 = .ok (.aaload, 1) := by decide +kernel
theorem dX2_clear_15 : decode cX2_clear 15 = .ok (.invokevirtual 39, 3) := by decide +kernel
theorem dX2_clear_18 : decode cX2_clear 18 = .ok (.iconst 1, 1) := by decide +kernel
theorem dX2_clear_19 : decode cX2_clear 19 = .ok (.ireturn, 1) := by decide +kernel
theorem dX2_does_0 : decode cX2_does 0 = .ok (.iload_n 1, 1) := by decide +kernel
theorem dX2_does_1 : decode cX2_does 1 = .ok (.ifCond .lt 9, 3) := by decide +kernel
theorem dX2_does_4 : decode cX2_does 4 = .ok (.iload_n 1, 1) := by decide +kernel
theorem dX2_does_5 : decode cX2_does 5 = .ok (.bipush 11, 2) := by decide +kernel
theorem dX2_does_7 : decode cX2_does 7 = .ok (.if_icmp .le 13, 3) := by decide +kernel
theorem dX2_does_10 : decode cX2_does 10 = .ok (.new 61, 3) := by decide +kernel
theorem dX2_does_13 : decode cX2_does 13 = .ok (.dup, 1) := by decide +kernel
theorem dX2_does_14 : decode cX2_does 14 = .ok (.ldc 63, 2) := by decide +kernel
theorem dX2_does_16 : decode cX2_does 16 = .ok (.invokespecial 65, 3) := by decide +kernel
theorem dX2_does_19 : decode cX2_does 19 = .ok (.athrow, 1) := by decide +kernel
theorem dX2_does_20 : decode cX2_does 20 = .ok (.iload_n 1, 1) := by decide +kernel
theorem dX2_does_21 : decode cX2_does 21 = .ok (.bipush 8, 2) := by decide +kernel
theorem dX2_does_23 : decode cX2_does 23 = .ok (.if_icmp .lt 7, 3) := by decide +kernel
theorem dX2_does_26 : decode cX2_does 26 = .ok (.iconst 1, 1) := by decide +kernel
theorem dX2_does_27 : decode cX2_does 27 = .ok (.goto 4, 3) := by decide +kernel
theorem dX2_does_30 : decode cX2_does 30 = .ok (.iconst 0, 1) := by decide +kernel
theorem dX2_does_31 : decode cX2_does 31 = .ok (.istore 5, 2) := by decide +kernel
theorem dX2_does_33 : decode cX2_does 33 = .ok (.iload_n 2, 1) := by decide +kernel
theorem dX2_does_34 : decode cX2_does 34 = .ok (.invokestatic 42, 3) := by decide +kernel
theorem dX2_does_37 : decode cX2_does 37 = .ok (.ifCond .eq 23, 3) := by decide +kernel
theorem dX2_does_40 : decode cX2_does 40 = .ok (.iload_n 3, 1) := by decide +kernel
theorem dX2_does_41 : decode cX2_does 41 = .ok (.invokestatic 42, 3) := by decide +kernel
theorem dX2_does_44 : decode cX2_does 44 = .ok (.ifCond .eq 16, 3) := by decide +kernel
theorem dX2_does_47 : decode cX2_does 47 = .ok (.iload 5, 2) := by decide +kernel
theorem dX2_does_49 : decode cX2_does 49 = .ok (.ifCond .ne 21, 3) := by decide +kernel
theorem dX2_does_52 : decode cX2_does 52 = .ok (.iload 4, 2) := by decide +kernel
theorem dX2_does_54 : decode cX2_does 54 = .ok (.invokestatic 42, 3) := by decide +kernel
theorem dX2_does_57 : decode cX2_does 57 = .ok (.ifCond .ne 13, 3) := by decide +kernel
theorem dX2_does_60 : decode cX2_does 60 = .ok (.new 61, 3) := by decide +kernel
theorem dX2_does_63 : decode cX2_does 63 = .ok (.dup, 1) := by decide +kernel
theorem dX2_does_64 : decode cX2_does 64 = .ok (.ldc 68, 2) := by decide +kernel
theorem dX2_does_66 : decode cX2_does 66 = .ok (.invokespecial 65, 3) := by decide +kernel
theorem dX2_does_69 : decode cX2_does 69 = .ok (.athrow, 1) := by decide +kernel
theorem dX2_does_70 : decode cX2_does 70 = .ok (.iload 5, 2) := by decide +kernel
theorem dX2_does_72 : decode cX2_does 72 = .ok (.ifCond .eq 17, 3) := by decide +kernel
theorem dX2_does_75 : decode cX2_does 75 = .ok (.aload_n 0, 1) := by decide +kernel
theorem dX2_does_76 : decode cX2_does 76 = .ok (.iload_n 1, 1) := by decide +kernel
theorem dX2_does_77 : decode cX2_does 77 = .ok (.aload_n 0, 1) := by decide +kernel
theorem dX2_does_78 : decode cX2_does 78 = .ok (.getfield 20, 3) := by decide +kernel
theorem dX2_does_81 : decode cX2_does 81 = .ok (.iload_n 3, 1) := by decide +kernel
theorem dX2_does_82 : decode cX2_does 82 = .ok (.aaload, 1) := by decide +kernel
theorem dX2_does_83 : decode cX2_does 83 = .ok (.invokevirtual 70, 3) := by decide +kernel
theorem dX2_does_86 : decode cX2_does 86 = .ok (.goto 21, 3) := by decide +kernel
theorem dX2_does_89 : decode cX2_does 89 = .ok (.aload_n 0, 1) := by decide +kernel
theorem dX2_does_90 : decode cX2_does 90 = .ok (.iload_n 1, 1) := by decide +kernel
theorem dX2_does_91 : decode cX2_does 91 = .ok (.aload_n 0, 1) := by decide +kernel
theorem dX2_does_92 : decode cX2_does 92 = .ok (.getfield 20, 3) := by decide +kernel
theorem dX2_does_95 : decode cX2_does 95 = .ok (.iload_n 3, 1) := by decide +kernel
theorem dX2_does_96 : decode cX2_does 96 = .ok (.aaload, 1) := by decide +kernel
theorem dX2_does_97 : decode cX2_does 97 = .ok (.aload_n 0, 1) := by decide +kernel
theorem dX2_does_98 : decode cX2_does 98 = .ok (.getfield 20, 3) := by decide +kernel
theorem dX2_does_101 : decode cX2_does 101 = .ok (.iload 4, 2) := by decide +kernel
theorem dX2_does_103 : decode cX2_does 103 = .ok (.aaload, 1) := by decide +kernel
theorem dX2_does_104 : decode cX2_does 104 = .ok (.invokevirtual 74, 3) := by decide +kernel
theorem dX2_does_107 : decode cX2_does 107 = .ok (.aload_n 0, 1) := by decide +kernel
theorem dX2_does_108 : decode cX2_does 108 = .ok (.aload_n 0, 1) := by decide +kernel
theorem dX2_does_109 : decode cX2_does 109 = .ok (.getfield 25, 3) := by decide +kernel
theorem dX2_does_112 : decode cX2_does 112 = .ok (.aload_n 0, 1) := by decide +kernel
theorem dX2_does_113 : decode cX2_does 113 = .ok (.getfield 20, 3) := by decide +kernel
theorem dX2_does_116 : decode cX2_does 116 = .ok (.iload_n 2, 1) := by decide +kernel
theorem dX2_does_117 : decode cX2_does 117 = .ok (.aaload, 1) := by decide +kernel
theorem dX2_does_118 : decode cX2_does 118 = .ok (.invokevirtual 78, 3) := by decide +kernel
theorem dX2_does_121 : decode cX2_does 121 = .ok (.ireturn, 1) := by decide +kernel
theorem dX2_part_0 : decode cX2_part 0 = .ok (.iload_n 1, 1) := by decide +kernel
theorem dX2_part_1 : decode cX2_part 1 = .ok (.invokestatic 42, 3) := by decide +kernel
theorem dX2_part_4 : decode cX2_part 4 = .ok (.ifCond .eq 26, 3) := by decide +kernel
theorem dX2_part_7 : decode cX2_part 7 = .ok (.iload_n 1, 1) := by decide +kernel
theorem dX2_part_8 : decode cX2_part 8 = .ok (.iconst 1, 1) := by decide +kernel
theorem dX2_part_9 : decode cX2_part 9 = .ok (.iadd, 1) := by decide +kernel
theorem dX2_part_10 : decode cX2_part 10 = .ok (.invokestatic 42, 3) := by decide +kernel
theorem dX2_part_13 : decode cX2_part 13 = .ok (.ifCond .eq 17, 3) := by decide +kernel
theorem dX2_part_16 : decode cX2_part 16 = .ok (.iload_n 2, 1) := by decide +kernel
theorem dX2_part_17 : decode cX2_part 17 = .ok (.invokestatic 42, 3) := by decide +kernel
theorem dX2_part_20 : decode cX2_part 20 = .ok (.ifCond .eq 10, 3) := by decide +kernel
theorem dX2_part_23 : decode cX2_part 23 = .ok (.iload_n 3, 1) := by decide +kernel
theorem dX2_part_24 : decode cX2_part 24 = .ok (.invokestatic 42, 3) := by decide +kernel
theorem dX2_part_27 : decode cX2_part 27 = .ok (.ifCond .ne 13, 3) := by decide +kernel
theorem dX2_part_30 : decode cX2_part 30 = .ok (.new 61, 3) := by decide +kernel
theorem dX2_part_33 : decode cX2_part 33 = .ok (.dup, 1) := by decide +kernel
theorem dX2_part_34 : decode cX2_part 34 = .ok (.ldc 68, 2) := by decide +kernel
theorem dX2_part_36 : decode cX2_part 36 = .ok (.invokespecial 65, 3) := by decide +kernel
theorem dX2_part_39 : decode cX2_part 39 = .ok (.athrow, 1) := by decide +kernel
theorem dX2_part_40 : decode cX2_part 40 = .ok (.aload_n 0, 1) := by decide +kernel
theorem dX2_part_41 : decode cX2_part 41 = .ok (.aload_n 0, 1) := by decide +kernel
theorem dX2_part_42 : decode cX2_part 42 = .ok (.getfield 20, 3) := by decide +kernel
theorem dX2_part_45 : decode cX2_part 45 = .ok (.iload_n 2, 1) := by decide +kernel
theorem dX2_part_46 : decode cX2_part 46 = .ok (.aaload, 1) := by decide +kernel
theorem dX2_part_47 : decode cX2_part 47 = .ok (.aload_n 0, 1) := by decide +kernel
theorem dX2_part_48 : decode cX2_part 48 = .ok (.getfield 20, 3) := by decide +kernel
theorem dX2_part_51 : decode cX2_part 51 = .ok (.iload_n 3, 1) := by decide +kernel
theorem dX2_part_52 : decode cX2_part 52 = .ok (.aaload, 1) := by decide +kernel
theorem dX2_part_53 : decode cX2_part 53 = .ok (.invokevirtual 82, 3) := by decide +kernel
theorem dX2_part_56 : decode cX2_part 56 = .ok (.aload_n 0, 1) := by decide +kernel
theorem dX2_part_57 : decode cX2_part 57 = .ok (.aload_n 0, 1) := by decide +kernel
theorem dX2_part_58 : decode cX2_part 58 = .ok (.getfield 25, 3) := by decide +kernel
theorem dX2_part_61 : decode cX2_part 61 = .ok (.aload_n 0, 1) := by decide +kernel
theorem dX2_part_62 : decode cX2_part 62 = .ok (.getfield 20, 3) := by decide +kernel
theorem dX2_part_65 : decode cX2_part 65 = .ok (.iload_n 1, 1) := by decide +kernel
theorem dX2_part_66 : decode cX2_part 66 = .ok (.aaload, 1) := by decide +kernel
theorem dX2_part_67 : decode cX2_part 67 = .ok (.invokevirtual 78, 3) := by decide +kernel
theorem dX2_part_70 : decode cX2_part 70 = .ok (.istore 4, 2) := by decide +kernel
theorem dX2_part_72 : decode cX2_part 72 = .ok (.aload_n 0, 1) := by decide +kernel
theorem dX2_part_73 : decode cX2_part 73 = .ok (.aload_n 0, 1) := by decide +kernel
theorem dX2_part_74 : decode cX2_part 74 = .ok (.getfield 29, 3) := by decide +kernel
theorem dX2_part_77 : decode cX2_part 77 = .ok (.aload_n 0, 1) := by decide +kernel
theorem dX2_part_78 : decode cX2_part 78 = .ok (.getfield 20, 3) := by decide +kernel
theorem dX2_part_81 : decode cX2_part 81 = .ok (.iload_n 1, 1) := by decide +kernel
theorem dX2_part_82 : decode cX2_part 82 = .ok (.iconst 1, 1) := by decide +kernel
theorem dX2_part_83 : decode cX2_part 83 = .ok (.iadd, 1) := by decide +kernel
theorem dX2_part_84 : decode cX2_part 84 = .ok (.aaload, 1) := by decide +kernel
theorem dX2_part_85 : decode cX2_part 85 = .ok (.invokevirtual 78, 3) := by decide +kernel
theorem dX2_part_88 : decode cX2_part 88 = .ok (.istore 5, 2) := by decide +kernel
theorem dX2_part_90 : decode cX2_part 90 = .ok (.iload 4, 2) := by decide +kernel
theorem dX2_part_92 : decode cX2_part 92 = .ok (.bipush 8, 2) := by decide +kernel
theorem dX2_part_94 : decode cX2_part 94 = .ok (.iload 5, 2) := by decide +kernel
theorem dX2_part_96 : decode cX2_part 96 = .ok (.imul, 1) := by decide +kernel
theorem dX2_part_97 : decode cX2_part 97 = .ok (.iadd, 1) := by decide +kernel
theorem dX2_part_98 : decode cX2_part 98 = .ok (.ireturn, 1) := by decide +kernel
theorem dX2_sum_0 : decode cX2_sum 0 = .ok (.iload_n 1, 1) := by decide +kernel
theorem dX2_sum_1 : decode cX2_sum 1 = .ok (.invokestatic 42, 3) := by decide +kernel
theorem dX2_sum_4 : decode cX2_sum 4 = .ok (.ifCond .eq 10, 3) := by decide +kernel
theorem dX2_sum_7 : decode cX2_sum 7 = .ok (.iload_n 2, 1) := by decide +kernel
theorem dX2_sum_8 : decode cX2_sum 8 = .ok (.invokestatic 42, 3) := by decide +kernel
theorem dX2_sum_11 : decode cX2_sum 11 = .ok (.ifCond .ne 13, 3) := by decide +kernel
theorem dX2_sum_14 : decode cX2_sum 14 = .ok (.new 61, 3) := by decide +kernel
theorem dX2_sum_17 : decode cX2_sum 17 = .ok (.dup, 1) := by decide +kernel
theorem dX2_sum_18 : decode cX2_sum 18 = .ok (.ldc 68, 2) := by decide +kernel
theorem dX2_sum_20 : decode cX2_sum 20 = .ok (.invokespecial 65, 3) := by decide +kernel
theorem dX2_sum_23 : decode cX2_sum 23 = .ok (.athrow, 1) := by decide +kernel
theorem dX2_sum_24 : decode cX2_sum 24 = .ok (.iload_n 3, 1) := by decide +kernel
theorem dX2_sum_25 : decode cX2_sum 25 = .ok (.iconst 1, 1) := by decide +kernel
theorem dX2_sum_26 : decode cX2_sum 26 = .ok (.if_icmp .lt 11, 3) := by decide +kernel
theorem dX2_sum_29 : decode cX2_sum 29 = .ok (.iload_n 3, 1) := by decide +kernel
theorem dX2_sum_30 : decode cX2_sum 30 = .ok (.bipush 8, 2) := by decide +kernel
theorem dX2_sum_32 : decode cX2_sum 32 = .ok (.iload_n 2, 1) := by decide +kernel
theorem dX2_sum_33 : decode cX2_sum 33 = .ok (.isub, 1) := by decide +kernel
theorem dX2_sum_34 : decode cX2_sum 34 = .ok (.if_icmp .le 13, 3) := by decide +kernel
theorem dX2_sum_37 : decode cX2_sum 37 = .ok (.new 61, 3) := by decide +kernel
theorem dX2_sum_40 : decode cX2_sum 40 = .ok (.dup, 1) := by decide +kernel
theorem dX2_sum_41 : decode cX2_sum 41 = .ok (.ldc 86, 2) := by decide +kernel
theorem dX2_sum_43 : decode cX2_sum 43 = .ok (.invokespecial 65, 3) := by decide +kernel
theorem dX2_sum_46 : decode cX2_sum 46 = .ok (.athrow, 1) := by decide +kernel
theorem dX2_sum_47 : decode cX2_sum 47 = .ok (.aload_n 0, 1) := by decide +kernel
theorem dX2_sum_48 : decode cX2_sum 48 = .ok (.getfield 25, 3) := by decide +kernel
theorem dX2_sum_51 : decode cX2_sum 51 = .ok (.lconst 0, 1) := by decide +kernel
theorem dX2_sum_52 : decode cX2_sum 52 = .ok (.lconst 0, 1) := by decide +kernel
theorem dX2_sum_53 : decode cX2_sum 53 = .ok (.invokevirtual 57, 3) := by decide +kernel
theorem dX2_sum_56 : decode cX2_sum 56 = .ok (.iload_n 2, 1) := by decide +kernel
theorem dX2_sum_57 : decode cX2_sum 57 = .ok (.istore 4, 2) := by decide +kernel
theorem dX2_sum_59 : decode cX2_sum 59 = .ok (.iload 4, 2) := by decide +kernel
theorem dX2_sum_61 : decode cX2_sum 61 = .ok (.iload_n 2, 1) := by decide +kernel
theorem dX2_sum_62 : decode cX2_sum 62 = .ok (.iload_n 3, 1) := by decide +kernel
theorem dX2_sum_63 : decode cX2_sum 63 = .ok (.iadd, 1) := by decide +kernel
theorem dX2_sum_64 : decode cX2_sum 64 = .ok (.if_icmp .ge 23, 3) := by decide +kernel
theorem dX2_sum_67 : decode cX2_sum 67 = .ok (.aload_n 0, 1) := by decide +kernel
theorem dX2_sum_68 : decode cX2_sum 68 = .ok (.getfield 25, 3) := by decide +kernel
theorem dX2_sum_71 : decode cX2_sum 71 = .ok (.aload_n 0, 1) := by decide +kernel
theorem dX2_sum_72 : decode cX2_sum 72 = .ok (.getfield 20, 3) := by decide +kernel
theorem dX2_sum_75 : decode cX2_sum 75 = .ok (.iload 4, 2) := by decide +kernel
theorem dX2_sum_77 : decode cX2_sum 77 = .ok (.aaload, 1) := by decide +kernel
theorem dX2_sum_78 : decode cX2_sum 78 = .ok (.invokestatic 88, 3) := by decide +kernel
theorem dX2_sum_81 : decode cX2_sum 81 = .ok (.iinc 4 1, 3) := by decide +kernel
theorem dX2_sum_84 : decode cX2_sum 84 = .ok (.goto (-25), 3) := by decide +kernel
theorem dX2_sum_87 : decode cX2_sum 87 = .ok (.aload_n 0, 1) := by decide +kernel
theorem dX2_sum_88 : decode cX2_sum 88 = .ok (.aload_n 0, 1) := by decide +kernel
theorem dX2_sum_89 : decode cX2_sum 89 = .ok (.getfield 25, 3) := by decide +kernel
theorem dX2_sum_92 : decode cX2_sum 92 = .ok (.aload_n 0, 1) := by decide +kernel
theorem dX2_sum_93 : decode cX2_sum 93 = .ok (.getfield 20, 3) := by decide +kernel
theorem dX2_sum_96 : decode cX2_sum 96 = .ok (.iload_n 1, 1) := by decide +kernel
theorem dX2_sum_97 : decode cX2_sum 97 = .ok (.aaload, 1) := by decide +kernel
theorem dX2_sum_98 : decode cX2_sum 98 = .ok (.invokevirtual 78, 3) := by decide +kernel
theorem dX2_sum_101 : decode cX2_sum 101 = .ok (.ireturn, 1) := by decide +kernel
theorem dX2_kind_0 : decode cX2_kind 0 = .ok (.iload_n 1, 1) := by decide +kernel
theorem dX2_kind_1 : decode cX2_kind 1 = .ok (.invokestatic 42, 3) := by decide +kernel
theorem dX2_kind_4 : decode cX2_kind 4 = .ok (.ifCond .eq 15, 3) := by decide +kernel
theorem dX2_kind_7 : decode cX2_kind 7 = .ok (.aload_n 0, 1) := by decide +kernel
theorem dX2_kind_8 : decode cX2_kind 8 = .ok (.getfield 20, 3) := by decide +kernel
theorem dX2_kind_11 : decode cX2_kind 11 = .ok (.iload_n 1, 1) := by decide +kernel
theorem dX2_kind_12 : decode cX2_kind 12 = .ok (.aaload, 1) := by decide +kernel
theorem dX2_kind_13 : decode cX2_kind 13 = .ok (.invokevirtual 91, 3) := by decide +kernel
theorem dX2_kind_16 : decode cX2_kind 16 = .ok (.goto 4, 3) := by decide +kernel
theorem dX2_kind_19 : decode cX2_kind 19 = .ok (.iconst (-1), 1) := by decide +kernel
theorem dX2_kind_20 : decode cX2_kind 20 = .ok (.ireturn, 1) := by decide +kernel
theorem dX2_low_0 : decode cX2_low 0 = .ok (.aload_n 0, 1) := by decide +kernel
theorem dX2_low_1 : decode cX2_low 1 = .ok (.iload_n 1, 1) := by decide +kernel
theorem dX2_low_2 : decode cX2_low 2 = .ok (.invokevirtual 95, 3) := by decide +kernel
theorem dX2_low_5 : decode cX2_low 5 = .ok (.ifCond .ne 13, 3) := by decide +kernel
theorem dX2_low_8 : decode cX2_low 8 = .ok (.new 98, 3) := by decide +kernel
theorem dX2_low_11 : decode cX2_low 11 = .ok (.dup, 1) := by decide +kernel
theorem dX2_low_12 : decode cX2_low 12 = .ok (.ldc 100, 2) := by decide +kernel
theorem dX2_low_14 : decode cX2_low 14 = .ok (.invokespecial 102, 3) := by decide +kernel
theorem dX2_low_17 : decode cX2_low 17 = .ok (.athrow, 1) := by decide +kernel
theorem dX2_low_18 : decode cX2_low 18 = .ok (.aload_n 0, 1) := by decide +kernel
theorem dX2_low_19 : decode cX2_low 19 = .ok (.getfield 12, 3) := by decide +kernel
theorem dX2_low_22 : decode cX2_low 22 = .ok (.aload_n 0, 1) := by decide +kernel
theorem dX2_low_23 : decode cX2_low 23 = .ok (.getfield 20, 3) := by decide +kernel
theorem dX2_low_26 : decode cX2_low 26 = .ok (.iload_n 1, 1) := by decide +kernel
theorem dX2_low_27 : decode cX2_low 27 = .ok (.aaload, 1) := by decide +kernel
theorem dX2_low_28 : decode cX2_low 28 = .ok (.getfield 103, 3) := by decide +kernel
theorem dX2_low_31 : decode cX2_low 31 = .ok (.invokevirtual 107, 3) := by decide +kernel
theorem dX2_low_34 : decode cX2_low 34 = .ok (.ireturn, 1) := by decide +kernel
theorem dX2_high_0 : decode cX2_high 0 = .ok (.aload_n 0, 1) := by decide +kernel
theorem dX2_high_1 : decode cX2_high 1 = .ok (.iload_n 1, 1) := by decide +kernel
theorem dX2_high_2 : decode cX2_high 2 = .ok (.invokevirtual 95, 3) := by decide +kernel
theorem dX2_high_5 : decode cX2_high 5 = .ok (.ifCond .ne 13, 3) := by decide +kernel
theorem dX2_high_8 : decode cX2_high 8 = .ok (.new 98, 3) := by decide +kernel
theorem dX2_high_11 : decode cX2_high 11 = .ok (.dup, 1) := by decide +kernel
theorem dX2_high_12 : decode cX2_high 12 = .ok (.ldc 100, 2) := by decide +kernel
theorem dX2_high_14 : decode cX2_high 14 = .ok (.invokespecial 102, 3) := by decide +kernel
theorem dX2_high_17 : decode cX2_high 17 = .ok (.athrow, 1) := by decide +kernel
theorem dX2_high_18 : decode cX2_high 18 = .ok (.aload_n 0, 1) := by decide +kernel
theorem dX2_high_19 : decode cX2_high 19 = .ok (.getfield 12, 3) := by decide +kernel
theorem dX2_high_22 : decode cX2_high 22 = .ok (.aload_n 0, 1) := by decide +kernel
theorem dX2_high_23 : decode cX2_high 23 = .ok (.getfield 20, 3) := by decide +kernel
theorem dX2_high_26 : decode cX2_high 26 = .ok (.iload_n 1, 1) := by decide +kernel
theorem dX2_high_27 : decode cX2_high 27 = .ok (.aaload, 1) := by decide +kernel
theorem dX2_high_28 : decode cX2_high 28 = .ok (.getfield 111, 3) := by decide +kernel
theorem dX2_high_31 : decode cX2_high 31 = .ok (.invokevirtual 107, 3) := by decide +kernel
theorem dX2_high_34 : decode cX2_high 34 = .ok (.ireturn, 1) := by decide +kernel
theorem dX2_middle_0 : decode cX2_middle 0 = .ok (.aload_n 0, 1) := by decide +kernel
theorem dX2_middle_1 : decode cX2_middle 1 = .ok (.iload_n 1, 1) := by decide +kernel
theorem dX2_middle_2 : decode cX2_middle 2 = .ok (.invokevirtual 95, 3) := by decide +kernel
theorem dX2_middle_5 : decode cX2_middle 5 = .ok (.ifCond .eq 15, 3) := by decide +kernel
theorem dX2_middle_8 : decode cX2_middle 8 = .ok (.aload_n 0, 1) := by decide +kernel
theorem dX2_middle_9 : decode cX2_middle 9 = .ok (.getfield 20, 3) := by decide +kernel
theorem dX2_middle_12 : decode cX2_middle 12 = .ok (.iload_n 1, 1) := by decide +kernel
theorem dX2_middle_13 : decode cX2_middle 13 = .ok (.aaload, 1) := by decide +kernel
theorem dX2_middle_14 : decode cX2_middle 14 = .ok (.invokevirtual 114, 3) := by decide +kernel
theorem dX2_middle_17 : decode cX2_middle 17 = .ok (.ifCond .eq 13, 3) := by decide +kernel
theorem dX2_middle_20 : decode cX2_middle 20 = .ok (.new 98, 3) := by decide +kernel
theorem dX2_middle_23 : decode cX2_middle 23 = .ok (.dup, 1) := by decide +kernel
theorem dX2_middle_24 : decode cX2_middle 24 = .ok (.ldc 118, 2) := by decide +kernel
theorem dX2_middle_26 : decode cX2_middle 26 = .ok (.invokespecial 102, 3) := by decide +kernel
theorem dX2_middle_29 : decode cX2_middle 29 = .ok (.athrow, 1) := by decide +kernel
theorem dX2_middle_30 : decode cX2_middle 30 = .ok (.aload_n 0, 1) := by decide +kernel
theorem dX2_middle_31 : decode cX2_middle 31 = .ok (.getfield 12, 3) := by decide +kernel
theorem dX2_middle_34 : decode cX2_middle 34 = .ok (.aload_n 0, 1) := by decide +kernel
theorem dX2_middle_35 : decode cX2_middle 35 = .ok (.getfield 20, 3) := by decide +kernel
theorem dX2_middle_38 : decode cX2_middle 38 = .ok (.iload_n 1, 1) := by decide +kernel
theorem dX2_middle_39 : decode cX2_middle 39 = .ok (.aaload, 1) := by decide +kernel
theorem dX2_middle_40 : decode cX2_middle 40 = .ok (.getfield 103, 3) := by decide +kernel
theorem dX2_middle_43 : decode cX2_middle 43 = .ok (.aload_n 0, 1) := by decide +kernel
theorem dX2_middle_44 : decode cX2_middle 44 = .ok (.getfield 20, 3) := by decide +kernel
theorem dX2_middle_47 : decode cX2_middle 47 = .ok (.iload_n 1, 1) := by decide +kernel
theorem dX2_middle_48 : decode cX2_middle 48 = .ok (.aaload, 1) := by decide +kernel
theorem dX2_middle_49 : decode cX2_middle 49 = .ok (.getfield 111, 3) := by decide +kernel
theorem dX2_middle_52 : decode cX2_middle 52 = .ok (.ladd, 1) := by decide +kernel
theorem dX2_middle_53 : decode cX2_middle 53 = .ok (.invokevirtual 120, 3) := by decide +kernel
theorem dX2_middle_56 : decode cX2_middle 56 = .ok (.ireturn, 1) := by decide +kernel
theorem dX2_width_0 : decode cX2_width 0 = .ok (.aload_n 0, 1) := by decide +kernel
theorem dX2_width_1 : decode cX2_width 1 = .ok (.iload_n 1, 1) := by decide +kernel
theorem dX2_width_2 : decode cX2_width 2 = .ok (.invokevirtual 95, 3) := by decide +kernel
theorem dX2_width_5 : decode cX2_width 5 = .ok (.ifCond .ne 13, 3) := by decide +kernel
theorem dX2_width_8 : decode cX2_width 8 = .ok (.new 98, 3) := by decide +kernel
theorem dX2_width_11 : decode cX2_width 11 = .ok (.dup, 1) := by decide +kernel
theorem dX2_width_12 : decode cX2_width 12 = .ok (.ldc 100, 2) := by decide +kernel
theorem dX2_width_14 : decode cX2_width 14 = .ok (.invokespecial 102, 3) := by decide +kernel
theorem dX2_width_17 : decode cX2_width 17 = .ok (.athrow, 1) := by decide +kernel
theorem dX2_width_18 : decode cX2_width 18 = .ok (.aload_n 0, 1) := by decide +kernel
theorem dX2_width_19 : decode cX2_width 19 = .ok (.getfield 20, 3) := by decide +kernel
theorem dX2_width_22 : decode cX2_width 22 = .ok (.iload_n 1, 1) := by decide +kernel
theorem dX2_width_23 : decode cX2_width 23 = .ok (.aaload, 1) := by decide +kernel
theorem dX2_width_24 : decode cX2_width 24 = .ok (.getfield 111, 3) := by decide +kernel
theorem dX2_width_27 : decode cX2_width 27 = .ok (.aload_n 0, 1) := by decide +kernel
theorem dX2_width_28 : decode cX2_width 28 = .ok (.getfield 20, 3) := by decide +kernel
theorem dX2_width_31 : decode cX2_width 31 = .ok (.iload_n 1, 1) := by decide +kernel
theorem dX2_width_32 : decode cX2_width 32 = .ok (.aaload, 1) := by decide +kernel
theorem dX2_width_33 : decode cX2_width 33 = .ok (.getfield 103, 3) := by decide +kernel
theorem dX2_width_36 : decode cX2_width 36 = .ok (.lneg, 1) := by decide +kernel
theorem dX2_width_37 : decode cX2_width 37 = .ok (.invokestatic 123, 3) := by decide +kernel
theorem dX2_width_40 : decode cX2_width 40 = .ok (.lstore_n 2, 1) := by decide +kernel
theorem dX2_width_41 : decode cX2_width 41 = .ok (.aload_n 0, 1) := by decide +kernel
theorem dX2_width_42 : decode cX2_width 42 = .ok (.getfield 12, 3) := by decide +kernel
theorem dX2_width_45 : decode cX2_width 45 = .ok (.aload_n 0, 1) := by decide +kernel
theorem dX2_width_46 : decode cX2_width 46 = .ok (.getfield 12, 3) := by decide +kernel
theorem dX2_width_49 : decode cX2_width 49 = .ok (.lload_n 2, 1) := by decide +kernel
theorem dX2_width_50 : decode cX2_width 50 = .ok (.invokevirtual 127, 3) := by decide +kernel
theorem dX2_width_53 : decode cX2_width 53 = .ok (.invokevirtual 107, 3) := by decide +kernel
theorem dX2_width_56 : decode cX2_width 56 = .ok (.ireturn, 1) := by decide +kernel
theorem dX2_compare_0 : decode cX2_compare 0 = .ok (.iload_n 1, 1) := by decide +kernel
theorem dX2_compare_1 : decode cX2_compare 1 = .ok (.invokestatic 42, 3) := by decide +kernel
theorem dX2_compare_4 : decode cX2_compare 4 = .ok (.ifCond .eq 10, 3) := by decide +kernel
theorem dX2_compare_7 : decode cX2_compare 7 = .ok (.iload_n 2, 1) := by decide +kernel
theorem dX2_compare_8 : decode cX2_compare 8 = .ok (.invokestatic 42, 3) := by decide +kernel
theorem dX2_compare_11 : decode cX2_compare 11 = .ok (.ifCond .ne 5, 3) := by decide +kernel
theorem dX2_compare_14 : decode cX2_compare 14 = .ok (.iconst (-1), 1) := by decide +kernel
theorem dX2_compare_15 : decode cX2_compare 15 = .ok (.ireturn, 1) := by decide +kernel
theorem dX2_compare_16 : decode cX2_compare 16 = .ok (.aload_n 0, 1) := by decide +kernel
theorem dX2_compare_17 : decode cX2_compare 17 = .ok (.iload_n 1, 1) := by decide +kernel
theorem dX2_compare_18 : decode cX2_compare 18 = .ok (.invokevirtual 95, 3) := by decide +kernel
theorem dX2_compare_21 : decode cX2_compare 21 = .ok (.ifCond .eq 11, 3) := by decide +kernel
theorem dX2_compare_24 : decode cX2_compare 24 = .ok (.aload_n 0, 1) := by decide +kernel
theorem dX2_compare_25 : decode cX2_compare 25 = .ok (.iload_n 2, 1) := by decide +kernel
theorem dX2_compare_26 : decode cX2_compare 26 = .ok (.invokevirtual 95, 3) := by decide +kernel
theorem dX2_compare_29 : decode cX2_compare 29 = .ok (.ifCond .ne 5, 3) := by decide +kernel
theorem dX2_compare_32 : decode cX2_compare 32 = .ok (.iconst 0, 1) := by decide +kernel
theorem dX2_compare_33 : decode cX2_compare 33 = .ok (.ireturn, 1) := by decide +kernel
theorem dX2_compare_34 : decode cX2_compare 34 = .ok (.aload_n 0, 1) := by decide +kernel
theorem dX2_compare_35 : decode cX2_compare 35 = .ok (.getfield 20, 3) := by decide +kernel
theorem dX2_compare_38 : decode cX2_compare 38 = .ok (.iload_n 1, 1) := by decide +kernel
theorem dX2_compare_39 : decode cX2_compare 39 = .ok (.aaload, 1) := by decide +kernel
theorem dX2_compare_40 : decode cX2_compare 40 = .ok (.astore_n 3, 1) := by decide +kernel
theorem dX2_compare_41 : decode cX2_compare 41 = .ok (.aload_n 0, 1) := by decide +kernel
theorem dX2_compare_42 : decode cX2_compare 42 = .ok (.getfield 20, 3) := by decide +kernel
theorem dX2_compare_45 : decode cX2_compare 45 = .ok (.iload_n 2, 1) := by decide +kernel
theorem dX2_compare_46 : decode cX2_compare 46 = .ok (.aaload, 1) := by decide +kernel
theorem dX2_compare_47 : decode cX2_compare 47 = .ok (.astore 4, 2) := by decide +kernel
theorem dX2_compare_49 : decode cX2_compare 49 = .ok (.aload 4, 2) := by decide +kernel
theorem dX2_compare_51 : decode cX2_compare 51 = .ok (.aload_n 3, 1) := by decide +kernel
theorem dX2_compare_52 : decode cX2_compare 52 = .ok (.invokevirtual 131, 3) := by decide +kernel
theorem dX2_compare_55 : decode cX2_compare 55 = .ok (.istore 5, 2) := by decide +kernel
theorem dX2_compare_57 : decode cX2_compare 57 = .ok (.aload_n 3, 1) := by decide +kernel
theorem dX2_compare_58 : decode cX2_compare 58 = .ok (.aload 4, 2) := by decide +kernel
theorem dX2_compare_60 : decode cX2_compare 60 = .ok (.invokevirtual 131, 3) := by decide +kernel
theorem dX2_compare_63 : decode cX2_compare 63 = .ok (.istore 6, 2) := by decide +kernel
theorem dX2_compare_65 : decode cX2_compare 65 = .ok (.aload_n 3, 1) := by decide +kernel
theorem dX2_compare_66 : decode cX2_compare 66 = .ok (.getfield 103, 3) := by decide +kernel
theorem dX2_compare_69 : decode cX2_compare 69 = .ok (.aload 4, 2) := by decide +kernel
theorem dX2_compare_71 : decode cX2_compare 71 = .ok (.getfield 111, 3) := by decide +kernel
theorem dX2_compare_74 : decode cX2_compare 74 = .ok (.lcmp, 1) := by decide +kernel
theorem dX2_compare_75 : decode cX2_compare 75 = .ok (.ifCond .ge 7, 3) := by decide +kernel
theorem dX2_compare_78 : decode cX2_compare 78 = .ok (.iconst 1, 1) := by decide +kernel
theorem dX2_compare_79 : decode cX2_compare 79 = .ok (.goto 4, 3) := by decide +kernel
theorem dX2_compare_82 : decode cX2_compare 82 = .ok (.iconst 0, 1) := by decide +kernel
theorem dX2_compare_83 : decode cX2_compare 83 = .ok (.aload_n 3, 1) := by decide +kernel
theorem dX2_compare_84 : decode cX2_compare 84 = .ok (.getfield 103, 3) := by decide +kernel
theorem dX2_compare_87 : decode cX2_compare 87 = .ok (.aload 4, 2) := by decide +kernel
theorem dX2_compare_89 : decode cX2_compare 89 = .ok (.getfield 111, 3) := by decide +kernel
theorem dX2_compare_92 : decode cX2_compare 92 = .ok (.lcmp, 1) := by decide +kernel
theorem dX2_compare_93 : decode cX2_compare 93 = .ok (.ifCond .gt 20, 3) := by decide +kernel
theorem dX2_compare_96 : decode cX2_compare 96 = .ok (.aload 4, 2) := by decide +kernel
theorem dX2_compare_98 : decode cX2_compare 98 = .ok (.getfield 103, 3) := by decide +kernel
theorem dX2_compare_101 : decode cX2_compare 101 = .ok (.aload_n 3, 1) := by decide +kernel
theorem dX2_compare_102 : decode cX2_compare 102 = .ok (.getfield 111, 3) := by decide +kernel
theorem dX2_compare_105 : decode cX2_compare 105 = .ok (.lcmp, 1) := by decide +kernel
theorem dX2_compare_106 : decode cX2_compare 106 = .ok (.ifCond .gt 7, 3) := by decide +kernel
theorem dX2_compare_109 : decode cX2_compare 109 = .ok (.iconst 2, 1) := by decide +kernel
theorem dX2_compare_110 : decode cX2_compare 110 = .ok (.goto 4, 3) := by decide +kernel
theorem dX2_compare_113 : decode cX2_compare 113 = .ok (.iconst 0, 1) := by decide +kernel
theorem dX2_compare_114 : decode cX2_compare 114 = .ok (.ior, 1) := by decide +kernel
theorem dX2_compare_115 : decode cX2_compare 115 = .ok (.aload_n 3, 1) := by decide +kernel
theorem dX2_compare_116 : decode cX2_compare 116 = .ok (.getfield 111, 3) := by decide +kernel
theorem dX2_compare_119 : decode cX2_compare 119 = .ok (.aload 4, 2) := by decide +kernel
theorem dX2_compare_121 : decode cX2_compare 121 = .ok (.getfield 103, 3) := by decide +kernel
theorem dX2_compare_124 : decode cX2_compare 124 = .ok (.lcmp, 1) := by decide +kernel
theorem dX2_compare_125 : decode cX2_compare 125 = .ok (.ifCond .le 7, 3) := by decide +kernel
theorem dX2_compare_128 : decode cX2_compare 128 = .ok (.iconst 4, 1) := by decide +kernel
theorem dX2_compare_129 : decode cX2_compare 129 = .ok (.goto 4, 3) := by decide +kernel
theorem dX2_compare_132 : decode cX2_compare 132 = .ok (.iconst 0, 1) := by decide +kernel
theorem dX2_compare_133 : decode cX2_compare 133 = .ok (.ior, 1) := by decide +kernel
theorem dX2_compare_134 : decode cX2_compare 134 = .ok (.iload 5, 2) := by decide +kernel
theorem dX2_compare_136 : decode cX2_compare 136 = .ok (.ifCond .eq 8, 3) := by decide +kernel
theorem dX2_compare_139 : decode cX2_compare 139 = .ok (.bipush 8, 2) := by decide +kernel
theorem dX2_compare_141 : decode cX2_compare 141 = .ok (.goto 4, 3) := by decide +kernel
theorem dX2_compare_144 : decode cX2_compare 144 = .ok (.iconst 0, 1) := by decide +kernel
theorem dX2_compare_145 : decode cX2_compare 145 = .ok (.ior, 1) := by decide +kernel
theorem dX2_compare_146 : decode cX2_compare 146 = .ok (.iload 6, 2) := by decide +kernel
theorem dX2_compare_148 : decode cX2_compare 148 = .ok (.ifCond .eq 8, 3) := by decide +kernel
theorem dX2_compare_151 : decode cX2_compare 151 = .ok (.bipush 16, 2) := by decide +kernel
theorem dX2_compare_153 : decode cX2_compare 153 = .ok (.goto 4, 3) := by decide +kernel
theorem dX2_compare_156 : decode cX2_compare 156 = .ok (.iconst 0, 1) := by decide +kernel
theorem dX2_compare_157 : decode cX2_compare 157 = .ok (.ior, 1) := by decide +kernel
theorem dX2_compare_158 : decode cX2_compare 158 = .ok (.iload 5, 2) := by decide +kernel
theorem dX2_compare_160 : decode cX2_compare 160 = .ok (.ifCond .eq 13, 3) := by decide +kernel
theorem dX2_compare_163 : decode cX2_compare 163 = .ok (.iload 6, 2) := by decide +kernel
theorem dX2_compare_165 : decode cX2_compare 165 = .ok (.ifCond .eq 8, 3) := by decide +kernel
theorem dX2_compare_168 : decode cX2_compare 168 = .ok (.bipush 32, 2) := by decide +kernel
theorem dX2_compare_170 : decode cX2_compare 170 = .ok (.goto 4, 3) := by decide +kernel
theorem dX2_compare_173 : decode cX2_compare 173 = .ok (.iconst 0, 1) := by decide +kernel
theorem dX2_compare_174 : decode cX2_compare 174 = .ok (.ior, 1) := by decide +kernel
theorem dX2_compare_175 : decode cX2_compare 175 = .ok (.ireturn, 1) := by decide +kernel
end
section
theorem dX2_has_0 : decode cX2_has 0 = .ok (.aload_n 0, 1) := by decide +kernel
theorem dX2_has_1 : decode cX2_has 1 = .ok (.iload_n 1, 1) := by decide +kernel
theorem dX2_has_2 : decode cX2_has 2 = .ok (.invokevirtual 95, 3) := by decide +kernel
theorem dX2_has_5 : decode cX2_has 5 = .ok (.ifCond .eq 14, 3) := by decide +kernel
theorem dX2_has_8 : decode cX2_has 8 = .ok (.aload_n 0, 1) := by decide +kernel
theorem dX2_has_9 : decode cX2_has 9 = .ok (.getfield 12, 3) := by decide +kernel
theorem dX2_has_12 : decode cX2_has 12 = .ok (.iload_n 2, 1) := by decide +kernel
theorem dX2_has_13 : decode cX2_has 13 = .ok (.invokevirtual 46, 3) := by decide +kernel
theorem dX2_has_16 : decode cX2_has 16 = .ok (.ifCond .ne 5, 3) := by decide +kernel
theorem dX2_has_19 : decode cX2_has 19 = .ok (.iconst 0, 1) := by decide +kernel
theorem dX2_has_20 : decode cX2_has 20 = .ok (.ireturn, 1) := by decide +kernel
theorem dX2_has_21 : decode cX2_has 21 = .ok (.aload_n 0, 1) := by decide +kernel
theorem dX2_has_22 : decode cX2_has 22 = .ok (.getfield 12, 3) := by decide +kernel
theorem dX2_has_25 : decode cX2_has 25 = .ok (.iload_n 2, 1) := by decide +kernel
theorem dX2_has_26 : decode cX2_has 26 = .ok (.invokevirtual 49, 3) := by decide +kernel
theorem dX2_has_29 : decode cX2_has 29 = .ok (.lstore_n 3, 1) := by decide +kernel
theorem dX2_has_30 : decode cX2_has 30 = .ok (.lload_n 3, 1) := by decide +kernel
theorem dX2_has_31 : decode cX2_has 31 = .ok (.invokestatic 135, 3) := by decide +kernel
theorem dX2_has_34 : decode cX2_has 34 = .ok (.ifCond .ne 35, 3) := by decide +kernel
theorem dX2_has_37 : decode cX2_has 37 = .ok (.aload_n 0, 1) := by decide +kernel
theorem dX2_has_38 : decode cX2_has 38 = .ok (.getfield 20, 3) := by decide +kernel
theorem dX2_has_41 : decode cX2_has 41 = .ok (.iload_n 1, 1) := by decide +kernel
theorem dX2_has_42 : decode cX2_has 42 = .ok (.aaload, 1) := by decide +kernel
theorem dX2_has_43 : decode cX2_has 43 = .ok (.getfield 103, 3) := by decide +kernel
theorem dX2_has_46 : decode cX2_has 46 = .ok (.lload_n 3, 1) := by decide +kernel
theorem dX2_has_47 : decode cX2_has 47 = .ok (.lcmp, 1) := by decide +kernel
theorem dX2_has_48 : decode cX2_has 48 = .ok (.ifCond .gt 21, 3) := by decide +kernel
theorem dX2_has_51 : decode cX2_has 51 = .ok (.lload_n 3, 1) := by decide +kernel
theorem dX2_has_52 : decode cX2_has 52 = .ok (.aload_n 0, 1) := by decide +kernel
theorem dX2_has_53 : decode cX2_has 53 = .ok (.getfield 20, 3) := by decide +kernel
theorem dX2_has_56 : decode cX2_has 56 = .ok (.iload_n 1, 1) := by decide +kernel
theorem dX2_has_57 : decode cX2_has 57 = .ok (.aaload, 1) := by decide +kernel
theorem dX2_has_58 : decode cX2_has 58 = .ok (.getfield 111, 3) := by decide +kernel
theorem dX2_has_61 : decode cX2_has 61 = .ok (.lcmp, 1) := by decide +kernel
theorem dX2_has_62 : decode cX2_has 62 = .ok (.ifCond .gt 7, 3) := by decide +kernel
theorem dX2_has_65 : decode cX2_has 65 = .ok (.iconst 1, 1) := by decide +kernel
theorem dX2_has_66 : decode cX2_has 66 = .ok (.goto 4, 3) := by decide +kernel
theorem dX2_has_69 : decode cX2_has 69 = .ok (.iconst 0, 1) := by decide +kernel
theorem dX2_has_70 : decode cX2_has 70 = .ok (.ireturn, 1) := by decide +kernel
theorem dX2_isPlace_0 : decode cX2_isPlace 0 = .ok (.iload_n 0, 1) := by decide +kernel
theorem dX2_isPlace_1 : decode cX2_isPlace 1 = .ok (.ifCond .lt 13, 3) := by decide +kernel
theorem dX2_isPlace_4 : decode cX2_isPlace 4 = .ok (.iload_n 0, 1) := by decide +kernel
theorem dX2_isPlace_5 : decode cX2_isPlace 5 = .ok (.bipush 8, 2) := by decide +kernel
theorem dX2_isPlace_7 : decode cX2_isPlace 7 = .ok (.if_icmp .ge 7, 3) := by decide +kernel
theorem dX2_isPlace_10 : decode cX2_isPlace 10 = .ok (.iconst 1, 1) := by decide +kernel
theorem dX2_isPlace_11 : decode cX2_isPlace 11 = .ok (.goto 4, 3) := by decide +kernel
theorem dX2_isPlace_14 : decode cX2_isPlace 14 = .ok (.iconst 0, 1) := by decide +kernel
theorem dX2_isPlace_15 : decode cX2_isPlace 15 = .ok (.ireturn, 1) := by decide +kernel
theorem dX2_isFilled_0 : decode cX2_isFilled 0 = .ok (.iload_n 1, 1) := by decide +kernel
theorem dX2_isFilled_1 : decode cX2_isFilled 1 = .ok (.invokestatic 42, 3) := by decide +kernel
theorem dX2_isFilled_4 : decode cX2_isFilled 4 = .ok (.ifCond .eq 19, 3) := by decide +kernel
theorem dX2_isFilled_7 : decode cX2_isFilled 7 = .ok (.aload_n 0, 1) := by decide +kernel
theorem dX2_isFilled_8 : decode cX2_isFilled 8 = .ok (.getfield 20, 3) := by decide +kernel
theorem dX2_isFilled_11 : decode cX2_isFilled 11 = .ok (.iload_n 1, 1) := by decide +kernel
theorem dX2_isFilled_12 : decode cX2_isFilled 12 = .ok (.aaload, 1) := by decide +kernel
theorem dX2_isFilled_13 : decode cX2_isFilled 13 = .ok (.invokevirtual 139, 3) := by decide +kernel
theorem dX2_isFilled_16 : decode cX2_isFilled 16 = .ok (.ifCond .ne 7, 3) := by decide +kernel
theorem dX2_isFilled_19 : decode cX2_isFilled 19 = .ok (.iconst 1, 1) := by decide +kernel
theorem dX2_isFilled_20 : decode cX2_isFilled 20 = .ok (.goto 4, 3) := by decide +kernel
theorem dX2_isFilled_23 : decode cX2_isFilled 23 = .ok (.iconst 0, 1) := by decide +kernel
theorem dX2_isFilled_24 : decode cX2_isFilled 24 = .ok (.ireturn, 1) := by decide +kernel
theorem dX2_keep_0 : decode cX2_keep 0 = .ok (.aload_n 1, 1) := by decide +kernel
theorem dX2_keep_1 : decode cX2_keep 1 = .ok (.invokevirtual 139, 3) := by decide +kernel
theorem dX2_keep_4 : decode cX2_keep 4 = .ok (.ifCond .eq 10, 3) := by decide +kernel
theorem dX2_keep_7 : decode cX2_keep 7 = .ok (.aload_n 2, 1) := by decide +kernel
theorem dX2_keep_8 : decode cX2_keep 8 = .ok (.invokevirtual 39, 3) := by decide +kernel
theorem dX2_keep_11 : decode cX2_keep 11 = .ok (.goto 29, 3) := by decide +kernel
theorem dX2_keep_14 : decode cX2_keep 14 = .ok (.aload_n 2, 1) := by decide +kernel
theorem dX2_keep_15 : decode cX2_keep 15 = .ok (.aload_n 0, 1) := by decide +kernel
theorem dX2_keep_16 : decode cX2_keep 16 = .ok (.getfield 12, 3) := by decide +kernel
theorem dX2_keep_19 : decode cX2_keep 19 = .ok (.aload_n 1, 1) := by decide +kernel
theorem dX2_keep_20 : decode cX2_keep 20 = .ok (.getfield 103, 3) := by decide +kernel
theorem dX2_keep_23 : decode cX2_keep 23 = .ok (.invokevirtual 142, 3) := by decide +kernel
theorem dX2_keep_26 : decode cX2_keep 26 = .ok (.aload_n 0, 1) := by decide +kernel
theorem dX2_keep_27 : decode cX2_keep 27 = .ok (.getfield 12, 3) := by decide +kernel
theorem dX2_keep_30 : decode cX2_keep 30 = .ok (.aload_n 1, 1) := by decide +kernel
theorem dX2_keep_31 : decode cX2_keep 31 = .ok (.getfield 111, 3) := by decide +kernel
theorem dX2_keep_34 : decode cX2_keep 34 = .ok (.invokevirtual 127, 3) := by decide +kernel
theorem dX2_keep_37 : decode cX2_keep 37 = .ok (.invokevirtual 57, 3) := by decide +kernel
theorem dX2_keep_40 : decode cX2_keep 40 = .ok (.aload_n 2, 1) := by decide +kernel
theorem dX2_keep_41 : decode cX2_keep 41 = .ok (.invokevirtual 91, 3) := by decide +kernel
theorem dX2_keep_44 : decode cX2_keep 44 = .ok (.ireturn, 1) := by decide +kernel
theorem dX2_reckonTwo_0 : decode cX2_reckonTwo 0 = .ok (.iload_n 1, 1) := by decide +kernel
theorem dX2_reckonTwo_1 : decode cX2_reckonTwo 1 = .ok (.iconst 4, 1) := by decide +kernel
theorem dX2_reckonTwo_2 : decode cX2_reckonTwo 2 = .ok (.if_icmp .ne 10, 3) := by decide +kernel
theorem dX2_reckonTwo_5 : decode cX2_reckonTwo 5 = .ok (.aload_n 0, 1) := by decide +kernel
theorem dX2_reckonTwo_6 : decode cX2_reckonTwo 6 = .ok (.aload_n 2, 1) := by decide +kernel
theorem dX2_reckonTwo_7 : decode cX2_reckonTwo 7 = .ok (.aload_n 3, 1) := by decide +kernel
theorem dX2_reckonTwo_8 : decode cX2_reckonTwo 8 = .ok (.invokevirtual 145, 3) := by decide +kernel
theorem dX2_reckonTwo_11 : decode cX2_reckonTwo 11 = .ok (.return_, 1) := by decide +kernel
theorem dX2_reckonTwo_12 : decode cX2_reckonTwo 12 = .ok (.aload_n 2, 1) := by decide +kernel
theorem dX2_reckonTwo_13 : decode cX2_reckonTwo 13 = .ok (.invokevirtual 139, 3) := by decide +kernel
theorem dX2_reckonTwo_16 : decode cX2_reckonTwo 16 = .ok (.ifCond .ne 10, 3) := by decide +kernel
theorem dX2_reckonTwo_19 : decode cX2_reckonTwo 19 = .ok (.aload_n 3, 1) := by decide +kernel
theorem dX2_reckonTwo_20 : decode cX2_reckonTwo 20 = .ok (.invokevirtual 139, 3) := by decide +kernel
theorem dX2_reckonTwo_23 : decode cX2_reckonTwo 23 = .ok (.ifCond .eq 11, 3) := by decide +kernel
theorem dX2_reckonTwo_26 : decode cX2_reckonTwo 26 = .ok (.aload_n 0, 1) := by decide +kernel
theorem dX2_reckonTwo_27 : decode cX2_reckonTwo 27 = .ok (.getfield 25, 3) := by decide +kernel
theorem dX2_reckonTwo_30 : decode cX2_reckonTwo 30 = .ok (.invokevirtual 39, 3) := by decide +kernel
theorem dX2_reckonTwo_33 : decode cX2_reckonTwo 33 = .ok (.return_, 1) := by decide +kernel
theorem dX2_reckonTwo_34 : decode cX2_reckonTwo 34 = .ok (.iload_n 1, 1) := by decide +kernel
theorem dX2_reckonTwo_35 : decode cX2_reckonTwo 35 = .ok (.tableswitch 214 0 7 #[45, 77, 111, 120, 214, 141, 150, 182], 45) := by decide +kernel
theorem dX2_reckonTwo_80 : decode cX2_reckonTwo 80 = .ok (.aload_n 0, 1) := by decide +kernel
theorem dX2_reckonTwo_81 : decode cX2_reckonTwo 81 = .ok (.getfield 25, 3) := by decide +kernel
theorem dX2_reckonTwo_84 : decode cX2_reckonTwo 84 = .ok (.aload_n 2, 1) := by decide +kernel
theorem dX2_reckonTwo_85 : decode cX2_reckonTwo 85 = .ok (.getfield 103, 3) := by decide +kernel
theorem dX2_reckonTwo_88 : decode cX2_reckonTwo 88 = .ok (.aload_n 3, 1) := by decide +kernel
theorem dX2_reckonTwo_89 : decode cX2_reckonTwo 89 = .ok (.getfield 103, 3) := by decide +kernel
theorem dX2_reckonTwo_92 : decode cX2_reckonTwo 92 = .ok (.invokestatic 123, 3) := by decide +kernel
theorem dX2_reckonTwo_95 : decode cX2_reckonTwo 95 = .ok (.aload_n 2, 1) := by decide +kernel
theorem dX2_reckonTwo_96 : decode cX2_reckonTwo 96 = .ok (.getfield 111, 3) := by decide +kernel
theorem dX2_reckonTwo_99 : decode cX2_reckonTwo 99 = .ok (.aload_n 3, 1) := by decide +kernel
theorem dX2_reckonTwo_100 : decode cX2_reckonTwo 100 = .ok (.getfield 111, 3) := by decide +kernel
theorem dX2_reckonTwo_103 : decode cX2_reckonTwo 103 = .ok (.invokestatic 123, 3) := by decide +kernel
theorem dX2_reckonTwo_106 : decode cX2_reckonTwo 106 = .ok (.invokevirtual 57, 3) := by decide +kernel
theorem dX2_reckonTwo_109 : decode cX2_reckonTwo 109 = .ok (.goto 147, 3) := by decide +kernel
theorem dX2_reckonTwo_112 : decode cX2_reckonTwo 112 = .ok (.aload_n 0, 1) := by decide +kernel
theorem dX2_reckonTwo_113 : decode cX2_reckonTwo 113 = .ok (.getfield 25, 3) := by decide +kernel
theorem dX2_reckonTwo_116 : decode cX2_reckonTwo 116 = .ok (.aload_n 2, 1) := by decide +kernel
theorem dX2_reckonTwo_117 : decode cX2_reckonTwo 117 = .ok (.getfield 103, 3) := by decide +kernel
theorem dX2_reckonTwo_120 : decode cX2_reckonTwo 120 = .ok (.aload_n 3, 1) := by decide +kernel
theorem dX2_reckonTwo_121 : decode cX2_reckonTwo 121 = .ok (.getfield 111, 3) := by decide +kernel
theorem dX2_reckonTwo_124 : decode cX2_reckonTwo 124 = .ok (.lneg, 1) := by decide +kernel
theorem dX2_reckonTwo_125 : decode cX2_reckonTwo 125 = .ok (.invokestatic 123, 3) := by decide +kernel
theorem dX2_reckonTwo_128 : decode cX2_reckonTwo 128 = .ok (.aload_n 2, 1) := by decide +kernel
theorem dX2_reckonTwo_129 : decode cX2_reckonTwo 129 = .ok (.getfield 111, 3) := by decide +kernel
theorem dX2_reckonTwo_132 : decode cX2_reckonTwo 132 = .ok (.aload_n 3, 1) := by decide +kernel
theorem dX2_reckonTwo_133 : decode cX2_reckonTwo 133 = .ok (.getfield 103, 3) := by decide +kernel
theorem dX2_reckonTwo_136 : decode cX2_reckonTwo 136 = .ok (.lneg, 1) := by decide +kernel
theorem dX2_reckonTwo_137 : decode cX2_reckonTwo 137 = .ok (.invokestatic 123, 3) := by decide +kernel
theorem dX2_reckonTwo_140 : decode cX2_reckonTwo 140 = .ok (.invokevirtual 57, 3) := by decide +kernel
theorem dX2_reckonTwo_143 : decode cX2_reckonTwo 143 = .ok (.goto 113, 3) := by decide +kernel
theorem dX2_reckonTwo_146 : decode cX2_reckonTwo 146 = .ok (.aload_n 0, 1) := by decide +kernel
theorem dX2_reckonTwo_147 : decode cX2_reckonTwo 147 = .ok (.aload_n 2, 1) := by decide +kernel
theorem dX2_reckonTwo_148 : decode cX2_reckonTwo 148 = .ok (.aload_n 3, 1) := by decide +kernel
theorem dX2_reckonTwo_149 : decode cX2_reckonTwo 149 = .ok (.invokevirtual 148, 3) := by decide +kernel
theorem dX2_reckonTwo_152 : decode cX2_reckonTwo 152 = .ok (.goto 104, 3) := by decide +kernel
theorem dX2_reckonTwo_155 : decode cX2_reckonTwo 155 = .ok (.aload_n 0, 1) := by decide +kernel
theorem dX2_reckonTwo_156 : decode cX2_reckonTwo 156 = .ok (.aload_n 2, 1) := by decide +kernel
theorem dX2_reckonTwo_157 : decode cX2_reckonTwo 157 = .ok (.aload_n 3, 1) := by decide +kernel
theorem dX2_reckonTwo_158 : decode cX2_reckonTwo 158 = .ok (.invokevirtual 82, 3) := by decide +kernel
theorem dX2_reckonTwo_161 : decode cX2_reckonTwo 161 = .ok (.aload_n 0, 1) := by decide +kernel
theorem dX2_reckonTwo_162 : decode cX2_reckonTwo 162 = .ok (.aload_n 0, 1) := by decide +kernel
theorem dX2_reckonTwo_163 : decode cX2_reckonTwo 163 = .ok (.getfield 25, 3) := by decide +kernel
theorem dX2_reckonTwo_166 : decode cX2_reckonTwo 166 = .ok (.aload_n 0, 1) := by decide +kernel
theorem dX2_reckonTwo_167 : decode cX2_reckonTwo 167 = .ok (.getfield 29, 3) := by decide +kernel
theorem dX2_reckonTwo_170 : decode cX2_reckonTwo 170 = .ok (.invokevirtual 145, 3) := by decide +kernel
theorem dX2_reckonTwo_173 : decode cX2_reckonTwo 173 = .ok (.goto 83, 3) := by decide +kernel
theorem dX2_reckonTwo_176 : decode cX2_reckonTwo 176 = .ok (.aload_n 0, 1) := by decide +kernel
theorem dX2_reckonTwo_177 : decode cX2_reckonTwo 177 = .ok (.aload_n 2, 1) := by decide +kernel
theorem dX2_reckonTwo_178 : decode cX2_reckonTwo 178 = .ok (.aload_n 3, 1) := by decide +kernel
theorem dX2_reckonTwo_179 : decode cX2_reckonTwo 179 = .ok (.invokevirtual 151, 3) := by decide +kernel
theorem dX2_reckonTwo_182 : decode cX2_reckonTwo 182 = .ok (.goto 74, 3) := by decide +kernel
theorem dX2_reckonTwo_185 : decode cX2_reckonTwo 185 = .ok (.aload_n 0, 1) := by decide +kernel
theorem dX2_reckonTwo_186 : decode cX2_reckonTwo 186 = .ok (.getfield 25, 3) := by decide +kernel
theorem dX2_reckonTwo_189 : decode cX2_reckonTwo 189 = .ok (.aload_n 2, 1) := by decide +kernel
theorem dX2_reckonTwo_190 : decode cX2_reckonTwo 190 = .ok (.getfield 103, 3) := by decide +kernel
theorem dX2_reckonTwo_193 : decode cX2_reckonTwo 193 = .ok (.aload_n 3, 1) := by decide +kernel
theorem dX2_reckonTwo_194 : decode cX2_reckonTwo 194 = .ok (.getfield 103, 3) := by decide +kernel
theorem dX2_reckonTwo_197 : decode cX2_reckonTwo 197 = .ok (.invokestatic 154, 3) := by decide +kernel
theorem dX2_reckonTwo_200 : decode cX2_reckonTwo 200 = .ok (.aload_n 2, 1) := by decide +kernel
theorem dX2_reckonTwo_201 : decode cX2_reckonTwo 201 = .ok (.getfield 111, 3) := by decide +kernel
theorem dX2_reckonTwo_204 : decode cX2_reckonTwo 204 = .ok (.aload_n 3, 1) := by decide +kernel
theorem dX2_reckonTwo_205 : decode cX2_reckonTwo 205 = .ok (.getfield 111, 3) := by decide +kernel
theorem dX2_reckonTwo_208 : decode cX2_reckonTwo 208 = .ok (.invokestatic 154, 3) := by decide +kernel
theorem dX2_reckonTwo_211 : decode cX2_reckonTwo 211 = .ok (.invokevirtual 57, 3) := by decide +kernel
theorem dX2_reckonTwo_214 : decode cX2_reckonTwo 214 = .ok (.goto 42, 3) := by decide +kernel
theorem dX2_reckonTwo_217 : decode cX2_reckonTwo 217 = .ok (.aload_n 0, 1) := by decide +kernel
theorem dX2_reckonTwo_218 : decode cX2_reckonTwo 218 = .ok (.getfield 25, 3) := by decide +kernel
theorem dX2_reckonTwo_221 : decode cX2_reckonTwo 221 = .ok (.aload_n 2, 1) := by decide +kernel
theorem dX2_reckonTwo_222 : decode cX2_reckonTwo 222 = .ok (.getfield 103, 3) := by decide +kernel
theorem dX2_reckonTwo_225 : decode cX2_reckonTwo 225 = .ok (.aload_n 3, 1) := by decide +kernel
theorem dX2_reckonTwo_226 : decode cX2_reckonTwo 226 = .ok (.getfield 103, 3) := by decide +kernel
theorem dX2_reckonTwo_229 : decode cX2_reckonTwo 229 = .ok (.invokestatic 159, 3) := by decide +kernel
theorem dX2_reckonTwo_232 : decode cX2_reckonTwo 232 = .ok (.aload_n 2, 1) := by decide +kernel
theorem dX2_reckonTwo_233 : decode cX2_reckonTwo 233 = .ok (.getfield 111, 3) := by decide +kernel
theorem dX2_reckonTwo_236 : decode cX2_reckonTwo 236 = .ok (.aload_n 3, 1) := by decide +kernel
theorem dX2_reckonTwo_237 : decode cX2_reckonTwo 237 = .ok (.getfield 111, 3) := by decide +kernel
theorem dX2_reckonTwo_240 : decode cX2_reckonTwo 240 = .ok (.invokestatic 159, 3) := by decide +kernel
theorem dX2_reckonTwo_243 : decode cX2_reckonTwo 243 = .ok (.invokevirtual 57, 3) := by decide +kernel
theorem dX2_reckonTwo_246 : decode cX2_reckonTwo 246 = .ok (.goto 10, 3) := by decide +kernel
theorem dX2_reckonTwo_249 : decode cX2_reckonTwo 249 = .ok (.aload_n 0, 1) := by decide +kernel
theorem dX2_reckonTwo_250 : decode cX2_reckonTwo 250 = .ok (.getfield 25, 3) := by decide +kernel
theorem dX2_reckonTwo_253 : decode cX2_reckonTwo 253 = .ok (.invokevirtual 39, 3) := by decide +kernel
theorem dX2_reckonTwo_256 : decode cX2_reckonTwo 256 = .ok (.return_, 1) := by decide +kernel
theorem dX2_reckonOne_0 : decode cX2_reckonOne 0 = .ok (.aload_n 2, 1) := by decide +kernel
theorem dX2_reckonOne_1 : decode cX2_reckonOne 1 = .ok (.invokevirtual 139, 3) := by decide +kernel
theorem dX2_reckonOne_4 : decode cX2_reckonOne 4 = .ok (.ifCond .eq 11, 3) := by decide +kernel
theorem dX2_reckonOne_7 : decode cX2_reckonOne 7 = .ok (.aload_n 0, 1) := by decide +kernel
theorem dX2_reckonOne_8 : decode cX2_reckonOne 8 = .ok (.getfield 25, 3) := by decide +kernel
theorem dX2_reckonOne_11 : decode cX2_reckonOne 11 = .ok (.invokevirtual 39, 3) := by decide +kernel
theorem dX2_reckonOne_14 : decode cX2_reckonOne 14 = .ok (.return_, 1) := by decide +kernel
theorem dX2_reckonOne_15 : decode cX2_reckonOne 15 = .ok (.iload_n 1, 1) := by decide +kernel
theorem dX2_reckonOne_16 : decode cX2_reckonOne 16 = .ok (.tableswitch 119 8 11 #[32, 52, 103, 111], 32) := by decide +kernel
theorem dX2_reckonOne_48 : decode cX2_reckonOne 48 = .ok (.aload_n 0, 1) := by decide +kernel
theorem dX2_reckonOne_49 : decode cX2_reckonOne 49 = .ok (.getfield 25, 3) := by decide +kernel
theorem dX2_reckonOne_52 : decode cX2_reckonOne 52 = .ok (.aload_n 2, 1) := by decide +kernel
theorem dX2_reckonOne_53 : decode cX2_reckonOne 53 = .ok (.getfield 111, 3) := by decide +kernel
theorem dX2_reckonOne_56 : decode cX2_reckonOne 56 = .ok (.lneg, 1) := by decide +kernel
theorem dX2_reckonOne_57 : decode cX2_reckonOne 57 = .ok (.aload_n 2, 1) := by decide +kernel
theorem dX2_reckonOne_58 : decode cX2_reckonOne 58 = .ok (.getfield 103, 3) := by decide +kernel
theorem dX2_reckonOne_61 : decode cX2_reckonOne 61 = .ok (.lneg, 1) := by decide +kernel
theorem dX2_reckonOne_62 : decode cX2_reckonOne 62 = .ok (.invokevirtual 57, 3) := by decide +kernel
theorem dX2_reckonOne_65 : decode cX2_reckonOne 65 = .ok (.goto 77, 3) := by decide +kernel
theorem dX2_reckonOne_68 : decode cX2_reckonOne 68 = .ok (.aload_n 0, 1) := by decide +kernel
theorem dX2_reckonOne_69 : decode cX2_reckonOne 69 = .ok (.aload_n 2, 1) := by decide +kernel
theorem dX2_reckonOne_70 : decode cX2_reckonOne 70 = .ok (.invokevirtual 162, 3) := by decide +kernel
theorem dX2_reckonOne_73 : decode cX2_reckonOne 73 = .ok (.aload_n 0, 1) := by decide +kernel
theorem dX2_reckonOne_74 : decode cX2_reckonOne 74 = .ok (.getfield 25, 3) := by decide +kernel
theorem dX2_reckonOne_77 : decode cX2_reckonOne 77 = .ok (.aload_n 0, 1) := by decide +kernel
theorem dX2_reckonOne_78 : decode cX2_reckonOne 78 = .ok (.aload_n 0, 1) := by decide +kernel
theorem dX2_reckonOne_79 : decode cX2_reckonOne 79 = .ok (.getfield 25, 3) := by decide +kernel
theorem dX2_reckonOne_82 : decode cX2_reckonOne 82 = .ok (.getfield 103, 3) := by decide +kernel
theorem dX2_reckonOne_85 : decode cX2_reckonOne 85 = .ok (.aload_n 0, 1) := by decide +kernel
theorem dX2_reckonOne_86 : decode cX2_reckonOne 86 = .ok (.getfield 25, 3) := by decide +kernel
theorem dX2_reckonOne_89 : decode cX2_reckonOne 89 = .ok (.getfield 103, 3) := by decide +kernel
theorem dX2_reckonOne_92 : decode cX2_reckonOne 92 = .ok (.invokevirtual 166, 3) := by decide +kernel
theorem dX2_reckonOne_95 : decode cX2_reckonOne 95 = .ok (.aload_n 0, 1) := by decide +kernel
theorem dX2_reckonOne_96 : decode cX2_reckonOne 96 = .ok (.aload_n 0, 1) := by decide +kernel
theorem dX2_reckonOne_97 : decode cX2_reckonOne 97 = .ok (.getfield 25, 3) := by decide +kernel
theorem dX2_reckonOne_100 : decode cX2_reckonOne 100 = .ok (.getfield 111, 3) := by decide +kernel
theorem dX2_reckonOne_103 : decode cX2_reckonOne 103 = .ok (.aload_n 0, 1) := by decide +kernel
theorem dX2_reckonOne_104 : decode cX2_reckonOne 104 = .ok (.getfield 25, 3) := by decide +kernel
theorem dX2_reckonOne_107 : decode cX2_reckonOne 107 = .ok (.getfield 111, 3) := by decide +kernel
theorem dX2_reckonOne_110 : decode cX2_reckonOne 110 = .ok (.invokevirtual 169, 3) := by decide +kernel
theorem dX2_reckonOne_113 : decode cX2_reckonOne 113 = .ok (.invokevirtual 57, 3) := by decide +kernel
theorem dX2_reckonOne_116 : decode cX2_reckonOne 116 = .ok (.goto 26, 3) := by decide +kernel
theorem dX2_reckonOne_119 : decode cX2_reckonOne 119 = .ok (.aload_n 0, 1) := by decide +kernel
theorem dX2_reckonOne_120 : decode cX2_reckonOne 120 = .ok (.aload_n 2, 1) := by decide +kernel
theorem dX2_reckonOne_121 : decode cX2_reckonOne 121 = .ok (.invokevirtual 172, 3) := by decide +kernel
theorem dX2_reckonOne_124 : decode cX2_reckonOne 124 = .ok (.goto 18, 3) := by decide +kernel
theorem dX2_reckonOne_127 : decode cX2_reckonOne 127 = .ok (.aload_n 0, 1) := by decide +kernel
theorem dX2_reckonOne_128 : decode cX2_reckonOne 128 = .ok (.aload_n 2, 1) := by decide +kernel
theorem dX2_reckonOne_129 : decode cX2_reckonOne 129 = .ok (.invokevirtual 162, 3) := by decide +kernel
theorem dX2_reckonOne_132 : decode cX2_reckonOne 132 = .ok (.goto 10, 3) := by decide +kernel
theorem dX2_reckonOne_135 : decode cX2_reckonOne 135 = .ok (.aload_n 0, 1) := by decide +kernel
theorem dX2_reckonOne_136 : decode cX2_reckonOne 136 = .ok (.getfield 25, 3) := by decide +kernel
theorem dX2_reckonOne_139 : decode cX2_reckonOne 139 = .ok (.invokevirtual 39, 3) := by decide +kernel
theorem dX2_reckonOne_142 : decode cX2_reckonOne 142 = .ok (.return_, 1) := by decide +kernel
theorem dX2_join_0 : decode cX2_join 0 = .ok (.aload_n 1, 1) := by decide +kernel
theorem dX2_join_1 : decode cX2_join 1 = .ok (.invokevirtual 139, 3) := by decide +kernel
theorem dX2_join_4 : decode cX2_join 4 = .ok (.ifCond .eq 21, 3) := by decide +kernel
theorem dX2_join_7 : decode cX2_join 7 = .ok (.aload_n 0, 1) := by decide +kernel
theorem dX2_join_8 : decode cX2_join 8 = .ok (.getfield 25, 3) := by decide +kernel
theorem dX2_join_11 : decode cX2_join 11 = .ok (.aload_n 2, 1) := by decide +kernel
theorem dX2_join_12 : decode cX2_join 12 = .ok (.getfield 103, 3) := by decide +kernel
theorem dX2_join_15 : decode cX2_join 15 = .ok (.aload_n 2, 1) := by decide +kernel
theorem dX2_join_16 : decode cX2_join 16 = .ok (.getfield 111, 3) := by decide +kernel
theorem dX2_join_19 : decode cX2_join 19 = .ok (.invokevirtual 57, 3) := by decide +kernel
theorem dX2_join_22 : decode cX2_join 22 = .ok (.goto 57, 3) := by decide +kernel
theorem dX2_join_25 : decode cX2_join 25 = .ok (.aload_n 2, 1) := by decide +kernel
theorem dX2_join_26 : decode cX2_join 26 = .ok (.invokevirtual 139, 3) := by decide +kernel
theorem dX2_join_29 : decode cX2_join 29 = .ok (.ifCond .eq 21, 3) := by decide +kernel
theorem dX2_join_32 : decode cX2_join 32 = .ok (.aload_n 0, 1) := by decide +kernel
theorem dX2_join_33 : decode cX2_join 33 = .ok (.getfield 25, 3) := by decide +kernel
theorem dX2_join_36 : decode cX2_join 36 = .ok (.aload_n 1, 1) := by decide +kernel
theorem dX2_join_37 : decode cX2_join 37 = .ok (.getfield 103, 3) := by decide +kernel
theorem dX2_join_40 : decode cX2_join 40 = .ok (.aload_n 1, 1) := by decide +kernel
theorem dX2_join_41 : decode cX2_join 41 = .ok (.getfield 111, 3) := by decide +kernel
theorem dX2_join_44 : decode cX2_join 44 = .ok (.invokevirtual 57, 3) := by decide +kernel
theorem dX2_join_47 : decode cX2_join 47 = .ok (.goto 32, 3) := by decide +kernel
theorem dX2_join_50 : decode cX2_join 50 = .ok (.aload_n 0, 1) := by decide +kernel
theorem dX2_join_51 : decode cX2_join 51 = .ok (.getfield 25, 3) := by decide +kernel
theorem dX2_join_54 : decode cX2_join 54 = .ok (.aload_n 1, 1) := by decide +kernel
theorem dX2_join_55 : decode cX2_join 55 = .ok (.getfield 103, 3) := by decide +kernel
theorem dX2_join_58 : decode cX2_join 58 = .ok (.aload_n 2, 1) := by decide +kernel
theorem dX2_join_59 : decode cX2_join 59 = .ok (.getfield 103, 3) := by decide +kernel
theorem dX2_join_62 : decode cX2_join 62 = .ok (.invokestatic 154, 3) := by decide +kernel
theorem dX2_join_65 : decode cX2_join 65 = .ok (.aload_n 1, 1) := by decide +kernel
theorem dX2_join_66 : decode cX2_join 66 = .ok (.getfield 111, 3) := by decide +kernel
theorem dX2_join_69 : decode cX2_join 69 = .ok (.aload_n 2, 1) := by decide +kernel
theorem dX2_join_70 : decode cX2_join 70 = .ok (.getfield 111, 3) := by decide +kernel
theorem dX2_join_73 : decode cX2_join 73 = .ok (.invokestatic 159, 3) := by decide +kernel
theorem dX2_join_76 : decode cX2_join 76 = .ok (.invokevirtual 57, 3) := by decide +kernel
theorem dX2_join_79 : decode cX2_join 79 = .ok (.return_, 1) := by decide +kernel
theorem dX2_meet_0 : decode cX2_meet 0 = .ok (.aload_n 1, 1) := by decide +kernel
theorem dX2_meet_1 : decode cX2_meet 1 = .ok (.getfield 103, 3) := by decide +kernel
theorem dX2_meet_4 : decode cX2_meet 4 = .ok (.aload_n 2, 1) := by decide +kernel
theorem dX2_meet_5 : decode cX2_meet 5 = .ok (.getfield 103, 3) := by decide +kernel
theorem dX2_meet_8 : decode cX2_meet 8 = .ok (.invokestatic 159, 3) := by decide +kernel
theorem dX2_meet_11 : decode cX2_meet 11 = .ok (.lstore_n 3, 1) := by decide +kernel
theorem dX2_meet_12 : decode cX2_meet 12 = .ok (.aload_n 1, 1) := by decide +kernel
theorem dX2_meet_13 : decode cX2_meet 13 = .ok (.getfield 111, 3) := by decide +kernel
theorem dX2_meet_16 : decode cX2_meet 16 = .ok (.aload_n 2, 1) := by decide +kernel
theorem dX2_meet_17 : decode cX2_meet 17 = .ok (.getfield 111, 3) := by decide +kernel
theorem dX2_meet_20 : decode cX2_meet 20 = .ok (.invokestatic 154, 3) := by decide +kernel
theorem dX2_meet_23 : decode cX2_meet 23 = .ok (.lstore 5, 2) := by decide +kernel
theorem dX2_meet_25 : decode cX2_meet 25 = .ok (.lload_n 3, 1) := by decide +kernel
theorem dX2_meet_26 : decode cX2_meet 26 = .ok (.lload 5, 2) := by decide +kernel
theorem dX2_meet_28 : decode cX2_meet 28 = .ok (.lcmp, 1) := by decide +kernel
theorem dX2_meet_29 : decode cX2_meet 29 = .ok (.ifCond .le 13, 3) := by decide +kernel
theorem dX2_meet_32 : decode cX2_meet 32 = .ok (.aload_n 0, 1) := by decide +kernel
theorem dX2_meet_33 : decode cX2_meet 33 = .ok (.getfield 25, 3) := by decide +kernel
theorem dX2_meet_36 : decode cX2_meet 36 = .ok (.invokevirtual 39, 3) := by decide +kernel
theorem dX2_meet_39 : decode cX2_meet 39 = .ok (.goto 13, 3) := by decide +kernel
theorem dX2_meet_42 : decode cX2_meet 42 = .ok (.aload_n 0, 1) := by decide +kernel
theorem dX2_meet_43 : decode cX2_meet 43 = .ok (.getfield 25, 3) := by decide +kernel
theorem dX2_meet_46 : decode cX2_meet 46 = .ok (.lload_n 3, 1) := by decide +kernel
theorem dX2_meet_47 : decode cX2_meet 47 = .ok (.lload 5, 2) := by decide +kernel
theorem dX2_meet_49 : decode cX2_meet 49 = .ok (.invokevirtual 57, 3) := by decide +kernel
theorem dX2_meet_52 : decode cX2_meet 52 = .ok (.return_, 1) := by decide +kernel
theorem dX2_add_0 : decode cX2_add 0 = .ok (.aload_n 0, 1) := by decide +kernel
theorem dX2_add_1 : decode cX2_add 1 = .ok (.invokevirtual 139, 3) := by decide +kernel
theorem dX2_add_4 : decode cX2_add 4 = .ok (.ifCond .ne 10, 3) := by decide +kernel
theorem dX2_add_7 : decode cX2_add 7 = .ok (.aload_n 1, 1) := by decide +kernel
theorem dX2_add_8 : decode cX2_add 8 = .ok (.invokevirtual 139, 3) := by decide +kernel
theorem dX2_add_11 : decode cX2_add 11 = .ok (.ifCond .eq 10, 3) := by decide +kernel
theorem dX2_add_14 : decode cX2_add 14 = .ok (.aload_n 0, 1) := by decide +kernel
theorem dX2_add_15 : decode cX2_add 15 = .ok (.invokevirtual 39, 3) := by decide +kernel
theorem dX2_add_18 : decode cX2_add 18 = .ok (.goto 29, 3) := by decide +kernel
theorem dX2_add_21 : decode cX2_add 21 = .ok (.aload_n 0, 1) := by decide +kernel
theorem dX2_add_22 : decode cX2_add 22 = .ok (.aload_n 0, 1) := by decide +kernel
theorem dX2_add_23 : decode cX2_add 23 = .ok (.getfield 103, 3) := by decide +kernel
theorem dX2_add_26 : decode cX2_add 26 = .ok (.aload_n 1, 1) := by decide +kernel
theorem dX2_add_27 : decode cX2_add 27 = .ok (.getfield 103, 3) := by decide +kernel
theorem dX2_add_30 : decode cX2_add 30 = .ok (.invokestatic 123, 3) := by decide +kernel
theorem dX2_add_33 : decode cX2_add 33 = .ok (.aload_n 0, 1) := by decide +kernel
theorem dX2_add_34 : decode cX2_add 34 = .ok (.getfield 111, 3) := by decide +kernel
theorem dX2_add_37 : decode cX2_add 37 = .ok (.aload_n 1, 1) := by decide +kernel
theorem dX2_add_38 : decode cX2_add 38 = .ok (.getfield 111, 3) := by decide +kernel
theorem dX2_add_41 : decode cX2_add 41 = .ok (.invokestatic 123, 3) := by decide +kernel
theorem dX2_add_44 : decode cX2_add 44 = .ok (.invokevirtual 57, 3) := by decide +kernel
theorem dX2_add_47 : decode cX2_add 47 = .ok (.return_, 1) := by decide +kernel
theorem dX2_multiply_0 : decode cX2_multiply 0 = .ok (.aload_n 0, 1) := by decide +kernel
theorem dX2_multiply_1 : decode cX2_multiply 1 = .ok (.aload_n 1, 1) := by decide +kernel
theorem dX2_multiply_2 : decode cX2_multiply 2 = .ok (.getfield 103, 3) := by decide +kernel
theorem dX2_multiply_5 : decode cX2_multiply 5 = .ok (.aload_n 2, 1) := by decide +kernel
theorem dX2_multiply_6 : decode cX2_multiply 6 = .ok (.getfield 103, 3) := by decide +kernel
theorem dX2_multiply_9 : decode cX2_multiply 9 = .ok (.invokevirtual 166, 3) := by decide +kernel
theorem dX2_multiply_12 : decode cX2_multiply 12 = .ok (.aload_n 0, 1) := by decide +kernel
theorem dX2_multiply_13 : decode cX2_multiply 13 = .ok (.aload_n 1, 1) := by decide +kernel
theorem dX2_multiply_14 : decode cX2_multiply 14 = .ok (.getfield 103, 3) := by decide +kernel
theorem dX2_multiply_17 : decode cX2_multiply 17 = .ok (.aload_n 2, 1) := by decide +kernel
theorem dX2_multiply_18 : decode cX2_multiply 18 = .ok (.getfield 111, 3) := by decide +kernel
theorem dX2_multiply_21 : decode cX2_multiply 21 = .ok (.invokevirtual 166, 3) := by decide +kernel
theorem dX2_multiply_24 : decode cX2_multiply 24 = .ok (.invokestatic 154, 3) := by decide +kernel
theorem dX2_multiply_27 : decode cX2_multiply 27 = .ok (.aload_n 0, 1) := by decide +kernel
theorem dX2_multiply_28 : decode cX2_multiply 28 = .ok (.aload_n 1, 1) := by decide +kernel
theorem dX2_multiply_29 : decode cX2_multiply 29 = .ok (.getfield 111, 3) := by decide +kernel
theorem dX2_multiply_32 : decode cX2_multiply 32 = .ok (.aload_n 2, 1) := by decide +kernel
theorem dX2_multiply_33 : decode cX2_multiply 33 = .ok (.getfield 103, 3) := by decide +kernel
theorem dX2_multiply_36 : decode cX2_multiply 36 = .ok (.invokevirtual 166, 3) := by decide +kernel
theorem dX2_multiply_39 : decode cX2_multiply 39 = .ok (.aload_n 0, 1) := by decide +kernel
theorem dX2_multiply_40 : decode cX2_multiply 40 = .ok (.aload_n 1, 1) := by decide +kernel
theorem dX2_multiply_41 : decode cX2_multiply 41 = .ok (.getfield 111, 3) := by decide +kernel
theorem dX2_multiply_44 : decode cX2_multiply 44 = .ok (.aload_n 2, 1) := by decide +kernel
theorem dX2_multiply_45 : decode cX2_multiply 45 = .ok (.getfield 111, 3) := by decide +kernel
theorem dX2_multiply_48 : decode cX2_multiply 48 = .ok (.invokevirtual 166, 3) := by decide +kernel
theorem dX2_multiply_51 : decode cX2_multiply 51 = .ok (.invokestatic 154, 3) := by decide +kernel
theorem dX2_multiply_54 : decode cX2_multiply 54 = .ok (.invokestatic 154, 3) := by decide +kernel
theorem dX2_multiply_57 : decode cX2_multiply 57 = .ok (.lstore_n 3, 1) := by decide +kernel
theorem dX2_multiply_58 : decode cX2_multiply 58 = .ok (.aload_n 0, 1) := by decide +kernel
theorem dX2_multiply_59 : decode cX2_multiply 59 = .ok (.aload_n 1, 1) := by decide +kernel
theorem dX2_multiply_60 : decode cX2_multiply 60 = .ok (.getfield 103, 3) := by decide +kernel
theorem dX2_multiply_63 : decode cX2_multiply 63 = .ok (.aload_n 2, 1) := by decide +kernel
theorem dX2_multiply_64 : decode cX2_multiply 64 = .ok (.getfield 103, 3) := by decide +kernel
theorem dX2_multiply_67 : decode cX2_multiply 67 = .ok (.invokevirtual 169, 3) := by decide +kernel
theorem dX2_multiply_70 : decode cX2_multiply 70 = .ok (.aload_n 0, 1) := by decide +kernel
theorem dX2_multiply_71 : decode cX2_multiply 71 = .ok (.aload_n 1, 1) := by decide +kernel
theorem dX2_multiply_72 : decode cX2_multiply 72 = .ok (.getfield 103, 3) := by decide +kernel
theorem dX2_multiply_75 : decode cX2_multiply 75 = .ok (.aload_n 2, 1) := by decide +kernel
theorem dX2_multiply_76 : decode cX2_multiply 76 = .ok (.getfield 111, 3) := by decide +kernel
theorem dX2_multiply_79 : decode cX2_multiply 79 = .ok (.invokevirtual 169, 3) := by decide +kernel
theorem dX2_multiply_82 : decode cX2_multiply 82 = .ok (.invokestatic 159, 3) := by decide +kernel
theorem dX2_multiply_85 : decode cX2_multiply 85 = .ok (.aload_n 0, 1) := by decide +kernel
theorem dX2_multiply_86 : decode cX2_multiply 86 = .ok (.aload_n 1, 1) := by decide +kernel
theorem dX2_multiply_87 : decode cX2_multiply 87 = .ok (.getfield 111, 3) := by decide +kernel
theorem dX2_multiply_90 : decode cX2_multiply 90 = .ok (.aload_n 2, 1) := by decide +kernel
theorem dX2_multiply_91 : decode cX2_multiply 91 = .ok (.getfield 103, 3) := by decide +kernel
theorem dX2_multiply_94 : decode cX2_multiply 94 = .ok (.invokevirtual 169, 3) := by decide +kernel
theorem dX2_multiply_97 : decode cX2_multiply 97 = .ok (.aload_n 0, 1) := by decide +kernel
theorem dX2_multiply_98 : decode cX2_multiply 98 = .ok (.aload_n 1, 1) := by decide +kernel
theorem dX2_multiply_99 : decode cX2_multiply 99 = .ok (.getfield 111, 3) := by decide +kernel
theorem dX2_multiply_102 : decode cX2_multiply 102 = .ok (.aload_n 2, 1) := by decide +kernel
theorem dX2_multiply_103 : decode cX2_multiply 103 = .ok (.getfield 111, 3) := by decide +kernel
theorem dX2_multiply_106 : decode cX2_multiply 106 = .ok (.invokevirtual 169, 3) := by decide +kernel
theorem dX2_multiply_109 : decode cX2_multiply 109 = .ok (.invokestatic 159, 3) := by decide +kernel
theorem dX2_multiply_112 : decode cX2_multiply 112 = .ok (.invokestatic 159, 3) := by decide +kernel
theorem dX2_multiply_115 : decode cX2_multiply 115 = .ok (.lstore 5, 2) := by decide +kernel
theorem dX2_multiply_117 : decode cX2_multiply 117 = .ok (.aload_n 0, 1) := by decide +kernel
theorem dX2_multiply_118 : decode cX2_multiply 118 = .ok (.getfield 25, 3) := by decide +kernel
theorem dX2_multiply_121 : decode cX2_multiply 121 = .ok (.lload_n 3, 1) := by decide +kernel
theorem dX2_multiply_122 : decode cX2_multiply 122 = .ok (.lload 5, 2) := by decide +kernel
theorem dX2_multiply_124 : decode cX2_multiply 124 = .ok (.invokevirtual 57, 3) := by decide +kernel
theorem dX2_multiply_127 : decode cX2_multiply 127 = .ok (.return_, 1) := by decide +kernel
theorem dX2_divide_0 : decode cX2_divide 0 = .ok (.aload_n 1, 1) := by decide +kernel
theorem dX2_divide_1 : decode cX2_divide 1 = .ok (.invokevirtual 139, 3) := by decide +kernel
theorem dX2_divide_4 : decode cX2_divide 4 = .ok (.ifCond .ne 10, 3) := by decide +kernel
theorem dX2_divide_7 : decode cX2_divide 7 = .ok (.aload_n 2, 1) := by decide +kernel
theorem dX2_divide_8 : decode cX2_divide 8 = .ok (.invokevirtual 139, 3) := by decide +kernel
theorem dX2_divide_11 : decode cX2_divide 11 = .ok (.ifCond .eq 18, 3) := by decide +kernel
theorem dX2_divide_14 : decode cX2_divide 14 = .ok (.aload_n 0, 1) := by decide +kernel
theorem dX2_divide_15 : decode cX2_divide 15 = .ok (.getfield 25, 3) := by decide +kernel
theorem dX2_divide_18 : decode cX2_divide 18 = .ok (.invokevirtual 39, 3) := by decide +kernel
theorem dX2_divide_21 : decode cX2_divide 21 = .ok (.aload_n 0, 1) := by decide +kernel
theorem dX2_divide_22 : decode cX2_divide 22 = .ok (.getfield 29, 3) := by decide +kernel
theorem dX2_divide_25 : decode cX2_divide 25 = .ok (.invokevirtual 39, 3) := by decide +kernel
theorem dX2_divide_28 : decode cX2_divide 28 = .ok (.return_, 1) := by decide +kernel
theorem dX2_divide_29 : decode cX2_divide 29 = .ok (.aload_n 0, 1) := by decide +kernel
theorem dX2_divide_30 : decode cX2_divide 30 = .ok (.aload_n 1, 1) := by decide +kernel
theorem dX2_divide_31 : decode cX2_divide 31 = .ok (.aload_n 2, 1) := by decide +kernel
theorem dX2_divide_32 : decode cX2_divide 32 = .ok (.getfield 103, 3) := by decide +kernel
theorem dX2_divide_35 : decode cX2_divide 35 = .ok (.aload_n 2, 1) := by decide +kernel
theorem dX2_divide_36 : decode cX2_divide 36 = .ok (.getfield 111, 3) := by decide +kernel
theorem dX2_divide_39 : decode cX2_divide 39 = .ok (.aload_n 0, 1) := by decide +kernel
theorem dX2_divide_40 : decode cX2_divide 40 = .ok (.getfield 25, 3) := by decide +kernel
theorem dX2_divide_43 : decode cX2_divide 43 = .ok (.invokevirtual 175, 3) := by decide +kernel
theorem dX2_divide_46 : decode cX2_divide 46 = .ok (.aload_n 0, 1) := by decide +kernel
theorem dX2_divide_47 : decode cX2_divide 47 = .ok (.aload_n 1, 1) := by decide +kernel
theorem dX2_divide_48 : decode cX2_divide 48 = .ok (.aload_n 2, 1) := by decide +kernel
theorem dX2_divide_49 : decode cX2_divide 49 = .ok (.getfield 111, 3) := by decide +kernel
theorem dX2_divide_52 : decode cX2_divide 52 = .ok (.lneg, 1) := by decide +kernel
theorem dX2_divide_53 : decode cX2_divide 53 = .ok (.aload_n 2, 1) := by decide +kernel
theorem dX2_divide_54 : decode cX2_divide 54 = .ok (.getfield 103, 3) := by decide +kernel
theorem dX2_divide_57 : decode cX2_divide 57 = .ok (.lneg, 1) := by decide +kernel
theorem dX2_divide_58 : decode cX2_divide 58 = .ok (.aload_n 0, 1) := by decide +kernel
theorem dX2_divide_59 : decode cX2_divide 59 = .ok (.getfield 29, 3) := by decide +kernel
theorem dX2_divide_62 : decode cX2_divide 62 = .ok (.invokevirtual 175, 3) := by decide +kernel
theorem dX2_divide_65 : decode cX2_divide 65 = .ok (.aload_n 0, 1) := by decide +kernel
theorem dX2_divide_66 : decode cX2_divide 66 = .ok (.getfield 29, 3) := by decide +kernel
theorem dX2_divide_69 : decode cX2_divide 69 = .ok (.invokevirtual 139, 3) := by decide +kernel
theorem dX2_divide_72 : decode cX2_divide 72 = .ok (.ifCond .ne 26, 3) := by decide +kernel
theorem dX2_divide_75 : decode cX2_divide 75 = .ok (.aload_n 0, 1) := by decide +kernel
theorem dX2_divide_76 : decode cX2_divide 76 = .ok (.getfield 29, 3) := by decide +kernel
theorem dX2_divide_79 : decode cX2_divide 79 = .ok (.aload_n 0, 1) := by decide +kernel
theorem dX2_divide_80 : decode cX2_divide 80 = .ok (.getfield 29, 3) := by decide +kernel
theorem dX2_divide_83 : decode cX2_divide 83 = .ok (.getfield 111, 3) := by decide +kernel
theorem dX2_divide_86 : decode cX2_divide 86 = .ok (.lneg, 1) := by decide +kernel
theorem dX2_divide_87 : decode cX2_divide 87 = .ok (.aload_n 0, 1) := by decide +kernel
theorem dX2_divide_88 : decode cX2_divide 88 = .ok (.getfield 29, 3) := by decide +kernel
theorem dX2_divide_91 : decode cX2_divide 91 = .ok (.getfield 103, 3) := by decide +kernel
theorem dX2_divide_94 : decode cX2_divide 94 = .ok (.lneg, 1) := by decide +kernel
theorem dX2_divide_95 : decode cX2_divide 95 = .ok (.invokevirtual 57, 3) := by decide +kernel
theorem dX2_divide_98 : decode cX2_divide 98 = .ok (.return_, 1) := by decide +kernel
end
section
theorem dX2_divideByAbove_0 : decode cX2_divideByAbove 0 = .ok (.lload 4, 2) := by decide +kernel
theorem dX2_divideByAbove_2 : decode cX2_divideByAbove 2 = .ok (.lconst 0, 1) := by decide +kernel
theorem dX2_divideByAbove_3 : decode cX2_divideByAbove 3 = .ok (.lcmp, 1) := by decide +kernel
theorem dX2_divideByAbove_4 : decode cX2_divideByAbove 4 = .ok (.ifCond .gt 9, 3) := by decide +kernel
theorem dX2_divideByAbove_7 : decode cX2_divideByAbove 7 = .ok (.aload 6, 2) := by decide +kernel
theorem dX2_divideByAbove_9 : decode cX2_divideByAbove 9 = .ok (.invokevirtual 39, 3) := by decide +kernel
theorem dX2_divideByAbove_12 : decode cX2_divideByAbove 12 = .ok (.return_, 1) := by decide +kernel
theorem dX2_divideByAbove_13 : decode cX2_divideByAbove 13 = .ok (.lload_n 2, 1) := by decide +kernel
theorem dX2_divideByAbove_14 : decode cX2_divideByAbove 14 = .ok (.lconst 0, 1) := by decide +kernel
theorem dX2_divideByAbove_15 : decode cX2_divideByAbove 15 = .ok (.invokestatic 159, 3) := by decide +kernel
theorem dX2_divideByAbove_18 : decode cX2_divideByAbove 18 = .ok (.lstore 7, 2) := by decide +kernel
theorem dX2_divideByAbove_20 : decode cX2_divideByAbove 20 = .ok (.aload 6, 2) := by decide +kernel
theorem dX2_divideByAbove_22 : decode cX2_divideByAbove 22 = .ok (.aload_n 0, 1) := by decide +kernel
theorem dX2_divideByAbove_23 : decode cX2_divideByAbove 23 = .ok (.aload_n 1, 1) := by decide +kernel
theorem dX2_divideByAbove_24 : decode cX2_divideByAbove 24 = .ok (.getfield 103, 3) := by decide +kernel
theorem dX2_divideByAbove_27 : decode cX2_divideByAbove 27 = .ok (.lload 7, 2) := by decide +kernel
theorem dX2_divideByAbove_29 : decode cX2_divideByAbove 29 = .ok (.lload 4, 2) := by decide +kernel
theorem dX2_divideByAbove_31 : decode cX2_divideByAbove 31 = .ok (.invokevirtual 179, 3) := by decide +kernel
theorem dX2_divideByAbove_34 : decode cX2_divideByAbove 34 = .ok (.aload_n 0, 1) := by decide +kernel
theorem dX2_divideByAbove_35 : decode cX2_divideByAbove 35 = .ok (.aload_n 1, 1) := by decide +kernel
theorem dX2_divideByAbove_36 : decode cX2_divideByAbove 36 = .ok (.getfield 111, 3) := by decide +kernel
theorem dX2_divideByAbove_39 : decode cX2_divideByAbove 39 = .ok (.lneg, 1) := by decide +kernel
theorem dX2_divideByAbove_40 : decode cX2_divideByAbove 40 = .ok (.lload 7, 2) := by decide +kernel
theorem dX2_divideByAbove_42 : decode cX2_divideByAbove 42 = .ok (.lload 4, 2) := by decide +kernel
theorem dX2_divideByAbove_44 : decode cX2_divideByAbove 44 = .ok (.invokevirtual 179, 3) := by decide +kernel
theorem dX2_divideByAbove_47 : decode cX2_divideByAbove 47 = .ok (.lneg, 1) := by decide +kernel
theorem dX2_divideByAbove_48 : decode cX2_divideByAbove 48 = .ok (.invokevirtual 57, 3) := by decide +kernel
theorem dX2_divideByAbove_51 : decode cX2_divideByAbove 51 = .ok (.return_, 1) := by decide +kernel
theorem dX2_leastQuotient_0 : decode cX2_leastQuotient 0 = .ok (.lload_n 1, 1) := by decide +kernel
theorem dX2_leastQuotient_1 : decode cX2_leastQuotient 1 = .ok (.lconst 0, 1) := by decide +kernel
theorem dX2_leastQuotient_2 : decode cX2_leastQuotient 2 = .ok (.lcmp, 1) := by decide +kernel
theorem dX2_leastQuotient_3 : decode cX2_leastQuotient 3 = .ok (.ifCond .lt 38, 3) := by decide +kernel
theorem dX2_leastQuotient_6 : decode cX2_leastQuotient 6 = .ok (.lload 5, 2) := by decide +kernel
theorem dX2_leastQuotient_8 : decode cX2_leastQuotient 8 = .ok (.lconst 0, 1) := by decide +kernel
theorem dX2_leastQuotient_9 : decode cX2_leastQuotient 9 = .ok (.lcmp, 1) := by decide +kernel
theorem dX2_leastQuotient_10 : decode cX2_leastQuotient 10 = .ok (.ifCond .le 12, 3) := by decide +kernel
theorem dX2_leastQuotient_13 : decode cX2_leastQuotient 13 = .ok (.lload 5, 2) := by decide +kernel
theorem dX2_leastQuotient_15 : decode cX2_leastQuotient 15 = .ok (.ldc2_w 53, 3) := by decide +kernel
theorem dX2_leastQuotient_18 : decode cX2_leastQuotient 18 = .ok (.lcmp, 1) := by decide +kernel
theorem dX2_leastQuotient_19 : decode cX2_leastQuotient 19 = .ok (.ifCond .ne 7, 3) := by decide +kernel
theorem dX2_leastQuotient_22 : decode cX2_leastQuotient 22 = .ok (.lconst 0, 1) := by decide +kernel
theorem dX2_leastQuotient_23 : decode cX2_leastQuotient 23 = .ok (.goto 17, 3) := by decide +kernel
theorem dX2_leastQuotient_26 : decode cX2_leastQuotient 26 = .ok (.lload_n 1, 1) := by decide +kernel
theorem dX2_leastQuotient_27 : decode cX2_leastQuotient 27 = .ok (.aload_n 0, 1) := by decide +kernel
theorem dX2_leastQuotient_28 : decode cX2_leastQuotient 28 = .ok (.getfield 12, 3) := by decide +kernel
theorem dX2_leastQuotient_31 : decode cX2_leastQuotient 31 = .ok (.invokevirtual 183, 3) := by decide +kernel
theorem dX2_leastQuotient_34 : decode cX2_leastQuotient 34 = .ok (.lshl, 1) := by decide +kernel
theorem dX2_leastQuotient_35 : decode cX2_leastQuotient 35 = .ok (.lload 5, 2) := by decide +kernel
theorem dX2_leastQuotient_37 : decode cX2_leastQuotient 37 = .ok (.invokestatic 186, 3) := by decide +kernel
theorem dX2_leastQuotient_40 : decode cX2_leastQuotient 40 = .ok (.lreturn, 1) := by decide +kernel
theorem dX2_leastQuotient_41 : decode cX2_leastQuotient 41 = .ok (.lload_n 3, 1) := by decide +kernel
theorem dX2_leastQuotient_42 : decode cX2_leastQuotient 42 = .ok (.lconst 0, 1) := by decide +kernel
theorem dX2_leastQuotient_43 : decode cX2_leastQuotient 43 = .ok (.lcmp, 1) := by decide +kernel
theorem dX2_leastQuotient_44 : decode cX2_leastQuotient 44 = .ok (.ifCond .le 11, 3) := by decide +kernel
theorem dX2_leastQuotient_47 : decode cX2_leastQuotient 47 = .ok (.lload_n 1, 1) := by decide +kernel
theorem dX2_leastQuotient_48 : decode cX2_leastQuotient 48 = .ok (.ldc2_w 55, 3) := by decide +kernel
theorem dX2_leastQuotient_51 : decode cX2_leastQuotient 51 = .ok (.lcmp, 1) := by decide +kernel
theorem dX2_leastQuotient_52 : decode cX2_leastQuotient 52 = .ok (.ifCond .ne 7, 3) := by decide +kernel
theorem dX2_leastQuotient_55 : decode cX2_leastQuotient 55 = .ok (.ldc2_w 55, 3) := by decide +kernel
theorem dX2_leastQuotient_58 : decode cX2_leastQuotient 58 = .ok (.lreturn, 1) := by decide +kernel
theorem dX2_leastQuotient_59 : decode cX2_leastQuotient 59 = .ok (.lload_n 1, 1) := by decide +kernel
theorem dX2_leastQuotient_60 : decode cX2_leastQuotient 60 = .ok (.aload_n 0, 1) := by decide +kernel
theorem dX2_leastQuotient_61 : decode cX2_leastQuotient 61 = .ok (.getfield 12, 3) := by decide +kernel
theorem dX2_leastQuotient_64 : decode cX2_leastQuotient 64 = .ok (.invokevirtual 183, 3) := by decide +kernel
theorem dX2_leastQuotient_67 : decode cX2_leastQuotient 67 = .ok (.lshl, 1) := by decide +kernel
theorem dX2_leastQuotient_68 : decode cX2_leastQuotient 68 = .ok (.lload_n 3, 1) := by decide +kernel
theorem dX2_leastQuotient_69 : decode cX2_leastQuotient 69 = .ok (.invokestatic 186, 3) := by decide +kernel
theorem dX2_leastQuotient_72 : decode cX2_leastQuotient 72 = .ok (.lreturn, 1) := by decide +kernel
theorem dX2_takeSize_0 : decode cX2_takeSize 0 = .ok (.aload_n 1, 1) := by decide +kernel
theorem dX2_takeSize_1 : decode cX2_takeSize 1 = .ok (.getfield 103, 3) := by decide +kernel
theorem dX2_takeSize_4 : decode cX2_takeSize 4 = .ok (.lconst 0, 1) := by decide +kernel
theorem dX2_takeSize_5 : decode cX2_takeSize 5 = .ok (.lcmp, 1) := by decide +kernel
theorem dX2_takeSize_6 : decode cX2_takeSize 6 = .ok (.ifCond .lt 21, 3) := by decide +kernel
theorem dX2_takeSize_9 : decode cX2_takeSize 9 = .ok (.aload_n 0, 1) := by decide +kernel
theorem dX2_takeSize_10 : decode cX2_takeSize 10 = .ok (.getfield 25, 3) := by decide +kernel
theorem dX2_takeSize_13 : decode cX2_takeSize 13 = .ok (.aload_n 1, 1) := by decide +kernel
theorem dX2_takeSize_14 : decode cX2_takeSize 14 = .ok (.getfield 103, 3) := by decide +kernel
theorem dX2_takeSize_17 : decode cX2_takeSize 17 = .ok (.aload_n 1, 1) := by decide +kernel
theorem dX2_takeSize_18 : decode cX2_takeSize 18 = .ok (.getfield 111, 3) := by decide +kernel
theorem dX2_takeSize_21 : decode cX2_takeSize 21 = .ok (.invokevirtual 57, 3) := by decide +kernel
theorem dX2_takeSize_24 : decode cX2_takeSize 24 = .ok (.goto 52, 3) := by decide +kernel
theorem dX2_takeSize_27 : decode cX2_takeSize 27 = .ok (.aload_n 1, 1) := by decide +kernel
theorem dX2_takeSize_28 : decode cX2_takeSize 28 = .ok (.getfield 111, 3) := by decide +kernel
theorem dX2_takeSize_31 : decode cX2_takeSize 31 = .ok (.lconst 0, 1) := by decide +kernel
theorem dX2_takeSize_32 : decode cX2_takeSize 32 = .ok (.lcmp, 1) := by decide +kernel
theorem dX2_takeSize_33 : decode cX2_takeSize 33 = .ok (.ifCond .gt 23, 3) := by decide +kernel
theorem dX2_takeSize_36 : decode cX2_takeSize 36 = .ok (.aload_n 0, 1) := by decide +kernel
theorem dX2_takeSize_37 : decode cX2_takeSize 37 = .ok (.getfield 25, 3) := by decide +kernel
theorem dX2_takeSize_40 : decode cX2_takeSize 40 = .ok (.aload_n 1, 1) := by decide +kernel
theorem dX2_takeSize_41 : decode cX2_takeSize 41 = .ok (.getfield 111, 3) := by decide +kernel
theorem dX2_takeSize_44 : decode cX2_takeSize 44 = .ok (.lneg, 1) := by decide +kernel
theorem dX2_takeSize_45 : decode cX2_takeSize 45 = .ok (.aload_n 1, 1) := by decide +kernel
theorem dX2_takeSize_46 : decode cX2_takeSize 46 = .ok (.getfield 103, 3) := by decide +kernel
theorem dX2_takeSize_49 : decode cX2_takeSize 49 = .ok (.lneg, 1) := by decide +kernel
theorem dX2_takeSize_50 : decode cX2_takeSize 50 = .ok (.invokevirtual 57, 3) := by decide +kernel
theorem dX2_takeSize_53 : decode cX2_takeSize 53 = .ok (.goto 23, 3) := by decide +kernel
theorem dX2_takeSize_56 : decode cX2_takeSize 56 = .ok (.aload_n 0, 1) := by decide +kernel
theorem dX2_takeSize_57 : decode cX2_takeSize 57 = .ok (.getfield 25, 3) := by decide +kernel
theorem dX2_takeSize_60 : decode cX2_takeSize 60 = .ok (.lconst 0, 1) := by decide +kernel
theorem dX2_takeSize_61 : decode cX2_takeSize 61 = .ok (.aload_n 1, 1) := by decide +kernel
theorem dX2_takeSize_62 : decode cX2_takeSize 62 = .ok (.getfield 103, 3) := by decide +kernel
theorem dX2_takeSize_65 : decode cX2_takeSize 65 = .ok (.lneg, 1) := by decide +kernel
theorem dX2_takeSize_66 : decode cX2_takeSize 66 = .ok (.aload_n 1, 1) := by decide +kernel
theorem dX2_takeSize_67 : decode cX2_takeSize 67 = .ok (.getfield 111, 3) := by decide +kernel
theorem dX2_takeSize_70 : decode cX2_takeSize 70 = .ok (.invokestatic 159, 3) := by decide +kernel
theorem dX2_takeSize_73 : decode cX2_takeSize 73 = .ok (.invokevirtual 57, 3) := by decide +kernel
theorem dX2_takeSize_76 : decode cX2_takeSize 76 = .ok (.return_, 1) := by decide +kernel
theorem dX2_takeRoot_0 : decode cX2_takeRoot 0 = .ok (.aload_n 1, 1) := by decide +kernel
theorem dX2_takeRoot_1 : decode cX2_takeRoot 1 = .ok (.getfield 111, 3) := by decide +kernel
theorem dX2_takeRoot_4 : decode cX2_takeRoot 4 = .ok (.lconst 0, 1) := by decide +kernel
theorem dX2_takeRoot_5 : decode cX2_takeRoot 5 = .ok (.lcmp, 1) := by decide +kernel
theorem dX2_takeRoot_6 : decode cX2_takeRoot 6 = .ok (.ifCond .ge 11, 3) := by decide +kernel
theorem dX2_takeRoot_9 : decode cX2_takeRoot 9 = .ok (.aload_n 0, 1) := by decide +kernel
theorem dX2_takeRoot_10 : decode cX2_takeRoot 10 = .ok (.getfield 25, 3) := by decide +kernel
theorem dX2_takeRoot_13 : decode cX2_takeRoot 13 = .ok (.invokevirtual 39, 3) := by decide +kernel
theorem dX2_takeRoot_16 : decode cX2_takeRoot 16 = .ok (.return_, 1) := by decide +kernel
theorem dX2_takeRoot_17 : decode cX2_takeRoot 17 = .ok (.aload_n 0, 1) := by decide +kernel
theorem dX2_takeRoot_18 : decode cX2_takeRoot 18 = .ok (.getfield 25, 3) := by decide +kernel
theorem dX2_takeRoot_21 : decode cX2_takeRoot 21 = .ok (.aload_n 0, 1) := by decide +kernel
theorem dX2_takeRoot_22 : decode cX2_takeRoot 22 = .ok (.aload_n 1, 1) := by decide +kernel
theorem dX2_takeRoot_23 : decode cX2_takeRoot 23 = .ok (.getfield 103, 3) := by decide +kernel
theorem dX2_takeRoot_26 : decode cX2_takeRoot 26 = .ok (.lconst 0, 1) := by decide +kernel
theorem dX2_takeRoot_27 : decode cX2_takeRoot 27 = .ok (.invokestatic 159, 3) := by decide +kernel
theorem dX2_takeRoot_30 : decode cX2_takeRoot 30 = .ok (.invokevirtual 189, 3) := by decide +kernel
theorem dX2_takeRoot_33 : decode cX2_takeRoot 33 = .ok (.aload_n 0, 1) := by decide +kernel
theorem dX2_takeRoot_34 : decode cX2_takeRoot 34 = .ok (.aload_n 1, 1) := by decide +kernel
theorem dX2_takeRoot_35 : decode cX2_takeRoot 35 = .ok (.getfield 111, 3) := by decide +kernel
theorem dX2_takeRoot_38 : decode cX2_takeRoot 38 = .ok (.invokevirtual 192, 3) := by decide +kernel
theorem dX2_takeRoot_41 : decode cX2_takeRoot 41 = .ok (.invokevirtual 57, 3) := by decide +kernel
theorem dX2_takeRoot_44 : decode cX2_takeRoot 44 = .ok (.return_, 1) := by decide +kernel
theorem dX2_rootNotAbove_0 : decode cX2_rootNotAbove 0 = .ok (.lload_n 1, 1) := by decide +kernel
theorem dX2_rootNotAbove_1 : decode cX2_rootNotAbove 1 = .ok (.aload_n 0, 1) := by decide +kernel
theorem dX2_rootNotAbove_2 : decode cX2_rootNotAbove 2 = .ok (.getfield 12, 3) := by decide +kernel
theorem dX2_rootNotAbove_5 : decode cX2_rootNotAbove 5 = .ok (.invokevirtual 183, 3) := by decide +kernel
theorem dX2_rootNotAbove_8 : decode cX2_rootNotAbove 8 = .ok (.lshl, 1) := by decide +kernel
theorem dX2_rootNotAbove_9 : decode cX2_rootNotAbove 9 = .ok (.invokestatic 195, 3) := by decide +kernel
theorem dX2_rootNotAbove_12 : decode cX2_rootNotAbove 12 = .ok (.lreturn, 1) := by decide +kernel
theorem dX2_rootNotBelow_0 : decode cX2_rootNotBelow 0 = .ok (.lload_n 1, 1) := by decide +kernel
theorem dX2_rootNotBelow_1 : decode cX2_rootNotBelow 1 = .ok (.ldc2_w 53, 3) := by decide +kernel
theorem dX2_rootNotBelow_4 : decode cX2_rootNotBelow 4 = .ok (.lcmp, 1) := by decide +kernel
theorem dX2_rootNotBelow_5 : decode cX2_rootNotBelow 5 = .ok (.ifCond .ne 7, 3) := by decide +kernel
theorem dX2_rootNotBelow_8 : decode cX2_rootNotBelow 8 = .ok (.ldc2_w 53, 3) := by decide +kernel
theorem dX2_rootNotBelow_11 : decode cX2_rootNotBelow 11 = .ok (.lreturn, 1) := by decide +kernel
theorem dX2_rootNotBelow_12 : decode cX2_rootNotBelow 12 = .ok (.lload_n 1, 1) := by decide +kernel
theorem dX2_rootNotBelow_13 : decode cX2_rootNotBelow 13 = .ok (.aload_n 0, 1) := by decide +kernel
theorem dX2_rootNotBelow_14 : decode cX2_rootNotBelow 14 = .ok (.getfield 12, 3) := by decide +kernel
theorem dX2_rootNotBelow_17 : decode cX2_rootNotBelow 17 = .ok (.invokevirtual 183, 3) := by decide +kernel
theorem dX2_rootNotBelow_20 : decode cX2_rootNotBelow 20 = .ok (.lshl, 1) := by decide +kernel
theorem dX2_rootNotBelow_21 : decode cX2_rootNotBelow 21 = .ok (.lstore_n 3, 1) := by decide +kernel
theorem dX2_rootNotBelow_22 : decode cX2_rootNotBelow 22 = .ok (.lload_n 3, 1) := by decide +kernel
theorem dX2_rootNotBelow_23 : decode cX2_rootNotBelow 23 = .ok (.invokestatic 195, 3) := by decide +kernel
theorem dX2_rootNotBelow_26 : decode cX2_rootNotBelow 26 = .ok (.lstore 5, 2) := by decide +kernel
theorem dX2_rootNotBelow_28 : decode cX2_rootNotBelow 28 = .ok (.lload 5, 2) := by decide +kernel
theorem dX2_rootNotBelow_30 : decode cX2_rootNotBelow 30 = .ok (.lload 5, 2) := by decide +kernel
theorem dX2_rootNotBelow_32 : decode cX2_rootNotBelow 32 = .ok (.lmul, 1) := by decide +kernel
theorem dX2_rootNotBelow_33 : decode cX2_rootNotBelow 33 = .ok (.lload_n 3, 1) := by decide +kernel
theorem dX2_rootNotBelow_34 : decode cX2_rootNotBelow 34 = .ok (.lcmp, 1) := by decide +kernel
theorem dX2_rootNotBelow_35 : decode cX2_rootNotBelow 35 = .ok (.ifCond .ge 10, 3) := by decide +kernel
theorem dX2_rootNotBelow_38 : decode cX2_rootNotBelow 38 = .ok (.lload 5, 2) := by decide +kernel
theorem dX2_rootNotBelow_40 : decode cX2_rootNotBelow 40 = .ok (.lconst 1, 1) := by decide +kernel
theorem dX2_rootNotBelow_41 : decode cX2_rootNotBelow 41 = .ok (.ladd, 1) := by decide +kernel
theorem dX2_rootNotBelow_42 : decode cX2_rootNotBelow 42 = .ok (.goto 5, 3) := by decide +kernel
theorem dX2_rootNotBelow_45 : decode cX2_rootNotBelow 45 = .ok (.lload 5, 2) := by decide +kernel
theorem dX2_rootNotBelow_47 : decode cX2_rootNotBelow 47 = .ok (.lreturn, 1) := by decide +kernel
theorem dX2_wholeRoot_0 : decode cX2_wholeRoot 0 = .ok (.lconst 0, 1) := by decide +kernel
theorem dX2_wholeRoot_1 : decode cX2_wholeRoot 1 = .ok (.lstore_n 2, 1) := by decide +kernel
theorem dX2_wholeRoot_2 : decode cX2_wholeRoot 2 = .ok (.bipush 20, 2) := by decide +kernel
theorem dX2_wholeRoot_4 : decode cX2_wholeRoot 4 = .ok (.istore 4, 2) := by decide +kernel
theorem dX2_wholeRoot_6 : decode cX2_wholeRoot 6 = .ok (.iload 4, 2) := by decide +kernel
theorem dX2_wholeRoot_8 : decode cX2_wholeRoot 8 = .ok (.ifCond .lt 30, 3) := by decide +kernel
theorem dX2_wholeRoot_11 : decode cX2_wholeRoot 11 = .ok (.lload_n 2, 1) := by decide +kernel
theorem dX2_wholeRoot_12 : decode cX2_wholeRoot 12 = .ok (.lconst 1, 1) := by decide +kernel
theorem dX2_wholeRoot_13 : decode cX2_wholeRoot 13 = .ok (.iload 4, 2) := by decide +kernel
theorem dX2_wholeRoot_15 : decode cX2_wholeRoot 15 = .ok (.lshl, 1) := by decide +kernel
theorem dX2_wholeRoot_16 : decode cX2_wholeRoot 16 = .ok (.ladd, 1) := by decide +kernel
theorem dX2_wholeRoot_17 : decode cX2_wholeRoot 17 = .ok (.lstore 5, 2) := by decide +kernel
theorem dX2_wholeRoot_19 : decode cX2_wholeRoot 19 = .ok (.lload 5, 2) := by decide +kernel
theorem dX2_wholeRoot_21 : decode cX2_wholeRoot 21 = .ok (.lload 5, 2) := by decide +kernel
theorem dX2_wholeRoot_23 : decode cX2_wholeRoot 23 = .ok (.lmul, 1) := by decide +kernel
theorem dX2_wholeRoot_24 : decode cX2_wholeRoot 24 = .ok (.lload_n 0, 1) := by decide +kernel
theorem dX2_wholeRoot_25 : decode cX2_wholeRoot 25 = .ok (.lcmp, 1) := by decide +kernel
theorem dX2_wholeRoot_26 : decode cX2_wholeRoot 26 = .ok (.ifCond .gt 6, 3) := by decide +kernel
theorem dX2_wholeRoot_29 : decode cX2_wholeRoot 29 = .ok (.lload 5, 2) := by decide +kernel
theorem dX2_wholeRoot_31 : decode cX2_wholeRoot 31 = .ok (.lstore_n 2, 1) := by decide +kernel
theorem dX2_wholeRoot_32 : decode cX2_wholeRoot 32 = .ok (.iinc 4 (-1), 3) := by decide +kernel
theorem dX2_wholeRoot_35 : decode cX2_wholeRoot 35 = .ok (.goto (-29), 3) := by decide +kernel
theorem dX2_wholeRoot_38 : decode cX2_wholeRoot 38 = .ok (.lload_n 2, 1) := by decide +kernel
theorem dX2_wholeRoot_39 : decode cX2_wholeRoot 39 = .ok (.lreturn, 1) := by decide +kernel
theorem dX2_isEndless_0 : decode cX2_isEndless 0 = .ok (.lload_n 0, 1) := by decide +kernel
theorem dX2_isEndless_1 : decode cX2_isEndless 1 = .ok (.ldc2_w 53, 3) := by decide +kernel
theorem dX2_isEndless_4 : decode cX2_isEndless 4 = .ok (.lcmp, 1) := by decide +kernel
theorem dX2_isEndless_5 : decode cX2_isEndless 5 = .ok (.ifCond .eq 11, 3) := by decide +kernel
theorem dX2_isEndless_8 : decode cX2_isEndless 8 = .ok (.lload_n 0, 1) := by decide +kernel
theorem dX2_isEndless_9 : decode cX2_isEndless 9 = .ok (.ldc2_w 55, 3) := by decide +kernel
theorem dX2_isEndless_12 : decode cX2_isEndless 12 = .ok (.lcmp, 1) := by decide +kernel
theorem dX2_isEndless_13 : decode cX2_isEndless 13 = .ok (.ifCond .ne 7, 3) := by decide +kernel
theorem dX2_isEndless_16 : decode cX2_isEndless 16 = .ok (.iconst 1, 1) := by decide +kernel
theorem dX2_isEndless_17 : decode cX2_isEndless 17 = .ok (.goto 4, 3) := by decide +kernel
theorem dX2_isEndless_20 : decode cX2_isEndless 20 = .ok (.iconst 0, 1) := by decide +kernel
theorem dX2_isEndless_21 : decode cX2_isEndless 21 = .ok (.ireturn, 1) := by decide +kernel
theorem dX2_plus_0 : decode cX2_plus 0 = .ok (.lload_n 0, 1) := by decide +kernel
theorem dX2_plus_1 : decode cX2_plus 1 = .ok (.invokestatic 135, 3) := by decide +kernel
theorem dX2_plus_4 : decode cX2_plus 4 = .ok (.ifCond .eq 5, 3) := by decide +kernel
theorem dX2_plus_7 : decode cX2_plus 7 = .ok (.lload_n 0, 1) := by decide +kernel
theorem dX2_plus_8 : decode cX2_plus 8 = .ok (.lreturn, 1) := by decide +kernel
theorem dX2_plus_9 : decode cX2_plus 9 = .ok (.lload_n 2, 1) := by decide +kernel
theorem dX2_plus_10 : decode cX2_plus 10 = .ok (.invokestatic 135, 3) := by decide +kernel
theorem dX2_plus_13 : decode cX2_plus 13 = .ok (.ifCond .eq 7, 3) := by decide +kernel
theorem dX2_plus_16 : decode cX2_plus 16 = .ok (.lload_n 2, 1) := by decide +kernel
theorem dX2_plus_17 : decode cX2_plus 17 = .ok (.goto 6, 3) := by decide +kernel
theorem dX2_plus_20 : decode cX2_plus 20 = .ok (.lload_n 0, 1) := by decide +kernel
theorem dX2_plus_21 : decode cX2_plus 21 = .ok (.lload_n 2, 1) := by decide +kernel
theorem dX2_plus_22 : decode cX2_plus 22 = .ok (.ladd, 1) := by decide +kernel
theorem dX2_plus_23 : decode cX2_plus 23 = .ok (.lreturn, 1) := by decide +kernel
theorem dX2_productNotAbove_0 : decode cX2_productNotAbove 0 = .ok (.lload_n 1, 1) := by decide +kernel
theorem dX2_productNotAbove_1 : decode cX2_productNotAbove 1 = .ok (.lconst 0, 1) := by decide +kernel
theorem dX2_productNotAbove_2 : decode cX2_productNotAbove 2 = .ok (.lcmp, 1) := by decide +kernel
theorem dX2_productNotAbove_3 : decode cX2_productNotAbove 3 = .ok (.ifCond .eq 9, 3) := by decide +kernel
theorem dX2_productNotAbove_6 : decode cX2_productNotAbove 6 = .ok (.lload_n 3, 1) := by decide +kernel
theorem dX2_productNotAbove_7 : decode cX2_productNotAbove 7 = .ok (.lconst 0, 1) := by decide +kernel
theorem dX2_productNotAbove_8 : decode cX2_productNotAbove 8 = .ok (.lcmp, 1) := by decide +kernel
theorem dX2_productNotAbove_9 : decode cX2_productNotAbove 9 = .ok (.ifCond .ne 5, 3) := by decide +kernel
theorem dX2_productNotAbove_12 : decode cX2_productNotAbove 12 = .ok (.lconst 0, 1) := by decide +kernel
theorem dX2_productNotAbove_13 : decode cX2_productNotAbove 13 = .ok (.lreturn, 1) := by decide +kernel
theorem dX2_productNotAbove_14 : decode cX2_productNotAbove 14 = .ok (.lload_n 1, 1) := by decide +kernel
theorem dX2_productNotAbove_15 : decode cX2_productNotAbove 15 = .ok (.invokestatic 135, 3) := by decide +kernel
theorem dX2_productNotAbove_18 : decode cX2_productNotAbove 18 = .ok (.ifCond .ne 10, 3) := by decide +kernel
theorem dX2_productNotAbove_21 : decode cX2_productNotAbove 21 = .ok (.lload_n 3, 1) := by decide +kernel
theorem dX2_productNotAbove_22 : decode cX2_productNotAbove 22 = .ok (.invokestatic 135, 3) := by decide +kernel
theorem dX2_productNotAbove_25 : decode cX2_productNotAbove 25 = .ok (.ifCond .eq 38, 3) := by decide +kernel
theorem dX2_productNotAbove_28 : decode cX2_productNotAbove 28 = .ok (.lload_n 1, 1) := by decide +kernel
theorem dX2_productNotAbove_29 : decode cX2_productNotAbove 29 = .ok (.lconst 0, 1) := by decide +kernel
theorem dX2_productNotAbove_30 : decode cX2_productNotAbove 30 = .ok (.lcmp, 1) := by decide +kernel
theorem dX2_productNotAbove_31 : decode cX2_productNotAbove 31 = .ok (.ifCond .ge 7, 3) := by decide +kernel
theorem dX2_productNotAbove_34 : decode cX2_productNotAbove 34 = .ok (.iconst 1, 1) := by decide +kernel
theorem dX2_productNotAbove_35 : decode cX2_productNotAbove 35 = .ok (.goto 4, 3) := by decide +kernel
theorem dX2_productNotAbove_38 : decode cX2_productNotAbove 38 = .ok (.iconst 0, 1) := by decide +kernel
theorem dX2_productNotAbove_39 : decode cX2_productNotAbove 39 = .ok (.lload_n 3, 1) := by decide +kernel
theorem dX2_productNotAbove_40 : decode cX2_productNotAbove 40 = .ok (.lconst 0, 1) := by decide +kernel
theorem dX2_productNotAbove_41 : decode cX2_productNotAbove 41 = .ok (.lcmp, 1) := by decide +kernel
theorem dX2_productNotAbove_42 : decode cX2_productNotAbove 42 = .ok (.ifCond .ge 7, 3) := by decide +kernel
theorem dX2_productNotAbove_45 : decode cX2_productNotAbove 45 = .ok (.iconst 1, 1) := by decide +kernel
theorem dX2_productNotAbove_46 : decode cX2_productNotAbove 46 = .ok (.goto 4, 3) := by decide +kernel
theorem dX2_productNotAbove_49 : decode cX2_productNotAbove 49 = .ok (.iconst 0, 1) := by decide +kernel
theorem dX2_productNotAbove_50 : decode cX2_productNotAbove 50 = .ok (.if_icmp .ne 9, 3) := by decide +kernel
theorem dX2_productNotAbove_53 : decode cX2_productNotAbove 53 = .ok (.ldc2_w 53, 3) := by decide +kernel
theorem dX2_productNotAbove_56 : decode cX2_productNotAbove 56 = .ok (.goto 6, 3) := by decide +kernel
theorem dX2_productNotAbove_59 : decode cX2_productNotAbove 59 = .ok (.ldc2_w 55, 3) := by decide +kernel
theorem dX2_productNotAbove_62 : decode cX2_productNotAbove 62 = .ok (.lreturn, 1) := by decide +kernel
theorem dX2_productNotAbove_63 : decode cX2_productNotAbove 63 = .ok (.lload_n 1, 1) := by decide +kernel
theorem dX2_productNotAbove_64 : decode cX2_productNotAbove 64 = .ok (.lload_n 3, 1) := by decide +kernel
theorem dX2_productNotAbove_65 : decode cX2_productNotAbove 65 = .ok (.lmul, 1) := by decide +kernel
theorem dX2_productNotAbove_66 : decode cX2_productNotAbove 66 = .ok (.aload_n 0, 1) := by decide +kernel
theorem dX2_productNotAbove_67 : decode cX2_productNotAbove 67 = .ok (.getfield 12, 3) := by decide +kernel
theorem dX2_productNotAbove_70 : decode cX2_productNotAbove 70 = .ok (.invokevirtual 183, 3) := by decide +kernel
theorem dX2_productNotAbove_73 : decode cX2_productNotAbove 73 = .ok (.lshr, 1) := by decide +kernel
theorem dX2_productNotAbove_74 : decode cX2_productNotAbove 74 = .ok (.lreturn, 1) := by decide +kernel
theorem dX2_productNotBelow_0 : decode cX2_productNotBelow 0 = .ok (.aload_n 0, 1) := by decide +kernel
theorem dX2_productNotBelow_1 : decode cX2_productNotBelow 1 = .ok (.lload_n 1, 1) := by decide +kernel
theorem dX2_productNotBelow_2 : decode cX2_productNotBelow 2 = .ok (.lneg, 1) := by decide +kernel
theorem dX2_productNotBelow_3 : decode cX2_productNotBelow 3 = .ok (.lload_n 3, 1) := by decide +kernel
theorem dX2_productNotBelow_4 : decode cX2_productNotBelow 4 = .ok (.invokevirtual 166, 3) := by decide +kernel
theorem dX2_productNotBelow_7 : decode cX2_productNotBelow 7 = .ok (.lneg, 1) := by decide +kernel
theorem dX2_productNotBelow_8 : decode cX2_productNotBelow 8 = .ok (.lreturn, 1) := by decide +kernel
end
section
def kx_names : List String := ["java/lang/RuntimeException", "java/lang/Exception"]
theorem kw_1 : Cond.fieldLink RX1 9 RX1 "least" "J" ∈ lw_tbl := by decide +kernel
theorem kw_2 : Cond.fieldLink RX1 15 RX1 "most" "J" ∈ lw_tbl := by decide +kernel
theorem kw_3 : Cond.constantLong RX1 18 (-1152921504606846976) ∈ lw_tbl := by decide +kernel
theorem kw_4 : Cond.constantLong RX1 20 1152921504606846976 ∈ lw_tbl := by decide +kernel
theorem kw_5 : Cond.code yX1_isEmpty cX1_isEmpty 1 (some .boolean) ∈ lw_tbl := by decide +kernel
theorem kw_6 : Cond.initialized yX1_isEmpty.cls ∈ lw_tbl := by decide +kernel
theorem kt_isEmpty : kp_T yX1_isEmpty cX1_isEmpty 1 (some .boolean) 0 := ⟨kw_5, kw_6, by decide +kernel, by decide +kernel⟩
theorem kw_7 : Cond.methodLink RX1 22 yX1_isEmpty ∈ lw_tbl := by decide +kernel
theorem kw_8 : Cond.instanceMethod yX1_isEmpty ∈ lw_tbl := by decide +kernel
theorem kw_9 : Cond.selects yX1_isEmpty.cls yX1_isEmpty yX1_isEmpty ∈ lw_tbl := by decide +kernel
theorem kw_10 : Cond.fieldLink RX0 9 RX0 "exponentBits" "I" ∈ lw_tbl := by decide +kernel
theorem kw_11 : Cond.fieldLink RX0 15 RX0 "fractionBits" "I" ∈ lw_tbl := by decide +kernel
theorem kw_12 : Cond.code yX0_signBit cX0_signBit 1 (some .int) ∈ lw_tbl := by decide +kernel
theorem kw_13 : Cond.initialized yX0_signBit.cls ∈ lw_tbl := by decide +kernel
theorem kt_signBit : kp_T yX0_signBit cX0_signBit 1 (some .int) 0 := ⟨kw_12, kw_13, by decide +kernel, by decide +kernel⟩
theorem kw_14 : Cond.methodLink RX0 18 yX0_signBit ∈ lw_tbl := by decide +kernel
theorem kw_15 : Cond.instanceMethod yX0_signBit ∈ lw_tbl := by decide +kernel
theorem kw_16 : Cond.selects yX0_signBit.cls yX0_signBit yX0_signBit ∈ lw_tbl := by decide +kernel
theorem kw_17 : Cond.code yX0_endlessPattern cX0_endlessPattern 1 (some .int) ∈ lw_tbl := by decide +kernel
theorem kw_18 : Cond.initialized yX0_endlessPattern.cls ∈ lw_tbl := by decide +kernel
theorem kt_endlessPattern : kp_T yX0_endlessPattern cX0_endlessPattern 1 (some .int) 0 := ⟨kw_17, kw_18, by decide +kernel, by decide +kernel⟩
theorem kw_19 : Cond.methodLink RX0 22 yX0_endlessPattern ∈ lw_tbl := by decide +kernel
theorem kw_20 : Cond.instanceMethod yX0_endlessPattern ∈ lw_tbl := by decide +kernel
theorem kw_21 : Cond.selects yX0_endlessPattern.cls yX0_endlessPattern yX0_endlessPattern ∈ lw_tbl := by decide +kernel
theorem kw_22 : Cond.constantLong RX0 29 1152921504606846976 ∈ lw_tbl := by decide +kernel
theorem kw_23 : Cond.code yX0_sizeOf cX0_sizeOf 5 (some .long) ∈ lw_tbl := by decide +kernel
theorem kw_24 : Cond.initialized yX0_sizeOf.cls ∈ lw_tbl := by decide +kernel
theorem kt_sizeOf : kp_T yX0_sizeOf cX0_sizeOf 5 (some .long) 1 := ⟨kw_23, kw_24, by decide +kernel, by decide +kernel⟩
theorem kw_25 : Cond.methodLink RX0 25 yX0_sizeOf ∈ lw_tbl := by decide +kernel
theorem kw_26 : Cond.instanceMethod yX0_sizeOf ∈ lw_tbl := by decide +kernel
theorem kw_27 : Cond.selects yX0_sizeOf.cls yX0_sizeOf yX0_sizeOf ∈ lw_tbl := by decide +kernel
theorem kw_28 : Cond.constantLong RX0 38 2 ∈ lw_tbl := by decide +kernel
theorem kw_29 : Cond.code yX0_extraBits cX0_extraBits 4 (some .int) ∈ lw_tbl := by decide +kernel
theorem kw_30 : Cond.initialized yX0_extraBits.cls ∈ lw_tbl := by decide +kernel
theorem kt_extraBits : kp_T yX0_extraBits cX0_extraBits 4 (some .int) 1 := ⟨kw_29, kw_30, by decide +kernel, by decide +kernel⟩
theorem kw_31 : Cond.methodLink RX0 35 yX0_extraBits ∈ lw_tbl := by decide +kernel
theorem kw_32 : Cond.instanceMethod yX0_extraBits ∈ lw_tbl := by decide +kernel
theorem kw_33 : Cond.selects yX0_extraBits.cls yX0_extraBits yX0_extraBits ∈ lw_tbl := by decide +kernel
theorem kw_34 : Cond.code yX0_unsignedOf cX0_unsignedOf 4 (some .int) ∈ lw_tbl := by decide +kernel
theorem kw_35 : Cond.initialized yX0_unsignedOf.cls ∈ lw_tbl := by decide +kernel
theorem kt_unsignedOf : kp_T yX0_unsignedOf cX0_unsignedOf 4 (some .int) 1 := ⟨kw_34, kw_35, by decide +kernel, by decide +kernel⟩
theorem kw_36 : Cond.methodLink RX0 31 yX0_unsignedOf ∈ lw_tbl := by decide +kernel
theorem kw_37 : Cond.instanceMethod yX0_unsignedOf ∈ lw_tbl := by decide +kernel
theorem kw_38 : Cond.selects yX0_unsignedOf.cls yX0_unsignedOf yX0_unsignedOf ∈ lw_tbl := by decide +kernel
theorem kw_39 : Cond.code yX0_sizeNotAbove cX0_sizeNotAbove 6 (some .long) ∈ lw_tbl := by decide +kernel
theorem kw_40 : Cond.initialized yX0_sizeNotAbove.cls ∈ lw_tbl := by decide +kernel
theorem kt_sizeNotAbove : kp_T yX0_sizeNotAbove cX0_sizeNotAbove 6 (some .long) 1 := ⟨kw_39, kw_40, by decide +kernel, by decide +kernel⟩
theorem kw_41 : Cond.methodLink RX0 44 yX0_sizeNotAbove ∈ lw_tbl := by decide +kernel
theorem kw_42 : Cond.instanceMethod yX0_sizeNotAbove ∈ lw_tbl := by decide +kernel
theorem kw_43 : Cond.selects yX0_sizeNotAbove.cls yX0_sizeNotAbove yX0_sizeNotAbove ∈ lw_tbl := by decide +kernel
theorem kw_44 : Cond.code yX0_sizeNotBelow cX0_sizeNotBelow 4 (some .long) ∈ lw_tbl := by decide +kernel
theorem kw_45 : Cond.initialized yX0_sizeNotBelow.cls ∈ lw_tbl := by decide +kernel
theorem kt_sizeNotBelow : kp_T yX0_sizeNotBelow cX0_sizeNotBelow 4 (some .long) 1 := ⟨kw_44, kw_45, by decide +kernel, by decide +kernel⟩
theorem kw_46 : Cond.methodLink RX0 40 yX0_sizeNotBelow ∈ lw_tbl := by decide +kernel
theorem kw_47 : Cond.instanceMethod yX0_sizeNotBelow ∈ lw_tbl := by decide +kernel
theorem kw_48 : Cond.selects yX0_sizeNotBelow.cls yX0_sizeNotBelow yX0_sizeNotBelow ∈ lw_tbl := by decide +kernel
theorem kw_49 : Cond.code yX0_notAbove cX0_notAbove 3 (some .long) ∈ lw_tbl := by decide +kernel
theorem kw_50 : Cond.initialized yX0_notAbove.cls ∈ lw_tbl := by decide +kernel
theorem kt_notAbove : kp_T yX0_notAbove cX0_notAbove 3 (some .long) 1 := ⟨kw_49, kw_50, by decide +kernel, by decide +kernel⟩
theorem kw_51 : Cond.methodLink RX0 47 yX0_notAbove ∈ lw_tbl := by decide +kernel
theorem kw_52 : Cond.instanceMethod yX0_notAbove ∈ lw_tbl := by decide +kernel
theorem kw_53 : Cond.selects yX0_notAbove.cls yX0_notAbove yX0_notAbove ∈ lw_tbl := by decide +kernel
theorem kw_54 : Cond.code yX0_notBelow cX0_notBelow 3 (some .long) ∈ lw_tbl := by decide +kernel
theorem kw_55 : Cond.initialized yX0_notBelow.cls ∈ lw_tbl := by decide +kernel
theorem kt_notBelow : kp_T yX0_notBelow cX0_notBelow 3 (some .long) 1 := ⟨kw_54, kw_55, by decide +kernel, by decide +kernel⟩
theorem kw_56 : Cond.methodLink RX0 50 yX0_notBelow ∈ lw_tbl := by decide +kernel
theorem kw_57 : Cond.instanceMethod yX0_notBelow ∈ lw_tbl := by decide +kernel
theorem kw_58 : Cond.selects yX0_notBelow.cls yX0_notBelow yX0_notBelow ∈ lw_tbl := by decide +kernel
theorem kw_59 : Cond.code yX0_patternOf cX0_patternOf 3 (some .int) ∈ lw_tbl := by decide +kernel
theorem kw_60 : Cond.initialized yX0_patternOf.cls ∈ lw_tbl := by decide +kernel
theorem kt_patternOf : kp_T yX0_patternOf cX0_patternOf 3 (some .int) 1 := ⟨kw_59, kw_60, by decide +kernel, by decide +kernel⟩
theorem kw_61 : Cond.methodLink RX0 53 yX0_patternOf ∈ lw_tbl := by decide +kernel
theorem kw_62 : Cond.instanceMethod yX0_patternOf ∈ lw_tbl := by decide +kernel
theorem kw_63 : Cond.selects yX0_patternOf.cls yX0_patternOf yX0_patternOf ∈ lw_tbl := by decide +kernel
theorem kw_64 : Cond.constantLong RX2 53 1152921504606846976 ∈ lw_tbl := by decide +kernel
theorem kw_65 : Cond.constantLong RX2 55 (-1152921504606846976) ∈ lw_tbl := by decide +kernel
theorem kw_66 : Cond.code yX2_isEndless cX2_isEndless 2 (some .boolean) ∈ lw_tbl := by decide +kernel
theorem kw_67 : Cond.initialized yX2_isEndless.cls ∈ lw_tbl := by decide +kernel
theorem kt_isEndless : kp_T yX2_isEndless cX2_isEndless 2 (some .boolean) 1 := ⟨kw_66, kw_67, by decide +kernel, by decide +kernel⟩
theorem kw_68 : Cond.methodLink RX2 135 yX2_isEndless ∈ lw_tbl := by decide +kernel
theorem kw_69 : Cond.static yX2_isEndless ∈ lw_tbl := by decide +kernel
theorem kw_70 : Cond.code yX2_isPlace cX2_isPlace 1 (some .boolean) ∈ lw_tbl := by decide +kernel
theorem kw_71 : Cond.initialized yX2_isPlace.cls ∈ lw_tbl := by decide +kernel
theorem kt_isPlace : kp_T yX2_isPlace cX2_isPlace 1 (some .boolean) 1 := ⟨kw_70, kw_71, by decide +kernel, by decide +kernel⟩
theorem kw_72 : Cond.methodLink RX2 42 yX2_isPlace ∈ lw_tbl := by decide +kernel
theorem kw_73 : Cond.static yX2_isPlace ∈ lw_tbl := by decide +kernel
theorem kw_74 : Cond.fieldLink RX2 20 RX2 "places" "[LBoundDesk$Span;" ∈ lw_tbl := by decide +kernel
theorem kw_75 : Cond.methodLinkNest RX2 139 yX1_isEmpty RX2 ∈ lw_tbl := by decide +kernel
theorem kw_76 : Cond.fieldLink RX2 12 RX2 "shape" "LBoundDesk$Shape;" ∈ lw_tbl := by decide +kernel
theorem kw_77 : Cond.code yX0_unitBits cX0_unitBits 1 (some .int) ∈ lw_tbl := by decide +kernel
theorem kw_78 : Cond.initialized yX0_unitBits.cls ∈ lw_tbl := by decide +kernel
theorem kt_unitBits : kp_T yX0_unitBits cX0_unitBits 1 (some .int) 0 := ⟨kw_77, kw_78, by decide +kernel, by decide +kernel⟩
theorem kw_79 : Cond.methodLinkNest RX2 183 yX0_unitBits RX2 ∈ lw_tbl := by decide +kernel
theorem kw_80 : Cond.instanceMethod yX0_unitBits ∈ lw_tbl := by decide +kernel
theorem kw_81 : Cond.selects yX0_unitBits.cls yX0_unitBits yX0_unitBits ∈ lw_tbl := by decide +kernel
theorem kw_82 : Cond.code yX2_productNotAbove cX2_productNotAbove 5 (some .long) ∈ lw_tbl := by decide +kernel
theorem kw_83 : Cond.initialized yX2_productNotAbove.cls ∈ lw_tbl := by decide +kernel
theorem kt_productNotAbove : kp_T yX2_productNotAbove cX2_productNotAbove 5 (some .long) 2 := ⟨kw_82, kw_83, by decide +kernel, by decide +kernel⟩
theorem kw_84 : Cond.methodLink RX2 166 yX2_productNotAbove ∈ lw_tbl := by decide +kernel
theorem kw_85 : Cond.instanceMethod yX2_productNotAbove ∈ lw_tbl := by decide +kernel
theorem kw_86 : Cond.selects yX2_productNotAbove.cls yX2_productNotAbove yX2_productNotAbove ∈ lw_tbl := by decide +kernel
theorem kw_87 : Cond.fieldLinkNest RX2 103 RX1 "least" "J" RX2 ∈ lw_tbl := by decide +kernel
theorem kw_88 : Cond.fieldLinkNest RX2 111 RX1 "most" "J" RX2 ∈ lw_tbl := by decide +kernel
theorem kw_89 : Cond.methodLink RX2 154 Lib.MathLoose.min_long.x ∈ lw_tbl := by decide +kernel
theorem kw_90 : Cond.static Lib.MathLoose.min_long.x ∈ lw_tbl := by decide +kernel
theorem kw_91 : Cond.initialized "java/lang/Math" ∈ lw_tbl := by decide +kernel
theorem kw_92 : Cond.code Lib.MathLoose.min_long.x Lib.MathLoose.min_long.code 4 (some .long) ∈ lw_tbl := by decide +kernel
theorem kw_93 : Cond.code yX2_productNotBelow cX2_productNotBelow 5 (some .long) ∈ lw_tbl := by decide +kernel
theorem kw_94 : Cond.initialized yX2_productNotBelow.cls ∈ lw_tbl := by decide +kernel
theorem kt_productNotBelow : kp_T yX2_productNotBelow cX2_productNotBelow 5 (some .long) 2 := ⟨kw_93, kw_94, by decide +kernel, by decide +kernel⟩
theorem kw_95 : Cond.methodLink RX2 169 yX2_productNotBelow ∈ lw_tbl := by decide +kernel
theorem kw_96 : Cond.instanceMethod yX2_productNotBelow ∈ lw_tbl := by decide +kernel
theorem kw_97 : Cond.selects yX2_productNotBelow.cls yX2_productNotBelow yX2_productNotBelow ∈ lw_tbl := by decide +kernel
theorem kw_98 : Cond.methodLink RX2 159 Lib.MathLoose.max_long.x ∈ lw_tbl := by decide +kernel
theorem kw_99 : Cond.static Lib.MathLoose.max_long.x ∈ lw_tbl := by decide +kernel
theorem kw_100 : Cond.code Lib.MathLoose.max_long.x Lib.MathLoose.max_long.code 4 (some .long) ∈ lw_tbl := by decide +kernel
theorem kw_101 : Cond.fieldLink RX2 25 RX2 "made" "LBoundDesk$Span;" ∈ lw_tbl := by decide +kernel
theorem kw_102 : Cond.code yX1_become cX1_become 5 none ∈ lw_tbl := by decide +kernel
theorem kw_103 : Cond.initialized yX1_become.cls ∈ lw_tbl := by decide +kernel
theorem kt_become : kp_T yX1_become cX1_become 5 none 2 := ⟨kw_102, kw_103, by decide +kernel, by decide +kernel⟩
theorem kw_104 : Cond.methodLinkNest RX2 57 yX1_become RX2 ∈ lw_tbl := by decide +kernel
theorem kw_105 : Cond.instanceMethod yX1_become ∈ lw_tbl := by decide +kernel
theorem kw_106 : Cond.selects yX1_become.cls yX1_become yX1_become ∈ lw_tbl := by decide +kernel
theorem kw_107 : Cond.code yX1_becomeEmpty cX1_becomeEmpty 1 none ∈ lw_tbl := by decide +kernel
theorem kw_108 : Cond.initialized yX1_becomeEmpty.cls ∈ lw_tbl := by decide +kernel
theorem kt_becomeEmpty : kp_T yX1_becomeEmpty cX1_becomeEmpty 1 none 0 := ⟨kw_107, kw_108, by decide +kernel, by decide +kernel⟩
theorem kw_109 : Cond.methodLinkNest RX2 39 yX1_becomeEmpty RX2 ∈ lw_tbl := by decide +kernel
theorem kw_110 : Cond.instanceMethod yX1_becomeEmpty ∈ lw_tbl := by decide +kernel
theorem kw_111 : Cond.selects yX1_becomeEmpty.cls yX1_becomeEmpty yX1_becomeEmpty ∈ lw_tbl := by decide +kernel
theorem kw_112 : Cond.code yX2_plus cX2_plus 4 (some .long) ∈ lw_tbl := by decide +kernel
theorem kw_113 : Cond.initialized yX2_plus.cls ∈ lw_tbl := by decide +kernel
theorem kt_plus : kp_T yX2_plus cX2_plus 4 (some .long) 2 := ⟨kw_112, kw_113, by decide +kernel, by decide +kernel⟩
theorem kw_114 : Cond.methodLink RX2 123 yX2_plus ∈ lw_tbl := by decide +kernel
theorem kw_115 : Cond.static yX2_plus ∈ lw_tbl := by decide +kernel
theorem kw_116 : Cond.code yX2_wholeRoot cX2_wholeRoot 7 (some .long) ∈ lw_tbl := by decide +kernel
theorem kw_117 : Cond.initialized yX2_wholeRoot.cls ∈ lw_tbl := by decide +kernel
theorem kt_wholeRoot : kp_T yX2_wholeRoot cX2_wholeRoot 7 (some .long) 1 := ⟨kw_116, kw_117, by decide +kernel, by decide +kernel⟩
theorem kw_118 : Cond.methodLink RX2 195 yX2_wholeRoot ∈ lw_tbl := by decide +kernel
theorem kw_119 : Cond.static yX2_wholeRoot ∈ lw_tbl := by decide +kernel
theorem kw_120 : Cond.code yX2_rootNotAbove cX2_rootNotAbove 3 (some .long) ∈ lw_tbl := by decide +kernel
theorem kw_121 : Cond.initialized yX2_rootNotAbove.cls ∈ lw_tbl := by decide +kernel
theorem kt_rootNotAbove : kp_T yX2_rootNotAbove cX2_rootNotAbove 3 (some .long) 1 := ⟨kw_120, kw_121, by decide +kernel, by decide +kernel⟩
theorem kw_122 : Cond.methodLink RX2 189 yX2_rootNotAbove ∈ lw_tbl := by decide +kernel
theorem kw_123 : Cond.instanceMethod yX2_rootNotAbove ∈ lw_tbl := by decide +kernel
theorem kw_124 : Cond.selects yX2_rootNotAbove.cls yX2_rootNotAbove yX2_rootNotAbove ∈ lw_tbl := by decide +kernel
theorem kw_125 : Cond.code yX2_rootNotBelow cX2_rootNotBelow 7 (some .long) ∈ lw_tbl := by decide +kernel
theorem kw_126 : Cond.initialized yX2_rootNotBelow.cls ∈ lw_tbl := by decide +kernel
theorem kt_rootNotBelow : kp_T yX2_rootNotBelow cX2_rootNotBelow 7 (some .long) 1 := ⟨kw_125, kw_126, by decide +kernel, by decide +kernel⟩
theorem kw_127 : Cond.methodLink RX2 192 yX2_rootNotBelow ∈ lw_tbl := by decide +kernel
theorem kw_128 : Cond.instanceMethod yX2_rootNotBelow ∈ lw_tbl := by decide +kernel
theorem kw_129 : Cond.selects yX2_rootNotBelow.cls yX2_rootNotBelow yX2_rootNotBelow ∈ lw_tbl := by decide +kernel
theorem kw_130 : Cond.code yJM_floorDiv cJM_floorDiv 6 (some .long) ∈ lw_tbl := by decide +kernel
theorem kw_131 : Cond.initialized yJM_floorDiv.cls ∈ lw_tbl := by decide +kernel
theorem kt_floorDiv : kp_T yJM_floorDiv cJM_floorDiv 6 (some .long) 2 := ⟨kw_130, kw_131, by decide +kernel, by decide +kernel⟩
theorem kw_132 : Cond.methodLink RX2 186 yJM_floorDiv ∈ lw_tbl := by decide +kernel
theorem kw_133 : Cond.static yJM_floorDiv ∈ lw_tbl := by decide +kernel
theorem kw_134 : Cond.code yX2_leastQuotient cX2_leastQuotient 7 (some .long) ∈ lw_tbl := by decide +kernel
theorem kw_135 : Cond.initialized yX2_leastQuotient.cls ∈ lw_tbl := by decide +kernel
theorem kt_leastQuotient : kp_T yX2_leastQuotient cX2_leastQuotient 7 (some .long) 3 := ⟨kw_134, kw_135, by decide +kernel, by decide +kernel⟩
theorem kw_136 : Cond.methodLink RX2 179 yX2_leastQuotient ∈ lw_tbl := by decide +kernel
theorem kw_137 : Cond.instanceMethod yX2_leastQuotient ∈ lw_tbl := by decide +kernel
theorem kw_138 : Cond.selects yX2_leastQuotient.cls yX2_leastQuotient yX2_leastQuotient ∈ lw_tbl := by decide +kernel
theorem kw_139 : Cond.fieldLink RX2 29 RX2 "second" "LBoundDesk$Span;" ∈ lw_tbl := by decide +kernel
theorem kw_140 : Cond.code yX2_divideByAbove cX2_divideByAbove 9 none ∈ lw_tbl := by decide +kernel
theorem kw_141 : Cond.initialized yX2_divideByAbove.cls ∈ lw_tbl := by decide +kernel
theorem kt_divideByAbove : kp_T yX2_divideByAbove cX2_divideByAbove 9 none 4 := ⟨kw_140, kw_141, by decide +kernel, by decide +kernel⟩
theorem kw_142 : Cond.methodLink RX2 175 yX2_divideByAbove ∈ lw_tbl := by decide +kernel
theorem kw_143 : Cond.instanceMethod yX2_divideByAbove ∈ lw_tbl := by decide +kernel
theorem kw_144 : Cond.selects yX2_divideByAbove.cls yX2_divideByAbove yX2_divideByAbove ∈ lw_tbl := by decide +kernel
theorem kw_145 : Cond.code yX2_takeSize cX2_takeSize 2 none ∈ lw_tbl := by decide +kernel
theorem kw_146 : Cond.initialized yX2_takeSize.cls ∈ lw_tbl := by decide +kernel
theorem kt_takeSize : kp_T yX2_takeSize cX2_takeSize 2 none 1 := ⟨kw_145, kw_146, by decide +kernel, by decide +kernel⟩
theorem kw_147 : Cond.methodLink RX2 162 yX2_takeSize ∈ lw_tbl := by decide +kernel
theorem kw_148 : Cond.instanceMethod yX2_takeSize ∈ lw_tbl := by decide +kernel
theorem kw_149 : Cond.selects yX2_takeSize.cls yX2_takeSize yX2_takeSize ∈ lw_tbl := by decide +kernel
theorem kw_150 : Cond.code yX2_takeRoot cX2_takeRoot 2 none ∈ lw_tbl := by decide +kernel
theorem kw_151 : Cond.initialized yX2_takeRoot.cls ∈ lw_tbl := by decide +kernel
theorem kt_takeRoot : kp_T yX2_takeRoot cX2_takeRoot 2 none 1 := ⟨kw_150, kw_151, by decide +kernel, by decide +kernel⟩
theorem kw_152 : Cond.methodLink RX2 172 yX2_takeRoot ∈ lw_tbl := by decide +kernel
theorem kw_153 : Cond.instanceMethod yX2_takeRoot ∈ lw_tbl := by decide +kernel
theorem kw_154 : Cond.selects yX2_takeRoot.cls yX2_takeRoot yX2_takeRoot ∈ lw_tbl := by decide +kernel
theorem kw_155 : Cond.code yX2_multiply cX2_multiply 7 none ∈ lw_tbl := by decide +kernel
theorem kw_156 : Cond.initialized yX2_multiply.cls ∈ lw_tbl := by decide +kernel
theorem kt_multiply : kp_T yX2_multiply cX2_multiply 7 none 2 := ⟨kw_155, kw_156, by decide +kernel, by decide +kernel⟩
theorem kw_157 : Cond.methodLink RX2 148 yX2_multiply ∈ lw_tbl := by decide +kernel
theorem kw_158 : Cond.instanceMethod yX2_multiply ∈ lw_tbl := by decide +kernel
theorem kw_159 : Cond.selects yX2_multiply.cls yX2_multiply yX2_multiply ∈ lw_tbl := by decide +kernel
theorem kw_160 : Cond.code yX2_divide cX2_divide 3 none ∈ lw_tbl := by decide +kernel
theorem kw_161 : Cond.initialized yX2_divide.cls ∈ lw_tbl := by decide +kernel
theorem kt_divide : kp_T yX2_divide cX2_divide 3 none 2 := ⟨kw_160, kw_161, by decide +kernel, by decide +kernel⟩
theorem kw_162 : Cond.methodLink RX2 82 yX2_divide ∈ lw_tbl := by decide +kernel
theorem kw_163 : Cond.instanceMethod yX2_divide ∈ lw_tbl := by decide +kernel
theorem kw_164 : Cond.selects yX2_divide.cls yX2_divide yX2_divide ∈ lw_tbl := by decide +kernel
theorem kw_165 : Cond.code yX2_join cX2_join 3 none ∈ lw_tbl := by decide +kernel
theorem kw_166 : Cond.initialized yX2_join.cls ∈ lw_tbl := by decide +kernel
theorem kt_join : kp_T yX2_join cX2_join 3 none 2 := ⟨kw_165, kw_166, by decide +kernel, by decide +kernel⟩
theorem kw_167 : Cond.methodLink RX2 145 yX2_join ∈ lw_tbl := by decide +kernel
theorem kw_168 : Cond.instanceMethod yX2_join ∈ lw_tbl := by decide +kernel
theorem kw_169 : Cond.selects yX2_join.cls yX2_join yX2_join ∈ lw_tbl := by decide +kernel
theorem kw_170 : Cond.code yX2_meet cX2_meet 7 none ∈ lw_tbl := by decide +kernel
theorem kw_171 : Cond.initialized yX2_meet.cls ∈ lw_tbl := by decide +kernel
theorem kt_meet : kp_T yX2_meet cX2_meet 7 none 2 := ⟨kw_170, kw_171, by decide +kernel, by decide +kernel⟩
theorem kw_172 : Cond.methodLink RX2 151 yX2_meet ∈ lw_tbl := by decide +kernel
theorem kw_173 : Cond.instanceMethod yX2_meet ∈ lw_tbl := by decide +kernel
theorem kw_174 : Cond.selects yX2_meet.cls yX2_meet yX2_meet ∈ lw_tbl := by decide +kernel
theorem kw_175 : Cond.methodLinkNest RX2 142 yX0_notAbove RX2 ∈ lw_tbl := by decide +kernel
theorem kw_176 : Cond.methodLinkNest RX2 127 yX0_notBelow RX2 ∈ lw_tbl := by decide +kernel
theorem kw_177 : Cond.code yX1_kindNumber cX1_kindNumber 1 (some .int) ∈ lw_tbl := by decide +kernel
theorem kw_178 : Cond.initialized yX1_kindNumber.cls ∈ lw_tbl := by decide +kernel
theorem kt_kindNumber : kp_T yX1_kindNumber cX1_kindNumber 1 (some .int) 0 := ⟨kw_177, kw_178, by decide +kernel, by decide +kernel⟩
theorem kw_179 : Cond.methodLinkNest RX2 91 yX1_kindNumber RX2 ∈ lw_tbl := by decide +kernel
theorem kw_180 : Cond.instanceMethod yX1_kindNumber ∈ lw_tbl := by decide +kernel
theorem kw_181 : Cond.selects yX1_kindNumber.cls yX1_kindNumber yX1_kindNumber ∈ lw_tbl := by decide +kernel
theorem kw_182 : Cond.code yX2_isFilled cX2_isFilled 2 (some .boolean) ∈ lw_tbl := by decide +kernel
theorem kw_183 : Cond.initialized yX2_isFilled.cls ∈ lw_tbl := by decide +kernel
theorem kt_isFilled : kp_T yX2_isFilled cX2_isFilled 2 (some .boolean) 1 := ⟨kw_182, kw_183, by decide +kernel, by decide +kernel⟩
theorem kw_184 : Cond.methodLink RX2 95 yX2_isFilled ∈ lw_tbl := by decide +kernel
theorem kw_185 : Cond.instanceMethod yX2_isFilled ∈ lw_tbl := by decide +kernel
theorem kw_186 : Cond.selects yX2_isFilled.cls yX2_isFilled yX2_isFilled ∈ lw_tbl := by decide +kernel
theorem kw_187 : Cond.code yX1_holdsAllOf cX1_holdsAllOf 2 (some .boolean) ∈ lw_tbl := by decide +kernel
theorem kw_188 : Cond.initialized yX1_holdsAllOf.cls ∈ lw_tbl := by decide +kernel
theorem kt_holdsAllOf : kp_T yX1_holdsAllOf cX1_holdsAllOf 2 (some .boolean) 1 := ⟨kw_187, kw_188, by decide +kernel, by decide +kernel⟩
theorem kw_189 : Cond.methodLinkNest RX2 131 yX1_holdsAllOf RX2 ∈ lw_tbl := by decide +kernel
theorem kw_190 : Cond.instanceMethod yX1_holdsAllOf ∈ lw_tbl := by decide +kernel
theorem kw_191 : Cond.selects yX1_holdsAllOf.cls yX1_holdsAllOf yX1_holdsAllOf ∈ lw_tbl := by decide +kernel
theorem kw_192 : Cond.code yX0_isPattern cX0_isPattern 2 (some .boolean) ∈ lw_tbl := by decide +kernel
theorem kw_193 : Cond.initialized yX0_isPattern.cls ∈ lw_tbl := by decide +kernel
theorem kt_isPattern : kp_T yX0_isPattern cX0_isPattern 2 (some .boolean) 1 := ⟨kw_192, kw_193, by decide +kernel, by decide +kernel⟩
theorem kw_194 : Cond.methodLinkNest RX2 46 yX0_isPattern RX2 ∈ lw_tbl := by decide +kernel
theorem kw_195 : Cond.instanceMethod yX0_isPattern ∈ lw_tbl := by decide +kernel
theorem kw_196 : Cond.selects yX0_isPattern.cls yX0_isPattern yX0_isPattern ∈ lw_tbl := by decide +kernel
theorem kw_197 : Cond.code yX0_numberOf cX0_numberOf 4 (some .long) ∈ lw_tbl := by decide +kernel
theorem kw_198 : Cond.initialized yX0_numberOf.cls ∈ lw_tbl := by decide +kernel
theorem kt_numberOf : kp_T yX0_numberOf cX0_numberOf 4 (some .long) 1 := ⟨kw_197, kw_198, by decide +kernel, by decide +kernel⟩
theorem kw_199 : Cond.methodLinkNest RX2 49 yX0_numberOf RX2 ∈ lw_tbl := by decide +kernel
theorem kw_200 : Cond.instanceMethod yX0_numberOf ∈ lw_tbl := by decide +kernel
theorem kw_201 : Cond.selects yX0_numberOf.cls yX0_numberOf yX0_numberOf ∈ lw_tbl := by decide +kernel
theorem kw_202 : Cond.fieldLinkNest RX2 32 RX0 "exponentBits" "I" RX2 ∈ lw_tbl := by decide +kernel
theorem kw_203 : Cond.fieldLinkNest RX2 36 RX0 "fractionBits" "I" RX2 ∈ lw_tbl := by decide +kernel
theorem kw_204 : Cond.code yX2_reckonOne cX2_reckonOne 3 none ∈ lw_tbl := by decide +kernel
theorem kw_205 : Cond.initialized yX2_reckonOne.cls ∈ lw_tbl := by decide +kernel
theorem kt_reckonOne : kp_T yX2_reckonOne cX2_reckonOne 3 none 2 := ⟨kw_204, kw_205, by decide +kernel, by decide +kernel⟩
theorem kw_206 : Cond.methodLink RX2 70 yX2_reckonOne ∈ lw_tbl := by decide +kernel
theorem kw_207 : Cond.instanceMethod yX2_reckonOne ∈ lw_tbl := by decide +kernel
theorem kw_208 : Cond.selects yX2_reckonOne.cls yX2_reckonOne yX2_reckonOne ∈ lw_tbl := by decide +kernel
theorem kw_209 : Cond.code yX2_keep cX2_keep 3 (some .int) ∈ lw_tbl := by decide +kernel
theorem kw_210 : Cond.initialized yX2_keep.cls ∈ lw_tbl := by decide +kernel
theorem kt_keep : kp_T yX2_keep cX2_keep 3 (some .int) 2 := ⟨kw_209, kw_210, by decide +kernel, by decide +kernel⟩
theorem kw_211 : Cond.methodLink RX2 78 yX2_keep ∈ lw_tbl := by decide +kernel
theorem kw_212 : Cond.instanceMethod yX2_keep ∈ lw_tbl := by decide +kernel
theorem kw_213 : Cond.selects yX2_keep.cls yX2_keep yX2_keep ∈ lw_tbl := by decide +kernel
theorem kw_214 : Cond.code yX2_reckonTwo cX2_reckonTwo 4 none ∈ lw_tbl := by decide +kernel
theorem kw_215 : Cond.initialized yX2_reckonTwo.cls ∈ lw_tbl := by decide +kernel
theorem kt_reckonTwo : kp_T yX2_reckonTwo cX2_reckonTwo 4 none 3 := ⟨kw_214, kw_215, by decide +kernel, by decide +kernel⟩
theorem kw_216 : Cond.methodLink RX2 74 yX2_reckonTwo ∈ lw_tbl := by decide +kernel
theorem kw_217 : Cond.instanceMethod yX2_reckonTwo ∈ lw_tbl := by decide +kernel
theorem kw_218 : Cond.selects yX2_reckonTwo.cls yX2_reckonTwo yX2_reckonTwo ∈ lw_tbl := by decide +kernel
theorem kx_at65 : ∀ w ∈ Bundle.ownAtoms RX2 65 "java/lang/IllegalArgumentException" kx_names, w ∈ kx_ws ∨ (w ∈ lw_tbl ∧ kp_w w = true) := by decide +kernel
theorem kw_219 : Cond.classLink RX2 61 "java/lang/IllegalArgumentException" ∈ lw_tbl := by decide +kernel
theorem kw_220 : Cond.initialized "java/lang/IllegalArgumentException" ∈ lw_tbl := by decide +kernel
theorem kw_221 : Cond.stringRef RX2 63 "there is no such OPERATION" ∈ lw_tbl := by decide +kernel
theorem kw_222 : Cond.stringRef RX2 68 "there is no such PLACE" ∈ lw_tbl := by decide +kernel
theorem kw_223 : Cond.code yX2_add cX2_add 2 none ∈ lw_tbl := by decide +kernel
theorem kw_224 : Cond.initialized yX2_add.cls ∈ lw_tbl := by decide +kernel
theorem kt_add : kp_T yX2_add cX2_add 2 none 2 := ⟨kw_223, kw_224, by decide +kernel, by decide +kernel⟩
theorem kw_225 : Cond.methodLink RX2 88 yX2_add ∈ lw_tbl := by decide +kernel
theorem kw_226 : Cond.static yX2_add ∈ lw_tbl := by decide +kernel
theorem kw_227 : Cond.stringRef RX2 86 "there are not so many PLACES" ∈ lw_tbl := by decide +kernel
theorem kw_228 : Cond.methodLinkNest RX2 107 yX0_patternOf RX2 ∈ lw_tbl := by decide +kernel
theorem kw_229 : Cond.classLink RX2 98 "java/util/NoSuchElementException" ∈ lw_tbl := by decide +kernel
theorem kw_230 : Cond.initialized "java/util/NoSuchElementException" ∈ lw_tbl := by decide +kernel
theorem kw_231 : Cond.stringRef RX2 100 "EMPTY, or no such PLACE" ∈ lw_tbl := by decide +kernel
theorem kw_232 : Cond.methodLink RX2 102 (Bundle.initS "java/util/NoSuchElementException") ∈ lw_tbl := by decide +kernel
theorem kw_233 : Cond.code yX1_lacksAnEnd cX1_lacksAnEnd 1 (some .boolean) ∈ lw_tbl := by decide +kernel
theorem kw_234 : Cond.initialized yX1_lacksAnEnd.cls ∈ lw_tbl := by decide +kernel
theorem kt_lacksAnEnd : kp_T yX1_lacksAnEnd cX1_lacksAnEnd 1 (some .boolean) 0 := ⟨kw_233, kw_234, by decide +kernel, by decide +kernel⟩
theorem kw_235 : Cond.methodLinkNest RX2 114 yX1_lacksAnEnd RX2 ∈ lw_tbl := by decide +kernel
theorem kw_236 : Cond.instanceMethod yX1_lacksAnEnd ∈ lw_tbl := by decide +kernel
theorem kw_237 : Cond.selects yX1_lacksAnEnd.cls yX1_lacksAnEnd yX1_lacksAnEnd ∈ lw_tbl := by decide +kernel
theorem kw_238 : Cond.code yX0_patternOfHalf cX0_patternOfHalf 13 (some .int) ∈ lw_tbl := by decide +kernel
theorem kw_239 : Cond.initialized yX0_patternOfHalf.cls ∈ lw_tbl := by decide +kernel
theorem kt_patternOfHalf : kp_T yX0_patternOfHalf cX0_patternOfHalf 13 (some .int) 1 := ⟨kw_238, kw_239, by decide +kernel, by decide +kernel⟩
theorem kw_240 : Cond.methodLinkNest RX2 120 yX0_patternOfHalf RX2 ∈ lw_tbl := by decide +kernel
theorem kw_241 : Cond.instanceMethod yX0_patternOfHalf ∈ lw_tbl := by decide +kernel
theorem kw_242 : Cond.selects yX0_patternOfHalf.cls yX0_patternOfHalf yX0_patternOfHalf ∈ lw_tbl := by decide +kernel
theorem kw_243 : Cond.stringRef RX2 118 "EMPTY, an end is missing, or no such PLACE" ∈ lw_tbl := by decide +kernel
end
section
def S_become (c : cw_C) (k : Nat) (x : Int64) (y : Int64) : cw_C :=
  cw_s1 (cw_s0 c k x) k y
def rm_become : Room := { frames := 0, cells := 0, slots := 0, locals := 0 }
set_option maxHeartbeats 4000000 in
set_option maxRecDepth 100000 in
theorem C_become (l : Launch) (D : va_G) (ty : List (ClassId × FieldType)) (sz : Nat) (G : cw_G) (Z : va_W) (hG : cw_ok ty sz G Z) (c : cw_C) (k : Nat) (hk : k < 10) (x : Int64) (y : Int64) : kp_M l yX1_become cX1_become 5 none rm_become D ty sz [.ref (aN G k), .long x, .long y] (cw_W G c Z) (none) (cw_W G (S_become c k x y) Z) := by
  refine kp_body (by decide) (Nat.le_of_ble_eq_true rfl) rfl ?_
  intro p e s m args below meth cd ls B hin hl hP hS
  obtain ⟨hx, hb, hml, hown, hlk, hr, hw, hE, hK, hsz⟩ := id B
  have hl : lv_has ls 5 [(0, .ref (aN G k)), (1, .long x), (3, .long y)] := hl
  refine lv_aload_n hx hb dX1_become_0 rfl (lv_at hl 0 rfl) ?_
  refine lv_lload_n hx hb dX1_become_1 rfl (lv_at hl 1 rfl) ?_
  refine kc_putN0 (k := k) (v := x) B hG hP hS hk kw_1 dX1_become_2 (fun H locs hP hS => ?_)
  refine lv_aload_n hx hb dX1_become_5 rfl (lv_at hl 0 rfl) ?_
  refine lv_lload_n hx hb dX1_become_6 rfl (lv_at hl 2 rfl) ?_
  refine kc_putN1 (k := k) (v := y) B hG hP hS hk kw_2 dX1_become_7 (fun H locs hP hS => ?_)
  exact kp_retv B hP hS rfl dX1_become_10
def S_becomeEmpty (c : cw_C) (k : Nat) : cw_C :=
  cw_s1 (cw_s0 c k (1 : Int64)) k (0 : Int64)
def rm_becomeEmpty : Room := { frames := 0, cells := 0, slots := 0, locals := 0 }
set_option maxHeartbeats 4000000 in
set_option maxRecDepth 100000 in
theorem C_becomeEmpty (l : Launch) (D : va_G) (ty : List (ClassId × FieldType)) (sz : Nat) (G : cw_G) (Z : va_W) (hG : cw_ok ty sz G Z) (c : cw_C) (k : Nat) (hk : k < 10) : kp_M l yX1_becomeEmpty cX1_becomeEmpty 1 none rm_becomeEmpty D ty sz [.ref (aN G k)] (cw_W G c Z) (none) (cw_W G (S_becomeEmpty c k) Z) := by
  refine kp_body (by decide) (Nat.le_of_ble_eq_true rfl) rfl ?_
  intro p e s m args below meth cd ls B hin hl hP hS
  obtain ⟨hx, hb, hml, hown, hlk, hr, hw, hE, hK, hsz⟩ := id B
  have hl : lv_has ls 1 [(0, .ref (aN G k))] := hl
  refine lv_aload_n hx hb dX1_becomeEmpty_0 rfl (lv_at hl 0 rfl) ?_
  refine lv_lconst (v := (1 : Int64)) hx hb dX1_becomeEmpty_1 (by decide) ?_
  refine kc_putN0 (k := k) (v := (1 : Int64)) B hG hP hS hk kw_1 dX1_becomeEmpty_2 (fun H locs hP hS => ?_)
  refine lv_aload_n hx hb dX1_becomeEmpty_5 rfl (lv_at hl 0 rfl) ?_
  refine lv_lconst (v := (0 : Int64)) hx hb dX1_becomeEmpty_6 (by decide) ?_
  refine kc_putN1 (k := k) (v := (0 : Int64)) B hG hP hS hk kw_2 dX1_becomeEmpty_7 (fun H locs hP hS => ?_)
  exact kp_retv B hP hS rfl dX1_becomeEmpty_10
def F_isEmpty (c : cw_C) (k : Nat) : Int32 :=
  if ((c.2.2 k).1) ≤ ((c.2.2 k).2) then (0 : Int32) else (1 : Int32)
def rm_isEmpty : Room := { frames := 0, cells := 0, slots := 0, locals := 0 }
set_option maxHeartbeats 4000000 in
set_option maxRecDepth 100000 in
theorem C_isEmpty (l : Launch) (D : va_G) (ty : List (ClassId × FieldType)) (sz : Nat) (G : cw_G) (Z : va_W) (hG : cw_ok ty sz G Z) (c : cw_C) (k : Nat) (hk : k < 10) : kp_R l yX1_isEmpty cX1_isEmpty 1 (some .boolean) rm_isEmpty D ty sz [.ref (aN G k)] (cw_W G c Z) (some (.int (F_isEmpty c k))) := by
  refine kp_bodyR (by decide) (Nat.le_of_ble_eq_true rfl) rfl ?_
  intro p e s m args below meth cd ls B hl hP hS
  obtain ⟨hx, hb, hml, hown, hlk, hr, hw, hE, hK, hsz⟩ := id B
  have hl : lv_has ls 1 [(0, .ref (aN G k))] := hl
  refine lv_aload_n hx hb dX1_isEmpty_0 rfl (lv_at hl 0 rfl) ?_
  refine kc_getN (j := 0) (k := k) (v := .long ((c.2.2 k).1)) B hP hk rfl (by decide) kw_1 dX1_isEmpty_1 ?_
  refine lv_aload_n hx hb dX1_isEmpty_4 rfl (lv_at hl 0 rfl) ?_
  refine kc_getN (j := 1) (k := k) (v := .long ((c.2.2 k).2)) B hP hk rfl (by decide) kw_2 dX1_isEmpty_5 ?_
  refine kp_lle (tgt := 16) hx hb dX1_isEmpty_8 dX1_isEmpty_9 (by decide) (fun q_1 => ?_) (fun q_1 => ?_)
  · refine lv_iconst (v := (0 : Int32)) hx hb dX1_isEmpty_16 (by decide) ?_
    exact kp_retzR B (by simp only [F_isEmpty, if_pos q_1]) (Or.inl rfl) dX1_isEmpty_17
  · refine lv_iconst (v := (1 : Int32)) hx hb dX1_isEmpty_12 (by decide) ?_
    refine lv_goto (tgt := 17) hx hb dX1_isEmpty_13 (by decide) ?_
    exact kp_retzR B (by simp only [F_isEmpty, if_neg q_1]) (Or.inr rfl) dX1_isEmpty_17
def F_lacksAnEnd (c : cw_C) (k : Nat) : Int32 :=
  if ((c.2.2 k).1) = (-cw_inf) then (1 : Int32) else (if ((c.2.2 k).2) = cw_inf then (1 : Int32) else (0 : Int32))
def rm_lacksAnEnd : Room := { frames := 0, cells := 0, slots := 0, locals := 0 }
set_option maxHeartbeats 4000000 in
set_option maxRecDepth 100000 in
theorem C_lacksAnEnd (l : Launch) (D : va_G) (ty : List (ClassId × FieldType)) (sz : Nat) (G : cw_G) (Z : va_W) (hG : cw_ok ty sz G Z) (c : cw_C) (k : Nat) (hk : k < 10) : kp_R l yX1_lacksAnEnd cX1_lacksAnEnd 1 (some .boolean) rm_lacksAnEnd D ty sz [.ref (aN G k)] (cw_W G c Z) (some (.int (F_lacksAnEnd c k))) := by
  refine kp_bodyR (by decide) (Nat.le_of_ble_eq_true rfl) rfl ?_
  intro p e s m args below meth cd ls B hl hP hS
  obtain ⟨hx, hb, hml, hown, hlk, hr, hw, hE, hK, hsz⟩ := id B
  have hl : lv_has ls 1 [(0, .ref (aN G k))] := hl
  refine lv_aload_n hx hb dX1_lacksAnEnd_0 rfl (lv_at hl 0 rfl) ?_
  refine kc_getN (j := 0) (k := k) (v := .long ((c.2.2 k).1)) B hP hk rfl (by decide) kw_1 dX1_lacksAnEnd_1 ?_
  refine lv_ldc2 (v := (-cw_inf)) hx hb hown (hw _ kw_3 rfl) dX1_lacksAnEnd_4 ?_
  refine kp_leq (tgt := 22) hx hb dX1_lacksAnEnd_7 dX1_lacksAnEnd_8 (by decide) (fun q_1 => ?_) (fun q_1 => ?_)
  · refine lv_iconst (v := (1 : Int32)) hx hb dX1_lacksAnEnd_22 (by decide) ?_
    refine lv_goto (tgt := 27) hx hb dX1_lacksAnEnd_23 (by decide) ?_
    exact kp_retzR B (by simp only [F_lacksAnEnd, if_pos q_1]) (Or.inr rfl) dX1_lacksAnEnd_27
  · refine lv_aload_n hx hb dX1_lacksAnEnd_11 rfl (lv_at hl 0 rfl) ?_
    refine kc_getN (j := 1) (k := k) (v := .long ((c.2.2 k).2)) B hP hk rfl (by decide) kw_2 dX1_lacksAnEnd_12 ?_
    refine lv_ldc2 (v := cw_inf) hx hb hown (hw _ kw_4 rfl) dX1_lacksAnEnd_15 ?_
    refine kp_lne (tgt := 26) hx hb dX1_lacksAnEnd_18 dX1_lacksAnEnd_19 (by decide) (fun q_2 => ?_) (fun q_2 => ?_)
    · refine lv_iconst (v := (0 : Int32)) hx hb dX1_lacksAnEnd_26 (by decide) ?_
      exact kp_retzR B (by simp only [F_lacksAnEnd, if_neg q_1, if_neg q_2]) (Or.inl rfl) dX1_lacksAnEnd_27
    · refine lv_iconst (v := (1 : Int32)) hx hb dX1_lacksAnEnd_22 (by decide) ?_
      refine lv_goto (tgt := 27) hx hb dX1_lacksAnEnd_23 (by decide) ?_
      exact kp_retzR B (by simp only [F_lacksAnEnd, if_neg q_1, if_pos q_2]) (Or.inr rfl) dX1_lacksAnEnd_27
def F_holdsAllOf (c : cw_C) (k : Nat) (u : Nat) : Int32 :=
  if ((c.2.2 u).1) < ((c.2.2 k).1) then (0 : Int32) else (if ((c.2.2 k).2) < ((c.2.2 u).2) then (0 : Int32) else (1 : Int32))
def rm_holdsAllOf : Room := { frames := 0, cells := 0, slots := 0, locals := 0 }
set_option maxHeartbeats 4000000 in
set_option maxRecDepth 100000 in
theorem C_holdsAllOf (l : Launch) (D : va_G) (ty : List (ClassId × FieldType)) (sz : Nat) (G : cw_G) (Z : va_W) (hG : cw_ok ty sz G Z) (c : cw_C) (k : Nat) (hk : k < 10) (u : Nat) (hu : u < 10) : kp_R l yX1_holdsAllOf cX1_holdsAllOf 2 (some .boolean) rm_holdsAllOf D ty sz [.ref (aN G k), .ref (aN G u)] (cw_W G c Z) (some (.int (F_holdsAllOf c k u))) := by
  refine kp_bodyR (by decide) (Nat.le_of_ble_eq_true rfl) rfl ?_
  intro p e s m args below meth cd ls B hl hP hS
  obtain ⟨hx, hb, hml, hown, hlk, hr, hw, hE, hK, hsz⟩ := id B
  have hl : lv_has ls 2 [(0, .ref (aN G k)), (1, .ref (aN G u))] := hl
  refine lv_aload_n hx hb dX1_holdsAllOf_0 rfl (lv_at hl 0 rfl) ?_
  refine kc_getN (j := 0) (k := k) (v := .long ((c.2.2 k).1)) B hP hk rfl (by decide) kw_1 dX1_holdsAllOf_1 ?_
  refine lv_aload_n hx hb dX1_holdsAllOf_4 rfl (lv_at hl 1 rfl) ?_
  refine kc_getN (j := 0) (k := u) (v := .long ((c.2.2 u).1)) B hP hu rfl (by decide) kw_1 dX1_holdsAllOf_5 ?_
  refine kp_lgt (tgt := 28) hx hb dX1_holdsAllOf_8 dX1_holdsAllOf_9 (by decide) (fun q_1 => ?_) (fun q_1 => ?_)
  · refine lv_iconst (v := (0 : Int32)) hx hb dX1_holdsAllOf_28 (by decide) ?_
    exact kp_retzR B (by simp only [F_holdsAllOf, if_pos q_1]) (Or.inl rfl) dX1_holdsAllOf_29
  · refine lv_aload_n hx hb dX1_holdsAllOf_12 rfl (lv_at hl 1 rfl) ?_
    refine kc_getN (j := 1) (k := u) (v := .long ((c.2.2 u).2)) B hP hu rfl (by decide) kw_2 dX1_holdsAllOf_13 ?_
    refine lv_aload_n hx hb dX1_holdsAllOf_16 rfl (lv_at hl 0 rfl) ?_
    refine kc_getN (j := 1) (k := k) (v := .long ((c.2.2 k).2)) B hP hk rfl (by decide) kw_2 dX1_holdsAllOf_17 ?_
    refine kp_lgt (tgt := 28) hx hb dX1_holdsAllOf_20 dX1_holdsAllOf_21 (by decide) (fun q_2 => ?_) (fun q_2 => ?_)
    · refine lv_iconst (v := (0 : Int32)) hx hb dX1_holdsAllOf_28 (by decide) ?_
      exact kp_retzR B (by simp only [F_holdsAllOf, if_neg q_1, if_pos q_2]) (Or.inl rfl) dX1_holdsAllOf_29
    · refine lv_iconst (v := (1 : Int32)) hx hb dX1_holdsAllOf_24 (by decide) ?_
      refine lv_goto (tgt := 29) hx hb dX1_holdsAllOf_25 (by decide) ?_
      exact kp_retzR B (by simp only [F_holdsAllOf, if_neg q_1, if_neg q_2]) (Or.inr rfl) dX1_holdsAllOf_29
def F_kindNumber (c : cw_C) (k : Nat) : Int32 :=
  if (F_isEmpty c k) = (0 : Int32) then (if ((c.2.2 k).1) = (-cw_inf) then (if ((c.2.2 k).2) = cw_inf then (5 : Int32) else (4 : Int32)) else (if ((c.2.2 k).2) = cw_inf then (3 : Int32) else (if ((c.2.2 k).1) = ((c.2.2 k).2) then (1 : Int32) else (2 : Int32)))) else (0 : Int32)
def rm_kindNumber : Room := { frames := 1, cells := 0, slots := 0, locals := 20 }
set_option maxHeartbeats 4000000 in
set_option maxRecDepth 100000 in
theorem C_kindNumber (l : Launch) (D : va_G) (ty : List (ClassId × FieldType)) (sz : Nat) (G : cw_G) (Z : va_W) (hG : cw_ok ty sz G Z) (c : cw_C) (k : Nat) (hk : k < 10) : kp_R l yX1_kindNumber cX1_kindNumber 1 (some .int) rm_kindNumber D ty sz [.ref (aN G k)] (cw_W G c Z) (some (.int (F_kindNumber c k))) := by
  refine kp_bodyR (by decide) (Nat.le_of_ble_eq_true rfl) rfl ?_
  intro p e s m args below meth cd ls B hl hP hS
  obtain ⟨hx, hb, hml, hown, hlk, hr, hw, hE, hK, hsz⟩ := id B
  have hl : lv_has ls 1 [(0, .ref (aN G k))] := hl
  refine lv_aload_n hx hb dX1_kindNumber_0 rfl (lv_at hl 0 rfl) ?_
  refine kp_callVR (rm := rm_isEmpty) (As := []) (rest := []) (r := some (.int (F_isEmpty c k))) (st1 := [.int (F_isEmpty c k)]) B (C_isEmpty l D ty sz G Z hG c k hk) kt_isEmpty kw_7 kw_8 kw_9 (kc_rcN B hP hk) (by decide) ⟨rfl, rfl⟩ (by decide) rfl (Nat.le_of_ble_eq_true rfl) hl.1 hP hS dX1_kindNumber_1 rfl ?_
  refine lv_if_eq (tgt := 9) hx hb dX1_kindNumber_4 (by decide) (fun q_1 => ?_) (fun q_1 => ?_)
  · refine lv_aload_n hx hb dX1_kindNumber_9 rfl (lv_at hl 0 rfl) ?_
    refine kc_getN (j := 0) (k := k) (v := .long ((c.2.2 k).1)) B hP hk rfl (by decide) kw_1 dX1_kindNumber_10 ?_
    refine lv_ldc2 (v := (-cw_inf)) hx hb hown (hw _ kw_3 rfl) dX1_kindNumber_13 ?_
    refine kp_lne (tgt := 37) hx hb dX1_kindNumber_16 dX1_kindNumber_17 (by decide) (fun q_2 => ?_) (fun q_2 => ?_)
    · refine lv_aload_n hx hb dX1_kindNumber_37 rfl (lv_at hl 0 rfl) ?_
      refine kc_getN (j := 1) (k := k) (v := .long ((c.2.2 k).2)) B hP hk rfl (by decide) kw_2 dX1_kindNumber_38 ?_
      refine lv_ldc2 (v := cw_inf) hx hb hown (hw _ kw_4 rfl) dX1_kindNumber_41 ?_
      refine kp_lne (tgt := 50) hx hb dX1_kindNumber_44 dX1_kindNumber_45 (by decide) (fun q_3 => ?_) (fun q_3 => ?_)
      · refine lv_aload_n hx hb dX1_kindNumber_50 rfl (lv_at hl 0 rfl) ?_
        refine kc_getN (j := 0) (k := k) (v := .long ((c.2.2 k).1)) B hP hk rfl (by decide) kw_1 dX1_kindNumber_51 ?_
        refine lv_aload_n hx hb dX1_kindNumber_54 rfl (lv_at hl 0 rfl) ?_
        refine kc_getN (j := 1) (k := k) (v := .long ((c.2.2 k).2)) B hP hk rfl (by decide) kw_2 dX1_kindNumber_55 ?_
        refine kp_lne (tgt := 66) hx hb dX1_kindNumber_58 dX1_kindNumber_59 (by decide) (fun q_4 => ?_) (fun q_4 => ?_)
        · refine lv_iconst (v := (2 : Int32)) hx hb dX1_kindNumber_66 (by decide) ?_
          exact kp_retiR B (by simp only [F_kindNumber, if_pos q_1, if_neg q_2, if_neg q_3, if_neg q_4]) dX1_kindNumber_67
        · refine lv_iconst (v := (1 : Int32)) hx hb dX1_kindNumber_62 (by decide) ?_
          refine lv_goto (tgt := 67) hx hb dX1_kindNumber_63 (by decide) ?_
          exact kp_retiR B (by simp only [F_kindNumber, if_pos q_1, if_neg q_2, if_neg q_3, if_pos q_4]) dX1_kindNumber_67
      · refine lv_iconst (v := (3 : Int32)) hx hb dX1_kindNumber_48 (by decide) ?_
        exact kp_retiR B (by simp only [F_kindNumber, if_pos q_1, if_neg q_2, if_pos q_3]) dX1_kindNumber_49
    · refine lv_aload_n hx hb dX1_kindNumber_20 rfl (lv_at hl 0 rfl) ?_
      refine kc_getN (j := 1) (k := k) (v := .long ((c.2.2 k).2)) B hP hk rfl (by decide) kw_2 dX1_kindNumber_21 ?_
      refine lv_ldc2 (v := cw_inf) hx hb hown (hw _ kw_4 rfl) dX1_kindNumber_24 ?_
      refine kp_lne (tgt := 35) hx hb dX1_kindNumber_27 dX1_kindNumber_28 (by decide) (fun q_5 => ?_) (fun q_5 => ?_)
      · refine lv_iconst (v := (4 : Int32)) hx hb dX1_kindNumber_35 (by decide) ?_
        exact kp_retiR B (by simp only [F_kindNumber, if_pos q_1, if_pos q_2, if_neg q_5]) dX1_kindNumber_36
      · refine lv_iconst (v := (5 : Int32)) hx hb dX1_kindNumber_31 (by decide) ?_
        refine lv_goto (tgt := 36) hx hb dX1_kindNumber_32 (by decide) ?_
        exact kp_retiR B (by simp only [F_kindNumber, if_pos q_1, if_pos q_2, if_pos q_5]) dX1_kindNumber_36
  · refine lv_iconst (v := (0 : Int32)) hx hb dX1_kindNumber_7 (by decide) ?_
    exact kp_retiR B (by simp only [F_kindNumber, if_neg q_1]) dX1_kindNumber_8
end
section
def F_unitBits (c : cw_C) : Int32 :=
  (((1 : Int32) <<< ((c.1 - (1 : Int32)) &&& 31)) - (2 : Int32)) + c.2.1
def rm_unitBits : Room := { frames := 0, cells := 0, slots := 0, locals := 0 }
set_option maxHeartbeats 4000000 in
set_option maxRecDepth 100000 in
theorem C_unitBits (l : Launch) (D : va_G) (ty : List (ClassId × FieldType)) (sz : Nat) (G : cw_G) (Z : va_W) (hG : cw_ok ty sz G Z) (c : cw_C)  : kp_R l yX0_unitBits cX0_unitBits 1 (some .int) rm_unitBits D ty sz [.ref (aS G)] (cw_W G c Z) (some (.int (F_unitBits c))) := by
  refine kp_bodyR (by decide) (Nat.le_of_ble_eq_true rfl) rfl ?_
  intro p e s m args below meth cd ls B hl hP hS
  obtain ⟨hx, hb, hml, hown, hlk, hr, hw, hE, hK, hsz⟩ := id B
  have hl : lv_has ls 1 [(0, .ref (aS G))] := hl
  refine lv_iconst (v := (1 : Int32)) hx hb dX0_unitBits_0 (by decide) ?_
  refine lv_aload_n hx hb dX0_unitBits_1 rfl (lv_at hl 0 rfl) ?_
  refine kc_getS (j := 0) (v := .int c.1) B hP rfl (by decide) kw_10 dX0_unitBits_2 ?_
  refine lv_iconst (v := (1 : Int32)) hx hb dX0_unitBits_5 (by decide) ?_
  refine lv_isub hx hb dX0_unitBits_6 ?_
  refine lv_ishl hx hb dX0_unitBits_7 ?_
  refine lv_iconst (v := (2 : Int32)) hx hb dX0_unitBits_8 (by decide) ?_
  refine lv_isub hx hb dX0_unitBits_9 ?_
  refine lv_aload_n hx hb dX0_unitBits_10 rfl (lv_at hl 0 rfl) ?_
  refine kc_getS (j := 1) (v := .int c.2.1) B hP rfl (by decide) kw_11 dX0_unitBits_11 ?_
  refine lv_iadd hx hb dX0_unitBits_14 ?_
  exact kp_retiR B rfl dX0_unitBits_15
def F_signBit (c : cw_C) : Int32 :=
  (1 : Int32) <<< ((c.1 + c.2.1) &&& 31)
def rm_signBit : Room := { frames := 0, cells := 0, slots := 0, locals := 0 }
set_option maxHeartbeats 4000000 in
set_option maxRecDepth 100000 in
theorem C_signBit (l : Launch) (D : va_G) (ty : List (ClassId × FieldType)) (sz : Nat) (G : cw_G) (Z : va_W) (hG : cw_ok ty sz G Z) (c : cw_C)  : kp_R l yX0_signBit cX0_signBit 1 (some .int) rm_signBit D ty sz [.ref (aS G)] (cw_W G c Z) (some (.int (F_signBit c))) := by
  refine kp_bodyR (by decide) (Nat.le_of_ble_eq_true rfl) rfl ?_
  intro p e s m args below meth cd ls B hl hP hS
  obtain ⟨hx, hb, hml, hown, hlk, hr, hw, hE, hK, hsz⟩ := id B
  have hl : lv_has ls 1 [(0, .ref (aS G))] := hl
  refine lv_iconst (v := (1 : Int32)) hx hb dX0_signBit_0 (by decide) ?_
  refine lv_aload_n hx hb dX0_signBit_1 rfl (lv_at hl 0 rfl) ?_
  refine kc_getS (j := 0) (v := .int c.1) B hP rfl (by decide) kw_10 dX0_signBit_2 ?_
  refine lv_aload_n hx hb dX0_signBit_5 rfl (lv_at hl 0 rfl) ?_
  refine kc_getS (j := 1) (v := .int c.2.1) B hP rfl (by decide) kw_11 dX0_signBit_6 ?_
  refine lv_iadd hx hb dX0_signBit_9 ?_
  refine lv_ishl hx hb dX0_signBit_10 ?_
  exact kp_retiR B rfl dX0_signBit_11
def F_endlessPattern (c : cw_C) : Int32 :=
  (((1 : Int32) <<< (c.1 &&& 31)) - (1 : Int32)) <<< (c.2.1 &&& 31)
def rm_endlessPattern : Room := { frames := 0, cells := 0, slots := 0, locals := 0 }
set_option maxHeartbeats 4000000 in
set_option maxRecDepth 100000 in
theorem C_endlessPattern (l : Launch) (D : va_G) (ty : List (ClassId × FieldType)) (sz : Nat) (G : cw_G) (Z : va_W) (hG : cw_ok ty sz G Z) (c : cw_C)  : kp_R l yX0_endlessPattern cX0_endlessPattern 1 (some .int) rm_endlessPattern D ty sz [.ref (aS G)] (cw_W G c Z) (some (.int (F_endlessPattern c))) := by
  refine kp_bodyR (by decide) (Nat.le_of_ble_eq_true rfl) rfl ?_
  intro p e s m args below meth cd ls B hl hP hS
  obtain ⟨hx, hb, hml, hown, hlk, hr, hw, hE, hK, hsz⟩ := id B
  have hl : lv_has ls 1 [(0, .ref (aS G))] := hl
  refine lv_iconst (v := (1 : Int32)) hx hb dX0_endlessPattern_0 (by decide) ?_
  refine lv_aload_n hx hb dX0_endlessPattern_1 rfl (lv_at hl 0 rfl) ?_
  refine kc_getS (j := 0) (v := .int c.1) B hP rfl (by decide) kw_10 dX0_endlessPattern_2 ?_
  refine lv_ishl hx hb dX0_endlessPattern_5 ?_
  refine lv_iconst (v := (1 : Int32)) hx hb dX0_endlessPattern_6 (by decide) ?_
  refine lv_isub hx hb dX0_endlessPattern_7 ?_
  refine lv_aload_n hx hb dX0_endlessPattern_8 rfl (lv_at hl 0 rfl) ?_
  refine kc_getS (j := 1) (v := .int c.2.1) B hP rfl (by decide) kw_11 dX0_endlessPattern_9 ?_
  refine lv_ishl hx hb dX0_endlessPattern_12 ?_
  exact kp_retiR B rfl dX0_endlessPattern_13
def F_isPattern (c : cw_C) (x : Int32) : Int32 :=
  if x < (0 : Int32) then (0 : Int32) else (if ((2 : Int32) * (F_signBit c)) ≤ x then (0 : Int32) else (if (F_endlessPattern c) < (x &&& ((F_signBit c) - (1 : Int32))) then (0 : Int32) else (1 : Int32)))
def rm_isPattern : Room := { frames := 1, cells := 0, slots := 0, locals := 20 }
set_option maxHeartbeats 4000000 in
set_option maxRecDepth 100000 in
theorem C_isPattern (l : Launch) (D : va_G) (ty : List (ClassId × FieldType)) (sz : Nat) (G : cw_G) (Z : va_W) (hG : cw_ok ty sz G Z) (c : cw_C) (x : Int32) : kp_R l yX0_isPattern cX0_isPattern 2 (some .boolean) rm_isPattern D ty sz [.ref (aS G), .int x] (cw_W G c Z) (some (.int (F_isPattern c x))) := by
  refine kp_bodyR (by decide) (Nat.le_of_ble_eq_true rfl) rfl ?_
  intro p e s m args below meth cd ls B hl hP hS
  obtain ⟨hx, hb, hml, hown, hlk, hr, hw, hE, hK, hsz⟩ := id B
  have hl : lv_has ls 2 [(0, .ref (aS G)), (1, .int x)] := hl
  refine lv_iload_n hx hb dX0_isPattern_0 rfl (lv_at hl 1 rfl) ?_
  refine lv_if_lt (tgt := 33) hx hb dX0_isPattern_1 (by decide) (fun q_1 => ?_) (fun q_1 => ?_)
  · refine lv_iconst (v := (0 : Int32)) hx hb dX0_isPattern_33 (by decide) ?_
    exact kp_retzR B (by simp only [F_isPattern, if_pos q_1]) (Or.inl rfl) dX0_isPattern_34
  · refine lv_iload_n hx hb dX0_isPattern_4 rfl (lv_at hl 1 rfl) ?_
    refine lv_iconst (v := (2 : Int32)) hx hb dX0_isPattern_5 (by decide) ?_
    refine lv_aload_n hx hb dX0_isPattern_6 rfl (lv_at hl 0 rfl) ?_
    refine kp_callVR (rm := rm_signBit) (As := []) (rest := [.int (2 : Int32), .int x]) (r := some (.int (F_signBit c))) (st1 := [.int (F_signBit c), .int (2 : Int32), .int x]) B (C_signBit l D ty sz G Z hG c) kt_signBit kw_14 kw_15 kw_16 (kc_rcS B hP) (by decide) ⟨rfl, rfl⟩ (by decide) rfl (Nat.le_of_ble_eq_true rfl) hl.1 hP hS dX0_isPattern_7 rfl ?_
    refine lv_imul hx hb dX0_isPattern_10 ?_
    refine lv_icmp_ge (tgt := 33) hx hb dX0_isPattern_11 (by decide) (fun q_2 => ?_) (fun q_2 => ?_)
    · refine lv_iconst (v := (0 : Int32)) hx hb dX0_isPattern_33 (by decide) ?_
      exact kp_retzR B (by simp only [F_isPattern, if_neg q_1, if_pos q_2]) (Or.inl rfl) dX0_isPattern_34
    · refine lv_iload_n hx hb dX0_isPattern_14 rfl (lv_at hl 1 rfl) ?_
      refine lv_aload_n hx hb dX0_isPattern_15 rfl (lv_at hl 0 rfl) ?_
      refine kp_callVR (rm := rm_signBit) (As := []) (rest := [.int x]) (r := some (.int (F_signBit c))) (st1 := [.int (F_signBit c), .int x]) B (C_signBit l D ty sz G Z hG c) kt_signBit kw_14 kw_15 kw_16 (kc_rcS B hP) (by decide) ⟨rfl, rfl⟩ (by decide) rfl (Nat.le_of_ble_eq_true rfl) hl.1 hP hS dX0_isPattern_16 rfl ?_
      refine lv_iconst (v := (1 : Int32)) hx hb dX0_isPattern_19 (by decide) ?_
      refine lv_isub hx hb dX0_isPattern_20 ?_
      refine lv_iand hx hb dX0_isPattern_21 ?_
      refine lv_aload_n hx hb dX0_isPattern_22 rfl (lv_at hl 0 rfl) ?_
      refine kp_callVR (rm := rm_endlessPattern) (As := []) (rest := [.int (x &&& ((F_signBit c) - (1 : Int32)))]) (r := some (.int (F_endlessPattern c))) (st1 := [.int (F_endlessPattern c), .int (x &&& ((F_signBit c) - (1 : Int32)))]) B (C_endlessPattern l D ty sz G Z hG c) kt_endlessPattern kw_19 kw_20 kw_21 (kc_rcS B hP) (by decide) ⟨rfl, rfl⟩ (by decide) rfl (Nat.le_of_ble_eq_true rfl) hl.1 hP hS dX0_isPattern_23 rfl ?_
      refine lv_icmp_gt (tgt := 33) hx hb dX0_isPattern_26 (by decide) (fun q_3 => ?_) (fun q_3 => ?_)
      · refine lv_iconst (v := (0 : Int32)) hx hb dX0_isPattern_33 (by decide) ?_
        exact kp_retzR B (by simp only [F_isPattern, if_neg q_1, if_neg q_2, if_pos q_3]) (Or.inl rfl) dX0_isPattern_34
      · refine lv_iconst (v := (1 : Int32)) hx hb dX0_isPattern_29 (by decide) ?_
        refine lv_goto (tgt := 34) hx hb dX0_isPattern_30 (by decide) ?_
        exact kp_retzR B (by simp only [F_isPattern, if_neg q_1, if_neg q_2, if_neg q_3]) (Or.inr rfl) dX0_isPattern_34
def F_sizeOf (c : cw_C) (x : Int32) : Int64 :=
  if x = (F_endlessPattern c) then cw_inf else (if (x >>> (c.2.1 &&& 31)) = (0 : Int32) then (x &&& (((1 : Int32) <<< (c.2.1 &&& 31)) - (1 : Int32))).toInt64 else (((1 : Int64) <<< (c.2.1.toInt64 &&& 63)) + ((x &&& (((1 : Int32) <<< (c.2.1 &&& 31)) - (1 : Int32))).toInt64)) <<< (((x >>> (c.2.1 &&& 31)) - (1 : Int32)).toInt64 &&& 63))
def rm_sizeOf : Room := { frames := 1, cells := 0, slots := 0, locals := 20 }
set_option maxHeartbeats 4000000 in
set_option maxRecDepth 100000 in
theorem C_sizeOf (l : Launch) (D : va_G) (ty : List (ClassId × FieldType)) (sz : Nat) (G : cw_G) (Z : va_W) (hG : cw_ok ty sz G Z) (c : cw_C) (x : Int32) : kp_R l yX0_sizeOf cX0_sizeOf 5 (some .long) rm_sizeOf D ty sz [.ref (aS G), .int x] (cw_W G c Z) (some (.long (F_sizeOf c x))) := by
  refine kp_bodyR (by decide) (Nat.le_of_ble_eq_true rfl) rfl ?_
  intro p e s m args below meth cd ls B hl hP hS
  obtain ⟨hx, hb, hml, hown, hlk, hr, hw, hE, hK, hsz⟩ := id B
  have hl : lv_has ls 5 [(0, .ref (aS G)), (1, .int x)] := hl
  refine lv_iload_n hx hb dX0_sizeOf_0 rfl (lv_at hl 1 rfl) ?_
  refine lv_aload_n hx hb dX0_sizeOf_1 rfl (lv_at hl 0 rfl) ?_
  refine kp_callVR (rm := rm_endlessPattern) (As := []) (rest := [.int x]) (r := some (.int (F_endlessPattern c))) (st1 := [.int (F_endlessPattern c), .int x]) B (C_endlessPattern l D ty sz G Z hG c) kt_endlessPattern kw_19 kw_20 kw_21 (kc_rcS B hP) (by decide) ⟨rfl, rfl⟩ (by decide) rfl (Nat.le_of_ble_eq_true rfl) hl.1 hP hS dX0_sizeOf_2 rfl ?_
  refine lv_icmp_ne (tgt := 12) hx hb dX0_sizeOf_5 (by decide) (fun q_1 => ?_) (fun q_1 => ?_)
  · refine lv_iload_n hx hb dX0_sizeOf_12 rfl (lv_at hl 1 rfl) ?_
    refine lv_aload_n hx hb dX0_sizeOf_13 rfl (lv_at hl 0 rfl) ?_
    refine kc_getS (j := 1) (v := .int c.2.1) B hP rfl (by decide) kw_11 dX0_sizeOf_14 ?_
    refine lv_ishr hx hb dX0_sizeOf_17 ?_
    refine lv_istore_n (lv' := [(2, .int (x >>> (c.2.1 &&& 31))), (0, .ref (aS G)), (1, .int x)]) hx hb dX0_sizeOf_18 rfl hl (by decide) rfl (fun ls hl => ?_)
    refine lv_iload_n hx hb dX0_sizeOf_19 rfl (lv_at hl 2 rfl) ?_
    refine lv_iconst (v := (1 : Int32)) hx hb dX0_sizeOf_20 (by decide) ?_
    refine lv_aload_n hx hb dX0_sizeOf_21 rfl (lv_at hl 1 rfl) ?_
    refine kc_getS (j := 1) (v := .int c.2.1) B hP rfl (by decide) kw_11 dX0_sizeOf_22 ?_
    refine lv_ishl hx hb dX0_sizeOf_25 ?_
    refine lv_iconst (v := (1 : Int32)) hx hb dX0_sizeOf_26 (by decide) ?_
    refine lv_isub hx hb dX0_sizeOf_27 ?_
    refine lv_iand hx hb dX0_sizeOf_28 ?_
    refine lv_i2l (v := (x &&& (((1 : Int32) <<< (c.2.1 &&& 31)) - (1 : Int32))).toInt64) hx hb dX0_sizeOf_29 rfl ?_
    refine lv_lstore_n (lv' := [(3, .long ((x &&& (((1 : Int32) <<< (c.2.1 &&& 31)) - (1 : Int32))).toInt64)), (2, .int (x >>> (c.2.1 &&& 31))), (0, .ref (aS G)), (1, .int x)]) hx hb dX0_sizeOf_30 rfl hl (by decide) rfl (fun ls hl => ?_)
    refine lv_iload_n hx hb dX0_sizeOf_31 rfl (lv_at hl 1 rfl) ?_
    refine lv_if_ne (tgt := 39) hx hb dX0_sizeOf_32 (by decide) (fun q_2 => ?_) (fun q_2 => ?_)
    · refine lv_lconst (v := (1 : Int64)) hx hb dX0_sizeOf_39 (by decide) ?_
      refine lv_aload_n hx hb dX0_sizeOf_40 rfl (lv_at hl 2 rfl) ?_
      refine kc_getS (j := 1) (v := .int c.2.1) B hP rfl (by decide) kw_11 dX0_sizeOf_41 ?_
      refine lv_lshl (v := (1 : Int64) <<< (c.2.1.toInt64 &&& 63)) hx hb dX0_sizeOf_44 rfl ?_
      refine lv_lload_n hx hb dX0_sizeOf_45 rfl (lv_at hl 0 rfl) ?_
      refine lv_ladd hx hb dX0_sizeOf_46 ?_
      refine lv_iload_n hx hb dX0_sizeOf_47 rfl (lv_at hl 1 rfl) ?_
      refine lv_iconst (v := (1 : Int32)) hx hb dX0_sizeOf_48 (by decide) ?_
      refine lv_isub hx hb dX0_sizeOf_49 ?_
      refine lv_lshl (v := (((1 : Int64) <<< (c.2.1.toInt64 &&& 63)) + ((x &&& (((1 : Int32) <<< (c.2.1 &&& 31)) - (1 : Int32))).toInt64)) <<< (((x >>> (c.2.1 &&& 31)) - (1 : Int32)).toInt64 &&& 63)) hx hb dX0_sizeOf_50 rfl ?_
      exact kp_retlR B (by simp only [F_sizeOf, if_neg q_1, if_neg q_2]) dX0_sizeOf_51
    · refine lv_lload_n hx hb dX0_sizeOf_35 rfl (lv_at hl 0 rfl) ?_
      refine lv_goto (tgt := 51) hx hb dX0_sizeOf_36 (by decide) ?_
      exact kp_retlR B (by simp only [F_sizeOf, if_neg q_1, if_pos q_2]) dX0_sizeOf_51
  · refine lv_ldc2 (v := cw_inf) hx hb hown (hw _ kw_22 rfl) dX0_sizeOf_8 ?_
    exact kp_retlR B (by simp only [F_sizeOf, if_pos q_1]) dX0_sizeOf_11
def F_numberOf (c : cw_C) (x : Int32) : Int64 :=
  if (x &&& (F_signBit c)) = (0 : Int32) then F_sizeOf c (x &&& ((F_signBit c) - (1 : Int32))) else -(F_sizeOf c (x &&& ((F_signBit c) - (1 : Int32))))
def rm_numberOf : Room := { frames := 2, cells := 0, slots := 0, locals := 44 }
set_option maxHeartbeats 4000000 in
set_option maxRecDepth 100000 in
theorem C_numberOf (l : Launch) (D : va_G) (ty : List (ClassId × FieldType)) (sz : Nat) (G : cw_G) (Z : va_W) (hG : cw_ok ty sz G Z) (c : cw_C) (x : Int32) : kp_R l yX0_numberOf cX0_numberOf 4 (some .long) rm_numberOf D ty sz [.ref (aS G), .int x] (cw_W G c Z) (some (.long (F_numberOf c x))) := by
  refine kp_bodyR (by decide) (Nat.le_of_ble_eq_true rfl) rfl ?_
  intro p e s m args below meth cd ls B hl hP hS
  obtain ⟨hx, hb, hml, hown, hlk, hr, hw, hE, hK, hsz⟩ := id B
  have hl : lv_has ls 4 [(0, .ref (aS G)), (1, .int x)] := hl
  refine lv_aload_n hx hb dX0_numberOf_0 rfl (lv_at hl 0 rfl) ?_
  refine lv_iload_n hx hb dX0_numberOf_1 rfl (lv_at hl 1 rfl) ?_
  refine lv_aload_n hx hb dX0_numberOf_2 rfl (lv_at hl 0 rfl) ?_
  refine kp_callVR (rm := rm_signBit) (As := []) (rest := [.int x, .ref (aS G)]) (r := some (.int (F_signBit c))) (st1 := [.int (F_signBit c), .int x, .ref (aS G)]) B (C_signBit l D ty sz G Z hG c) kt_signBit kw_14 kw_15 kw_16 (kc_rcS B hP) (by decide) ⟨rfl, rfl⟩ (by decide) rfl (Nat.le_of_ble_eq_true rfl) hl.1 hP hS dX0_numberOf_3 rfl ?_
  refine lv_iconst (v := (1 : Int32)) hx hb dX0_numberOf_6 (by decide) ?_
  refine lv_isub hx hb dX0_numberOf_7 ?_
  refine lv_iand hx hb dX0_numberOf_8 ?_
  refine kp_callVR (rm := rm_sizeOf) (As := [.int (x &&& ((F_signBit c) - (1 : Int32)))]) (rest := []) (r := some (.long (F_sizeOf c (x &&& ((F_signBit c) - (1 : Int32)))))) (st1 := [.long (F_sizeOf c (x &&& ((F_signBit c) - (1 : Int32))))]) B (C_sizeOf l D ty sz G Z hG c (x &&& ((F_signBit c) - (1 : Int32)))) kt_sizeOf kw_25 kw_26 kw_27 (kc_rcS B hP) (by decide) ⟨rfl, rfl⟩ (by decide) rfl (Nat.le_of_ble_eq_true rfl) hl.1 hP hS dX0_numberOf_9 rfl ?_
  refine lv_lstore_n (lv' := [(2, .long (F_sizeOf c (x &&& ((F_signBit c) - (1 : Int32))))), (0, .ref (aS G)), (1, .int x)]) hx hb dX0_numberOf_12 rfl hl (by decide) rfl (fun ls hl => ?_)
  refine lv_iload_n hx hb dX0_numberOf_13 rfl (lv_at hl 2 rfl) ?_
  refine lv_aload_n hx hb dX0_numberOf_14 rfl (lv_at hl 1 rfl) ?_
  refine kp_callVR (rm := rm_signBit) (As := []) (rest := [.int x]) (r := some (.int (F_signBit c))) (st1 := [.int (F_signBit c), .int x]) B (C_signBit l D ty sz G Z hG c) kt_signBit kw_14 kw_15 kw_16 (kc_rcS B hP) (by decide) ⟨rfl, rfl⟩ (by decide) rfl (Nat.le_of_ble_eq_true rfl) hl.1 hP hS dX0_numberOf_15 rfl ?_
  refine lv_iand hx hb dX0_numberOf_18 ?_
  refine lv_if_eq (tgt := 27) hx hb dX0_numberOf_19 (by decide) (fun q_1 => ?_) (fun q_1 => ?_)
  · refine lv_lload_n hx hb dX0_numberOf_27 rfl (lv_at hl 0 rfl) ?_
    exact kp_retlR B (by simp only [F_numberOf, if_pos q_1]) dX0_numberOf_28
  · refine lv_lload_n hx hb dX0_numberOf_22 rfl (lv_at hl 0 rfl) ?_
    refine lv_lneg hx hb dX0_numberOf_23 ?_
    refine lv_goto (tgt := 28) hx hb dX0_numberOf_24 (by decide) ?_
    exact kp_retlR B (by simp only [F_numberOf, if_neg q_1]) dX0_numberOf_28
theorem ki_up {i : Int32} {n : Nat} (h1 : 0 ≤ i.toInt) (h3 : i.toInt ≤ 62) (q : ¬ (62 : Int32) ≤ i) (h2 : 63 ≤ i.toInt + ((n + 1 : Nat) : Int)) : 0 ≤ (i + 1).toInt ∧ 63 ≤ (i + 1).toInt + (n : Int) ∧ (i + 1).toInt ≤ 62 := by
  have hq : i.toInt < 62 := by
    have h := Int32.not_le.mp q
    rw [Int32.lt_iff_toInt_lt] at h
    exact h
  have e : (i + 1).toInt = i.toInt + 1 := by
    rw [Int32.toInt_add, show (1 : Int32).toInt = 1 from rfl, Int.bmod_eq_of_le (by omega) (by omega)]
  rw [e]
  omega
theorem ki_dn {i : Int32} {n : Nat} (h1 : -1 ≤ i.toInt) (q : ¬ i < (0 : Int32)) (h2 : i.toInt + 2 ≤ ((n + 1 : Nat) : Int)) : -1 ≤ (i + (-1)).toInt ∧ (i + (-1)).toInt + 2 ≤ (n : Int) := by
  have hq : 0 ≤ i.toInt := by
    have h := Int32.not_lt.mp q
    rw [Int32.le_iff_toInt_le] at h
    exact h
  have hu := i.toInt_lt
  have e : (i + (-1)).toInt = i.toInt - 1 := by
    rw [Int32.toInt_add, show (-1 : Int32).toInt = -1 from rfl, Int.bmod_eq_of_le (by omega) (by omega)]
    omega
  rw [e]
  omega
def LF_extraBits (c : cw_C) (x : Int64) : Nat → Int32 → Int32
  | 0, i => 0
  | n + 1, i => if (62 : Int32) ≤ i then (62 : Int32) else (if ((2 : Int64) <<< (c.2.1.toInt64 &&& 63)) ≤ (x >>> (i.toInt64 &&& 63)) then LF_extraBits c x n (i + (1 : Int32)) else i)
def F_extraBits (c : cw_C) (x : Int64) : Int32 :=
  LF_extraBits c x 63 (0 : Int32)
def rm_extraBits : Room := { frames := 0, cells := 0, slots := 0, locals := 0 }
set_option maxHeartbeats 4000000 in
set_option maxRecDepth 100000 in
theorem LP_extraBits (l : Launch) (D : va_G) (ty : List (ClassId × FieldType)) (sz : Nat) (G : cw_G) (Z : va_W) (hG : cw_ok ty sz G Z) (c : cw_C) (x : Int64) {p : Program} {e : Env} {s : State} {m : MethodId} {args : Array Value} {below : List Frame} {meth : Method} {cd : Code} (B : kp_B p l s m args meth cd yX0_extraBits.cls cX0_extraBits 4 (some .int) D ty sz) (hP : va_P D vwCl (cw_W G c Z) s.heap) :
    ∀ (n : Nat) (i : Int32) (h1 : 0 ≤ i.toInt) (h2 : 63 ≤ i.toInt + n) (h3 : i.toInt ≤ 62), ∀ (ls : Array Slot), lv_has ls 4 [(0, .ref (aS G)), (1, .long x), (3, .int i)] → W p l e rm_extraBits s m args below meth cd s.heap [] 0 0 (MQ below (kp_QR (some (.int (LF_extraBits c x n i)))) args s 0 0 (fun _ => False)) (F0 m 2 ls []) := by
  obtain ⟨hx, hb, hml, hown, hlk, hr, hw, hE, hK, hsz⟩ := id B
  intro n
  induction n with
  | zero =>
    intro i h1 h2 h3
    exact absurd h2 (by omega)
  | succ n ih =>
    intro i h1 h2 h3 ls hl
    have hS : va_S (kp_A sz) s.heap s.heap [] := va_S.rf
    refine lv_iload_n hx hb dX0_extraBits_2 rfl (lv_at hl 2 rfl) ?_
    refine lv_bipush (v := (62 : Int32)) hx hb dX0_extraBits_3 (by decide) ?_
    refine lv_icmp_ge (tgt := 31) hx hb dX0_extraBits_5 (by decide) (fun q_1 => ?_) (fun q_1 => ?_)
    · refine lv_bipush (v := (62 : Int32)) hx hb dX0_extraBits_31 (by decide) ?_
      exact kp_retiR B (by simp only [LF_extraBits, if_pos q_1]) dX0_extraBits_33
    · refine lv_lload_n hx hb dX0_extraBits_8 rfl (lv_at hl 1 rfl) ?_
      refine lv_iload_n hx hb dX0_extraBits_9 rfl (lv_at hl 2 rfl) ?_
      refine lv_lshr (v := x >>> (i.toInt64 &&& 63)) hx hb dX0_extraBits_10 rfl ?_
      refine lv_ldc2 (v := (2 : Int64)) hx hb hown (hw _ kw_28 rfl) dX0_extraBits_11 ?_
      refine lv_aload_n hx hb dX0_extraBits_14 rfl (lv_at hl 0 rfl) ?_
      refine kc_getS (j := 1) (v := .int c.2.1) B hP rfl (by decide) kw_11 dX0_extraBits_15 ?_
      refine lv_lshl (v := (2 : Int64) <<< (c.2.1.toInt64 &&& 63)) hx hb dX0_extraBits_18 rfl ?_
      refine kp_lge (tgt := 25) hx hb dX0_extraBits_19 dX0_extraBits_20 (by decide) (fun q_2 => ?_) (fun q_2 => ?_)
      · refine lv_iinc (v := i + (1 : Int32)) (lv' := [(3, .int (i + (1 : Int32))), (0, .ref (aS G)), (1, .long x)]) hx hb dX0_extraBits_25 hl (k := 2) rfl rfl (by decide) rfl (fun ls hl => ?_)
        refine lv_goto (tgt := 2) hx hb dX0_extraBits_28 (by decide) ?_
        rw [show LF_extraBits c x (n + 1) i = LF_extraBits c x n (i + (1 : Int32)) from by simp only [LF_extraBits, if_neg q_1, if_pos q_2]]
        exact ih (i + (1 : Int32)) (ki_up h1 h3 q_1 h2).1 (ki_up h1 h3 q_1 h2).2.1 (ki_up h1 h3 q_1 h2).2.2 ls (lv_sub hl [1, 2, 0] rfl)
      · refine lv_iload_n hx hb dX0_extraBits_23 rfl (lv_at hl 2 rfl) ?_
        exact kp_retiR B (by simp only [LF_extraBits, if_neg q_1, if_neg q_2]) dX0_extraBits_24
set_option maxHeartbeats 4000000 in
set_option maxRecDepth 100000 in
theorem C_extraBits (l : Launch) (D : va_G) (ty : List (ClassId × FieldType)) (sz : Nat) (G : cw_G) (Z : va_W) (hG : cw_ok ty sz G Z) (c : cw_C) (x : Int64) : kp_R l yX0_extraBits cX0_extraBits 4 (some .int) rm_extraBits D ty sz [.ref (aS G), .long x] (cw_W G c Z) (some (.int (F_extraBits c x))) := by
  refine kp_bodyR (by decide) (Nat.le_of_ble_eq_true rfl) rfl ?_
  intro p e s m args below meth cd ls B hl hP hS
  obtain ⟨hx, hb, hml, hown, hlk, hr, hw, hE, hK, hsz⟩ := id B
  have hl : lv_has ls 4 [(0, .ref (aS G)), (1, .long x)] := hl
  refine lv_iconst (v := (0 : Int32)) hx hb dX0_extraBits_0 (by decide) ?_
  refine lv_istore_n (lv' := [(3, .int (0 : Int32)), (0, .ref (aS G)), (1, .long x)]) hx hb dX0_extraBits_1 rfl hl (by decide) rfl (fun ls hl => ?_)
  exact LP_extraBits l D ty sz G Z hG c x B hP 63 (0 : Int32) (by decide) (by decide) (by decide) ls (lv_sub hl [1, 2, 0] rfl)
def F_unsignedOf (c : cw_C) (x : Int64) : Int32 :=
  if x = cw_inf then F_endlessPattern c else ((F_extraBits c x) <<< (c.2.1 &&& 31)) + ((x >>> ((F_extraBits c x).toInt64 &&& 63)).toInt32)
def rm_unsignedOf : Room := { frames := 1, cells := 0, slots := 0, locals := 23 }
set_option maxHeartbeats 4000000 in
set_option maxRecDepth 100000 in
theorem C_unsignedOf (l : Launch) (D : va_G) (ty : List (ClassId × FieldType)) (sz : Nat) (G : cw_G) (Z : va_W) (hG : cw_ok ty sz G Z) (c : cw_C) (x : Int64) : kp_R l yX0_unsignedOf cX0_unsignedOf 4 (some .int) rm_unsignedOf D ty sz [.ref (aS G), .long x] (cw_W G c Z) (some (.int (F_unsignedOf c x))) := by
  refine kp_bodyR (by decide) (Nat.le_of_ble_eq_true rfl) rfl ?_
  intro p e s m args below meth cd ls B hl hP hS
  obtain ⟨hx, hb, hml, hown, hlk, hr, hw, hE, hK, hsz⟩ := id B
  have hl : lv_has ls 4 [(0, .ref (aS G)), (1, .long x)] := hl
  refine lv_lload_n hx hb dX0_unsignedOf_0 rfl (lv_at hl 1 rfl) ?_
  refine lv_ldc2 (v := cw_inf) hx hb hown (hw _ kw_22 rfl) dX0_unsignedOf_1 ?_
  refine kp_lne (tgt := 13) hx hb dX0_unsignedOf_4 dX0_unsignedOf_5 (by decide) (fun q_1 => ?_) (fun q_1 => ?_)
  · refine lv_aload_n hx hb dX0_unsignedOf_13 rfl (lv_at hl 0 rfl) ?_
    refine lv_lload_n hx hb dX0_unsignedOf_14 rfl (lv_at hl 1 rfl) ?_
    refine kp_callVR (rm := rm_extraBits) (As := [.long x]) (rest := []) (r := some (.int (F_extraBits c x))) (st1 := [.int (F_extraBits c x)]) B (C_extraBits l D ty sz G Z hG c x) kt_extraBits kw_31 kw_32 kw_33 (kc_rcS B hP) (by decide) ⟨rfl, rfl⟩ (by decide) rfl (Nat.le_of_ble_eq_true rfl) hl.1 hP hS dX0_unsignedOf_15 rfl ?_
    refine lv_istore_n (lv' := [(3, .int (F_extraBits c x)), (0, .ref (aS G)), (1, .long x)]) hx hb dX0_unsignedOf_18 rfl hl (by decide) rfl (fun ls hl => ?_)
    refine lv_iload_n hx hb dX0_unsignedOf_19 rfl (lv_at hl 0 rfl) ?_
    refine lv_aload_n hx hb dX0_unsignedOf_20 rfl (lv_at hl 1 rfl) ?_
    refine kc_getS (j := 1) (v := .int c.2.1) B hP rfl (by decide) kw_11 dX0_unsignedOf_21 ?_
    refine lv_ishl hx hb dX0_unsignedOf_24 ?_
    refine lv_lload_n hx hb dX0_unsignedOf_25 rfl (lv_at hl 2 rfl) ?_
    refine lv_iload_n hx hb dX0_unsignedOf_26 rfl (lv_at hl 0 rfl) ?_
    refine lv_lshr (v := x >>> ((F_extraBits c x).toInt64 &&& 63)) hx hb dX0_unsignedOf_27 rfl ?_
    refine lv_l2i (v := (x >>> ((F_extraBits c x).toInt64 &&& 63)).toInt32) hx hb dX0_unsignedOf_28 rfl ?_
    refine lv_iadd hx hb dX0_unsignedOf_29 ?_
    exact kp_retiR B (by simp only [F_unsignedOf, if_neg q_1]) dX0_unsignedOf_30
  · refine lv_aload_n hx hb dX0_unsignedOf_8 rfl (lv_at hl 0 rfl) ?_
    refine kp_callVR (rm := rm_endlessPattern) (As := []) (rest := []) (r := some (.int (F_endlessPattern c))) (st1 := [.int (F_endlessPattern c)]) B (C_endlessPattern l D ty sz G Z hG c) kt_endlessPattern kw_19 kw_20 kw_21 (kc_rcS B hP) (by decide) ⟨rfl, rfl⟩ (by decide) rfl (Nat.le_of_ble_eq_true rfl) hl.1 hP hS dX0_unsignedOf_9 rfl ?_
    exact kp_retiR B (by simp only [F_unsignedOf, if_pos q_1]) dX0_unsignedOf_12
def F_patternOf (c : cw_C) (x : Int64) : Int32 :=
  if (0 : Int64) ≤ x then F_unsignedOf c x else (F_signBit c) ||| (F_unsignedOf c (-x))
def rm_patternOf : Room := { frames := 2, cells := 0, slots := 0, locals := 46 }
set_option maxHeartbeats 4000000 in
set_option maxRecDepth 100000 in
theorem C_patternOf (l : Launch) (D : va_G) (ty : List (ClassId × FieldType)) (sz : Nat) (G : cw_G) (Z : va_W) (hG : cw_ok ty sz G Z) (c : cw_C) (x : Int64) : kp_R l yX0_patternOf cX0_patternOf 3 (some .int) rm_patternOf D ty sz [.ref (aS G), .long x] (cw_W G c Z) (some (.int (F_patternOf c x))) := by
  refine kp_bodyR (by decide) (Nat.le_of_ble_eq_true rfl) rfl ?_
  intro p e s m args below meth cd ls B hl hP hS
  obtain ⟨hx, hb, hml, hown, hlk, hr, hw, hE, hK, hsz⟩ := id B
  have hl : lv_has ls 3 [(0, .ref (aS G)), (1, .long x)] := hl
  refine lv_lload_n hx hb dX0_patternOf_0 rfl (lv_at hl 1 rfl) ?_
  refine lv_lconst (v := (0 : Int64)) hx hb dX0_patternOf_1 (by decide) ?_
  refine kp_lge (tgt := 20) hx hb dX0_patternOf_2 dX0_patternOf_3 (by decide) (fun q_1 => ?_) (fun q_1 => ?_)
  · refine lv_aload_n hx hb dX0_patternOf_20 rfl (lv_at hl 0 rfl) ?_
    refine lv_lload_n hx hb dX0_patternOf_21 rfl (lv_at hl 1 rfl) ?_
    refine kp_callVR (rm := rm_unsignedOf) (As := [.long x]) (rest := []) (r := some (.int (F_unsignedOf c x))) (st1 := [.int (F_unsignedOf c x)]) B (C_unsignedOf l D ty sz G Z hG c x) kt_unsignedOf kw_36 kw_37 kw_38 (kc_rcS B hP) (by decide) ⟨rfl, rfl⟩ (by decide) rfl (Nat.le_of_ble_eq_true rfl) hl.1 hP hS dX0_patternOf_22 rfl ?_
    exact kp_retiR B (by simp only [F_patternOf, if_pos q_1]) dX0_patternOf_25
  · refine lv_aload_n hx hb dX0_patternOf_6 rfl (lv_at hl 0 rfl) ?_
    refine kp_callVR (rm := rm_signBit) (As := []) (rest := []) (r := some (.int (F_signBit c))) (st1 := [.int (F_signBit c)]) B (C_signBit l D ty sz G Z hG c) kt_signBit kw_14 kw_15 kw_16 (kc_rcS B hP) (by decide) ⟨rfl, rfl⟩ (by decide) rfl (Nat.le_of_ble_eq_true rfl) hl.1 hP hS dX0_patternOf_7 rfl ?_
    refine lv_aload_n hx hb dX0_patternOf_10 rfl (lv_at hl 0 rfl) ?_
    refine lv_lload_n hx hb dX0_patternOf_11 rfl (lv_at hl 1 rfl) ?_
    refine lv_lneg hx hb dX0_patternOf_12 ?_
    refine kp_callVR (rm := rm_unsignedOf) (As := [.long (-x)]) (rest := [.int (F_signBit c)]) (r := some (.int (F_unsignedOf c (-x)))) (st1 := [.int (F_unsignedOf c (-x)), .int (F_signBit c)]) B (C_unsignedOf l D ty sz G Z hG c (-x)) kt_unsignedOf kw_36 kw_37 kw_38 (kc_rcS B hP) (by decide) ⟨rfl, rfl⟩ (by decide) rfl (Nat.le_of_ble_eq_true rfl) hl.1 hP hS dX0_patternOf_13 rfl ?_
    refine lv_ior hx hb dX0_patternOf_16 ?_
    refine lv_goto (tgt := 25) hx hb dX0_patternOf_17 (by decide) ?_
    exact kp_retiR B (by simp only [F_patternOf, if_neg q_1]) dX0_patternOf_25
def F_sizeNotAbove (c : cw_C) (x : Int64) : Int64 :=
  if x ≤ (F_sizeOf c ((F_endlessPattern c) - (1 : Int32))) then (x >>> ((F_extraBits c x).toInt64 &&& 63)) <<< ((F_extraBits c x).toInt64 &&& 63) else F_sizeOf c ((F_endlessPattern c) - (1 : Int32))
def rm_sizeNotAbove : Room := { frames := 2, cells := 0, slots := 0, locals := 44 }
set_option maxHeartbeats 4000000 in
set_option maxRecDepth 100000 in
theorem C_sizeNotAbove (l : Launch) (D : va_G) (ty : List (ClassId × FieldType)) (sz : Nat) (G : cw_G) (Z : va_W) (hG : cw_ok ty sz G Z) (c : cw_C) (x : Int64) : kp_R l yX0_sizeNotAbove cX0_sizeNotAbove 6 (some .long) rm_sizeNotAbove D ty sz [.ref (aS G), .long x] (cw_W G c Z) (some (.long (F_sizeNotAbove c x))) := by
  refine kp_bodyR (by decide) (Nat.le_of_ble_eq_true rfl) rfl ?_
  intro p e s m args below meth cd ls B hl hP hS
  obtain ⟨hx, hb, hml, hown, hlk, hr, hw, hE, hK, hsz⟩ := id B
  have hl : lv_has ls 6 [(0, .ref (aS G)), (1, .long x)] := hl
  refine lv_aload_n hx hb dX0_sizeNotAbove_0 rfl (lv_at hl 0 rfl) ?_
  refine lv_aload_n hx hb dX0_sizeNotAbove_1 rfl (lv_at hl 0 rfl) ?_
  refine kp_callVR (rm := rm_endlessPattern) (As := []) (rest := [.ref (aS G)]) (r := some (.int (F_endlessPattern c))) (st1 := [.int (F_endlessPattern c), .ref (aS G)]) B (C_endlessPattern l D ty sz G Z hG c) kt_endlessPattern kw_19 kw_20 kw_21 (kc_rcS B hP) (by decide) ⟨rfl, rfl⟩ (by decide) rfl (Nat.le_of_ble_eq_true rfl) hl.1 hP hS dX0_sizeNotAbove_2 rfl ?_
  refine lv_iconst (v := (1 : Int32)) hx hb dX0_sizeNotAbove_5 (by decide) ?_
  refine lv_isub hx hb dX0_sizeNotAbove_6 ?_
  refine kp_callVR (rm := rm_sizeOf) (As := [.int ((F_endlessPattern c) - (1 : Int32))]) (rest := []) (r := some (.long (F_sizeOf c ((F_endlessPattern c) - (1 : Int32))))) (st1 := [.long (F_sizeOf c ((F_endlessPattern c) - (1 : Int32)))]) B (C_sizeOf l D ty sz G Z hG c ((F_endlessPattern c) - (1 : Int32))) kt_sizeOf kw_25 kw_26 kw_27 (kc_rcS B hP) (by decide) ⟨rfl, rfl⟩ (by decide) rfl (Nat.le_of_ble_eq_true rfl) hl.1 hP hS dX0_sizeNotAbove_7 rfl ?_
  refine lv_lstore_n (lv' := [(3, .long (F_sizeOf c ((F_endlessPattern c) - (1 : Int32)))), (0, .ref (aS G)), (1, .long x)]) hx hb dX0_sizeNotAbove_10 rfl hl (by decide) rfl (fun ls hl => ?_)
  refine lv_lload_n hx hb dX0_sizeNotAbove_11 rfl (lv_at hl 2 rfl) ?_
  refine lv_lload_n hx hb dX0_sizeNotAbove_12 rfl (lv_at hl 0 rfl) ?_
  refine kp_lle (tgt := 19) hx hb dX0_sizeNotAbove_13 dX0_sizeNotAbove_14 (by decide) (fun q_1 => ?_) (fun q_1 => ?_)
  · refine lv_aload_n hx hb dX0_sizeNotAbove_19 rfl (lv_at hl 1 rfl) ?_
    refine lv_lload_n hx hb dX0_sizeNotAbove_20 rfl (lv_at hl 2 rfl) ?_
    refine kp_callVR (rm := rm_extraBits) (As := [.long x]) (rest := []) (r := some (.int (F_extraBits c x))) (st1 := [.int (F_extraBits c x)]) B (C_extraBits l D ty sz G Z hG c x) kt_extraBits kw_31 kw_32 kw_33 (kc_rcS B hP) (by decide) ⟨rfl, rfl⟩ (by decide) rfl (Nat.le_of_ble_eq_true rfl) hl.1 hP hS dX0_sizeNotAbove_21 rfl ?_
    refine lv_istore (lv' := [(5, .int (F_extraBits c x)), (3, .long (F_sizeOf c ((F_endlessPattern c) - (1 : Int32)))), (0, .ref (aS G)), (1, .long x)]) hx hb dX0_sizeNotAbove_24 hl (by decide) rfl (fun ls hl => ?_)
    refine lv_lload_n hx hb dX0_sizeNotAbove_26 rfl (lv_at hl 3 rfl) ?_
    refine lv_iload hx hb dX0_sizeNotAbove_27 (lv_at hl 0 rfl) ?_
    refine lv_lshr (v := x >>> ((F_extraBits c x).toInt64 &&& 63)) hx hb dX0_sizeNotAbove_29 rfl ?_
    refine lv_iload hx hb dX0_sizeNotAbove_30 (lv_at hl 0 rfl) ?_
    refine lv_lshl (v := (x >>> ((F_extraBits c x).toInt64 &&& 63)) <<< ((F_extraBits c x).toInt64 &&& 63)) hx hb dX0_sizeNotAbove_32 rfl ?_
    exact kp_retlR B (by simp only [F_sizeNotAbove, if_pos q_1]) dX0_sizeNotAbove_33
  · refine lv_lload_n hx hb dX0_sizeNotAbove_17 rfl (lv_at hl 0 rfl) ?_
    exact kp_retlR B (by simp only [F_sizeNotAbove, if_neg q_1]) dX0_sizeNotAbove_18
def F_sizeNotBelow (c : cw_C) (x : Int64) : Int64 :=
  if x ≤ (F_sizeOf c ((F_endlessPattern c) - (1 : Int32))) then (((x + ((1 : Int64) <<< ((F_extraBits c x).toInt64 &&& 63))) - (1 : Int64)) >>> ((F_extraBits c x).toInt64 &&& 63)) <<< ((F_extraBits c x).toInt64 &&& 63) else cw_inf
def rm_sizeNotBelow : Room := { frames := 2, cells := 0, slots := 0, locals := 44 }
set_option maxHeartbeats 4000000 in
set_option maxRecDepth 100000 in
theorem C_sizeNotBelow (l : Launch) (D : va_G) (ty : List (ClassId × FieldType)) (sz : Nat) (G : cw_G) (Z : va_W) (hG : cw_ok ty sz G Z) (c : cw_C) (x : Int64) : kp_R l yX0_sizeNotBelow cX0_sizeNotBelow 4 (some .long) rm_sizeNotBelow D ty sz [.ref (aS G), .long x] (cw_W G c Z) (some (.long (F_sizeNotBelow c x))) := by
  refine kp_bodyR (by decide) (Nat.le_of_ble_eq_true rfl) rfl ?_
  intro p e s m args below meth cd ls B hl hP hS
  obtain ⟨hx, hb, hml, hown, hlk, hr, hw, hE, hK, hsz⟩ := id B
  have hl : lv_has ls 4 [(0, .ref (aS G)), (1, .long x)] := hl
  refine lv_lload_n hx hb dX0_sizeNotBelow_0 rfl (lv_at hl 1 rfl) ?_
  refine lv_aload_n hx hb dX0_sizeNotBelow_1 rfl (lv_at hl 0 rfl) ?_
  refine lv_aload_n hx hb dX0_sizeNotBelow_2 rfl (lv_at hl 0 rfl) ?_
  refine kp_callVR (rm := rm_endlessPattern) (As := []) (rest := [.ref (aS G), .long x]) (r := some (.int (F_endlessPattern c))) (st1 := [.int (F_endlessPattern c), .ref (aS G), .long x]) B (C_endlessPattern l D ty sz G Z hG c) kt_endlessPattern kw_19 kw_20 kw_21 (kc_rcS B hP) (by decide) ⟨rfl, rfl⟩ (by decide) rfl (Nat.le_of_ble_eq_true rfl) hl.1 hP hS dX0_sizeNotBelow_3 rfl ?_
  refine lv_iconst (v := (1 : Int32)) hx hb dX0_sizeNotBelow_6 (by decide) ?_
  refine lv_isub hx hb dX0_sizeNotBelow_7 ?_
  refine kp_callVR (rm := rm_sizeOf) (As := [.int ((F_endlessPattern c) - (1 : Int32))]) (rest := [.long x]) (r := some (.long (F_sizeOf c ((F_endlessPattern c) - (1 : Int32))))) (st1 := [.long (F_sizeOf c ((F_endlessPattern c) - (1 : Int32))), .long x]) B (C_sizeOf l D ty sz G Z hG c ((F_endlessPattern c) - (1 : Int32))) kt_sizeOf kw_25 kw_26 kw_27 (kc_rcS B hP) (by decide) ⟨rfl, rfl⟩ (by decide) rfl (Nat.le_of_ble_eq_true rfl) hl.1 hP hS dX0_sizeNotBelow_8 rfl ?_
  refine kp_lle (tgt := 19) hx hb dX0_sizeNotBelow_11 dX0_sizeNotBelow_12 (by decide) (fun q_1 => ?_) (fun q_1 => ?_)
  · refine lv_aload_n hx hb dX0_sizeNotBelow_19 rfl (lv_at hl 0 rfl) ?_
    refine lv_lload_n hx hb dX0_sizeNotBelow_20 rfl (lv_at hl 1 rfl) ?_
    refine kp_callVR (rm := rm_extraBits) (As := [.long x]) (rest := []) (r := some (.int (F_extraBits c x))) (st1 := [.int (F_extraBits c x)]) B (C_extraBits l D ty sz G Z hG c x) kt_extraBits kw_31 kw_32 kw_33 (kc_rcS B hP) (by decide) ⟨rfl, rfl⟩ (by decide) rfl (Nat.le_of_ble_eq_true rfl) hl.1 hP hS dX0_sizeNotBelow_21 rfl ?_
    refine lv_istore_n (lv' := [(3, .int (F_extraBits c x)), (0, .ref (aS G)), (1, .long x)]) hx hb dX0_sizeNotBelow_24 rfl hl (by decide) rfl (fun ls hl => ?_)
    refine lv_lload_n hx hb dX0_sizeNotBelow_25 rfl (lv_at hl 2 rfl) ?_
    refine lv_lconst (v := (1 : Int64)) hx hb dX0_sizeNotBelow_26 (by decide) ?_
    refine lv_iload_n hx hb dX0_sizeNotBelow_27 rfl (lv_at hl 0 rfl) ?_
    refine lv_lshl (v := (1 : Int64) <<< ((F_extraBits c x).toInt64 &&& 63)) hx hb dX0_sizeNotBelow_28 rfl ?_
    refine lv_ladd hx hb dX0_sizeNotBelow_29 ?_
    refine lv_lconst (v := (1 : Int64)) hx hb dX0_sizeNotBelow_30 (by decide) ?_
    refine lv_lsub hx hb dX0_sizeNotBelow_31 ?_
    refine lv_iload_n hx hb dX0_sizeNotBelow_32 rfl (lv_at hl 0 rfl) ?_
    refine lv_lshr (v := ((x + ((1 : Int64) <<< ((F_extraBits c x).toInt64 &&& 63))) - (1 : Int64)) >>> ((F_extraBits c x).toInt64 &&& 63)) hx hb dX0_sizeNotBelow_33 rfl ?_
    refine lv_iload_n hx hb dX0_sizeNotBelow_34 rfl (lv_at hl 0 rfl) ?_
    refine lv_lshl (v := (((x + ((1 : Int64) <<< ((F_extraBits c x).toInt64 &&& 63))) - (1 : Int64)) >>> ((F_extraBits c x).toInt64 &&& 63)) <<< ((F_extraBits c x).toInt64 &&& 63)) hx hb dX0_sizeNotBelow_35 rfl ?_
    exact kp_retlR B (by simp only [F_sizeNotBelow, if_pos q_1]) dX0_sizeNotBelow_36
  · refine lv_ldc2 (v := cw_inf) hx hb hown (hw _ kw_22 rfl) dX0_sizeNotBelow_15 ?_
    exact kp_retlR B (by simp only [F_sizeNotBelow, if_neg q_1]) dX0_sizeNotBelow_18
def F_notAbove (c : cw_C) (x : Int64) : Int64 :=
  if (0 : Int64) ≤ x then F_sizeNotAbove c x else -(F_sizeNotBelow c (-x))
def rm_notAbove : Room := { frames := 3, cells := 0, slots := 0, locals := 69 }
set_option maxHeartbeats 4000000 in
set_option maxRecDepth 100000 in
theorem C_notAbove (l : Launch) (D : va_G) (ty : List (ClassId × FieldType)) (sz : Nat) (G : cw_G) (Z : va_W) (hG : cw_ok ty sz G Z) (c : cw_C) (x : Int64) : kp_R l yX0_notAbove cX0_notAbove 3 (some .long) rm_notAbove D ty sz [.ref (aS G), .long x] (cw_W G c Z) (some (.long (F_notAbove c x))) := by
  refine kp_bodyR (by decide) (Nat.le_of_ble_eq_true rfl) rfl ?_
  intro p e s m args below meth cd ls B hl hP hS
  obtain ⟨hx, hb, hml, hown, hlk, hr, hw, hE, hK, hsz⟩ := id B
  have hl : lv_has ls 3 [(0, .ref (aS G)), (1, .long x)] := hl
  refine lv_lload_n hx hb dX0_notAbove_0 rfl (lv_at hl 1 rfl) ?_
  refine lv_lconst (v := (0 : Int64)) hx hb dX0_notAbove_1 (by decide) ?_
  refine kp_lge (tgt := 16) hx hb dX0_notAbove_2 dX0_notAbove_3 (by decide) (fun q_1 => ?_) (fun q_1 => ?_)
  · refine lv_aload_n hx hb dX0_notAbove_16 rfl (lv_at hl 0 rfl) ?_
    refine lv_lload_n hx hb dX0_notAbove_17 rfl (lv_at hl 1 rfl) ?_
    refine kp_callVR (rm := rm_sizeNotAbove) (As := [.long x]) (rest := []) (r := some (.long (F_sizeNotAbove c x))) (st1 := [.long (F_sizeNotAbove c x)]) B (C_sizeNotAbove l D ty sz G Z hG c x) kt_sizeNotAbove kw_41 kw_42 kw_43 (kc_rcS B hP) (by decide) ⟨rfl, rfl⟩ (by decide) rfl (Nat.le_of_ble_eq_true rfl) hl.1 hP hS dX0_notAbove_18 rfl ?_
    exact kp_retlR B (by simp only [F_notAbove, if_pos q_1]) dX0_notAbove_21
  · refine lv_aload_n hx hb dX0_notAbove_6 rfl (lv_at hl 0 rfl) ?_
    refine lv_lload_n hx hb dX0_notAbove_7 rfl (lv_at hl 1 rfl) ?_
    refine lv_lneg hx hb dX0_notAbove_8 ?_
    refine kp_callVR (rm := rm_sizeNotBelow) (As := [.long (-x)]) (rest := []) (r := some (.long (F_sizeNotBelow c (-x)))) (st1 := [.long (F_sizeNotBelow c (-x))]) B (C_sizeNotBelow l D ty sz G Z hG c (-x)) kt_sizeNotBelow kw_46 kw_47 kw_48 (kc_rcS B hP) (by decide) ⟨rfl, rfl⟩ (by decide) rfl (Nat.le_of_ble_eq_true rfl) hl.1 hP hS dX0_notAbove_9 rfl ?_
    refine lv_lneg hx hb dX0_notAbove_12 ?_
    refine lv_goto (tgt := 21) hx hb dX0_notAbove_13 (by decide) ?_
    exact kp_retlR B (by simp only [F_notAbove, if_neg q_1]) dX0_notAbove_21
def F_notBelow (c : cw_C) (x : Int64) : Int64 :=
  -(F_notAbove c (-x))
def rm_notBelow : Room := { frames := 4, cells := 0, slots := 0, locals := 91 }
set_option maxHeartbeats 4000000 in
set_option maxRecDepth 100000 in
theorem C_notBelow (l : Launch) (D : va_G) (ty : List (ClassId × FieldType)) (sz : Nat) (G : cw_G) (Z : va_W) (hG : cw_ok ty sz G Z) (c : cw_C) (x : Int64) : kp_R l yX0_notBelow cX0_notBelow 3 (some .long) rm_notBelow D ty sz [.ref (aS G), .long x] (cw_W G c Z) (some (.long (F_notBelow c x))) := by
  refine kp_bodyR (by decide) (Nat.le_of_ble_eq_true rfl) rfl ?_
  intro p e s m args below meth cd ls B hl hP hS
  obtain ⟨hx, hb, hml, hown, hlk, hr, hw, hE, hK, hsz⟩ := id B
  have hl : lv_has ls 3 [(0, .ref (aS G)), (1, .long x)] := hl
  refine lv_aload_n hx hb dX0_notBelow_0 rfl (lv_at hl 0 rfl) ?_
  refine lv_lload_n hx hb dX0_notBelow_1 rfl (lv_at hl 1 rfl) ?_
  refine lv_lneg hx hb dX0_notBelow_2 ?_
  refine kp_callVR (rm := rm_notAbove) (As := [.long (-x)]) (rest := []) (r := some (.long (F_notAbove c (-x)))) (st1 := [.long (F_notAbove c (-x))]) B (C_notAbove l D ty sz G Z hG c (-x)) kt_notAbove kw_51 kw_52 kw_53 (kc_rcS B hP) (by decide) ⟨rfl, rfl⟩ (by decide) rfl (Nat.le_of_ble_eq_true rfl) hl.1 hP hS dX0_notBelow_3 rfl ?_
  refine lv_lneg hx hb dX0_notBelow_6 ?_
  exact kp_retlR B rfl dX0_notBelow_7
def F_patternOfHalf (c : cw_C) (x : Int64) : Int32 :=
  if (if (x - ((2 : Int64) * (F_notAbove c (x >>> ((1 : Int32).toInt64 &&& 63))))) < (((2 : Int64) * (F_notBelow c (x - (x >>> ((1 : Int32).toInt64 &&& 63))))) - x) then (1 : Int32) else (if (x - ((2 : Int64) * (F_notAbove c (x >>> ((1 : Int32).toInt64 &&& 63))))) = (((2 : Int64) * (F_notBelow c (x - (x >>> ((1 : Int32).toInt64 &&& 63))))) - x) then (if ((F_patternOf c (F_notAbove c (x >>> ((1 : Int32).toInt64 &&& 63)))) &&& (1 : Int32)) = (0 : Int32) then (1 : Int32) else (0 : Int32)) else (0 : Int32))) = (0 : Int32) then F_patternOf c (F_notBelow c (x - (x >>> ((1 : Int32).toInt64 &&& 63)))) else F_patternOf c (F_notAbove c (x >>> ((1 : Int32).toInt64 &&& 63)))
def rm_patternOfHalf : Room := { frames := 5, cells := 0, slots := 0, locals := 113 }
set_option maxHeartbeats 4000000 in
set_option maxRecDepth 100000 in
theorem C_patternOfHalf (l : Launch) (D : va_G) (ty : List (ClassId × FieldType)) (sz : Nat) (G : cw_G) (Z : va_W) (hG : cw_ok ty sz G Z) (c : cw_C) (x : Int64) : kp_R l yX0_patternOfHalf cX0_patternOfHalf 13 (some .int) rm_patternOfHalf D ty sz [.ref (aS G), .long x] (cw_W G c Z) (some (.int (F_patternOfHalf c x))) := by
  refine kp_bodyR (by decide) (Nat.le_of_ble_eq_true rfl) rfl ?_
  intro p e s m args below meth cd ls B hl hP hS
  obtain ⟨hx, hb, hml, hown, hlk, hr, hw, hE, hK, hsz⟩ := id B
  have hl : lv_has ls 13 [(0, .ref (aS G)), (1, .long x)] := hl
  refine lv_aload_n hx hb dX0_patternOfHalf_0 rfl (lv_at hl 0 rfl) ?_
  refine lv_lload_n hx hb dX0_patternOfHalf_1 rfl (lv_at hl 1 rfl) ?_
  refine lv_iconst (v := (1 : Int32)) hx hb dX0_patternOfHalf_2 (by decide) ?_
  refine lv_lshr (v := x >>> ((1 : Int32).toInt64 &&& 63)) hx hb dX0_patternOfHalf_3 rfl ?_
  refine kp_callVR (rm := rm_notAbove) (As := [.long (x >>> ((1 : Int32).toInt64 &&& 63))]) (rest := []) (r := some (.long (F_notAbove c (x >>> ((1 : Int32).toInt64 &&& 63))))) (st1 := [.long (F_notAbove c (x >>> ((1 : Int32).toInt64 &&& 63)))]) B (C_notAbove l D ty sz G Z hG c (x >>> ((1 : Int32).toInt64 &&& 63))) kt_notAbove kw_51 kw_52 kw_53 (kc_rcS B hP) (by decide) ⟨rfl, rfl⟩ (by decide) rfl (Nat.le_of_ble_eq_true rfl) hl.1 hP hS dX0_patternOfHalf_4 rfl ?_
  refine lv_lstore_n (lv' := [(3, .long (F_notAbove c (x >>> ((1 : Int32).toInt64 &&& 63)))), (0, .ref (aS G)), (1, .long x)]) hx hb dX0_patternOfHalf_7 rfl hl (by decide) rfl (fun ls hl => ?_)
  refine lv_aload_n hx hb dX0_patternOfHalf_8 rfl (lv_at hl 1 rfl) ?_
  refine lv_lload_n hx hb dX0_patternOfHalf_9 rfl (lv_at hl 2 rfl) ?_
  refine lv_lload_n hx hb dX0_patternOfHalf_10 rfl (lv_at hl 2 rfl) ?_
  refine lv_iconst (v := (1 : Int32)) hx hb dX0_patternOfHalf_11 (by decide) ?_
  refine lv_lshr (v := x >>> ((1 : Int32).toInt64 &&& 63)) hx hb dX0_patternOfHalf_12 rfl ?_
  refine lv_lsub hx hb dX0_patternOfHalf_13 ?_
  refine kp_callVR (rm := rm_notBelow) (As := [.long (x - (x >>> ((1 : Int32).toInt64 &&& 63)))]) (rest := []) (r := some (.long (F_notBelow c (x - (x >>> ((1 : Int32).toInt64 &&& 63)))))) (st1 := [.long (F_notBelow c (x - (x >>> ((1 : Int32).toInt64 &&& 63))))]) B (C_notBelow l D ty sz G Z hG c (x - (x >>> ((1 : Int32).toInt64 &&& 63)))) kt_notBelow kw_56 kw_57 kw_58 (kc_rcS B hP) (by decide) ⟨rfl, rfl⟩ (by decide) rfl (Nat.le_of_ble_eq_true rfl) hl.1 hP hS dX0_patternOfHalf_14 rfl ?_
  refine lv_lstore (lv' := [(5, .long (F_notBelow c (x - (x >>> ((1 : Int32).toInt64 &&& 63))))), (3, .long (F_notAbove c (x >>> ((1 : Int32).toInt64 &&& 63)))), (0, .ref (aS G)), (1, .long x)]) hx hb dX0_patternOfHalf_17 hl (by decide) rfl (fun ls hl => ?_)
  refine lv_lload_n hx hb dX0_patternOfHalf_19 rfl (lv_at hl 3 rfl) ?_
  refine lv_ldc2 (v := (2 : Int64)) hx hb hown (hw _ kw_28 rfl) dX0_patternOfHalf_20 ?_
  refine lv_lload_n hx hb dX0_patternOfHalf_23 rfl (lv_at hl 1 rfl) ?_
  refine lv_lmul hx hb dX0_patternOfHalf_24 ?_
  refine lv_lsub hx hb dX0_patternOfHalf_25 ?_
  refine lv_lstore (lv' := [(7, .long (x - ((2 : Int64) * (F_notAbove c (x >>> ((1 : Int32).toInt64 &&& 63)))))), (5, .long (F_notBelow c (x - (x >>> ((1 : Int32).toInt64 &&& 63))))), (3, .long (F_notAbove c (x >>> ((1 : Int32).toInt64 &&& 63)))), (0, .ref (aS G)), (1, .long x)]) hx hb dX0_patternOfHalf_26 hl (by decide) rfl (fun ls hl => ?_)
  refine lv_ldc2 (v := (2 : Int64)) hx hb hown (hw _ kw_28 rfl) dX0_patternOfHalf_28 ?_
  refine lv_lload hx hb dX0_patternOfHalf_31 (lv_at hl 1 rfl) ?_
  refine lv_lmul hx hb dX0_patternOfHalf_33 ?_
  refine lv_lload_n hx hb dX0_patternOfHalf_34 rfl (lv_at hl 4 rfl) ?_
  refine lv_lsub hx hb dX0_patternOfHalf_35 ?_
  refine lv_lstore (lv' := [(9, .long (((2 : Int64) * (F_notBelow c (x - (x >>> ((1 : Int32).toInt64 &&& 63))))) - x)), (7, .long (x - ((2 : Int64) * (F_notAbove c (x >>> ((1 : Int32).toInt64 &&& 63)))))), (5, .long (F_notBelow c (x - (x >>> ((1 : Int32).toInt64 &&& 63))))), (3, .long (F_notAbove c (x >>> ((1 : Int32).toInt64 &&& 63)))), (0, .ref (aS G)), (1, .long x)]) hx hb dX0_patternOfHalf_36 hl (by decide) rfl (fun ls hl => ?_)
  refine lv_aload_n hx hb dX0_patternOfHalf_38 rfl (lv_at hl 4 rfl) ?_
  refine lv_lload_n hx hb dX0_patternOfHalf_39 rfl (lv_at hl 3 rfl) ?_
  refine kp_callVR (rm := rm_patternOf) (As := [.long (F_notAbove c (x >>> ((1 : Int32).toInt64 &&& 63)))]) (rest := []) (r := some (.int (F_patternOf c (F_notAbove c (x >>> ((1 : Int32).toInt64 &&& 63)))))) (st1 := [.int (F_patternOf c (F_notAbove c (x >>> ((1 : Int32).toInt64 &&& 63))))]) B (C_patternOf l D ty sz G Z hG c (F_notAbove c (x >>> ((1 : Int32).toInt64 &&& 63)))) kt_patternOf kw_61 kw_62 kw_63 (kc_rcS B hP) (by decide) ⟨rfl, rfl⟩ (by decide) rfl (Nat.le_of_ble_eq_true rfl) hl.1 hP hS dX0_patternOfHalf_40 rfl ?_
  refine lv_istore (lv' := [(11, .int (F_patternOf c (F_notAbove c (x >>> ((1 : Int32).toInt64 &&& 63))))), (9, .long (((2 : Int64) * (F_notBelow c (x - (x >>> ((1 : Int32).toInt64 &&& 63))))) - x)), (7, .long (x - ((2 : Int64) * (F_notAbove c (x >>> ((1 : Int32).toInt64 &&& 63)))))), (5, .long (F_notBelow c (x - (x >>> ((1 : Int32).toInt64 &&& 63))))), (3, .long (F_notAbove c (x >>> ((1 : Int32).toInt64 &&& 63)))), (0, .ref (aS G)), (1, .long x)]) hx hb dX0_patternOfHalf_43 hl (by decide) rfl (fun ls hl => ?_)
  refine lv_lload hx hb dX0_patternOfHalf_45 (lv_at hl 2 rfl) ?_
  refine lv_lload hx hb dX0_patternOfHalf_47 (lv_at hl 1 rfl) ?_
  have hJ73 : W p l e rm_patternOfHalf s m args below meth cd s.heap [] 0 0 (MQ below (kp_QR (some (.int (F_patternOfHalf c x)))) args s 0 0 (fun _ => False)) (F0 m 73 ls [.int (if (x - ((2 : Int64) * (F_notAbove c (x >>> ((1 : Int32).toInt64 &&& 63))))) < (((2 : Int64) * (F_notBelow c (x - (x >>> ((1 : Int32).toInt64 &&& 63))))) - x) then (1 : Int32) else (if (x - ((2 : Int64) * (F_notAbove c (x >>> ((1 : Int32).toInt64 &&& 63))))) = (((2 : Int64) * (F_notBelow c (x - (x >>> ((1 : Int32).toInt64 &&& 63))))) - x) then (if ((F_patternOf c (F_notAbove c (x >>> ((1 : Int32).toInt64 &&& 63)))) &&& (1 : Int32)) = (0 : Int32) then (1 : Int32) else (0 : Int32)) else (0 : Int32)))]) := by
    refine lv_istore (lv' := [(12, .int (if (x - ((2 : Int64) * (F_notAbove c (x >>> ((1 : Int32).toInt64 &&& 63))))) < (((2 : Int64) * (F_notBelow c (x - (x >>> ((1 : Int32).toInt64 &&& 63))))) - x) then (1 : Int32) else (if (x - ((2 : Int64) * (F_notAbove c (x >>> ((1 : Int32).toInt64 &&& 63))))) = (((2 : Int64) * (F_notBelow c (x - (x >>> ((1 : Int32).toInt64 &&& 63))))) - x) then (if ((F_patternOf c (F_notAbove c (x >>> ((1 : Int32).toInt64 &&& 63)))) &&& (1 : Int32)) = (0 : Int32) then (1 : Int32) else (0 : Int32)) else (0 : Int32)))), (11, .int (F_patternOf c (F_notAbove c (x >>> ((1 : Int32).toInt64 &&& 63))))), (9, .long (((2 : Int64) * (F_notBelow c (x - (x >>> ((1 : Int32).toInt64 &&& 63))))) - x)), (7, .long (x - ((2 : Int64) * (F_notAbove c (x >>> ((1 : Int32).toInt64 &&& 63)))))), (5, .long (F_notBelow c (x - (x >>> ((1 : Int32).toInt64 &&& 63))))), (3, .long (F_notAbove c (x >>> ((1 : Int32).toInt64 &&& 63)))), (0, .ref (aS G)), (1, .long x)]) hx hb dX0_patternOfHalf_73 hl (by decide) rfl (fun ls hl => ?_)
    refine lv_iload hx hb dX0_patternOfHalf_75 (lv_at hl 0 rfl) ?_
    refine lv_if_eq (tgt := 85) hx hb dX0_patternOfHalf_77 (by decide) (fun q_1 => ?_) (fun q_1 => ?_)
    · refine lv_aload_n hx hb dX0_patternOfHalf_85 rfl (lv_at hl 6 rfl) ?_
      refine lv_lload hx hb dX0_patternOfHalf_86 (lv_at hl 4 rfl) ?_
      refine kp_callVR (rm := rm_patternOf) (As := [.long (F_notBelow c (x - (x >>> ((1 : Int32).toInt64 &&& 63))))]) (rest := []) (r := some (.int (F_patternOf c (F_notBelow c (x - (x >>> ((1 : Int32).toInt64 &&& 63))))))) (st1 := [.int (F_patternOf c (F_notBelow c (x - (x >>> ((1 : Int32).toInt64 &&& 63)))))]) B (C_patternOf l D ty sz G Z hG c (F_notBelow c (x - (x >>> ((1 : Int32).toInt64 &&& 63))))) kt_patternOf kw_61 kw_62 kw_63 (kc_rcS B hP) (by decide) ⟨rfl, rfl⟩ (by decide) rfl (Nat.le_of_ble_eq_true rfl) hl.1 hP hS dX0_patternOfHalf_88 rfl ?_
      exact kp_retiR B (by simp only [F_patternOfHalf, if_pos q_1]) dX0_patternOfHalf_91
    · refine lv_iload hx hb dX0_patternOfHalf_80 (lv_at hl 1 rfl) ?_
      refine lv_goto (tgt := 91) hx hb dX0_patternOfHalf_82 (by decide) ?_
      exact kp_retiR B (by simp only [F_patternOfHalf, if_neg q_1]) dX0_patternOfHalf_91
  refine kp_llt (tgt := 68) hx hb dX0_patternOfHalf_49 dX0_patternOfHalf_50 (by decide) (fun q_2 => ?_) (fun q_2 => ?_)
  · refine lv_iconst (v := (1 : Int32)) hx hb dX0_patternOfHalf_68 (by decide) ?_
    refine lv_goto (tgt := 73) hx hb dX0_patternOfHalf_69 (by decide) ?_
    exact kp_jI (by simp only [if_pos q_2]) hJ73
  · refine lv_lload hx hb dX0_patternOfHalf_53 (lv_at hl 2 rfl) ?_
    refine lv_lload hx hb dX0_patternOfHalf_55 (lv_at hl 1 rfl) ?_
    refine kp_lne (tgt := 72) hx hb dX0_patternOfHalf_57 dX0_patternOfHalf_58 (by decide) (fun q_3 => ?_) (fun q_3 => ?_)
    · refine lv_iconst (v := (0 : Int32)) hx hb dX0_patternOfHalf_72 (by decide) ?_
      exact kp_jI (by simp only [if_neg q_2, if_neg q_3]) hJ73
    · refine lv_iload hx hb dX0_patternOfHalf_61 (lv_at hl 0 rfl) ?_
      refine lv_iconst (v := (1 : Int32)) hx hb dX0_patternOfHalf_63 (by decide) ?_
      refine lv_iand hx hb dX0_patternOfHalf_64 ?_
      refine lv_if_ne (tgt := 72) hx hb dX0_patternOfHalf_65 (by decide) (fun q_4 => ?_) (fun q_4 => ?_)
      · refine lv_iconst (v := (0 : Int32)) hx hb dX0_patternOfHalf_72 (by decide) ?_
        exact kp_jI (by simp only [if_neg q_2, if_pos q_3, if_neg q_4]) hJ73
      · refine lv_iconst (v := (1 : Int32)) hx hb dX0_patternOfHalf_68 (by decide) ?_
        refine lv_goto (tgt := 73) hx hb dX0_patternOfHalf_69 (by decide) ?_
        exact kp_jI (by simp only [if_neg q_2, if_pos q_3, if_pos q_4]) hJ73
end
section
def F_isPlace (x : Int32) : Int32 :=
  if x < (0 : Int32) then (0 : Int32) else (if (8 : Int32) ≤ x then (0 : Int32) else (1 : Int32))
def rm_isPlace : Room := { frames := 0, cells := 0, slots := 0, locals := 0 }
set_option maxHeartbeats 4000000 in
set_option maxRecDepth 100000 in
theorem C_isPlace (l : Launch) (D : va_G) (ty : List (ClassId × FieldType)) (sz : Nat) (G : cw_G) (Z : va_W) (hG : cw_ok ty sz G Z) (c : cw_C) (x : Int32) : kp_R l yX2_isPlace cX2_isPlace 1 (some .boolean) rm_isPlace D ty sz [.int x] (cw_W G c Z) (some (.int (F_isPlace x))) := by
  refine kp_bodyR (by decide) (Nat.le_of_ble_eq_true rfl) rfl ?_
  intro p e s m args below meth cd ls B hl hP hS
  obtain ⟨hx, hb, hml, hown, hlk, hr, hw, hE, hK, hsz⟩ := id B
  have hl : lv_has ls 1 [(0, .int x)] := hl
  refine lv_iload_n hx hb dX2_isPlace_0 rfl (lv_at hl 0 rfl) ?_
  refine lv_if_lt (tgt := 14) hx hb dX2_isPlace_1 (by decide) (fun q_1 => ?_) (fun q_1 => ?_)
  · refine lv_iconst (v := (0 : Int32)) hx hb dX2_isPlace_14 (by decide) ?_
    exact kp_retzR B (by simp only [F_isPlace, if_pos q_1]) (Or.inl rfl) dX2_isPlace_15
  · refine lv_iload_n hx hb dX2_isPlace_4 rfl (lv_at hl 0 rfl) ?_
    refine lv_bipush (v := (8 : Int32)) hx hb dX2_isPlace_5 (by decide) ?_
    refine lv_icmp_ge (tgt := 14) hx hb dX2_isPlace_7 (by decide) (fun q_2 => ?_) (fun q_2 => ?_)
    · refine lv_iconst (v := (0 : Int32)) hx hb dX2_isPlace_14 (by decide) ?_
      exact kp_retzR B (by simp only [F_isPlace, if_neg q_1, if_pos q_2]) (Or.inl rfl) dX2_isPlace_15
    · refine lv_iconst (v := (1 : Int32)) hx hb dX2_isPlace_10 (by decide) ?_
      refine lv_goto (tgt := 15) hx hb dX2_isPlace_11 (by decide) ?_
      exact kp_retzR B (by simp only [F_isPlace, if_neg q_1, if_neg q_2]) (Or.inr rfl) dX2_isPlace_15
theorem ki_pos {x : Int64} (q : ¬ x ≤ (0 : Int64)) : ¬ x = 0 := fun h => q (by rw [h]; decide)
theorem kc_inP {x : Int32} (q : ¬ (F_isPlace x) = (0 : Int32)) : vp_in x 8 := by
  unfold F_isPlace at q
  by_cases h1 : x < 0
  · exact absurd (if_pos h1) q
  · rw [if_neg h1] at q
    by_cases h2 : (8 : Int32) ≤ x
    · exact absurd (if_pos h2) q
    · have a1 := Int32.not_lt.mp h1
      have a2 := Int32.not_le.mp h2
      rw [Int32.le_iff_toInt_le] at a1
      rw [Int32.lt_iff_toInt_lt] at a2
      exact vp_in_iff.mpr ⟨a1, a2⟩
def F_isEndless (x : Int64) : Int32 :=
  if x = cw_inf then (1 : Int32) else (if x = (-cw_inf) then (1 : Int32) else (0 : Int32))
def rm_isEndless : Room := { frames := 0, cells := 0, slots := 0, locals := 0 }
set_option maxHeartbeats 4000000 in
set_option maxRecDepth 100000 in
theorem C_isEndless (l : Launch) (D : va_G) (ty : List (ClassId × FieldType)) (sz : Nat) (G : cw_G) (Z : va_W) (hG : cw_ok ty sz G Z) (c : cw_C) (x : Int64) : kp_R l yX2_isEndless cX2_isEndless 2 (some .boolean) rm_isEndless D ty sz [.long x] (cw_W G c Z) (some (.int (F_isEndless x))) := by
  refine kp_bodyR (by decide) (Nat.le_of_ble_eq_true rfl) rfl ?_
  intro p e s m args below meth cd ls B hl hP hS
  obtain ⟨hx, hb, hml, hown, hlk, hr, hw, hE, hK, hsz⟩ := id B
  have hl : lv_has ls 2 [(0, .long x)] := hl
  refine lv_lload_n hx hb dX2_isEndless_0 rfl (lv_at hl 0 rfl) ?_
  refine lv_ldc2 (v := cw_inf) hx hb hown (hw _ kw_64 rfl) dX2_isEndless_1 ?_
  refine kp_leq (tgt := 16) hx hb dX2_isEndless_4 dX2_isEndless_5 (by decide) (fun q_1 => ?_) (fun q_1 => ?_)
  · refine lv_iconst (v := (1 : Int32)) hx hb dX2_isEndless_16 (by decide) ?_
    refine lv_goto (tgt := 21) hx hb dX2_isEndless_17 (by decide) ?_
    exact kp_retzR B (by simp only [F_isEndless, if_pos q_1]) (Or.inr rfl) dX2_isEndless_21
  · refine lv_lload_n hx hb dX2_isEndless_8 rfl (lv_at hl 0 rfl) ?_
    refine lv_ldc2 (v := (-cw_inf)) hx hb hown (hw _ kw_65 rfl) dX2_isEndless_9 ?_
    refine kp_lne (tgt := 20) hx hb dX2_isEndless_12 dX2_isEndless_13 (by decide) (fun q_2 => ?_) (fun q_2 => ?_)
    · refine lv_iconst (v := (0 : Int32)) hx hb dX2_isEndless_20 (by decide) ?_
      exact kp_retzR B (by simp only [F_isEndless, if_neg q_1, if_neg q_2]) (Or.inl rfl) dX2_isEndless_21
    · refine lv_iconst (v := (1 : Int32)) hx hb dX2_isEndless_16 (by decide) ?_
      refine lv_goto (tgt := 21) hx hb dX2_isEndless_17 (by decide) ?_
      exact kp_retzR B (by simp only [F_isEndless, if_neg q_1, if_pos q_2]) (Or.inr rfl) dX2_isEndless_21
def F_plus (x : Int64) (y : Int64) : Int64 :=
  if (F_isEndless x) = (0 : Int32) then (if (F_isEndless y) = (0 : Int32) then x + y else y) else x
def rm_plus : Room := { frames := 1, cells := 0, slots := 0, locals := 21 }
set_option maxHeartbeats 4000000 in
set_option maxRecDepth 100000 in
theorem C_plus (l : Launch) (D : va_G) (ty : List (ClassId × FieldType)) (sz : Nat) (G : cw_G) (Z : va_W) (hG : cw_ok ty sz G Z) (c : cw_C) (x : Int64) (y : Int64) : kp_R l yX2_plus cX2_plus 4 (some .long) rm_plus D ty sz [.long x, .long y] (cw_W G c Z) (some (.long (F_plus x y))) := by
  refine kp_bodyR (by decide) (Nat.le_of_ble_eq_true rfl) rfl ?_
  intro p e s m args below meth cd ls B hl hP hS
  obtain ⟨hx, hb, hml, hown, hlk, hr, hw, hE, hK, hsz⟩ := id B
  have hl : lv_has ls 4 [(0, .long x), (2, .long y)] := hl
  refine lv_lload_n hx hb dX2_plus_0 rfl (lv_at hl 0 rfl) ?_
  refine kp_callSR (rm := rm_isEndless) (As := [.long x]) (rest := []) (r := some (.int (F_isEndless x))) (st1 := [.int (F_isEndless x)]) B (C_isEndless l D ty sz G Z hG c x) kt_isEndless kw_68 kw_69 (by decide) ⟨rfl, rfl⟩ (by decide) rfl (Nat.le_of_ble_eq_true rfl) hl.1 hP hS dX2_plus_1 rfl ?_
  refine lv_if_eq (tgt := 9) hx hb dX2_plus_4 (by decide) (fun q_1 => ?_) (fun q_1 => ?_)
  · refine lv_lload_n hx hb dX2_plus_9 rfl (lv_at hl 1 rfl) ?_
    refine kp_callSR (rm := rm_isEndless) (As := [.long y]) (rest := []) (r := some (.int (F_isEndless y))) (st1 := [.int (F_isEndless y)]) B (C_isEndless l D ty sz G Z hG c y) kt_isEndless kw_68 kw_69 (by decide) ⟨rfl, rfl⟩ (by decide) rfl (Nat.le_of_ble_eq_true rfl) hl.1 hP hS dX2_plus_10 rfl ?_
    refine lv_if_eq (tgt := 20) hx hb dX2_plus_13 (by decide) (fun q_2 => ?_) (fun q_2 => ?_)
    · refine lv_lload_n hx hb dX2_plus_20 rfl (lv_at hl 0 rfl) ?_
      refine lv_lload_n hx hb dX2_plus_21 rfl (lv_at hl 1 rfl) ?_
      refine lv_ladd hx hb dX2_plus_22 ?_
      exact kp_retlR B (by simp only [F_plus, if_pos q_1, if_pos q_2]) dX2_plus_23
    · refine lv_lload_n hx hb dX2_plus_16 rfl (lv_at hl 1 rfl) ?_
      refine lv_goto (tgt := 23) hx hb dX2_plus_17 (by decide) ?_
      exact kp_retlR B (by simp only [F_plus, if_pos q_1, if_neg q_2]) dX2_plus_23
  · refine lv_lload_n hx hb dX2_plus_7 rfl (lv_at hl 0 rfl) ?_
    exact kp_retlR B (by simp only [F_plus, if_neg q_1]) dX2_plus_8
def F_isFilled (c : cw_C) (x : Int32) : Int32 :=
  if (F_isPlace x) = (0 : Int32) then (0 : Int32) else (if (F_isEmpty c x.toNatClampNeg) = (0 : Int32) then (1 : Int32) else (0 : Int32))
def rm_isFilled : Room := { frames := 1, cells := 0, slots := 0, locals := 20 }
set_option maxHeartbeats 4000000 in
set_option maxRecDepth 100000 in
theorem C_isFilled (l : Launch) (D : va_G) (ty : List (ClassId × FieldType)) (sz : Nat) (G : cw_G) (Z : va_W) (hG : cw_ok ty sz G Z) (c : cw_C) (x : Int32) : kp_R l yX2_isFilled cX2_isFilled 2 (some .boolean) rm_isFilled D ty sz [.ref (aD G), .int x] (cw_W G c Z) (some (.int (F_isFilled c x))) := by
  refine kp_bodyR (by decide) (Nat.le_of_ble_eq_true rfl) rfl ?_
  intro p e s m args below meth cd ls B hl hP hS
  obtain ⟨hx, hb, hml, hown, hlk, hr, hw, hE, hK, hsz⟩ := id B
  have hl : lv_has ls 2 [(0, .ref (aD G)), (1, .int x)] := hl
  refine lv_iload_n hx hb dX2_isFilled_0 rfl (lv_at hl 1 rfl) ?_
  refine kp_callSR (rm := rm_isPlace) (As := [.int x]) (rest := []) (r := some (.int (F_isPlace x))) (st1 := [.int (F_isPlace x)]) B (C_isPlace l D ty sz G Z hG c x) kt_isPlace kw_72 kw_73 (by decide) ⟨rfl, rfl⟩ (by decide) rfl (Nat.le_of_ble_eq_true rfl) hl.1 hP hS dX2_isFilled_1 rfl ?_
  refine lv_if_eq (tgt := 23) hx hb dX2_isFilled_4 (by decide) (fun q_1 => ?_) (fun q_1 => ?_)
  · refine lv_iconst (v := (0 : Int32)) hx hb dX2_isFilled_23 (by decide) ?_
    exact kp_retzR B (by simp only [F_isFilled, if_pos q_1]) (Or.inl rfl) dX2_isFilled_24
  · refine lv_aload_n hx hb dX2_isFilled_7 rfl (lv_at hl 0 rfl) ?_
    refine kc_getD (j := 1) (v := .ref (aP G)) B hP rfl (by decide) kw_74 dX2_isFilled_8 ?_
    refine lv_iload_n hx hb dX2_isFilled_11 rfl (lv_at hl 1 rfl) ?_
    refine kc_aald (i := x) B hG hP (kc_inP q_1) dX2_isFilled_12 ?_
    refine kp_callNR (rm := rm_isEmpty) (As := []) (rest := []) (r := some (.int (F_isEmpty c x.toNatClampNeg))) (st1 := [.int (F_isEmpty c x.toNatClampNeg)]) B (C_isEmpty l D ty sz G Z hG c x.toNatClampNeg (kc_in10 (kc_inP q_1))) kt_isEmpty kw_75 kw_8 kw_9 (kc_rcN B hP (kc_in10 (kc_inP q_1))) (by decide) ⟨rfl, rfl⟩ (by decide) rfl (Nat.le_of_ble_eq_true rfl) hl.1 hP hS dX2_isFilled_13 rfl ?_
    refine lv_if_ne (tgt := 23) hx hb dX2_isFilled_16 (by decide) (fun q_2 => ?_) (fun q_2 => ?_)
    · refine lv_iconst (v := (0 : Int32)) hx hb dX2_isFilled_23 (by decide) ?_
      exact kp_retzR B (by simp only [F_isFilled, if_neg q_1, if_neg q_2]) (Or.inl rfl) dX2_isFilled_24
    · refine lv_iconst (v := (1 : Int32)) hx hb dX2_isFilled_19 (by decide) ?_
      refine lv_goto (tgt := 24) hx hb dX2_isFilled_20 (by decide) ?_
      exact kp_retzR B (by simp only [F_isFilled, if_neg q_1, if_pos q_2]) (Or.inr rfl) dX2_isFilled_24
theorem kc_inF {c : cw_C} {x : Int32} (q : ¬ (F_isFilled c x) = (0 : Int32)) : vp_in x 8 := by
  unfold F_isFilled at q
  by_cases h1 : (F_isPlace x) = (0 : Int32)
  · exact absurd (if_pos h1) q
  · exact kc_inP h1
theorem ki_up8 {i : Int32} {n : Nat} (h1 : 0 ≤ i.toInt) (h3 : i.toInt ≤ 8) (q : ¬ (8 : Int32) ≤ i) (h2 : 9 ≤ i.toInt + ((n + 1 : Nat) : Int)) : 0 ≤ (i + 1).toInt ∧ 9 ≤ (i + 1).toInt + (n : Int) ∧ (i + 1).toInt ≤ 8 := by
  have hq : i.toInt < 8 := by
    have h := Int32.not_le.mp q
    rw [Int32.lt_iff_toInt_lt] at h
    exact h
  have e : (i + 1).toInt = i.toInt + 1 := by
    rw [Int32.toInt_add, show (1 : Int32).toInt = 1 from rfl, Int.bmod_eq_of_le (by omega) (by omega)]
  rw [e]
  omega
theorem ki_in8 {i : Int32} (h1 : 0 ≤ i.toInt) (q : ¬ (8 : Int32) ≤ i) : vp_in i 8 := by
  have h := Int32.not_le.mp q
  rw [Int32.lt_iff_toInt_lt] at h
  exact vp_in_iff.mpr ⟨h1, h⟩
theorem ki_sum0 {y z : Int32} (q1 : ¬ (F_isPlace y) = (0 : Int32)) (q2 : ¬ z < (1 : Int32)) (q3 : z ≤ ((8 : Int32) - y)) : (0 ≤ y.toInt ∧ 1 ≤ z.toInt ∧ y.toInt + z.toInt ≤ 8 ∧ y.toInt ≤ y.toInt ∧ y.toInt ≤ y.toInt + z.toInt) ∧ y.toInt + z.toInt + 1 ≤ y.toInt + ((9 : Nat) : Int) := by
  have h1 := vp_in_iff.mp (kc_inP q1)
  have h2 := Int32.not_lt.mp q2
  rw [Int32.le_iff_toInt_le] at h2 q3
  have e : ((8 : Int32) - y).toInt = 8 - y.toInt := by
    rw [Int32.toInt_sub, show (8 : Int32).toInt = 8 from rfl, Int.bmod_eq_of_le (by omega) (by omega)]
  rw [e] at q3
  have h3 : (1 : Int) ≤ z.toInt := h2
  omega
theorem ki_sumT {y z : Int32} (h : 0 ≤ y.toInt ∧ 1 ≤ z.toInt ∧ y.toInt + z.toInt ≤ 8) : (y + z).toInt = y.toInt + z.toInt := by
  rw [Int32.toInt_add, Int.bmod_eq_of_le (by omega) (by omega)]
theorem ki_sum1 {y z i : Int32} {n : Nat} (hv : 0 ≤ y.toInt ∧ 1 ≤ z.toInt ∧ y.toInt + z.toInt ≤ 8 ∧ y.toInt ≤ i.toInt ∧ i.toInt ≤ y.toInt + z.toInt) (q : ¬ (y + z) ≤ i) (h2 : y.toInt + z.toInt + 1 ≤ i.toInt + ((n + 1 : Nat) : Int)) :
    (0 ≤ y.toInt ∧ 1 ≤ z.toInt ∧ y.toInt + z.toInt ≤ 8 ∧ y.toInt ≤ (i + 1).toInt ∧ (i + 1).toInt ≤ y.toInt + z.toInt) ∧ y.toInt + z.toInt + 1 ≤ (i + 1).toInt + (n : Int) := by
  have h := Int32.not_le.mp q
  rw [Int32.lt_iff_toInt_lt, ki_sumT ⟨hv.1, hv.2.1, hv.2.2.1⟩] at h
  have e : (i + 1).toInt = i.toInt + 1 := by
    rw [Int32.toInt_add, show (1 : Int32).toInt = 1 from rfl, Int.bmod_eq_of_le (by omega) (by omega)]
  rw [e]
  omega
theorem ki_insum {y z i : Int32} (hv : 0 ≤ y.toInt ∧ 1 ≤ z.toInt ∧ y.toInt + z.toInt ≤ 8 ∧ y.toInt ≤ i.toInt ∧ i.toInt ≤ y.toInt + z.toInt) (q : ¬ (y + z) ≤ i) : vp_in i 8 := by
  have h := Int32.not_le.mp q
  rw [Int32.lt_iff_toInt_lt, ki_sumT ⟨hv.1, hv.2.1, hv.2.2.1⟩] at h
  exact vp_in_iff.mpr ⟨by omega, by omega⟩
theorem kc_out8 {x : Int32} (h0 : ¬ x = 0) (h1 : ¬ x = 1) (h2 : ¬ x = 2) (h3 : ¬ x = 3) (h4 : ¬ x = 4) (h5 : ¬ x = 5) (h6 : ¬ x = 6) (h7 : ¬ x = 7) : x.toInt < 0 ∨ 7 < x.toInt := by
  have a0 : x.toInt ≠ 0 := fun h => h0 (Int32.toInt_inj.mp h)
  have a1 : x.toInt ≠ 1 := fun h => h1 (Int32.toInt_inj.mp h)
  have a2 : x.toInt ≠ 2 := fun h => h2 (Int32.toInt_inj.mp h)
  have a3 : x.toInt ≠ 3 := fun h => h3 (Int32.toInt_inj.mp h)
  have a4 : x.toInt ≠ 4 := fun h => h4 (Int32.toInt_inj.mp h)
  have a5 : x.toInt ≠ 5 := fun h => h5 (Int32.toInt_inj.mp h)
  have a6 : x.toInt ≠ 6 := fun h => h6 (Int32.toInt_inj.mp h)
  have a7 : x.toInt ≠ 7 := fun h => h7 (Int32.toInt_inj.mp h)
  omega
theorem kc_out4 {x : Int32} (h0 : ¬ x = 8) (h1 : ¬ x = 9) (h2 : ¬ x = 10) (h3 : ¬ x = 11) : x.toInt < 8 ∨ 11 < x.toInt := by
  have a0 : x.toInt ≠ 8 := fun h => h0 (Int32.toInt_inj.mp h)
  have a1 : x.toInt ≠ 9 := fun h => h1 (Int32.toInt_inj.mp h)
  have a2 : x.toInt ≠ 10 := fun h => h2 (Int32.toInt_inj.mp h)
  have a3 : x.toInt ≠ 11 := fun h => h3 (Int32.toInt_inj.mp h)
  omega
def F_productNotAbove (c : cw_C) (x : Int64) (y : Int64) : Int64 :=
  if x = (0 : Int64) then (0 : Int64) else (if y = (0 : Int64) then (0 : Int64) else (if (F_isEndless x) = (0 : Int32) then (if (F_isEndless y) = (0 : Int32) then (x * y) >>> ((F_unitBits c).toInt64 &&& 63) else (if (if (0 : Int64) ≤ x then (0 : Int32) else (1 : Int32)) = (if (0 : Int64) ≤ y then (0 : Int32) else (1 : Int32)) then cw_inf else (-cw_inf))) else (if (if (0 : Int64) ≤ x then (0 : Int32) else (1 : Int32)) = (if (0 : Int64) ≤ y then (0 : Int32) else (1 : Int32)) then cw_inf else (-cw_inf))))
def rm_productNotAbove : Room := { frames := 1, cells := 0, slots := 0, locals := 21 }
set_option maxHeartbeats 4000000 in
set_option maxRecDepth 100000 in
theorem C_productNotAbove (l : Launch) (D : va_G) (ty : List (ClassId × FieldType)) (sz : Nat) (G : cw_G) (Z : va_W) (hG : cw_ok ty sz G Z) (c : cw_C) (x : Int64) (y : Int64) : kp_R l yX2_productNotAbove cX2_productNotAbove 5 (some .long) rm_productNotAbove D ty sz [.ref (aD G), .long x, .long y] (cw_W G c Z) (some (.long (F_productNotAbove c x y))) := by
  refine kp_bodyR (by decide) (Nat.le_of_ble_eq_true rfl) rfl ?_
  intro p e s m args below meth cd ls B hl hP hS
  obtain ⟨hx, hb, hml, hown, hlk, hr, hw, hE, hK, hsz⟩ := id B
  have hl : lv_has ls 5 [(0, .ref (aD G)), (1, .long x), (3, .long y)] := hl
  refine lv_lload_n hx hb dX2_productNotAbove_0 rfl (lv_at hl 1 rfl) ?_
  refine lv_lconst (v := (0 : Int64)) hx hb dX2_productNotAbove_1 (by decide) ?_
  refine kp_leq (tgt := 12) hx hb dX2_productNotAbove_2 dX2_productNotAbove_3 (by decide) (fun q_1 => ?_) (fun q_1 => ?_)
  · refine lv_lconst (v := (0 : Int64)) hx hb dX2_productNotAbove_12 (by decide) ?_
    exact kp_retlR B (by simp only [F_productNotAbove, if_pos q_1]) dX2_productNotAbove_13
  · refine lv_lload_n hx hb dX2_productNotAbove_6 rfl (lv_at hl 2 rfl) ?_
    refine lv_lconst (v := (0 : Int64)) hx hb dX2_productNotAbove_7 (by decide) ?_
    refine kp_lne (tgt := 14) hx hb dX2_productNotAbove_8 dX2_productNotAbove_9 (by decide) (fun q_2 => ?_) (fun q_2 => ?_)
    · refine lv_lload_n hx hb dX2_productNotAbove_14 rfl (lv_at hl 1 rfl) ?_
      refine kp_callSR (rm := rm_isEndless) (As := [.long x]) (rest := []) (r := some (.int (F_isEndless x))) (st1 := [.int (F_isEndless x)]) B (C_isEndless l D ty sz G Z hG c x) kt_isEndless kw_68 kw_69 (by decide) ⟨rfl, rfl⟩ (by decide) rfl (Nat.le_of_ble_eq_true rfl) hl.1 hP hS dX2_productNotAbove_15 rfl ?_
      refine lv_if_ne (tgt := 28) hx hb dX2_productNotAbove_18 (by decide) (fun q_3 => ?_) (fun q_3 => ?_)
      · refine lv_lload_n hx hb dX2_productNotAbove_28 rfl (lv_at hl 1 rfl) ?_
        refine lv_lconst (v := (0 : Int64)) hx hb dX2_productNotAbove_29 (by decide) ?_
        have hJ39 : W p l e rm_productNotAbove s m args below meth cd s.heap [] 0 0 (MQ below (kp_QR (some (.long (F_productNotAbove c x y)))) args s 0 0 (fun _ => False)) (F0 m 39 ls [.int (if (0 : Int64) ≤ x then (0 : Int32) else (1 : Int32))]) := by
          refine lv_lload_n hx hb dX2_productNotAbove_39 rfl (lv_at hl 2 rfl) ?_
          refine lv_lconst (v := (0 : Int64)) hx hb dX2_productNotAbove_40 (by decide) ?_
          have hJ50 : W p l e rm_productNotAbove s m args below meth cd s.heap [] 0 0 (MQ below (kp_QR (some (.long (F_productNotAbove c x y)))) args s 0 0 (fun _ => False)) (F0 m 50 ls [.int (if (0 : Int64) ≤ y then (0 : Int32) else (1 : Int32)), .int (if (0 : Int64) ≤ x then (0 : Int32) else (1 : Int32))]) := by
            refine lv_icmp_ne (tgt := 59) hx hb dX2_productNotAbove_50 (by decide) (fun q_4 => ?_) (fun q_4 => ?_)
            · refine lv_ldc2 (v := (-cw_inf)) hx hb hown (hw _ kw_65 rfl) dX2_productNotAbove_59 ?_
              exact kp_retlR B (by simp only [F_productNotAbove, if_neg q_1, if_neg q_2, if_neg q_3, if_neg q_4]) dX2_productNotAbove_62
            · refine lv_ldc2 (v := cw_inf) hx hb hown (hw _ kw_64 rfl) dX2_productNotAbove_53 ?_
              refine lv_goto (tgt := 62) hx hb dX2_productNotAbove_56 (by decide) ?_
              exact kp_retlR B (by simp only [F_productNotAbove, if_neg q_1, if_neg q_2, if_neg q_3, if_pos q_4]) dX2_productNotAbove_62
          refine kp_lge (tgt := 49) hx hb dX2_productNotAbove_41 dX2_productNotAbove_42 (by decide) (fun q_5 => ?_) (fun q_5 => ?_)
          · refine lv_iconst (v := (0 : Int32)) hx hb dX2_productNotAbove_49 (by decide) ?_
            exact kp_jI (by simp only [if_pos q_5]) hJ50
          · refine lv_iconst (v := (1 : Int32)) hx hb dX2_productNotAbove_45 (by decide) ?_
            refine lv_goto (tgt := 50) hx hb dX2_productNotAbove_46 (by decide) ?_
            exact kp_jI (by simp only [if_neg q_5]) hJ50
        refine kp_lge (tgt := 38) hx hb dX2_productNotAbove_30 dX2_productNotAbove_31 (by decide) (fun q_6 => ?_) (fun q_6 => ?_)
        · refine lv_iconst (v := (0 : Int32)) hx hb dX2_productNotAbove_38 (by decide) ?_
          exact kp_jI (by simp only [if_pos q_6]) hJ39
        · refine lv_iconst (v := (1 : Int32)) hx hb dX2_productNotAbove_34 (by decide) ?_
          refine lv_goto (tgt := 39) hx hb dX2_productNotAbove_35 (by decide) ?_
          exact kp_jI (by simp only [if_neg q_6]) hJ39
      · refine lv_lload_n hx hb dX2_productNotAbove_21 rfl (lv_at hl 2 rfl) ?_
        refine kp_callSR (rm := rm_isEndless) (As := [.long y]) (rest := []) (r := some (.int (F_isEndless y))) (st1 := [.int (F_isEndless y)]) B (C_isEndless l D ty sz G Z hG c y) kt_isEndless kw_68 kw_69 (by decide) ⟨rfl, rfl⟩ (by decide) rfl (Nat.le_of_ble_eq_true rfl) hl.1 hP hS dX2_productNotAbove_22 rfl ?_
        refine lv_if_eq (tgt := 63) hx hb dX2_productNotAbove_25 (by decide) (fun q_7 => ?_) (fun q_7 => ?_)
        · refine lv_lload_n hx hb dX2_productNotAbove_63 rfl (lv_at hl 1 rfl) ?_
          refine lv_lload_n hx hb dX2_productNotAbove_64 rfl (lv_at hl 2 rfl) ?_
          refine lv_lmul hx hb dX2_productNotAbove_65 ?_
          refine lv_aload_n hx hb dX2_productNotAbove_66 rfl (lv_at hl 0 rfl) ?_
          refine kc_getD (j := 0) (v := .ref (aS G)) B hP rfl (by decide) kw_76 dX2_productNotAbove_67 ?_
          refine kp_callNR (rm := rm_unitBits) (As := []) (rest := [.long (x * y)]) (r := some (.int (F_unitBits c))) (st1 := [.int (F_unitBits c), .long (x * y)]) B (C_unitBits l D ty sz G Z hG c) kt_unitBits kw_79 kw_80 kw_81 (kc_rcS B hP) (by decide) ⟨rfl, rfl⟩ (by decide) rfl (Nat.le_of_ble_eq_true rfl) hl.1 hP hS dX2_productNotAbove_70 rfl ?_
          refine lv_lshr (v := (x * y) >>> ((F_unitBits c).toInt64 &&& 63)) hx hb dX2_productNotAbove_73 rfl ?_
          exact kp_retlR B (by simp only [F_productNotAbove, if_neg q_1, if_neg q_2, if_pos q_3, if_pos q_7]) dX2_productNotAbove_74
        · refine lv_lload_n hx hb dX2_productNotAbove_28 rfl (lv_at hl 1 rfl) ?_
          refine lv_lconst (v := (0 : Int64)) hx hb dX2_productNotAbove_29 (by decide) ?_
          have hJ39 : W p l e rm_productNotAbove s m args below meth cd s.heap [] 0 0 (MQ below (kp_QR (some (.long (F_productNotAbove c x y)))) args s 0 0 (fun _ => False)) (F0 m 39 ls [.int (if (0 : Int64) ≤ x then (0 : Int32) else (1 : Int32))]) := by
            refine lv_lload_n hx hb dX2_productNotAbove_39 rfl (lv_at hl 2 rfl) ?_
            refine lv_lconst (v := (0 : Int64)) hx hb dX2_productNotAbove_40 (by decide) ?_
            have hJ50 : W p l e rm_productNotAbove s m args below meth cd s.heap [] 0 0 (MQ below (kp_QR (some (.long (F_productNotAbove c x y)))) args s 0 0 (fun _ => False)) (F0 m 50 ls [.int (if (0 : Int64) ≤ y then (0 : Int32) else (1 : Int32)), .int (if (0 : Int64) ≤ x then (0 : Int32) else (1 : Int32))]) := by
              refine lv_icmp_ne (tgt := 59) hx hb dX2_productNotAbove_50 (by decide) (fun q_8 => ?_) (fun q_8 => ?_)
              · refine lv_ldc2 (v := (-cw_inf)) hx hb hown (hw _ kw_65 rfl) dX2_productNotAbove_59 ?_
                exact kp_retlR B (by simp only [F_productNotAbove, if_neg q_1, if_neg q_2, if_pos q_3, if_neg q_7, if_neg q_8]) dX2_productNotAbove_62
              · refine lv_ldc2 (v := cw_inf) hx hb hown (hw _ kw_64 rfl) dX2_productNotAbove_53 ?_
                refine lv_goto (tgt := 62) hx hb dX2_productNotAbove_56 (by decide) ?_
                exact kp_retlR B (by simp only [F_productNotAbove, if_neg q_1, if_neg q_2, if_pos q_3, if_neg q_7, if_pos q_8]) dX2_productNotAbove_62
            refine kp_lge (tgt := 49) hx hb dX2_productNotAbove_41 dX2_productNotAbove_42 (by decide) (fun q_9 => ?_) (fun q_9 => ?_)
            · refine lv_iconst (v := (0 : Int32)) hx hb dX2_productNotAbove_49 (by decide) ?_
              exact kp_jI (by simp only [if_pos q_9]) hJ50
            · refine lv_iconst (v := (1 : Int32)) hx hb dX2_productNotAbove_45 (by decide) ?_
              refine lv_goto (tgt := 50) hx hb dX2_productNotAbove_46 (by decide) ?_
              exact kp_jI (by simp only [if_neg q_9]) hJ50
          refine kp_lge (tgt := 38) hx hb dX2_productNotAbove_30 dX2_productNotAbove_31 (by decide) (fun q_10 => ?_) (fun q_10 => ?_)
          · refine lv_iconst (v := (0 : Int32)) hx hb dX2_productNotAbove_38 (by decide) ?_
            exact kp_jI (by simp only [if_pos q_10]) hJ39
          · refine lv_iconst (v := (1 : Int32)) hx hb dX2_productNotAbove_34 (by decide) ?_
            refine lv_goto (tgt := 39) hx hb dX2_productNotAbove_35 (by decide) ?_
            exact kp_jI (by simp only [if_neg q_10]) hJ39
    · refine lv_lconst (v := (0 : Int64)) hx hb dX2_productNotAbove_12 (by decide) ?_
      exact kp_retlR B (by simp only [F_productNotAbove, if_neg q_1, if_pos q_2]) dX2_productNotAbove_13
def F_productNotBelow (c : cw_C) (x : Int64) (y : Int64) : Int64 :=
  -(F_productNotAbove c (-x) y)
def rm_productNotBelow : Room := { frames := 2, cells := 0, slots := 0, locals := 45 }
set_option maxHeartbeats 4000000 in
set_option maxRecDepth 100000 in
theorem C_productNotBelow (l : Launch) (D : va_G) (ty : List (ClassId × FieldType)) (sz : Nat) (G : cw_G) (Z : va_W) (hG : cw_ok ty sz G Z) (c : cw_C) (x : Int64) (y : Int64) : kp_R l yX2_productNotBelow cX2_productNotBelow 5 (some .long) rm_productNotBelow D ty sz [.ref (aD G), .long x, .long y] (cw_W G c Z) (some (.long (F_productNotBelow c x y))) := by
  refine kp_bodyR (by decide) (Nat.le_of_ble_eq_true rfl) rfl ?_
  intro p e s m args below meth cd ls B hl hP hS
  obtain ⟨hx, hb, hml, hown, hlk, hr, hw, hE, hK, hsz⟩ := id B
  have hl : lv_has ls 5 [(0, .ref (aD G)), (1, .long x), (3, .long y)] := hl
  refine lv_aload_n hx hb dX2_productNotBelow_0 rfl (lv_at hl 0 rfl) ?_
  refine lv_lload_n hx hb dX2_productNotBelow_1 rfl (lv_at hl 1 rfl) ?_
  refine lv_lneg hx hb dX2_productNotBelow_2 ?_
  refine lv_lload_n hx hb dX2_productNotBelow_3 rfl (lv_at hl 2 rfl) ?_
  refine kp_callVR (rm := rm_productNotAbove) (As := [.long (-x), .long y]) (rest := []) (r := some (.long (F_productNotAbove c (-x) y))) (st1 := [.long (F_productNotAbove c (-x) y)]) B (C_productNotAbove l D ty sz G Z hG c (-x) y) kt_productNotAbove kw_84 kw_85 kw_86 (kc_rcD B hP) (by decide) ⟨rfl, rfl⟩ (by decide) rfl (Nat.le_of_ble_eq_true rfl) hl.1 hP hS dX2_productNotBelow_4 rfl ?_
  refine lv_lneg hx hb dX2_productNotBelow_7 ?_
  exact kp_retlR B rfl dX2_productNotBelow_8
def S_multiply (c : cw_C) (u : Nat) (t : Nat) : cw_C :=
  S_become c 8 (z_min (z_min (F_productNotAbove c ((c.2.2 u).1) ((c.2.2 t).1)) (F_productNotAbove c ((c.2.2 u).1) ((c.2.2 t).2))) (z_min (F_productNotAbove c ((c.2.2 u).2) ((c.2.2 t).1)) (F_productNotAbove c ((c.2.2 u).2) ((c.2.2 t).2)))) (z_max (z_max (F_productNotBelow c ((c.2.2 u).1) ((c.2.2 t).1)) (F_productNotBelow c ((c.2.2 u).1) ((c.2.2 t).2))) (z_max (F_productNotBelow c ((c.2.2 u).2) ((c.2.2 t).1)) (F_productNotBelow c ((c.2.2 u).2) ((c.2.2 t).2))))
def rm_multiply : Room := { frames := 3, cells := 0, slots := 0, locals := 69 }
set_option maxHeartbeats 4000000 in
set_option maxRecDepth 100000 in
theorem C_multiply (l : Launch) (D : va_G) (ty : List (ClassId × FieldType)) (sz : Nat) (G : cw_G) (Z : va_W) (hG : cw_ok ty sz G Z) (c : cw_C) (u : Nat) (hu : u < 10) (t : Nat) (ht : t < 10) : kp_M l yX2_multiply cX2_multiply 7 none rm_multiply D ty sz [.ref (aD G), .ref (aN G u), .ref (aN G t)] (cw_W G c Z) (none) (cw_W G (S_multiply c u t) Z) := by
  refine kp_body (by decide) (Nat.le_of_ble_eq_true rfl) rfl ?_
  intro p e s m args below meth cd ls B hin hl hP hS
  obtain ⟨hx, hb, hml, hown, hlk, hr, hw, hE, hK, hsz⟩ := id B
  have hl : lv_has ls 7 [(0, .ref (aD G)), (1, .ref (aN G u)), (2, .ref (aN G t))] := hl
  refine lv_aload_n hx hb dX2_multiply_0 rfl (lv_at hl 0 rfl) ?_
  refine lv_aload_n hx hb dX2_multiply_1 rfl (lv_at hl 1 rfl) ?_
  refine kc_getNX (j := 0) (k := u) (v := .long ((c.2.2 u).1)) B hP hu rfl (by decide) kw_87 dX2_multiply_2 ?_
  refine lv_aload_n hx hb dX2_multiply_5 rfl (lv_at hl 2 rfl) ?_
  refine kc_getNX (j := 0) (k := t) (v := .long ((c.2.2 t).1)) B hP ht rfl (by decide) kw_87 dX2_multiply_6 ?_
  refine kp_callVR (rm := rm_productNotAbove) (As := [.long ((c.2.2 u).1), .long ((c.2.2 t).1)]) (rest := []) (r := some (.long (F_productNotAbove c ((c.2.2 u).1) ((c.2.2 t).1)))) (st1 := [.long (F_productNotAbove c ((c.2.2 u).1) ((c.2.2 t).1))]) B (C_productNotAbove l D ty sz G Z hG c ((c.2.2 u).1) ((c.2.2 t).1)) kt_productNotAbove kw_84 kw_85 kw_86 (kc_rcD B hP) (by decide) ⟨rfl, rfl⟩ (by decide) rfl (Nat.le_of_ble_eq_true rfl) hl.1 hP hS dX2_multiply_9 rfl ?_
  refine lv_aload_n hx hb dX2_multiply_12 rfl (lv_at hl 0 rfl) ?_
  refine lv_aload_n hx hb dX2_multiply_13 rfl (lv_at hl 1 rfl) ?_
  refine kc_getNX (j := 0) (k := u) (v := .long ((c.2.2 u).1)) B hP hu rfl (by decide) kw_87 dX2_multiply_14 ?_
  refine lv_aload_n hx hb dX2_multiply_17 rfl (lv_at hl 2 rfl) ?_
  refine kc_getNX (j := 1) (k := t) (v := .long ((c.2.2 t).2)) B hP ht rfl (by decide) kw_88 dX2_multiply_18 ?_
  refine kp_callVR (rm := rm_productNotAbove) (As := [.long ((c.2.2 u).1), .long ((c.2.2 t).2)]) (rest := [.long (F_productNotAbove c ((c.2.2 u).1) ((c.2.2 t).1))]) (r := some (.long (F_productNotAbove c ((c.2.2 u).1) ((c.2.2 t).2)))) (st1 := [.long (F_productNotAbove c ((c.2.2 u).1) ((c.2.2 t).2)), .long (F_productNotAbove c ((c.2.2 u).1) ((c.2.2 t).1))]) B (C_productNotAbove l D ty sz G Z hG c ((c.2.2 u).1) ((c.2.2 t).2)) kt_productNotAbove kw_84 kw_85 kw_86 (kc_rcD B hP) (by decide) ⟨rfl, rfl⟩ (by decide) rfl (Nat.le_of_ble_eq_true rfl) hl.1 hP hS dX2_multiply_21 rfl ?_
  refine kp_min (x := F_productNotAbove c ((c.2.2 u).1) ((c.2.2 t).1)) (y := F_productNotAbove c ((c.2.2 u).1) ((c.2.2 t).2)) B hl.1 kw_89 kw_90 kw_91 kw_92 (by decide) (Nat.le_of_ble_eq_true rfl) (Nat.zero_le _) (Nat.zero_le _) dX2_multiply_24 ?_
  refine lv_aload_n hx hb dX2_multiply_27 rfl (lv_at hl 0 rfl) ?_
  refine lv_aload_n hx hb dX2_multiply_28 rfl (lv_at hl 1 rfl) ?_
  refine kc_getNX (j := 1) (k := u) (v := .long ((c.2.2 u).2)) B hP hu rfl (by decide) kw_88 dX2_multiply_29 ?_
  refine lv_aload_n hx hb dX2_multiply_32 rfl (lv_at hl 2 rfl) ?_
  refine kc_getNX (j := 0) (k := t) (v := .long ((c.2.2 t).1)) B hP ht rfl (by decide) kw_87 dX2_multiply_33 ?_
  refine kp_callVR (rm := rm_productNotAbove) (As := [.long ((c.2.2 u).2), .long ((c.2.2 t).1)]) (rest := [.long (z_min (F_productNotAbove c ((c.2.2 u).1) ((c.2.2 t).1)) (F_productNotAbove c ((c.2.2 u).1) ((c.2.2 t).2)))]) (r := some (.long (F_productNotAbove c ((c.2.2 u).2) ((c.2.2 t).1)))) (st1 := [.long (F_productNotAbove c ((c.2.2 u).2) ((c.2.2 t).1)), .long (z_min (F_productNotAbove c ((c.2.2 u).1) ((c.2.2 t).1)) (F_productNotAbove c ((c.2.2 u).1) ((c.2.2 t).2)))]) B (C_productNotAbove l D ty sz G Z hG c ((c.2.2 u).2) ((c.2.2 t).1)) kt_productNotAbove kw_84 kw_85 kw_86 (kc_rcD B hP) (by decide) ⟨rfl, rfl⟩ (by decide) rfl (Nat.le_of_ble_eq_true rfl) hl.1 hP hS dX2_multiply_36 rfl ?_
  refine lv_aload_n hx hb dX2_multiply_39 rfl (lv_at hl 0 rfl) ?_
  refine lv_aload_n hx hb dX2_multiply_40 rfl (lv_at hl 1 rfl) ?_
  refine kc_getNX (j := 1) (k := u) (v := .long ((c.2.2 u).2)) B hP hu rfl (by decide) kw_88 dX2_multiply_41 ?_
  refine lv_aload_n hx hb dX2_multiply_44 rfl (lv_at hl 2 rfl) ?_
  refine kc_getNX (j := 1) (k := t) (v := .long ((c.2.2 t).2)) B hP ht rfl (by decide) kw_88 dX2_multiply_45 ?_
  refine kp_callVR (rm := rm_productNotAbove) (As := [.long ((c.2.2 u).2), .long ((c.2.2 t).2)]) (rest := [.long (F_productNotAbove c ((c.2.2 u).2) ((c.2.2 t).1)), .long (z_min (F_productNotAbove c ((c.2.2 u).1) ((c.2.2 t).1)) (F_productNotAbove c ((c.2.2 u).1) ((c.2.2 t).2)))]) (r := some (.long (F_productNotAbove c ((c.2.2 u).2) ((c.2.2 t).2)))) (st1 := [.long (F_productNotAbove c ((c.2.2 u).2) ((c.2.2 t).2)), .long (F_productNotAbove c ((c.2.2 u).2) ((c.2.2 t).1)), .long (z_min (F_productNotAbove c ((c.2.2 u).1) ((c.2.2 t).1)) (F_productNotAbove c ((c.2.2 u).1) ((c.2.2 t).2)))]) B (C_productNotAbove l D ty sz G Z hG c ((c.2.2 u).2) ((c.2.2 t).2)) kt_productNotAbove kw_84 kw_85 kw_86 (kc_rcD B hP) (by decide) ⟨rfl, rfl⟩ (by decide) rfl (Nat.le_of_ble_eq_true rfl) hl.1 hP hS dX2_multiply_48 rfl ?_
  refine kp_min (x := F_productNotAbove c ((c.2.2 u).2) ((c.2.2 t).1)) (y := F_productNotAbove c ((c.2.2 u).2) ((c.2.2 t).2)) B hl.1 kw_89 kw_90 kw_91 kw_92 (by decide) (Nat.le_of_ble_eq_true rfl) (Nat.zero_le _) (Nat.zero_le _) dX2_multiply_51 ?_
  refine kp_min (x := z_min (F_productNotAbove c ((c.2.2 u).1) ((c.2.2 t).1)) (F_productNotAbove c ((c.2.2 u).1) ((c.2.2 t).2))) (y := z_min (F_productNotAbove c ((c.2.2 u).2) ((c.2.2 t).1)) (F_productNotAbove c ((c.2.2 u).2) ((c.2.2 t).2))) B hl.1 kw_89 kw_90 kw_91 kw_92 (by decide) (Nat.le_of_ble_eq_true rfl) (Nat.zero_le _) (Nat.zero_le _) dX2_multiply_54 ?_
  refine lv_lstore_n (lv' := [(3, .long (z_min (z_min (F_productNotAbove c ((c.2.2 u).1) ((c.2.2 t).1)) (F_productNotAbove c ((c.2.2 u).1) ((c.2.2 t).2))) (z_min (F_productNotAbove c ((c.2.2 u).2) ((c.2.2 t).1)) (F_productNotAbove c ((c.2.2 u).2) ((c.2.2 t).2))))), (0, .ref (aD G)), (1, .ref (aN G u)), (2, .ref (aN G t))]) hx hb dX2_multiply_57 rfl hl (by decide) rfl (fun ls hl => ?_)
  refine lv_aload_n hx hb dX2_multiply_58 rfl (lv_at hl 1 rfl) ?_
  refine lv_aload_n hx hb dX2_multiply_59 rfl (lv_at hl 2 rfl) ?_
  refine kc_getNX (j := 0) (k := u) (v := .long ((c.2.2 u).1)) B hP hu rfl (by decide) kw_87 dX2_multiply_60 ?_
  refine lv_aload_n hx hb dX2_multiply_63 rfl (lv_at hl 3 rfl) ?_
  refine kc_getNX (j := 0) (k := t) (v := .long ((c.2.2 t).1)) B hP ht rfl (by decide) kw_87 dX2_multiply_64 ?_
  refine kp_callVR (rm := rm_productNotBelow) (As := [.long ((c.2.2 u).1), .long ((c.2.2 t).1)]) (rest := []) (r := some (.long (F_productNotBelow c ((c.2.2 u).1) ((c.2.2 t).1)))) (st1 := [.long (F_productNotBelow c ((c.2.2 u).1) ((c.2.2 t).1))]) B (C_productNotBelow l D ty sz G Z hG c ((c.2.2 u).1) ((c.2.2 t).1)) kt_productNotBelow kw_95 kw_96 kw_97 (kc_rcD B hP) (by decide) ⟨rfl, rfl⟩ (by decide) rfl (Nat.le_of_ble_eq_true rfl) hl.1 hP hS dX2_multiply_67 rfl ?_
  refine lv_aload_n hx hb dX2_multiply_70 rfl (lv_at hl 1 rfl) ?_
  refine lv_aload_n hx hb dX2_multiply_71 rfl (lv_at hl 2 rfl) ?_
  refine kc_getNX (j := 0) (k := u) (v := .long ((c.2.2 u).1)) B hP hu rfl (by decide) kw_87 dX2_multiply_72 ?_
  refine lv_aload_n hx hb dX2_multiply_75 rfl (lv_at hl 3 rfl) ?_
  refine kc_getNX (j := 1) (k := t) (v := .long ((c.2.2 t).2)) B hP ht rfl (by decide) kw_88 dX2_multiply_76 ?_
  refine kp_callVR (rm := rm_productNotBelow) (As := [.long ((c.2.2 u).1), .long ((c.2.2 t).2)]) (rest := [.long (F_productNotBelow c ((c.2.2 u).1) ((c.2.2 t).1))]) (r := some (.long (F_productNotBelow c ((c.2.2 u).1) ((c.2.2 t).2)))) (st1 := [.long (F_productNotBelow c ((c.2.2 u).1) ((c.2.2 t).2)), .long (F_productNotBelow c ((c.2.2 u).1) ((c.2.2 t).1))]) B (C_productNotBelow l D ty sz G Z hG c ((c.2.2 u).1) ((c.2.2 t).2)) kt_productNotBelow kw_95 kw_96 kw_97 (kc_rcD B hP) (by decide) ⟨rfl, rfl⟩ (by decide) rfl (Nat.le_of_ble_eq_true rfl) hl.1 hP hS dX2_multiply_79 rfl ?_
  refine kp_max (x := F_productNotBelow c ((c.2.2 u).1) ((c.2.2 t).1)) (y := F_productNotBelow c ((c.2.2 u).1) ((c.2.2 t).2)) B hl.1 kw_98 kw_99 kw_91 kw_100 (by decide) (Nat.le_of_ble_eq_true rfl) (Nat.zero_le _) (Nat.zero_le _) dX2_multiply_82 ?_
  refine lv_aload_n hx hb dX2_multiply_85 rfl (lv_at hl 1 rfl) ?_
  refine lv_aload_n hx hb dX2_multiply_86 rfl (lv_at hl 2 rfl) ?_
  refine kc_getNX (j := 1) (k := u) (v := .long ((c.2.2 u).2)) B hP hu rfl (by decide) kw_88 dX2_multiply_87 ?_
  refine lv_aload_n hx hb dX2_multiply_90 rfl (lv_at hl 3 rfl) ?_
  refine kc_getNX (j := 0) (k := t) (v := .long ((c.2.2 t).1)) B hP ht rfl (by decide) kw_87 dX2_multiply_91 ?_
  refine kp_callVR (rm := rm_productNotBelow) (As := [.long ((c.2.2 u).2), .long ((c.2.2 t).1)]) (rest := [.long (z_max (F_productNotBelow c ((c.2.2 u).1) ((c.2.2 t).1)) (F_productNotBelow c ((c.2.2 u).1) ((c.2.2 t).2)))]) (r := some (.long (F_productNotBelow c ((c.2.2 u).2) ((c.2.2 t).1)))) (st1 := [.long (F_productNotBelow c ((c.2.2 u).2) ((c.2.2 t).1)), .long (z_max (F_productNotBelow c ((c.2.2 u).1) ((c.2.2 t).1)) (F_productNotBelow c ((c.2.2 u).1) ((c.2.2 t).2)))]) B (C_productNotBelow l D ty sz G Z hG c ((c.2.2 u).2) ((c.2.2 t).1)) kt_productNotBelow kw_95 kw_96 kw_97 (kc_rcD B hP) (by decide) ⟨rfl, rfl⟩ (by decide) rfl (Nat.le_of_ble_eq_true rfl) hl.1 hP hS dX2_multiply_94 rfl ?_
  refine lv_aload_n hx hb dX2_multiply_97 rfl (lv_at hl 1 rfl) ?_
  refine lv_aload_n hx hb dX2_multiply_98 rfl (lv_at hl 2 rfl) ?_
  refine kc_getNX (j := 1) (k := u) (v := .long ((c.2.2 u).2)) B hP hu rfl (by decide) kw_88 dX2_multiply_99 ?_
  refine lv_aload_n hx hb dX2_multiply_102 rfl (lv_at hl 3 rfl) ?_
  refine kc_getNX (j := 1) (k := t) (v := .long ((c.2.2 t).2)) B hP ht rfl (by decide) kw_88 dX2_multiply_103 ?_
  refine kp_callVR (rm := rm_productNotBelow) (As := [.long ((c.2.2 u).2), .long ((c.2.2 t).2)]) (rest := [.long (F_productNotBelow c ((c.2.2 u).2) ((c.2.2 t).1)), .long (z_max (F_productNotBelow c ((c.2.2 u).1) ((c.2.2 t).1)) (F_productNotBelow c ((c.2.2 u).1) ((c.2.2 t).2)))]) (r := some (.long (F_productNotBelow c ((c.2.2 u).2) ((c.2.2 t).2)))) (st1 := [.long (F_productNotBelow c ((c.2.2 u).2) ((c.2.2 t).2)), .long (F_productNotBelow c ((c.2.2 u).2) ((c.2.2 t).1)), .long (z_max (F_productNotBelow c ((c.2.2 u).1) ((c.2.2 t).1)) (F_productNotBelow c ((c.2.2 u).1) ((c.2.2 t).2)))]) B (C_productNotBelow l D ty sz G Z hG c ((c.2.2 u).2) ((c.2.2 t).2)) kt_productNotBelow kw_95 kw_96 kw_97 (kc_rcD B hP) (by decide) ⟨rfl, rfl⟩ (by decide) rfl (Nat.le_of_ble_eq_true rfl) hl.1 hP hS dX2_multiply_106 rfl ?_
  refine kp_max (x := F_productNotBelow c ((c.2.2 u).2) ((c.2.2 t).1)) (y := F_productNotBelow c ((c.2.2 u).2) ((c.2.2 t).2)) B hl.1 kw_98 kw_99 kw_91 kw_100 (by decide) (Nat.le_of_ble_eq_true rfl) (Nat.zero_le _) (Nat.zero_le _) dX2_multiply_109 ?_
  refine kp_max (x := z_max (F_productNotBelow c ((c.2.2 u).1) ((c.2.2 t).1)) (F_productNotBelow c ((c.2.2 u).1) ((c.2.2 t).2))) (y := z_max (F_productNotBelow c ((c.2.2 u).2) ((c.2.2 t).1)) (F_productNotBelow c ((c.2.2 u).2) ((c.2.2 t).2))) B hl.1 kw_98 kw_99 kw_91 kw_100 (by decide) (Nat.le_of_ble_eq_true rfl) (Nat.zero_le _) (Nat.zero_le _) dX2_multiply_112 ?_
  refine lv_lstore (lv' := [(5, .long (z_max (z_max (F_productNotBelow c ((c.2.2 u).1) ((c.2.2 t).1)) (F_productNotBelow c ((c.2.2 u).1) ((c.2.2 t).2))) (z_max (F_productNotBelow c ((c.2.2 u).2) ((c.2.2 t).1)) (F_productNotBelow c ((c.2.2 u).2) ((c.2.2 t).2))))), (3, .long (z_min (z_min (F_productNotAbove c ((c.2.2 u).1) ((c.2.2 t).1)) (F_productNotAbove c ((c.2.2 u).1) ((c.2.2 t).2))) (z_min (F_productNotAbove c ((c.2.2 u).2) ((c.2.2 t).1)) (F_productNotAbove c ((c.2.2 u).2) ((c.2.2 t).2))))), (0, .ref (aD G)), (1, .ref (aN G u)), (2, .ref (aN G t))]) hx hb dX2_multiply_115 hl (by decide) rfl (fun ls hl => ?_)
  refine lv_aload_n hx hb dX2_multiply_117 rfl (lv_at hl 2 rfl) ?_
  refine kc_getD (j := 2) (v := .ref (aN G 8)) B hP rfl (by decide) kw_101 dX2_multiply_118 ?_
  refine lv_lload_n hx hb dX2_multiply_121 rfl (lv_at hl 1 rfl) ?_
  refine lv_lload hx hb dX2_multiply_122 (lv_at hl 0 rfl) ?_
  refine kp_callN (rm := rm_become) (As := [.long (z_min (z_min (F_productNotAbove c ((c.2.2 u).1) ((c.2.2 t).1)) (F_productNotAbove c ((c.2.2 u).1) ((c.2.2 t).2))) (z_min (F_productNotAbove c ((c.2.2 u).2) ((c.2.2 t).1)) (F_productNotAbove c ((c.2.2 u).2) ((c.2.2 t).2)))), .long (z_max (z_max (F_productNotBelow c ((c.2.2 u).1) ((c.2.2 t).1)) (F_productNotBelow c ((c.2.2 u).1) ((c.2.2 t).2))) (z_max (F_productNotBelow c ((c.2.2 u).2) ((c.2.2 t).1)) (F_productNotBelow c ((c.2.2 u).2) ((c.2.2 t).2))))]) (rest := []) (r := none) (st1 := []) (ws' := cw_W G (S_become c 8 (z_min (z_min (F_productNotAbove c ((c.2.2 u).1) ((c.2.2 t).1)) (F_productNotAbove c ((c.2.2 u).1) ((c.2.2 t).2))) (z_min (F_productNotAbove c ((c.2.2 u).2) ((c.2.2 t).1)) (F_productNotAbove c ((c.2.2 u).2) ((c.2.2 t).2)))) (z_max (z_max (F_productNotBelow c ((c.2.2 u).1) ((c.2.2 t).1)) (F_productNotBelow c ((c.2.2 u).1) ((c.2.2 t).2))) (z_max (F_productNotBelow c ((c.2.2 u).2) ((c.2.2 t).1)) (F_productNotBelow c ((c.2.2 u).2) ((c.2.2 t).2))))) Z) B (C_become l D ty sz G Z hG c 8 (by decide) (z_min (z_min (F_productNotAbove c ((c.2.2 u).1) ((c.2.2 t).1)) (F_productNotAbove c ((c.2.2 u).1) ((c.2.2 t).2))) (z_min (F_productNotAbove c ((c.2.2 u).2) ((c.2.2 t).1)) (F_productNotAbove c ((c.2.2 u).2) ((c.2.2 t).2)))) (z_max (z_max (F_productNotBelow c ((c.2.2 u).1) ((c.2.2 t).1)) (F_productNotBelow c ((c.2.2 u).1) ((c.2.2 t).2))) (z_max (F_productNotBelow c ((c.2.2 u).2) ((c.2.2 t).1)) (F_productNotBelow c ((c.2.2 u).2) ((c.2.2 t).2))))) kt_become kw_104 kw_105 kw_106 (kc_rcN B hP (by decide)) (by decide) rfl rfl (by decide) rfl (Nat.le_of_ble_eq_true rfl) hl.1 hP hS dX2_multiply_124 rfl (fun H locs hP hS => ?_)
  exact kp_retv B hP hS rfl dX2_multiply_127
def S_meet (c : cw_C) (u : Nat) (t : Nat) : cw_C :=
  if (z_max ((c.2.2 u).1) ((c.2.2 t).1)) ≤ (z_min ((c.2.2 u).2) ((c.2.2 t).2)) then S_become c 8 (z_max ((c.2.2 u).1) ((c.2.2 t).1)) (z_min ((c.2.2 u).2) ((c.2.2 t).2)) else S_becomeEmpty c 8
def rm_meet : Room := { frames := 1, cells := 0, slots := 0, locals := 40 }
set_option maxHeartbeats 4000000 in
set_option maxRecDepth 100000 in
theorem C_meet (l : Launch) (D : va_G) (ty : List (ClassId × FieldType)) (sz : Nat) (G : cw_G) (Z : va_W) (hG : cw_ok ty sz G Z) (c : cw_C) (u : Nat) (hu : u < 10) (t : Nat) (ht : t < 10) : kp_M l yX2_meet cX2_meet 7 none rm_meet D ty sz [.ref (aD G), .ref (aN G u), .ref (aN G t)] (cw_W G c Z) (none) (cw_W G (S_meet c u t) Z) := by
  refine kp_body (by decide) (Nat.le_of_ble_eq_true rfl) rfl ?_
  intro p e s m args below meth cd ls B hin hl hP hS
  obtain ⟨hx, hb, hml, hown, hlk, hr, hw, hE, hK, hsz⟩ := id B
  have hl : lv_has ls 7 [(0, .ref (aD G)), (1, .ref (aN G u)), (2, .ref (aN G t))] := hl
  refine lv_aload_n hx hb dX2_meet_0 rfl (lv_at hl 1 rfl) ?_
  refine kc_getNX (j := 0) (k := u) (v := .long ((c.2.2 u).1)) B hP hu rfl (by decide) kw_87 dX2_meet_1 ?_
  refine lv_aload_n hx hb dX2_meet_4 rfl (lv_at hl 2 rfl) ?_
  refine kc_getNX (j := 0) (k := t) (v := .long ((c.2.2 t).1)) B hP ht rfl (by decide) kw_87 dX2_meet_5 ?_
  refine kp_max (x := (c.2.2 u).1) (y := (c.2.2 t).1) B hl.1 kw_98 kw_99 kw_91 kw_100 (by decide) (Nat.le_of_ble_eq_true rfl) (Nat.zero_le _) (Nat.zero_le _) dX2_meet_8 ?_
  refine lv_lstore_n (lv' := [(3, .long (z_max ((c.2.2 u).1) ((c.2.2 t).1))), (0, .ref (aD G)), (1, .ref (aN G u)), (2, .ref (aN G t))]) hx hb dX2_meet_11 rfl hl (by decide) rfl (fun ls hl => ?_)
  refine lv_aload_n hx hb dX2_meet_12 rfl (lv_at hl 2 rfl) ?_
  refine kc_getNX (j := 1) (k := u) (v := .long ((c.2.2 u).2)) B hP hu rfl (by decide) kw_88 dX2_meet_13 ?_
  refine lv_aload_n hx hb dX2_meet_16 rfl (lv_at hl 3 rfl) ?_
  refine kc_getNX (j := 1) (k := t) (v := .long ((c.2.2 t).2)) B hP ht rfl (by decide) kw_88 dX2_meet_17 ?_
  refine kp_min (x := (c.2.2 u).2) (y := (c.2.2 t).2) B hl.1 kw_89 kw_90 kw_91 kw_92 (by decide) (Nat.le_of_ble_eq_true rfl) (Nat.zero_le _) (Nat.zero_le _) dX2_meet_20 ?_
  refine lv_lstore (lv' := [(5, .long (z_min ((c.2.2 u).2) ((c.2.2 t).2))), (3, .long (z_max ((c.2.2 u).1) ((c.2.2 t).1))), (0, .ref (aD G)), (1, .ref (aN G u)), (2, .ref (aN G t))]) hx hb dX2_meet_23 hl (by decide) rfl (fun ls hl => ?_)
  refine lv_lload_n hx hb dX2_meet_25 rfl (lv_at hl 1 rfl) ?_
  refine lv_lload hx hb dX2_meet_26 (lv_at hl 0 rfl) ?_
  refine kp_lle (tgt := 42) hx hb dX2_meet_28 dX2_meet_29 (by decide) (fun q_1 => ?_) (fun q_1 => ?_)
  · refine lv_aload_n hx hb dX2_meet_42 rfl (lv_at hl 2 rfl) ?_
    refine kc_getD (j := 2) (v := .ref (aN G 8)) B hP rfl (by decide) kw_101 dX2_meet_43 ?_
    refine lv_lload_n hx hb dX2_meet_46 rfl (lv_at hl 1 rfl) ?_
    refine lv_lload hx hb dX2_meet_47 (lv_at hl 0 rfl) ?_
    refine kp_callN (rm := rm_become) (As := [.long (z_max ((c.2.2 u).1) ((c.2.2 t).1)), .long (z_min ((c.2.2 u).2) ((c.2.2 t).2))]) (rest := []) (r := none) (st1 := []) (ws' := cw_W G (S_become c 8 (z_max ((c.2.2 u).1) ((c.2.2 t).1)) (z_min ((c.2.2 u).2) ((c.2.2 t).2))) Z) B (C_become l D ty sz G Z hG c 8 (by decide) (z_max ((c.2.2 u).1) ((c.2.2 t).1)) (z_min ((c.2.2 u).2) ((c.2.2 t).2))) kt_become kw_104 kw_105 kw_106 (kc_rcN B hP (by decide)) (by decide) rfl rfl (by decide) rfl (Nat.le_of_ble_eq_true rfl) hl.1 hP hS dX2_meet_49 rfl (fun H locs hP hS => ?_)
    exact kp_retv B (by simp only [S_meet, if_pos q_1]; exact hP) hS rfl dX2_meet_52
  · refine lv_aload_n hx hb dX2_meet_32 rfl (lv_at hl 2 rfl) ?_
    refine kc_getD (j := 2) (v := .ref (aN G 8)) B hP rfl (by decide) kw_101 dX2_meet_33 ?_
    refine kp_callN (rm := rm_becomeEmpty) (As := []) (rest := []) (r := none) (st1 := []) (ws' := cw_W G (S_becomeEmpty c 8) Z) B (C_becomeEmpty l D ty sz G Z hG c 8 (by decide)) kt_becomeEmpty kw_109 kw_110 kw_111 (kc_rcN B hP (by decide)) (by decide) rfl rfl (by decide) rfl (Nat.le_of_ble_eq_true rfl) hl.1 hP hS dX2_meet_36 rfl (fun H locs hP hS => ?_)
    refine lv_goto (tgt := 52) hx hb dX2_meet_39 (by decide) ?_
    exact kp_retv B (by simp only [S_meet, if_neg q_1]; exact hP) hS rfl dX2_meet_52
def S_join (c : cw_C) (u : Nat) (t : Nat) : cw_C :=
  if (F_isEmpty c u) = (0 : Int32) then (if (F_isEmpty c t) = (0 : Int32) then S_become c 8 (z_min ((c.2.2 u).1) ((c.2.2 t).1)) (z_max ((c.2.2 u).2) ((c.2.2 t).2)) else S_become c 8 ((c.2.2 u).1) ((c.2.2 u).2)) else S_become c 8 ((c.2.2 t).1) ((c.2.2 t).2)
def rm_join : Room := { frames := 1, cells := 0, slots := 0, locals := 40 }
set_option maxHeartbeats 4000000 in
set_option maxRecDepth 100000 in
theorem C_join (l : Launch) (D : va_G) (ty : List (ClassId × FieldType)) (sz : Nat) (G : cw_G) (Z : va_W) (hG : cw_ok ty sz G Z) (c : cw_C) (u : Nat) (hu : u < 10) (t : Nat) (ht : t < 10) : kp_M l yX2_join cX2_join 3 none rm_join D ty sz [.ref (aD G), .ref (aN G u), .ref (aN G t)] (cw_W G c Z) (none) (cw_W G (S_join c u t) Z) := by
  refine kp_body (by decide) (Nat.le_of_ble_eq_true rfl) rfl ?_
  intro p e s m args below meth cd ls B hin hl hP hS
  obtain ⟨hx, hb, hml, hown, hlk, hr, hw, hE, hK, hsz⟩ := id B
  have hl : lv_has ls 3 [(0, .ref (aD G)), (1, .ref (aN G u)), (2, .ref (aN G t))] := hl
  refine lv_aload_n hx hb dX2_join_0 rfl (lv_at hl 1 rfl) ?_
  refine kp_callNR (rm := rm_isEmpty) (As := []) (rest := []) (r := some (.int (F_isEmpty c u))) (st1 := [.int (F_isEmpty c u)]) B (C_isEmpty l D ty sz G Z hG c u hu) kt_isEmpty kw_75 kw_8 kw_9 (kc_rcN B hP hu) (by decide) ⟨rfl, rfl⟩ (by decide) rfl (Nat.le_of_ble_eq_true rfl) hl.1 hP hS dX2_join_1 rfl ?_
  refine lv_if_eq (tgt := 25) hx hb dX2_join_4 (by decide) (fun q_1 => ?_) (fun q_1 => ?_)
  · refine lv_aload_n hx hb dX2_join_25 rfl (lv_at hl 2 rfl) ?_
    refine kp_callNR (rm := rm_isEmpty) (As := []) (rest := []) (r := some (.int (F_isEmpty c t))) (st1 := [.int (F_isEmpty c t)]) B (C_isEmpty l D ty sz G Z hG c t ht) kt_isEmpty kw_75 kw_8 kw_9 (kc_rcN B hP ht) (by decide) ⟨rfl, rfl⟩ (by decide) rfl (Nat.le_of_ble_eq_true rfl) hl.1 hP hS dX2_join_26 rfl ?_
    refine lv_if_eq (tgt := 50) hx hb dX2_join_29 (by decide) (fun q_2 => ?_) (fun q_2 => ?_)
    · refine lv_aload_n hx hb dX2_join_50 rfl (lv_at hl 0 rfl) ?_
      refine kc_getD (j := 2) (v := .ref (aN G 8)) B hP rfl (by decide) kw_101 dX2_join_51 ?_
      refine lv_aload_n hx hb dX2_join_54 rfl (lv_at hl 1 rfl) ?_
      refine kc_getNX (j := 0) (k := u) (v := .long ((c.2.2 u).1)) B hP hu rfl (by decide) kw_87 dX2_join_55 ?_
      refine lv_aload_n hx hb dX2_join_58 rfl (lv_at hl 2 rfl) ?_
      refine kc_getNX (j := 0) (k := t) (v := .long ((c.2.2 t).1)) B hP ht rfl (by decide) kw_87 dX2_join_59 ?_
      refine kp_min (x := (c.2.2 u).1) (y := (c.2.2 t).1) B hl.1 kw_89 kw_90 kw_91 kw_92 (by decide) (Nat.le_of_ble_eq_true rfl) (Nat.zero_le _) (Nat.zero_le _) dX2_join_62 ?_
      refine lv_aload_n hx hb dX2_join_65 rfl (lv_at hl 1 rfl) ?_
      refine kc_getNX (j := 1) (k := u) (v := .long ((c.2.2 u).2)) B hP hu rfl (by decide) kw_88 dX2_join_66 ?_
      refine lv_aload_n hx hb dX2_join_69 rfl (lv_at hl 2 rfl) ?_
      refine kc_getNX (j := 1) (k := t) (v := .long ((c.2.2 t).2)) B hP ht rfl (by decide) kw_88 dX2_join_70 ?_
      refine kp_max (x := (c.2.2 u).2) (y := (c.2.2 t).2) B hl.1 kw_98 kw_99 kw_91 kw_100 (by decide) (Nat.le_of_ble_eq_true rfl) (Nat.zero_le _) (Nat.zero_le _) dX2_join_73 ?_
      refine kp_callN (rm := rm_become) (As := [.long (z_min ((c.2.2 u).1) ((c.2.2 t).1)), .long (z_max ((c.2.2 u).2) ((c.2.2 t).2))]) (rest := []) (r := none) (st1 := []) (ws' := cw_W G (S_become c 8 (z_min ((c.2.2 u).1) ((c.2.2 t).1)) (z_max ((c.2.2 u).2) ((c.2.2 t).2))) Z) B (C_become l D ty sz G Z hG c 8 (by decide) (z_min ((c.2.2 u).1) ((c.2.2 t).1)) (z_max ((c.2.2 u).2) ((c.2.2 t).2))) kt_become kw_104 kw_105 kw_106 (kc_rcN B hP (by decide)) (by decide) rfl rfl (by decide) rfl (Nat.le_of_ble_eq_true rfl) hl.1 hP hS dX2_join_76 rfl (fun H locs hP hS => ?_)
      exact kp_retv B (by simp only [S_join, if_pos q_1, if_pos q_2]; exact hP) hS rfl dX2_join_79
    · refine lv_aload_n hx hb dX2_join_32 rfl (lv_at hl 0 rfl) ?_
      refine kc_getD (j := 2) (v := .ref (aN G 8)) B hP rfl (by decide) kw_101 dX2_join_33 ?_
      refine lv_aload_n hx hb dX2_join_36 rfl (lv_at hl 1 rfl) ?_
      refine kc_getNX (j := 0) (k := u) (v := .long ((c.2.2 u).1)) B hP hu rfl (by decide) kw_87 dX2_join_37 ?_
      refine lv_aload_n hx hb dX2_join_40 rfl (lv_at hl 1 rfl) ?_
      refine kc_getNX (j := 1) (k := u) (v := .long ((c.2.2 u).2)) B hP hu rfl (by decide) kw_88 dX2_join_41 ?_
      refine kp_callN (rm := rm_become) (As := [.long ((c.2.2 u).1), .long ((c.2.2 u).2)]) (rest := []) (r := none) (st1 := []) (ws' := cw_W G (S_become c 8 ((c.2.2 u).1) ((c.2.2 u).2)) Z) B (C_become l D ty sz G Z hG c 8 (by decide) ((c.2.2 u).1) ((c.2.2 u).2)) kt_become kw_104 kw_105 kw_106 (kc_rcN B hP (by decide)) (by decide) rfl rfl (by decide) rfl (Nat.le_of_ble_eq_true rfl) hl.1 hP hS dX2_join_44 rfl (fun H locs hP hS => ?_)
      refine lv_goto (tgt := 79) hx hb dX2_join_47 (by decide) ?_
      exact kp_retv B (by simp only [S_join, if_pos q_1, if_neg q_2]; exact hP) hS rfl dX2_join_79
  · refine lv_aload_n hx hb dX2_join_7 rfl (lv_at hl 0 rfl) ?_
    refine kc_getD (j := 2) (v := .ref (aN G 8)) B hP rfl (by decide) kw_101 dX2_join_8 ?_
    refine lv_aload_n hx hb dX2_join_11 rfl (lv_at hl 2 rfl) ?_
    refine kc_getNX (j := 0) (k := t) (v := .long ((c.2.2 t).1)) B hP ht rfl (by decide) kw_87 dX2_join_12 ?_
    refine lv_aload_n hx hb dX2_join_15 rfl (lv_at hl 2 rfl) ?_
    refine kc_getNX (j := 1) (k := t) (v := .long ((c.2.2 t).2)) B hP ht rfl (by decide) kw_88 dX2_join_16 ?_
    refine kp_callN (rm := rm_become) (As := [.long ((c.2.2 t).1), .long ((c.2.2 t).2)]) (rest := []) (r := none) (st1 := []) (ws' := cw_W G (S_become c 8 ((c.2.2 t).1) ((c.2.2 t).2)) Z) B (C_become l D ty sz G Z hG c 8 (by decide) ((c.2.2 t).1) ((c.2.2 t).2)) kt_become kw_104 kw_105 kw_106 (kc_rcN B hP (by decide)) (by decide) rfl rfl (by decide) rfl (Nat.le_of_ble_eq_true rfl) hl.1 hP hS dX2_join_19 rfl (fun H locs hP hS => ?_)
    refine lv_goto (tgt := 79) hx hb dX2_join_22 (by decide) ?_
    exact kp_retv B (by simp only [S_join, if_neg q_1]; exact hP) hS rfl dX2_join_79
def S_takeSize (c : cw_C) (u : Nat) : cw_C :=
  if ((c.2.2 u).1) < (0 : Int64) then (if (0 : Int64) < ((c.2.2 u).2) then S_become c 8 (0 : Int64) (z_max (-((c.2.2 u).1)) ((c.2.2 u).2)) else S_become c 8 (-((c.2.2 u).2)) (-((c.2.2 u).1))) else S_become c 8 ((c.2.2 u).1) ((c.2.2 u).2)
def rm_takeSize : Room := { frames := 1, cells := 0, slots := 0, locals := 40 }
set_option maxHeartbeats 4000000 in
set_option maxRecDepth 100000 in
theorem C_takeSize (l : Launch) (D : va_G) (ty : List (ClassId × FieldType)) (sz : Nat) (G : cw_G) (Z : va_W) (hG : cw_ok ty sz G Z) (c : cw_C) (u : Nat) (hu : u < 10) : kp_M l yX2_takeSize cX2_takeSize 2 none rm_takeSize D ty sz [.ref (aD G), .ref (aN G u)] (cw_W G c Z) (none) (cw_W G (S_takeSize c u) Z) := by
  refine kp_body (by decide) (Nat.le_of_ble_eq_true rfl) rfl ?_
  intro p e s m args below meth cd ls B hin hl hP hS
  obtain ⟨hx, hb, hml, hown, hlk, hr, hw, hE, hK, hsz⟩ := id B
  have hl : lv_has ls 2 [(0, .ref (aD G)), (1, .ref (aN G u))] := hl
  refine lv_aload_n hx hb dX2_takeSize_0 rfl (lv_at hl 1 rfl) ?_
  refine kc_getNX (j := 0) (k := u) (v := .long ((c.2.2 u).1)) B hP hu rfl (by decide) kw_87 dX2_takeSize_1 ?_
  refine lv_lconst (v := (0 : Int64)) hx hb dX2_takeSize_4 (by decide) ?_
  refine kp_llt (tgt := 27) hx hb dX2_takeSize_5 dX2_takeSize_6 (by decide) (fun q_1 => ?_) (fun q_1 => ?_)
  · refine lv_aload_n hx hb dX2_takeSize_27 rfl (lv_at hl 1 rfl) ?_
    refine kc_getNX (j := 1) (k := u) (v := .long ((c.2.2 u).2)) B hP hu rfl (by decide) kw_88 dX2_takeSize_28 ?_
    refine lv_lconst (v := (0 : Int64)) hx hb dX2_takeSize_31 (by decide) ?_
    refine kp_lgt (tgt := 56) hx hb dX2_takeSize_32 dX2_takeSize_33 (by decide) (fun q_2 => ?_) (fun q_2 => ?_)
    · refine lv_aload_n hx hb dX2_takeSize_56 rfl (lv_at hl 0 rfl) ?_
      refine kc_getD (j := 2) (v := .ref (aN G 8)) B hP rfl (by decide) kw_101 dX2_takeSize_57 ?_
      refine lv_lconst (v := (0 : Int64)) hx hb dX2_takeSize_60 (by decide) ?_
      refine lv_aload_n hx hb dX2_takeSize_61 rfl (lv_at hl 1 rfl) ?_
      refine kc_getNX (j := 0) (k := u) (v := .long ((c.2.2 u).1)) B hP hu rfl (by decide) kw_87 dX2_takeSize_62 ?_
      refine lv_lneg hx hb dX2_takeSize_65 ?_
      refine lv_aload_n hx hb dX2_takeSize_66 rfl (lv_at hl 1 rfl) ?_
      refine kc_getNX (j := 1) (k := u) (v := .long ((c.2.2 u).2)) B hP hu rfl (by decide) kw_88 dX2_takeSize_67 ?_
      refine kp_max (x := -((c.2.2 u).1)) (y := (c.2.2 u).2) B hl.1 kw_98 kw_99 kw_91 kw_100 (by decide) (Nat.le_of_ble_eq_true rfl) (Nat.zero_le _) (Nat.zero_le _) dX2_takeSize_70 ?_
      refine kp_callN (rm := rm_become) (As := [.long (0 : Int64), .long (z_max (-((c.2.2 u).1)) ((c.2.2 u).2))]) (rest := []) (r := none) (st1 := []) (ws' := cw_W G (S_become c 8 (0 : Int64) (z_max (-((c.2.2 u).1)) ((c.2.2 u).2))) Z) B (C_become l D ty sz G Z hG c 8 (by decide) (0 : Int64) (z_max (-((c.2.2 u).1)) ((c.2.2 u).2))) kt_become kw_104 kw_105 kw_106 (kc_rcN B hP (by decide)) (by decide) rfl rfl (by decide) rfl (Nat.le_of_ble_eq_true rfl) hl.1 hP hS dX2_takeSize_73 rfl (fun H locs hP hS => ?_)
      exact kp_retv B (by simp only [S_takeSize, if_pos q_1, if_pos q_2]; exact hP) hS rfl dX2_takeSize_76
    · refine lv_aload_n hx hb dX2_takeSize_36 rfl (lv_at hl 0 rfl) ?_
      refine kc_getD (j := 2) (v := .ref (aN G 8)) B hP rfl (by decide) kw_101 dX2_takeSize_37 ?_
      refine lv_aload_n hx hb dX2_takeSize_40 rfl (lv_at hl 1 rfl) ?_
      refine kc_getNX (j := 1) (k := u) (v := .long ((c.2.2 u).2)) B hP hu rfl (by decide) kw_88 dX2_takeSize_41 ?_
      refine lv_lneg hx hb dX2_takeSize_44 ?_
      refine lv_aload_n hx hb dX2_takeSize_45 rfl (lv_at hl 1 rfl) ?_
      refine kc_getNX (j := 0) (k := u) (v := .long ((c.2.2 u).1)) B hP hu rfl (by decide) kw_87 dX2_takeSize_46 ?_
      refine lv_lneg hx hb dX2_takeSize_49 ?_
      refine kp_callN (rm := rm_become) (As := [.long (-((c.2.2 u).2)), .long (-((c.2.2 u).1))]) (rest := []) (r := none) (st1 := []) (ws' := cw_W G (S_become c 8 (-((c.2.2 u).2)) (-((c.2.2 u).1))) Z) B (C_become l D ty sz G Z hG c 8 (by decide) (-((c.2.2 u).2)) (-((c.2.2 u).1))) kt_become kw_104 kw_105 kw_106 (kc_rcN B hP (by decide)) (by decide) rfl rfl (by decide) rfl (Nat.le_of_ble_eq_true rfl) hl.1 hP hS dX2_takeSize_50 rfl (fun H locs hP hS => ?_)
      refine lv_goto (tgt := 76) hx hb dX2_takeSize_53 (by decide) ?_
      exact kp_retv B (by simp only [S_takeSize, if_pos q_1, if_neg q_2]; exact hP) hS rfl dX2_takeSize_76
  · refine lv_aload_n hx hb dX2_takeSize_9 rfl (lv_at hl 0 rfl) ?_
    refine kc_getD (j := 2) (v := .ref (aN G 8)) B hP rfl (by decide) kw_101 dX2_takeSize_10 ?_
    refine lv_aload_n hx hb dX2_takeSize_13 rfl (lv_at hl 1 rfl) ?_
    refine kc_getNX (j := 0) (k := u) (v := .long ((c.2.2 u).1)) B hP hu rfl (by decide) kw_87 dX2_takeSize_14 ?_
    refine lv_aload_n hx hb dX2_takeSize_17 rfl (lv_at hl 1 rfl) ?_
    refine kc_getNX (j := 1) (k := u) (v := .long ((c.2.2 u).2)) B hP hu rfl (by decide) kw_88 dX2_takeSize_18 ?_
    refine kp_callN (rm := rm_become) (As := [.long ((c.2.2 u).1), .long ((c.2.2 u).2)]) (rest := []) (r := none) (st1 := []) (ws' := cw_W G (S_become c 8 ((c.2.2 u).1) ((c.2.2 u).2)) Z) B (C_become l D ty sz G Z hG c 8 (by decide) ((c.2.2 u).1) ((c.2.2 u).2)) kt_become kw_104 kw_105 kw_106 (kc_rcN B hP (by decide)) (by decide) rfl rfl (by decide) rfl (Nat.le_of_ble_eq_true rfl) hl.1 hP hS dX2_takeSize_21 rfl (fun H locs hP hS => ?_)
    refine lv_goto (tgt := 76) hx hb dX2_takeSize_24 (by decide) ?_
    exact kp_retv B (by simp only [S_takeSize, if_neg q_1]; exact hP) hS rfl dX2_takeSize_76
def S_add (c : cw_C) (u : Nat) (t : Nat) : cw_C :=
  if (F_isEmpty c u) = (0 : Int32) then (if (F_isEmpty c t) = (0 : Int32) then S_become c u (F_plus ((c.2.2 u).1) ((c.2.2 t).1)) (F_plus ((c.2.2 u).2) ((c.2.2 t).2)) else S_becomeEmpty c u) else S_becomeEmpty c u
def rm_add : Room := { frames := 2, cells := 0, slots := 0, locals := 44 }
set_option maxHeartbeats 4000000 in
set_option maxRecDepth 100000 in
theorem C_add (l : Launch) (D : va_G) (ty : List (ClassId × FieldType)) (sz : Nat) (G : cw_G) (Z : va_W) (hG : cw_ok ty sz G Z) (c : cw_C) (u : Nat) (hu : u < 10) (t : Nat) (ht : t < 10) : kp_M l yX2_add cX2_add 2 none rm_add D ty sz [.ref (aN G u), .ref (aN G t)] (cw_W G c Z) (none) (cw_W G (S_add c u t) Z) := by
  refine kp_body (by decide) (Nat.le_of_ble_eq_true rfl) rfl ?_
  intro p e s m args below meth cd ls B hin hl hP hS
  obtain ⟨hx, hb, hml, hown, hlk, hr, hw, hE, hK, hsz⟩ := id B
  have hl : lv_has ls 2 [(0, .ref (aN G u)), (1, .ref (aN G t))] := hl
  refine lv_aload_n hx hb dX2_add_0 rfl (lv_at hl 0 rfl) ?_
  refine kp_callNR (rm := rm_isEmpty) (As := []) (rest := []) (r := some (.int (F_isEmpty c u))) (st1 := [.int (F_isEmpty c u)]) B (C_isEmpty l D ty sz G Z hG c u hu) kt_isEmpty kw_75 kw_8 kw_9 (kc_rcN B hP hu) (by decide) ⟨rfl, rfl⟩ (by decide) rfl (Nat.le_of_ble_eq_true rfl) hl.1 hP hS dX2_add_1 rfl ?_
  refine lv_if_ne (tgt := 14) hx hb dX2_add_4 (by decide) (fun q_1 => ?_) (fun q_1 => ?_)
  · refine lv_aload_n hx hb dX2_add_14 rfl (lv_at hl 0 rfl) ?_
    refine kp_callN (rm := rm_becomeEmpty) (As := []) (rest := []) (r := none) (st1 := []) (ws' := cw_W G (S_becomeEmpty c u) Z) B (C_becomeEmpty l D ty sz G Z hG c u hu) kt_becomeEmpty kw_109 kw_110 kw_111 (kc_rcN B hP hu) (by decide) rfl rfl (by decide) rfl (Nat.le_of_ble_eq_true rfl) hl.1 hP hS dX2_add_15 rfl (fun H locs hP hS => ?_)
    refine lv_goto (tgt := 47) hx hb dX2_add_18 (by decide) ?_
    exact kp_retv B (by simp only [S_add, if_neg q_1]; exact hP) hS rfl dX2_add_47
  · refine lv_aload_n hx hb dX2_add_7 rfl (lv_at hl 1 rfl) ?_
    refine kp_callNR (rm := rm_isEmpty) (As := []) (rest := []) (r := some (.int (F_isEmpty c t))) (st1 := [.int (F_isEmpty c t)]) B (C_isEmpty l D ty sz G Z hG c t ht) kt_isEmpty kw_75 kw_8 kw_9 (kc_rcN B hP ht) (by decide) ⟨rfl, rfl⟩ (by decide) rfl (Nat.le_of_ble_eq_true rfl) hl.1 hP hS dX2_add_8 rfl ?_
    refine lv_if_eq (tgt := 21) hx hb dX2_add_11 (by decide) (fun q_2 => ?_) (fun q_2 => ?_)
    · refine lv_aload_n hx hb dX2_add_21 rfl (lv_at hl 0 rfl) ?_
      refine lv_aload_n hx hb dX2_add_22 rfl (lv_at hl 0 rfl) ?_
      refine kc_getNX (j := 0) (k := u) (v := .long ((c.2.2 u).1)) B hP hu rfl (by decide) kw_87 dX2_add_23 ?_
      refine lv_aload_n hx hb dX2_add_26 rfl (lv_at hl 1 rfl) ?_
      refine kc_getNX (j := 0) (k := t) (v := .long ((c.2.2 t).1)) B hP ht rfl (by decide) kw_87 dX2_add_27 ?_
      refine kp_callSR (rm := rm_plus) (As := [.long ((c.2.2 u).1), .long ((c.2.2 t).1)]) (rest := [.ref (aN G u)]) (r := some (.long (F_plus ((c.2.2 u).1) ((c.2.2 t).1)))) (st1 := [.long (F_plus ((c.2.2 u).1) ((c.2.2 t).1)), .ref (aN G u)]) B (C_plus l D ty sz G Z hG c ((c.2.2 u).1) ((c.2.2 t).1)) kt_plus kw_114 kw_115 (by decide) ⟨rfl, rfl⟩ (by decide) rfl (Nat.le_of_ble_eq_true rfl) hl.1 hP hS dX2_add_30 rfl ?_
      refine lv_aload_n hx hb dX2_add_33 rfl (lv_at hl 0 rfl) ?_
      refine kc_getNX (j := 1) (k := u) (v := .long ((c.2.2 u).2)) B hP hu rfl (by decide) kw_88 dX2_add_34 ?_
      refine lv_aload_n hx hb dX2_add_37 rfl (lv_at hl 1 rfl) ?_
      refine kc_getNX (j := 1) (k := t) (v := .long ((c.2.2 t).2)) B hP ht rfl (by decide) kw_88 dX2_add_38 ?_
      refine kp_callSR (rm := rm_plus) (As := [.long ((c.2.2 u).2), .long ((c.2.2 t).2)]) (rest := [.long (F_plus ((c.2.2 u).1) ((c.2.2 t).1)), .ref (aN G u)]) (r := some (.long (F_plus ((c.2.2 u).2) ((c.2.2 t).2)))) (st1 := [.long (F_plus ((c.2.2 u).2) ((c.2.2 t).2)), .long (F_plus ((c.2.2 u).1) ((c.2.2 t).1)), .ref (aN G u)]) B (C_plus l D ty sz G Z hG c ((c.2.2 u).2) ((c.2.2 t).2)) kt_plus kw_114 kw_115 (by decide) ⟨rfl, rfl⟩ (by decide) rfl (Nat.le_of_ble_eq_true rfl) hl.1 hP hS dX2_add_41 rfl ?_
      refine kp_callN (rm := rm_become) (As := [.long (F_plus ((c.2.2 u).1) ((c.2.2 t).1)), .long (F_plus ((c.2.2 u).2) ((c.2.2 t).2))]) (rest := []) (r := none) (st1 := []) (ws' := cw_W G (S_become c u (F_plus ((c.2.2 u).1) ((c.2.2 t).1)) (F_plus ((c.2.2 u).2) ((c.2.2 t).2))) Z) B (C_become l D ty sz G Z hG c u hu (F_plus ((c.2.2 u).1) ((c.2.2 t).1)) (F_plus ((c.2.2 u).2) ((c.2.2 t).2))) kt_become kw_104 kw_105 kw_106 (kc_rcN B hP hu) (by decide) rfl rfl (by decide) rfl (Nat.le_of_ble_eq_true rfl) hl.1 hP hS dX2_add_44 rfl (fun H locs hP hS => ?_)
      exact kp_retv B (by simp only [S_add, if_pos q_1, if_pos q_2]; exact hP) hS rfl dX2_add_47
    · refine lv_aload_n hx hb dX2_add_14 rfl (lv_at hl 0 rfl) ?_
      refine kp_callN (rm := rm_becomeEmpty) (As := []) (rest := []) (r := none) (st1 := []) (ws' := cw_W G (S_becomeEmpty c u) Z) B (C_becomeEmpty l D ty sz G Z hG c u hu) kt_becomeEmpty kw_109 kw_110 kw_111 (kc_rcN B hP hu) (by decide) rfl rfl (by decide) rfl (Nat.le_of_ble_eq_true rfl) hl.1 hP hS dX2_add_15 rfl (fun H locs hP hS => ?_)
      refine lv_goto (tgt := 47) hx hb dX2_add_18 (by decide) ?_
      exact kp_retv B (by simp only [S_add, if_pos q_1, if_neg q_2]; exact hP) hS rfl dX2_add_47
end
section
def LF_wholeRoot (x : Int64) : Nat → Int64 → Int32 → Int64
  | 0, r, i => 0
  | n + 1, r, i => if i < (0 : Int32) then r else LF_wholeRoot x n (if x < ((r + ((1 : Int64) <<< (i.toInt64 &&& 63))) * (r + ((1 : Int64) <<< (i.toInt64 &&& 63)))) then r else r + ((1 : Int64) <<< (i.toInt64 &&& 63))) (i + (-1 : Int32))
def F_wholeRoot (x : Int64) : Int64 :=
  LF_wholeRoot x 22 (0 : Int64) (20 : Int32)
def rm_wholeRoot : Room := { frames := 0, cells := 0, slots := 0, locals := 0 }
set_option maxHeartbeats 4000000 in
set_option maxRecDepth 100000 in
theorem LP_wholeRoot (l : Launch) (D : va_G) (ty : List (ClassId × FieldType)) (sz : Nat) (G : cw_G) (Z : va_W) (hG : cw_ok ty sz G Z) (c : cw_C) (x : Int64) {p : Program} {e : Env} {s : State} {m : MethodId} {args : Array Value} {below : List Frame} {meth : Method} {cd : Code} (B : kp_B p l s m args meth cd yX2_wholeRoot.cls cX2_wholeRoot 7 (some .long) D ty sz) (hP : va_P D vwCl (cw_W G c Z) s.heap) :
    ∀ (n : Nat) (r : Int64) (i : Int32) (h1 : -1 ≤ i.toInt) (h2 : i.toInt + 2 ≤ n), ∀ (ls : Array Slot), lv_has ls 7 [(0, .long x), (2, .long r), (4, .int i)] → W p l e rm_wholeRoot s m args below meth cd s.heap [] 0 0 (MQ below (kp_QR (some (.long (LF_wholeRoot x n r i)))) args s 0 0 (fun _ => False)) (F0 m 6 ls []) := by
  obtain ⟨hx, hb, hml, hown, hlk, hr, hw, hE, hK, hsz⟩ := id B
  intro n
  induction n with
  | zero =>
    intro r i h1 h2
    exact absurd h2 (by omega)
  | succ n ih =>
    intro r i h1 h2 ls hl
    have hS : va_S (kp_A sz) s.heap s.heap [] := va_S.rf
    refine lv_iload hx hb dX2_wholeRoot_6 (lv_at hl 2 rfl) ?_
    refine lv_if_lt (tgt := 38) hx hb dX2_wholeRoot_8 (by decide) (fun q_1 => ?_) (fun q_1 => ?_)
    · refine lv_lload_n hx hb dX2_wholeRoot_38 rfl (lv_at hl 1 rfl) ?_
      exact kp_retlR B (by simp only [LF_wholeRoot, if_pos q_1]) dX2_wholeRoot_39
    · refine lv_lload_n hx hb dX2_wholeRoot_11 rfl (lv_at hl 1 rfl) ?_
      refine lv_lconst (v := (1 : Int64)) hx hb dX2_wholeRoot_12 (by decide) ?_
      refine lv_iload hx hb dX2_wholeRoot_13 (lv_at hl 2 rfl) ?_
      refine lv_lshl (v := (1 : Int64) <<< (i.toInt64 &&& 63)) hx hb dX2_wholeRoot_15 rfl ?_
      refine lv_ladd hx hb dX2_wholeRoot_16 ?_
      refine lv_lstore (lv' := [(5, .long (r + ((1 : Int64) <<< (i.toInt64 &&& 63)))), (0, .long x), (2, .long r), (4, .int i)]) hx hb dX2_wholeRoot_17 hl (by decide) rfl (fun ls hl => ?_)
      refine lv_lload hx hb dX2_wholeRoot_19 (lv_at hl 0 rfl) ?_
      refine lv_lload hx hb dX2_wholeRoot_21 (lv_at hl 0 rfl) ?_
      refine lv_lmul hx hb dX2_wholeRoot_23 ?_
      refine lv_lload_n hx hb dX2_wholeRoot_24 rfl (lv_at hl 1 rfl) ?_
      have hJ32 : ∀ ls : Array Slot, lv_has ls 7 [(0, .long x), (2, .long (if x < ((r + ((1 : Int64) <<< (i.toInt64 &&& 63))) * (r + ((1 : Int64) <<< (i.toInt64 &&& 63)))) then r else r + ((1 : Int64) <<< (i.toInt64 &&& 63)))), (4, .int i), (5, .long (r + ((1 : Int64) <<< (i.toInt64 &&& 63))))] → W p l e rm_wholeRoot s m args below meth cd s.heap [] 0 0 (MQ below (kp_QR (some (.long (LF_wholeRoot x (n + 1) r i)))) args s 0 0 (fun _ => False)) (F0 m 32 ls []) := by
        intro ls hl
        refine lv_iinc (v := i + (-1 : Int32)) (lv' := [(4, .int (i + (-1 : Int32))), (0, .long x), (2, .long (if x < ((r + ((1 : Int64) <<< (i.toInt64 &&& 63))) * (r + ((1 : Int64) <<< (i.toInt64 &&& 63)))) then r else r + ((1 : Int64) <<< (i.toInt64 &&& 63)))), (5, .long (r + ((1 : Int64) <<< (i.toInt64 &&& 63))))]) hx hb dX2_wholeRoot_32 hl (k := 2) rfl rfl (by decide) rfl (fun ls hl => ?_)
        refine lv_goto (tgt := 6) hx hb dX2_wholeRoot_35 (by decide) ?_
        rw [show LF_wholeRoot x (n + 1) r i = LF_wholeRoot x n (if x < ((r + ((1 : Int64) <<< (i.toInt64 &&& 63))) * (r + ((1 : Int64) <<< (i.toInt64 &&& 63)))) then r else r + ((1 : Int64) <<< (i.toInt64 &&& 63))) (i + (-1 : Int32)) from by simp only [LF_wholeRoot, if_neg q_1]]
        exact ih (if x < ((r + ((1 : Int64) <<< (i.toInt64 &&& 63))) * (r + ((1 : Int64) <<< (i.toInt64 &&& 63)))) then r else r + ((1 : Int64) <<< (i.toInt64 &&& 63))) (i + (-1 : Int32)) (ki_dn h1 q_1 h2).1 (ki_dn h1 q_1 h2).2 ls (lv_sub hl [1, 2, 0] rfl)
      refine kp_lgt (tgt := 32) hx hb dX2_wholeRoot_25 dX2_wholeRoot_26 (by decide) (fun q_2 => ?_) (fun q_2 => ?_)
      · exact hJ32 ls (kp_jl (lv_sub (l' := [(0, .long x), (2, .long r), (4, .int i), (5, .long (r + ((1 : Int64) <<< (i.toInt64 &&& 63))))]) hl [1, 2, 3, 0] rfl) (by simp only [if_pos q_2]))
      · refine lv_lload hx hb dX2_wholeRoot_29 (lv_at hl 0 rfl) ?_
        refine lv_lstore_n (lv' := [(2, .long (r + ((1 : Int64) <<< (i.toInt64 &&& 63)))), (5, .long (r + ((1 : Int64) <<< (i.toInt64 &&& 63)))), (0, .long x), (4, .int i)]) hx hb dX2_wholeRoot_31 rfl hl (by decide) rfl (fun ls hl => ?_)
        exact hJ32 ls (kp_jl (lv_sub (l' := [(0, .long x), (2, .long (r + ((1 : Int64) <<< (i.toInt64 &&& 63)))), (4, .int i), (5, .long (r + ((1 : Int64) <<< (i.toInt64 &&& 63))))]) hl [2, 0, 3, 1] rfl) (by simp only [if_neg q_2]))
set_option maxHeartbeats 4000000 in
set_option maxRecDepth 100000 in
theorem C_wholeRoot (l : Launch) (D : va_G) (ty : List (ClassId × FieldType)) (sz : Nat) (G : cw_G) (Z : va_W) (hG : cw_ok ty sz G Z) (c : cw_C) (x : Int64) : kp_R l yX2_wholeRoot cX2_wholeRoot 7 (some .long) rm_wholeRoot D ty sz [.long x] (cw_W G c Z) (some (.long (F_wholeRoot x))) := by
  refine kp_bodyR (by decide) (Nat.le_of_ble_eq_true rfl) rfl ?_
  intro p e s m args below meth cd ls B hl hP hS
  obtain ⟨hx, hb, hml, hown, hlk, hr, hw, hE, hK, hsz⟩ := id B
  have hl : lv_has ls 7 [(0, .long x)] := hl
  refine lv_lconst (v := (0 : Int64)) hx hb dX2_wholeRoot_0 (by decide) ?_
  refine lv_lstore_n (lv' := [(2, .long (0 : Int64)), (0, .long x)]) hx hb dX2_wholeRoot_1 rfl hl (by decide) rfl (fun ls hl => ?_)
  refine lv_bipush (v := (20 : Int32)) hx hb dX2_wholeRoot_2 (by decide) ?_
  refine lv_istore (lv' := [(4, .int (20 : Int32)), (2, .long (0 : Int64)), (0, .long x)]) hx hb dX2_wholeRoot_4 hl (by decide) rfl (fun ls hl => ?_)
  exact LP_wholeRoot l D ty sz G Z hG c x B hP 22 (0 : Int64) (20 : Int32) (by decide) (by decide) ls (lv_sub hl [2, 1, 0] rfl)
def F_rootNotAbove (c : cw_C) (x : Int64) : Int64 :=
  F_wholeRoot (x <<< ((F_unitBits c).toInt64 &&& 63))
def rm_rootNotAbove : Room := { frames := 1, cells := 0, slots := 0, locals := 26 }
set_option maxHeartbeats 4000000 in
set_option maxRecDepth 100000 in
theorem C_rootNotAbove (l : Launch) (D : va_G) (ty : List (ClassId × FieldType)) (sz : Nat) (G : cw_G) (Z : va_W) (hG : cw_ok ty sz G Z) (c : cw_C) (x : Int64) : kp_R l yX2_rootNotAbove cX2_rootNotAbove 3 (some .long) rm_rootNotAbove D ty sz [.ref (aD G), .long x] (cw_W G c Z) (some (.long (F_rootNotAbove c x))) := by
  refine kp_bodyR (by decide) (Nat.le_of_ble_eq_true rfl) rfl ?_
  intro p e s m args below meth cd ls B hl hP hS
  obtain ⟨hx, hb, hml, hown, hlk, hr, hw, hE, hK, hsz⟩ := id B
  have hl : lv_has ls 3 [(0, .ref (aD G)), (1, .long x)] := hl
  refine lv_lload_n hx hb dX2_rootNotAbove_0 rfl (lv_at hl 1 rfl) ?_
  refine lv_aload_n hx hb dX2_rootNotAbove_1 rfl (lv_at hl 0 rfl) ?_
  refine kc_getD (j := 0) (v := .ref (aS G)) B hP rfl (by decide) kw_76 dX2_rootNotAbove_2 ?_
  refine kp_callNR (rm := rm_unitBits) (As := []) (rest := [.long x]) (r := some (.int (F_unitBits c))) (st1 := [.int (F_unitBits c), .long x]) B (C_unitBits l D ty sz G Z hG c) kt_unitBits kw_79 kw_80 kw_81 (kc_rcS B hP) (by decide) ⟨rfl, rfl⟩ (by decide) rfl (Nat.le_of_ble_eq_true rfl) hl.1 hP hS dX2_rootNotAbove_5 rfl ?_
  refine lv_lshl (v := x <<< ((F_unitBits c).toInt64 &&& 63)) hx hb dX2_rootNotAbove_8 rfl ?_
  refine kp_callSR (rm := rm_wholeRoot) (As := [.long (x <<< ((F_unitBits c).toInt64 &&& 63))]) (rest := []) (r := some (.long (F_wholeRoot (x <<< ((F_unitBits c).toInt64 &&& 63))))) (st1 := [.long (F_wholeRoot (x <<< ((F_unitBits c).toInt64 &&& 63)))]) B (C_wholeRoot l D ty sz G Z hG c (x <<< ((F_unitBits c).toInt64 &&& 63))) kt_wholeRoot kw_118 kw_119 (by decide) ⟨rfl, rfl⟩ (by decide) rfl (Nat.le_of_ble_eq_true rfl) hl.1 hP hS dX2_rootNotAbove_9 rfl ?_
  exact kp_retlR B rfl dX2_rootNotAbove_12
def F_rootNotBelow (c : cw_C) (x : Int64) : Int64 :=
  if x = cw_inf then cw_inf else (if (x <<< ((F_unitBits c).toInt64 &&& 63)) ≤ ((F_wholeRoot (x <<< ((F_unitBits c).toInt64 &&& 63))) * (F_wholeRoot (x <<< ((F_unitBits c).toInt64 &&& 63)))) then F_wholeRoot (x <<< ((F_unitBits c).toInt64 &&& 63)) else (F_wholeRoot (x <<< ((F_unitBits c).toInt64 &&& 63))) + (1 : Int64))
def rm_rootNotBelow : Room := { frames := 1, cells := 0, slots := 0, locals := 26 }
set_option maxHeartbeats 4000000 in
set_option maxRecDepth 100000 in
theorem C_rootNotBelow (l : Launch) (D : va_G) (ty : List (ClassId × FieldType)) (sz : Nat) (G : cw_G) (Z : va_W) (hG : cw_ok ty sz G Z) (c : cw_C) (x : Int64) : kp_R l yX2_rootNotBelow cX2_rootNotBelow 7 (some .long) rm_rootNotBelow D ty sz [.ref (aD G), .long x] (cw_W G c Z) (some (.long (F_rootNotBelow c x))) := by
  refine kp_bodyR (by decide) (Nat.le_of_ble_eq_true rfl) rfl ?_
  intro p e s m args below meth cd ls B hl hP hS
  obtain ⟨hx, hb, hml, hown, hlk, hr, hw, hE, hK, hsz⟩ := id B
  have hl : lv_has ls 7 [(0, .ref (aD G)), (1, .long x)] := hl
  refine lv_lload_n hx hb dX2_rootNotBelow_0 rfl (lv_at hl 1 rfl) ?_
  refine lv_ldc2 (v := cw_inf) hx hb hown (hw _ kw_64 rfl) dX2_rootNotBelow_1 ?_
  refine kp_lne (tgt := 12) hx hb dX2_rootNotBelow_4 dX2_rootNotBelow_5 (by decide) (fun q_1 => ?_) (fun q_1 => ?_)
  · refine lv_lload_n hx hb dX2_rootNotBelow_12 rfl (lv_at hl 1 rfl) ?_
    refine lv_aload_n hx hb dX2_rootNotBelow_13 rfl (lv_at hl 0 rfl) ?_
    refine kc_getD (j := 0) (v := .ref (aS G)) B hP rfl (by decide) kw_76 dX2_rootNotBelow_14 ?_
    refine kp_callNR (rm := rm_unitBits) (As := []) (rest := [.long x]) (r := some (.int (F_unitBits c))) (st1 := [.int (F_unitBits c), .long x]) B (C_unitBits l D ty sz G Z hG c) kt_unitBits kw_79 kw_80 kw_81 (kc_rcS B hP) (by decide) ⟨rfl, rfl⟩ (by decide) rfl (Nat.le_of_ble_eq_true rfl) hl.1 hP hS dX2_rootNotBelow_17 rfl ?_
    refine lv_lshl (v := x <<< ((F_unitBits c).toInt64 &&& 63)) hx hb dX2_rootNotBelow_20 rfl ?_
    refine lv_lstore_n (lv' := [(3, .long (x <<< ((F_unitBits c).toInt64 &&& 63))), (0, .ref (aD G)), (1, .long x)]) hx hb dX2_rootNotBelow_21 rfl hl (by decide) rfl (fun ls hl => ?_)
    refine lv_lload_n hx hb dX2_rootNotBelow_22 rfl (lv_at hl 0 rfl) ?_
    refine kp_callSR (rm := rm_wholeRoot) (As := [.long (x <<< ((F_unitBits c).toInt64 &&& 63))]) (rest := []) (r := some (.long (F_wholeRoot (x <<< ((F_unitBits c).toInt64 &&& 63))))) (st1 := [.long (F_wholeRoot (x <<< ((F_unitBits c).toInt64 &&& 63)))]) B (C_wholeRoot l D ty sz G Z hG c (x <<< ((F_unitBits c).toInt64 &&& 63))) kt_wholeRoot kw_118 kw_119 (by decide) ⟨rfl, rfl⟩ (by decide) rfl (Nat.le_of_ble_eq_true rfl) hl.1 hP hS dX2_rootNotBelow_23 rfl ?_
    refine lv_lstore (lv' := [(5, .long (F_wholeRoot (x <<< ((F_unitBits c).toInt64 &&& 63)))), (3, .long (x <<< ((F_unitBits c).toInt64 &&& 63))), (0, .ref (aD G)), (1, .long x)]) hx hb dX2_rootNotBelow_26 hl (by decide) rfl (fun ls hl => ?_)
    refine lv_lload hx hb dX2_rootNotBelow_28 (lv_at hl 0 rfl) ?_
    refine lv_lload hx hb dX2_rootNotBelow_30 (lv_at hl 0 rfl) ?_
    refine lv_lmul hx hb dX2_rootNotBelow_32 ?_
    refine lv_lload_n hx hb dX2_rootNotBelow_33 rfl (lv_at hl 1 rfl) ?_
    refine kp_lge (tgt := 45) hx hb dX2_rootNotBelow_34 dX2_rootNotBelow_35 (by decide) (fun q_2 => ?_) (fun q_2 => ?_)
    · refine lv_lload hx hb dX2_rootNotBelow_45 (lv_at hl 0 rfl) ?_
      exact kp_retlR B (by simp only [F_rootNotBelow, if_neg q_1, if_pos q_2]) dX2_rootNotBelow_47
    · refine lv_lload hx hb dX2_rootNotBelow_38 (lv_at hl 0 rfl) ?_
      refine lv_lconst (v := (1 : Int64)) hx hb dX2_rootNotBelow_40 (by decide) ?_
      refine lv_ladd hx hb dX2_rootNotBelow_41 ?_
      refine lv_goto (tgt := 47) hx hb dX2_rootNotBelow_42 (by decide) ?_
      exact kp_retlR B (by simp only [F_rootNotBelow, if_neg q_1, if_neg q_2]) dX2_rootNotBelow_47
  · refine lv_ldc2 (v := cw_inf) hx hb hown (hw _ kw_64 rfl) dX2_rootNotBelow_8 ?_
    exact kp_retlR B (by simp only [F_rootNotBelow, if_pos q_1]) dX2_rootNotBelow_11
def S_takeRoot (c : cw_C) (u : Nat) : cw_C :=
  if (0 : Int64) ≤ ((c.2.2 u).2) then S_become c 8 (F_rootNotAbove c (z_max ((c.2.2 u).1) (0 : Int64))) (F_rootNotBelow c ((c.2.2 u).2)) else S_becomeEmpty c 8
def rm_takeRoot : Room := { frames := 2, cells := 0, slots := 0, locals := 52 }
set_option maxHeartbeats 4000000 in
set_option maxRecDepth 100000 in
theorem C_takeRoot (l : Launch) (D : va_G) (ty : List (ClassId × FieldType)) (sz : Nat) (G : cw_G) (Z : va_W) (hG : cw_ok ty sz G Z) (c : cw_C) (u : Nat) (hu : u < 10) : kp_M l yX2_takeRoot cX2_takeRoot 2 none rm_takeRoot D ty sz [.ref (aD G), .ref (aN G u)] (cw_W G c Z) (none) (cw_W G (S_takeRoot c u) Z) := by
  refine kp_body (by decide) (Nat.le_of_ble_eq_true rfl) rfl ?_
  intro p e s m args below meth cd ls B hin hl hP hS
  obtain ⟨hx, hb, hml, hown, hlk, hr, hw, hE, hK, hsz⟩ := id B
  have hl : lv_has ls 2 [(0, .ref (aD G)), (1, .ref (aN G u))] := hl
  refine lv_aload_n hx hb dX2_takeRoot_0 rfl (lv_at hl 1 rfl) ?_
  refine kc_getNX (j := 1) (k := u) (v := .long ((c.2.2 u).2)) B hP hu rfl (by decide) kw_88 dX2_takeRoot_1 ?_
  refine lv_lconst (v := (0 : Int64)) hx hb dX2_takeRoot_4 (by decide) ?_
  refine kp_lge (tgt := 17) hx hb dX2_takeRoot_5 dX2_takeRoot_6 (by decide) (fun q_1 => ?_) (fun q_1 => ?_)
  · refine lv_aload_n hx hb dX2_takeRoot_17 rfl (lv_at hl 0 rfl) ?_
    refine kc_getD (j := 2) (v := .ref (aN G 8)) B hP rfl (by decide) kw_101 dX2_takeRoot_18 ?_
    refine lv_aload_n hx hb dX2_takeRoot_21 rfl (lv_at hl 0 rfl) ?_
    refine lv_aload_n hx hb dX2_takeRoot_22 rfl (lv_at hl 1 rfl) ?_
    refine kc_getNX (j := 0) (k := u) (v := .long ((c.2.2 u).1)) B hP hu rfl (by decide) kw_87 dX2_takeRoot_23 ?_
    refine lv_lconst (v := (0 : Int64)) hx hb dX2_takeRoot_26 (by decide) ?_
    refine kp_max (x := (c.2.2 u).1) (y := (0 : Int64)) B hl.1 kw_98 kw_99 kw_91 kw_100 (by decide) (Nat.le_of_ble_eq_true rfl) (Nat.zero_le _) (Nat.zero_le _) dX2_takeRoot_27 ?_
    refine kp_callVR (rm := rm_rootNotAbove) (As := [.long (z_max ((c.2.2 u).1) (0 : Int64))]) (rest := [.ref (aN G 8)]) (r := some (.long (F_rootNotAbove c (z_max ((c.2.2 u).1) (0 : Int64))))) (st1 := [.long (F_rootNotAbove c (z_max ((c.2.2 u).1) (0 : Int64))), .ref (aN G 8)]) B (C_rootNotAbove l D ty sz G Z hG c (z_max ((c.2.2 u).1) (0 : Int64))) kt_rootNotAbove kw_122 kw_123 kw_124 (kc_rcD B hP) (by decide) ⟨rfl, rfl⟩ (by decide) rfl (Nat.le_of_ble_eq_true rfl) hl.1 hP hS dX2_takeRoot_30 rfl ?_
    refine lv_aload_n hx hb dX2_takeRoot_33 rfl (lv_at hl 0 rfl) ?_
    refine lv_aload_n hx hb dX2_takeRoot_34 rfl (lv_at hl 1 rfl) ?_
    refine kc_getNX (j := 1) (k := u) (v := .long ((c.2.2 u).2)) B hP hu rfl (by decide) kw_88 dX2_takeRoot_35 ?_
    refine kp_callVR (rm := rm_rootNotBelow) (As := [.long ((c.2.2 u).2)]) (rest := [.long (F_rootNotAbove c (z_max ((c.2.2 u).1) (0 : Int64))), .ref (aN G 8)]) (r := some (.long (F_rootNotBelow c ((c.2.2 u).2)))) (st1 := [.long (F_rootNotBelow c ((c.2.2 u).2)), .long (F_rootNotAbove c (z_max ((c.2.2 u).1) (0 : Int64))), .ref (aN G 8)]) B (C_rootNotBelow l D ty sz G Z hG c ((c.2.2 u).2)) kt_rootNotBelow kw_127 kw_128 kw_129 (kc_rcD B hP) (by decide) ⟨rfl, rfl⟩ (by decide) rfl (Nat.le_of_ble_eq_true rfl) hl.1 hP hS dX2_takeRoot_38 rfl ?_
    refine kp_callN (rm := rm_become) (As := [.long (F_rootNotAbove c (z_max ((c.2.2 u).1) (0 : Int64))), .long (F_rootNotBelow c ((c.2.2 u).2))]) (rest := []) (r := none) (st1 := []) (ws' := cw_W G (S_become c 8 (F_rootNotAbove c (z_max ((c.2.2 u).1) (0 : Int64))) (F_rootNotBelow c ((c.2.2 u).2))) Z) B (C_become l D ty sz G Z hG c 8 (by decide) (F_rootNotAbove c (z_max ((c.2.2 u).1) (0 : Int64))) (F_rootNotBelow c ((c.2.2 u).2))) kt_become kw_104 kw_105 kw_106 (kc_rcN B hP (by decide)) (by decide) rfl rfl (by decide) rfl (Nat.le_of_ble_eq_true rfl) hl.1 hP hS dX2_takeRoot_41 rfl (fun H locs hP hS => ?_)
    exact kp_retv B (by simp only [S_takeRoot, if_pos q_1]; exact hP) hS rfl dX2_takeRoot_44
  · refine lv_aload_n hx hb dX2_takeRoot_9 rfl (lv_at hl 0 rfl) ?_
    refine kc_getD (j := 2) (v := .ref (aN G 8)) B hP rfl (by decide) kw_101 dX2_takeRoot_10 ?_
    refine kp_callN (rm := rm_becomeEmpty) (As := []) (rest := []) (r := none) (st1 := []) (ws' := cw_W G (S_becomeEmpty c 8) Z) B (C_becomeEmpty l D ty sz G Z hG c 8 (by decide)) kt_becomeEmpty kw_109 kw_110 kw_111 (kc_rcN B hP (by decide)) (by decide) rfl rfl (by decide) rfl (Nat.le_of_ble_eq_true rfl) hl.1 hP hS dX2_takeRoot_13 rfl (fun H locs hP hS => ?_)
    exact kp_retv B (by simp only [S_takeRoot, if_neg q_1]; exact hP) hS rfl dX2_takeRoot_16
def F_floorDiv (x : Int64) (y : Int64) : Int64 :=
  if (0 : Int64) ≤ (x ^^^ y) then x / y else (if ((x / y) * y) = x then x / y else (x / y) - (1 : Int64))
def rm_floorDiv : Room := { frames := 0, cells := 0, slots := 0, locals := 0 }
set_option maxHeartbeats 4000000 in
set_option maxRecDepth 100000 in
theorem C_floorDiv (l : Launch) (D : va_G) (ty : List (ClassId × FieldType)) (sz : Nat) (G : cw_G) (Z : va_W) (hG : cw_ok ty sz G Z) (c : cw_C) (x : Int64) (y : Int64) (hy : ¬ y = 0) : kp_R l yJM_floorDiv cJM_floorDiv 6 (some .long) rm_floorDiv D ty sz [.long x, .long y] (cw_W G c Z) (some (.long (F_floorDiv x y))) := by
  refine kp_bodyRF (by decide +kernel) (Nat.le_of_ble_eq_true rfl) rfl ?_
  intro p e s m args below meth cd ls B hl hP hS
  obtain ⟨hx, hb, hml, hown, hlk, hr, hw, hE, hK, hsz⟩ := id B
  have hl : lv_has ls 6 [(0, .long x), (2, .long y)] := hl
  refine lv_lload_n hx hb dJM_floorDiv_0 rfl (lv_at hl 0 rfl) ?_
  refine lv_lload_n hx hb dJM_floorDiv_1 rfl (lv_at hl 1 rfl) ?_
  refine lv_ldiv hx hb dJM_floorDiv_2 hy ?_
  refine lv_lstore (lv' := [(4, .long (x / y)), (0, .long x), (2, .long y)]) hx hb dJM_floorDiv_3 hl (by decide) rfl (fun ls hl => ?_)
  refine lv_lload_n hx hb dJM_floorDiv_5 rfl (lv_at hl 1 rfl) ?_
  refine lv_lload_n hx hb dJM_floorDiv_6 rfl (lv_at hl 2 rfl) ?_
  refine lv_lxor hx hb dJM_floorDiv_7 ?_
  refine lv_lconst (v := (0 : Int64)) hx hb dJM_floorDiv_8 (by decide) ?_
  refine kp_lge (tgt := 27) hx hb dJM_floorDiv_9 dJM_floorDiv_10 (by decide) (fun q_1 => ?_) (fun q_1 => ?_)
  · refine lv_lload hx hb dJM_floorDiv_27 (lv_at hl 0 rfl) ?_
    exact kp_retlR B (by simp only [F_floorDiv, if_pos q_1]) dJM_floorDiv_29
  · refine lv_lload hx hb dJM_floorDiv_13 (lv_at hl 0 rfl) ?_
    refine lv_lload_n hx hb dJM_floorDiv_15 rfl (lv_at hl 2 rfl) ?_
    refine lv_lmul hx hb dJM_floorDiv_16 ?_
    refine lv_lload_n hx hb dJM_floorDiv_17 rfl (lv_at hl 1 rfl) ?_
    refine kp_leq (tgt := 27) hx hb dJM_floorDiv_18 dJM_floorDiv_19 (by decide) (fun q_2 => ?_) (fun q_2 => ?_)
    · refine lv_lload hx hb dJM_floorDiv_27 (lv_at hl 0 rfl) ?_
      exact kp_retlR B (by simp only [F_floorDiv, if_neg q_1, if_pos q_2]) dJM_floorDiv_29
    · refine lv_lload hx hb dJM_floorDiv_22 (lv_at hl 0 rfl) ?_
      refine lv_lconst (v := (1 : Int64)) hx hb dJM_floorDiv_24 (by decide) ?_
      refine lv_lsub hx hb dJM_floorDiv_25 ?_
      exact kp_retlR B (by simp only [F_floorDiv, if_neg q_1, if_neg q_2]) dJM_floorDiv_26
def F_leastQuotient (c : cw_C) (x : Int64) (y : Int64) (z : Int64) : Int64 :=
  if x < (0 : Int64) then (if y ≤ (0 : Int64) then (-cw_inf) else (if x = (-cw_inf) then (-cw_inf) else F_floorDiv (x <<< ((F_unitBits c).toInt64 &&& 63)) y)) else (if z ≤ (0 : Int64) then (0 : Int64) else (if z = cw_inf then (0 : Int64) else F_floorDiv (x <<< ((F_unitBits c).toInt64 &&& 63)) z))
def rm_leastQuotient : Room := { frames := 1, cells := 0, slots := 0, locals := 40 }
set_option maxHeartbeats 4000000 in
set_option maxRecDepth 100000 in
theorem C_leastQuotient (l : Launch) (D : va_G) (ty : List (ClassId × FieldType)) (sz : Nat) (G : cw_G) (Z : va_W) (hG : cw_ok ty sz G Z) (c : cw_C) (x : Int64) (y : Int64) (z : Int64) : kp_R l yX2_leastQuotient cX2_leastQuotient 7 (some .long) rm_leastQuotient D ty sz [.ref (aD G), .long x, .long y, .long z] (cw_W G c Z) (some (.long (F_leastQuotient c x y z))) := by
  refine kp_bodyR (by decide) (Nat.le_of_ble_eq_true rfl) rfl ?_
  intro p e s m args below meth cd ls B hl hP hS
  obtain ⟨hx, hb, hml, hown, hlk, hr, hw, hE, hK, hsz⟩ := id B
  have hl : lv_has ls 7 [(0, .ref (aD G)), (1, .long x), (3, .long y), (5, .long z)] := hl
  refine lv_lload_n hx hb dX2_leastQuotient_0 rfl (lv_at hl 1 rfl) ?_
  refine lv_lconst (v := (0 : Int64)) hx hb dX2_leastQuotient_1 (by decide) ?_
  refine kp_llt (tgt := 41) hx hb dX2_leastQuotient_2 dX2_leastQuotient_3 (by decide) (fun q_1 => ?_) (fun q_1 => ?_)
  · refine lv_lload_n hx hb dX2_leastQuotient_41 rfl (lv_at hl 2 rfl) ?_
    refine lv_lconst (v := (0 : Int64)) hx hb dX2_leastQuotient_42 (by decide) ?_
    refine kp_lle (tgt := 55) hx hb dX2_leastQuotient_43 dX2_leastQuotient_44 (by decide) (fun q_2 => ?_) (fun q_2 => ?_)
    · refine lv_ldc2 (v := (-cw_inf)) hx hb hown (hw _ kw_65 rfl) dX2_leastQuotient_55 ?_
      exact kp_retlR B (by simp only [F_leastQuotient, if_pos q_1, if_pos q_2]) dX2_leastQuotient_58
    · refine lv_lload_n hx hb dX2_leastQuotient_47 rfl (lv_at hl 1 rfl) ?_
      refine lv_ldc2 (v := (-cw_inf)) hx hb hown (hw _ kw_65 rfl) dX2_leastQuotient_48 ?_
      refine kp_lne (tgt := 59) hx hb dX2_leastQuotient_51 dX2_leastQuotient_52 (by decide) (fun q_3 => ?_) (fun q_3 => ?_)
      · refine lv_lload_n hx hb dX2_leastQuotient_59 rfl (lv_at hl 1 rfl) ?_
        refine lv_aload_n hx hb dX2_leastQuotient_60 rfl (lv_at hl 0 rfl) ?_
        refine kc_getD (j := 0) (v := .ref (aS G)) B hP rfl (by decide) kw_76 dX2_leastQuotient_61 ?_
        refine kp_callNR (rm := rm_unitBits) (As := []) (rest := [.long x]) (r := some (.int (F_unitBits c))) (st1 := [.int (F_unitBits c), .long x]) B (C_unitBits l D ty sz G Z hG c) kt_unitBits kw_79 kw_80 kw_81 (kc_rcS B hP) (by decide) ⟨rfl, rfl⟩ (by decide) rfl (Nat.le_of_ble_eq_true rfl) hl.1 hP hS dX2_leastQuotient_64 rfl ?_
        refine lv_lshl (v := x <<< ((F_unitBits c).toInt64 &&& 63)) hx hb dX2_leastQuotient_67 rfl ?_
        refine lv_lload_n hx hb dX2_leastQuotient_68 rfl (lv_at hl 2 rfl) ?_
        refine kp_callSR (rm := rm_floorDiv) (As := [.long (x <<< ((F_unitBits c).toInt64 &&& 63)), .long y]) (rest := []) (r := some (.long (F_floorDiv (x <<< ((F_unitBits c).toInt64 &&& 63)) y))) (st1 := [.long (F_floorDiv (x <<< ((F_unitBits c).toInt64 &&& 63)) y)]) B (C_floorDiv l D ty sz G Z hG c (x <<< ((F_unitBits c).toInt64 &&& 63)) y (ki_pos q_2)) kt_floorDiv kw_132 kw_133 (by decide) ⟨rfl, rfl⟩ (by decide) rfl (Nat.le_of_ble_eq_true rfl) hl.1 hP hS dX2_leastQuotient_69 rfl ?_
        exact kp_retlR B (by simp only [F_leastQuotient, if_pos q_1, if_neg q_2, if_neg q_3]) dX2_leastQuotient_72
      · refine lv_ldc2 (v := (-cw_inf)) hx hb hown (hw _ kw_65 rfl) dX2_leastQuotient_55 ?_
        exact kp_retlR B (by simp only [F_leastQuotient, if_pos q_1, if_neg q_2, if_pos q_3]) dX2_leastQuotient_58
  · refine lv_lload hx hb dX2_leastQuotient_6 (lv_at hl 3 rfl) ?_
    refine lv_lconst (v := (0 : Int64)) hx hb dX2_leastQuotient_8 (by decide) ?_
    refine kp_lle (tgt := 22) hx hb dX2_leastQuotient_9 dX2_leastQuotient_10 (by decide) (fun q_4 => ?_) (fun q_4 => ?_)
    · refine lv_lconst (v := (0 : Int64)) hx hb dX2_leastQuotient_22 (by decide) ?_
      refine lv_goto (tgt := 40) hx hb dX2_leastQuotient_23 (by decide) ?_
      exact kp_retlR B (by simp only [F_leastQuotient, if_neg q_1, if_pos q_4]) dX2_leastQuotient_40
    · refine lv_lload hx hb dX2_leastQuotient_13 (lv_at hl 3 rfl) ?_
      refine lv_ldc2 (v := cw_inf) hx hb hown (hw _ kw_64 rfl) dX2_leastQuotient_15 ?_
      refine kp_lne (tgt := 26) hx hb dX2_leastQuotient_18 dX2_leastQuotient_19 (by decide) (fun q_5 => ?_) (fun q_5 => ?_)
      · refine lv_lload_n hx hb dX2_leastQuotient_26 rfl (lv_at hl 1 rfl) ?_
        refine lv_aload_n hx hb dX2_leastQuotient_27 rfl (lv_at hl 0 rfl) ?_
        refine kc_getD (j := 0) (v := .ref (aS G)) B hP rfl (by decide) kw_76 dX2_leastQuotient_28 ?_
        refine kp_callNR (rm := rm_unitBits) (As := []) (rest := [.long x]) (r := some (.int (F_unitBits c))) (st1 := [.int (F_unitBits c), .long x]) B (C_unitBits l D ty sz G Z hG c) kt_unitBits kw_79 kw_80 kw_81 (kc_rcS B hP) (by decide) ⟨rfl, rfl⟩ (by decide) rfl (Nat.le_of_ble_eq_true rfl) hl.1 hP hS dX2_leastQuotient_31 rfl ?_
        refine lv_lshl (v := x <<< ((F_unitBits c).toInt64 &&& 63)) hx hb dX2_leastQuotient_34 rfl ?_
        refine lv_lload hx hb dX2_leastQuotient_35 (lv_at hl 3 rfl) ?_
        refine kp_callSR (rm := rm_floorDiv) (As := [.long (x <<< ((F_unitBits c).toInt64 &&& 63)), .long z]) (rest := []) (r := some (.long (F_floorDiv (x <<< ((F_unitBits c).toInt64 &&& 63)) z))) (st1 := [.long (F_floorDiv (x <<< ((F_unitBits c).toInt64 &&& 63)) z)]) B (C_floorDiv l D ty sz G Z hG c (x <<< ((F_unitBits c).toInt64 &&& 63)) z (ki_pos q_4)) kt_floorDiv kw_132 kw_133 (by decide) ⟨rfl, rfl⟩ (by decide) rfl (Nat.le_of_ble_eq_true rfl) hl.1 hP hS dX2_leastQuotient_37 rfl ?_
        exact kp_retlR B (by simp only [F_leastQuotient, if_neg q_1, if_neg q_4, if_neg q_5]) dX2_leastQuotient_40
      · refine lv_lconst (v := (0 : Int64)) hx hb dX2_leastQuotient_22 (by decide) ?_
        refine lv_goto (tgt := 40) hx hb dX2_leastQuotient_23 (by decide) ?_
        exact kp_retlR B (by simp only [F_leastQuotient, if_neg q_1, if_neg q_4, if_pos q_5]) dX2_leastQuotient_40
def S_divideByAbove (c : cw_C) (u : Nat) (x : Int64) (y : Int64) (t : Nat) : cw_C :=
  if (0 : Int64) < y then S_become c t (F_leastQuotient c ((c.2.2 u).1) (z_max x (0 : Int64)) y) (-(F_leastQuotient c (-((c.2.2 u).2)) (z_max x (0 : Int64)) y)) else S_becomeEmpty c t
def rm_divideByAbove : Room := { frames := 2, cells := 0, slots := 0, locals := 66 }
set_option maxHeartbeats 4000000 in
set_option maxRecDepth 100000 in
theorem C_divideByAbove (l : Launch) (D : va_G) (ty : List (ClassId × FieldType)) (sz : Nat) (G : cw_G) (Z : va_W) (hG : cw_ok ty sz G Z) (c : cw_C) (u : Nat) (hu : u < 10) (x : Int64) (y : Int64) (t : Nat) (ht : t < 10) : kp_M l yX2_divideByAbove cX2_divideByAbove 9 none rm_divideByAbove D ty sz [.ref (aD G), .ref (aN G u), .long x, .long y, .ref (aN G t)] (cw_W G c Z) (none) (cw_W G (S_divideByAbove c u x y t) Z) := by
  refine kp_body (by decide) (Nat.le_of_ble_eq_true rfl) rfl ?_
  intro p e s m args below meth cd ls B hin hl hP hS
  obtain ⟨hx, hb, hml, hown, hlk, hr, hw, hE, hK, hsz⟩ := id B
  have hl : lv_has ls 9 [(0, .ref (aD G)), (1, .ref (aN G u)), (2, .long x), (4, .long y), (6, .ref (aN G t))] := hl
  refine lv_lload hx hb dX2_divideByAbove_0 (lv_at hl 3 rfl) ?_
  refine lv_lconst (v := (0 : Int64)) hx hb dX2_divideByAbove_2 (by decide) ?_
  refine kp_lgt (tgt := 13) hx hb dX2_divideByAbove_3 dX2_divideByAbove_4 (by decide) (fun q_1 => ?_) (fun q_1 => ?_)
  · refine lv_lload_n hx hb dX2_divideByAbove_13 rfl (lv_at hl 2 rfl) ?_
    refine lv_lconst (v := (0 : Int64)) hx hb dX2_divideByAbove_14 (by decide) ?_
    refine kp_max (x := x) (y := (0 : Int64)) B hl.1 kw_98 kw_99 kw_91 kw_100 (by decide) (Nat.le_of_ble_eq_true rfl) (Nat.zero_le _) (Nat.zero_le _) dX2_divideByAbove_15 ?_
    refine lv_lstore (lv' := [(7, .long (z_max x (0 : Int64))), (0, .ref (aD G)), (1, .ref (aN G u)), (2, .long x), (4, .long y), (6, .ref (aN G t))]) hx hb dX2_divideByAbove_18 hl (by decide) rfl (fun ls hl => ?_)
    refine lv_aload hx hb dX2_divideByAbove_20 (lv_at hl 5 rfl) ?_
    refine lv_aload_n hx hb dX2_divideByAbove_22 rfl (lv_at hl 1 rfl) ?_
    refine lv_aload_n hx hb dX2_divideByAbove_23 rfl (lv_at hl 2 rfl) ?_
    refine kc_getNX (j := 0) (k := u) (v := .long ((c.2.2 u).1)) B hP hu rfl (by decide) kw_87 dX2_divideByAbove_24 ?_
    refine lv_lload hx hb dX2_divideByAbove_27 (lv_at hl 0 rfl) ?_
    refine lv_lload hx hb dX2_divideByAbove_29 (lv_at hl 4 rfl) ?_
    refine kp_callVR (rm := rm_leastQuotient) (As := [.long ((c.2.2 u).1), .long (z_max x (0 : Int64)), .long y]) (rest := [.ref (aN G t)]) (r := some (.long (F_leastQuotient c ((c.2.2 u).1) (z_max x (0 : Int64)) y))) (st1 := [.long (F_leastQuotient c ((c.2.2 u).1) (z_max x (0 : Int64)) y), .ref (aN G t)]) B (C_leastQuotient l D ty sz G Z hG c ((c.2.2 u).1) (z_max x (0 : Int64)) y) kt_leastQuotient kw_136 kw_137 kw_138 (kc_rcD B hP) (by decide) ⟨rfl, rfl⟩ (by decide) rfl (Nat.le_of_ble_eq_true rfl) hl.1 hP hS dX2_divideByAbove_31 rfl ?_
    refine lv_aload_n hx hb dX2_divideByAbove_34 rfl (lv_at hl 1 rfl) ?_
    refine lv_aload_n hx hb dX2_divideByAbove_35 rfl (lv_at hl 2 rfl) ?_
    refine kc_getNX (j := 1) (k := u) (v := .long ((c.2.2 u).2)) B hP hu rfl (by decide) kw_88 dX2_divideByAbove_36 ?_
    refine lv_lneg hx hb dX2_divideByAbove_39 ?_
    refine lv_lload hx hb dX2_divideByAbove_40 (lv_at hl 0 rfl) ?_
    refine lv_lload hx hb dX2_divideByAbove_42 (lv_at hl 4 rfl) ?_
    refine kp_callVR (rm := rm_leastQuotient) (As := [.long (-((c.2.2 u).2)), .long (z_max x (0 : Int64)), .long y]) (rest := [.long (F_leastQuotient c ((c.2.2 u).1) (z_max x (0 : Int64)) y), .ref (aN G t)]) (r := some (.long (F_leastQuotient c (-((c.2.2 u).2)) (z_max x (0 : Int64)) y))) (st1 := [.long (F_leastQuotient c (-((c.2.2 u).2)) (z_max x (0 : Int64)) y), .long (F_leastQuotient c ((c.2.2 u).1) (z_max x (0 : Int64)) y), .ref (aN G t)]) B (C_leastQuotient l D ty sz G Z hG c (-((c.2.2 u).2)) (z_max x (0 : Int64)) y) kt_leastQuotient kw_136 kw_137 kw_138 (kc_rcD B hP) (by decide) ⟨rfl, rfl⟩ (by decide) rfl (Nat.le_of_ble_eq_true rfl) hl.1 hP hS dX2_divideByAbove_44 rfl ?_
    refine lv_lneg hx hb dX2_divideByAbove_47 ?_
    refine kp_callN (rm := rm_become) (As := [.long (F_leastQuotient c ((c.2.2 u).1) (z_max x (0 : Int64)) y), .long (-(F_leastQuotient c (-((c.2.2 u).2)) (z_max x (0 : Int64)) y))]) (rest := []) (r := none) (st1 := []) (ws' := cw_W G (S_become c t (F_leastQuotient c ((c.2.2 u).1) (z_max x (0 : Int64)) y) (-(F_leastQuotient c (-((c.2.2 u).2)) (z_max x (0 : Int64)) y))) Z) B (C_become l D ty sz G Z hG c t ht (F_leastQuotient c ((c.2.2 u).1) (z_max x (0 : Int64)) y) (-(F_leastQuotient c (-((c.2.2 u).2)) (z_max x (0 : Int64)) y))) kt_become kw_104 kw_105 kw_106 (kc_rcN B hP ht) (by decide) rfl rfl (by decide) rfl (Nat.le_of_ble_eq_true rfl) hl.1 hP hS dX2_divideByAbove_48 rfl (fun H locs hP hS => ?_)
    exact kp_retv B (by simp only [S_divideByAbove, if_pos q_1]; exact hP) hS rfl dX2_divideByAbove_51
  · refine lv_aload hx hb dX2_divideByAbove_7 (lv_at hl 4 rfl) ?_
    refine kp_callN (rm := rm_becomeEmpty) (As := []) (rest := []) (r := none) (st1 := []) (ws' := cw_W G (S_becomeEmpty c t) Z) B (C_becomeEmpty l D ty sz G Z hG c t ht) kt_becomeEmpty kw_109 kw_110 kw_111 (kc_rcN B hP ht) (by decide) rfl rfl (by decide) rfl (Nat.le_of_ble_eq_true rfl) hl.1 hP hS dX2_divideByAbove_9 rfl (fun H locs hP hS => ?_)
    exact kp_retv B (by simp only [S_divideByAbove, if_neg q_1]; exact hP) hS rfl dX2_divideByAbove_12
def S_divide (c : cw_C) (u : Nat) (t : Nat) : cw_C :=
  if (F_isEmpty c u) = (0 : Int32) then (if (F_isEmpty c t) = (0 : Int32) then (if (F_isEmpty (S_divideByAbove (S_divideByAbove c u ((c.2.2 t).1) ((c.2.2 t).2) 8) u (-(((S_divideByAbove c u ((c.2.2 t).1) ((c.2.2 t).2) 8).2.2 t).2)) (-(((S_divideByAbove c u ((c.2.2 t).1) ((c.2.2 t).2) 8).2.2 t).1)) 9) 9) = (0 : Int32) then S_become (S_divideByAbove (S_divideByAbove c u ((c.2.2 t).1) ((c.2.2 t).2) 8) u (-(((S_divideByAbove c u ((c.2.2 t).1) ((c.2.2 t).2) 8).2.2 t).2)) (-(((S_divideByAbove c u ((c.2.2 t).1) ((c.2.2 t).2) 8).2.2 t).1)) 9) 9 (-(((S_divideByAbove (S_divideByAbove c u ((c.2.2 t).1) ((c.2.2 t).2) 8) u (-(((S_divideByAbove c u ((c.2.2 t).1) ((c.2.2 t).2) 8).2.2 t).2)) (-(((S_divideByAbove c u ((c.2.2 t).1) ((c.2.2 t).2) 8).2.2 t).1)) 9).2.2 9).2)) (-(((S_divideByAbove (S_divideByAbove c u ((c.2.2 t).1) ((c.2.2 t).2) 8) u (-(((S_divideByAbove c u ((c.2.2 t).1) ((c.2.2 t).2) 8).2.2 t).2)) (-(((S_divideByAbove c u ((c.2.2 t).1) ((c.2.2 t).2) 8).2.2 t).1)) 9).2.2 9).1)) else S_divideByAbove (S_divideByAbove c u ((c.2.2 t).1) ((c.2.2 t).2) 8) u (-(((S_divideByAbove c u ((c.2.2 t).1) ((c.2.2 t).2) 8).2.2 t).2)) (-(((S_divideByAbove c u ((c.2.2 t).1) ((c.2.2 t).2) 8).2.2 t).1)) 9) else S_becomeEmpty (S_becomeEmpty c 8) 9) else S_becomeEmpty (S_becomeEmpty c 8) 9
def rm_divide : Room := { frames := 3, cells := 0, slots := 0, locals := 94 }
set_option maxHeartbeats 4000000 in
set_option maxRecDepth 100000 in
theorem C_divide (l : Launch) (D : va_G) (ty : List (ClassId × FieldType)) (sz : Nat) (G : cw_G) (Z : va_W) (hG : cw_ok ty sz G Z) (c : cw_C) (u : Nat) (hu : u < 10) (t : Nat) (ht : t < 10) : kp_M l yX2_divide cX2_divide 3 none rm_divide D ty sz [.ref (aD G), .ref (aN G u), .ref (aN G t)] (cw_W G c Z) (none) (cw_W G (S_divide c u t) Z) := by
  refine kp_body (by decide) (Nat.le_of_ble_eq_true rfl) rfl ?_
  intro p e s m args below meth cd ls B hin hl hP hS
  obtain ⟨hx, hb, hml, hown, hlk, hr, hw, hE, hK, hsz⟩ := id B
  have hl : lv_has ls 3 [(0, .ref (aD G)), (1, .ref (aN G u)), (2, .ref (aN G t))] := hl
  refine lv_aload_n hx hb dX2_divide_0 rfl (lv_at hl 1 rfl) ?_
  refine kp_callNR (rm := rm_isEmpty) (As := []) (rest := []) (r := some (.int (F_isEmpty c u))) (st1 := [.int (F_isEmpty c u)]) B (C_isEmpty l D ty sz G Z hG c u hu) kt_isEmpty kw_75 kw_8 kw_9 (kc_rcN B hP hu) (by decide) ⟨rfl, rfl⟩ (by decide) rfl (Nat.le_of_ble_eq_true rfl) hl.1 hP hS dX2_divide_1 rfl ?_
  refine lv_if_ne (tgt := 14) hx hb dX2_divide_4 (by decide) (fun q_1 => ?_) (fun q_1 => ?_)
  · refine lv_aload_n hx hb dX2_divide_14 rfl (lv_at hl 0 rfl) ?_
    refine kc_getD (j := 2) (v := .ref (aN G 8)) B hP rfl (by decide) kw_101 dX2_divide_15 ?_
    refine kp_callN (rm := rm_becomeEmpty) (As := []) (rest := []) (r := none) (st1 := []) (ws' := cw_W G (S_becomeEmpty c 8) Z) B (C_becomeEmpty l D ty sz G Z hG c 8 (by decide)) kt_becomeEmpty kw_109 kw_110 kw_111 (kc_rcN B hP (by decide)) (by decide) rfl rfl (by decide) rfl (Nat.le_of_ble_eq_true rfl) hl.1 hP hS dX2_divide_18 rfl (fun H locs hP hS => ?_)
    refine lv_aload_n hx hb dX2_divide_21 rfl (lv_at hl 0 rfl) ?_
    refine kc_getD (j := 3) (v := .ref (aN G 9)) B hP rfl (by decide) kw_139 dX2_divide_22 ?_
    refine kp_callN (rm := rm_becomeEmpty) (As := []) (rest := []) (r := none) (st1 := []) (ws' := cw_W G (S_becomeEmpty (S_becomeEmpty c 8) 9) Z) B (C_becomeEmpty l D ty sz G Z hG (S_becomeEmpty c 8) 9 (by decide)) kt_becomeEmpty kw_109 kw_110 kw_111 (kc_rcN B hP (by decide)) (by decide) rfl rfl (by decide) rfl (Nat.le_of_ble_eq_true rfl) hl.1 hP hS dX2_divide_25 rfl (fun H locs hP hS => ?_)
    exact kp_retv B (by simp only [S_divide, if_neg q_1]; exact hP) hS rfl dX2_divide_28
  · refine lv_aload_n hx hb dX2_divide_7 rfl (lv_at hl 2 rfl) ?_
    refine kp_callNR (rm := rm_isEmpty) (As := []) (rest := []) (r := some (.int (F_isEmpty c t))) (st1 := [.int (F_isEmpty c t)]) B (C_isEmpty l D ty sz G Z hG c t ht) kt_isEmpty kw_75 kw_8 kw_9 (kc_rcN B hP ht) (by decide) ⟨rfl, rfl⟩ (by decide) rfl (Nat.le_of_ble_eq_true rfl) hl.1 hP hS dX2_divide_8 rfl ?_
    refine lv_if_eq (tgt := 29) hx hb dX2_divide_11 (by decide) (fun q_2 => ?_) (fun q_2 => ?_)
    · refine lv_aload_n hx hb dX2_divide_29 rfl (lv_at hl 0 rfl) ?_
      refine lv_aload_n hx hb dX2_divide_30 rfl (lv_at hl 1 rfl) ?_
      refine lv_aload_n hx hb dX2_divide_31 rfl (lv_at hl 2 rfl) ?_
      refine kc_getNX (j := 0) (k := t) (v := .long ((c.2.2 t).1)) B hP ht rfl (by decide) kw_87 dX2_divide_32 ?_
      refine lv_aload_n hx hb dX2_divide_35 rfl (lv_at hl 2 rfl) ?_
      refine kc_getNX (j := 1) (k := t) (v := .long ((c.2.2 t).2)) B hP ht rfl (by decide) kw_88 dX2_divide_36 ?_
      refine lv_aload_n hx hb dX2_divide_39 rfl (lv_at hl 0 rfl) ?_
      refine kc_getD (j := 2) (v := .ref (aN G 8)) B hP rfl (by decide) kw_101 dX2_divide_40 ?_
      refine kp_callV (rm := rm_divideByAbove) (As := [.ref (aN G u), .long ((c.2.2 t).1), .long ((c.2.2 t).2), .ref (aN G 8)]) (rest := []) (r := none) (st1 := []) (ws' := cw_W G (S_divideByAbove c u ((c.2.2 t).1) ((c.2.2 t).2) 8) Z) B (C_divideByAbove l D ty sz G Z hG c u hu ((c.2.2 t).1) ((c.2.2 t).2) 8 (by decide)) kt_divideByAbove kw_142 kw_143 kw_144 (kc_rcD B hP) (by decide) rfl rfl (by decide) rfl (Nat.le_of_ble_eq_true rfl) hl.1 hP hS dX2_divide_43 rfl (fun H locs hP hS => ?_)
      refine lv_aload_n hx hb dX2_divide_46 rfl (lv_at hl 0 rfl) ?_
      refine lv_aload_n hx hb dX2_divide_47 rfl (lv_at hl 1 rfl) ?_
      refine lv_aload_n hx hb dX2_divide_48 rfl (lv_at hl 2 rfl) ?_
      refine kc_getNX (j := 1) (k := t) (v := .long (((S_divideByAbove c u ((c.2.2 t).1) ((c.2.2 t).2) 8).2.2 t).2)) B hP ht rfl (by decide) kw_88 dX2_divide_49 ?_
      refine lv_lneg hx hb dX2_divide_52 ?_
      refine lv_aload_n hx hb dX2_divide_53 rfl (lv_at hl 2 rfl) ?_
      refine kc_getNX (j := 0) (k := t) (v := .long (((S_divideByAbove c u ((c.2.2 t).1) ((c.2.2 t).2) 8).2.2 t).1)) B hP ht rfl (by decide) kw_87 dX2_divide_54 ?_
      refine lv_lneg hx hb dX2_divide_57 ?_
      refine lv_aload_n hx hb dX2_divide_58 rfl (lv_at hl 0 rfl) ?_
      refine kc_getD (j := 3) (v := .ref (aN G 9)) B hP rfl (by decide) kw_139 dX2_divide_59 ?_
      refine kp_callV (rm := rm_divideByAbove) (As := [.ref (aN G u), .long (-(((S_divideByAbove c u ((c.2.2 t).1) ((c.2.2 t).2) 8).2.2 t).2)), .long (-(((S_divideByAbove c u ((c.2.2 t).1) ((c.2.2 t).2) 8).2.2 t).1)), .ref (aN G 9)]) (rest := []) (r := none) (st1 := []) (ws' := cw_W G (S_divideByAbove (S_divideByAbove c u ((c.2.2 t).1) ((c.2.2 t).2) 8) u (-(((S_divideByAbove c u ((c.2.2 t).1) ((c.2.2 t).2) 8).2.2 t).2)) (-(((S_divideByAbove c u ((c.2.2 t).1) ((c.2.2 t).2) 8).2.2 t).1)) 9) Z) B (C_divideByAbove l D ty sz G Z hG (S_divideByAbove c u ((c.2.2 t).1) ((c.2.2 t).2) 8) u hu (-(((S_divideByAbove c u ((c.2.2 t).1) ((c.2.2 t).2) 8).2.2 t).2)) (-(((S_divideByAbove c u ((c.2.2 t).1) ((c.2.2 t).2) 8).2.2 t).1)) 9 (by decide)) kt_divideByAbove kw_142 kw_143 kw_144 (kc_rcD B hP) (by decide) rfl rfl (by decide) rfl (Nat.le_of_ble_eq_true rfl) hl.1 hP hS dX2_divide_62 rfl (fun H locs hP hS => ?_)
      refine lv_aload_n hx hb dX2_divide_65 rfl (lv_at hl 0 rfl) ?_
      refine kc_getD (j := 3) (v := .ref (aN G 9)) B hP rfl (by decide) kw_139 dX2_divide_66 ?_
      refine kp_callNR (rm := rm_isEmpty) (As := []) (rest := []) (r := some (.int (F_isEmpty (S_divideByAbove (S_divideByAbove c u ((c.2.2 t).1) ((c.2.2 t).2) 8) u (-(((S_divideByAbove c u ((c.2.2 t).1) ((c.2.2 t).2) 8).2.2 t).2)) (-(((S_divideByAbove c u ((c.2.2 t).1) ((c.2.2 t).2) 8).2.2 t).1)) 9) 9))) (st1 := [.int (F_isEmpty (S_divideByAbove (S_divideByAbove c u ((c.2.2 t).1) ((c.2.2 t).2) 8) u (-(((S_divideByAbove c u ((c.2.2 t).1) ((c.2.2 t).2) 8).2.2 t).2)) (-(((S_divideByAbove c u ((c.2.2 t).1) ((c.2.2 t).2) 8).2.2 t).1)) 9) 9)]) B (C_isEmpty l D ty sz G Z hG (S_divideByAbove (S_divideByAbove c u ((c.2.2 t).1) ((c.2.2 t).2) 8) u (-(((S_divideByAbove c u ((c.2.2 t).1) ((c.2.2 t).2) 8).2.2 t).2)) (-(((S_divideByAbove c u ((c.2.2 t).1) ((c.2.2 t).2) 8).2.2 t).1)) 9) 9 (by decide)) kt_isEmpty kw_75 kw_8 kw_9 (kc_rcN B hP (by decide)) (by decide) ⟨rfl, rfl⟩ (by decide) rfl (Nat.le_of_ble_eq_true rfl) hl.1 hP hS dX2_divide_69 rfl ?_
      refine lv_if_ne (tgt := 98) hx hb dX2_divide_72 (by decide) (fun q_3 => ?_) (fun q_3 => ?_)
      · exact kp_retv B (by simp only [S_divide, if_pos q_1, if_pos q_2, if_neg q_3]; exact hP) hS rfl dX2_divide_98
      · refine lv_aload_n hx hb dX2_divide_75 rfl (lv_at hl 0 rfl) ?_
        refine kc_getD (j := 3) (v := .ref (aN G 9)) B hP rfl (by decide) kw_139 dX2_divide_76 ?_
        refine lv_aload_n hx hb dX2_divide_79 rfl (lv_at hl 0 rfl) ?_
        refine kc_getD (j := 3) (v := .ref (aN G 9)) B hP rfl (by decide) kw_139 dX2_divide_80 ?_
        refine kc_getNX (j := 1) (k := 9) (v := .long (((S_divideByAbove (S_divideByAbove c u ((c.2.2 t).1) ((c.2.2 t).2) 8) u (-(((S_divideByAbove c u ((c.2.2 t).1) ((c.2.2 t).2) 8).2.2 t).2)) (-(((S_divideByAbove c u ((c.2.2 t).1) ((c.2.2 t).2) 8).2.2 t).1)) 9).2.2 9).2)) B hP (by decide) rfl (by decide) kw_88 dX2_divide_83 ?_
        refine lv_lneg hx hb dX2_divide_86 ?_
        refine lv_aload_n hx hb dX2_divide_87 rfl (lv_at hl 0 rfl) ?_
        refine kc_getD (j := 3) (v := .ref (aN G 9)) B hP rfl (by decide) kw_139 dX2_divide_88 ?_
        refine kc_getNX (j := 0) (k := 9) (v := .long (((S_divideByAbove (S_divideByAbove c u ((c.2.2 t).1) ((c.2.2 t).2) 8) u (-(((S_divideByAbove c u ((c.2.2 t).1) ((c.2.2 t).2) 8).2.2 t).2)) (-(((S_divideByAbove c u ((c.2.2 t).1) ((c.2.2 t).2) 8).2.2 t).1)) 9).2.2 9).1)) B hP (by decide) rfl (by decide) kw_87 dX2_divide_91 ?_
        refine lv_lneg hx hb dX2_divide_94 ?_
        refine kp_callN (rm := rm_become) (As := [.long (-(((S_divideByAbove (S_divideByAbove c u ((c.2.2 t).1) ((c.2.2 t).2) 8) u (-(((S_divideByAbove c u ((c.2.2 t).1) ((c.2.2 t).2) 8).2.2 t).2)) (-(((S_divideByAbove c u ((c.2.2 t).1) ((c.2.2 t).2) 8).2.2 t).1)) 9).2.2 9).2)), .long (-(((S_divideByAbove (S_divideByAbove c u ((c.2.2 t).1) ((c.2.2 t).2) 8) u (-(((S_divideByAbove c u ((c.2.2 t).1) ((c.2.2 t).2) 8).2.2 t).2)) (-(((S_divideByAbove c u ((c.2.2 t).1) ((c.2.2 t).2) 8).2.2 t).1)) 9).2.2 9).1))]) (rest := []) (r := none) (st1 := []) (ws' := cw_W G (S_become (S_divideByAbove (S_divideByAbove c u ((c.2.2 t).1) ((c.2.2 t).2) 8) u (-(((S_divideByAbove c u ((c.2.2 t).1) ((c.2.2 t).2) 8).2.2 t).2)) (-(((S_divideByAbove c u ((c.2.2 t).1) ((c.2.2 t).2) 8).2.2 t).1)) 9) 9 (-(((S_divideByAbove (S_divideByAbove c u ((c.2.2 t).1) ((c.2.2 t).2) 8) u (-(((S_divideByAbove c u ((c.2.2 t).1) ((c.2.2 t).2) 8).2.2 t).2)) (-(((S_divideByAbove c u ((c.2.2 t).1) ((c.2.2 t).2) 8).2.2 t).1)) 9).2.2 9).2)) (-(((S_divideByAbove (S_divideByAbove c u ((c.2.2 t).1) ((c.2.2 t).2) 8) u (-(((S_divideByAbove c u ((c.2.2 t).1) ((c.2.2 t).2) 8).2.2 t).2)) (-(((S_divideByAbove c u ((c.2.2 t).1) ((c.2.2 t).2) 8).2.2 t).1)) 9).2.2 9).1))) Z) B (C_become l D ty sz G Z hG (S_divideByAbove (S_divideByAbove c u ((c.2.2 t).1) ((c.2.2 t).2) 8) u (-(((S_divideByAbove c u ((c.2.2 t).1) ((c.2.2 t).2) 8).2.2 t).2)) (-(((S_divideByAbove c u ((c.2.2 t).1) ((c.2.2 t).2) 8).2.2 t).1)) 9) 9 (by decide) (-(((S_divideByAbove (S_divideByAbove c u ((c.2.2 t).1) ((c.2.2 t).2) 8) u (-(((S_divideByAbove c u ((c.2.2 t).1) ((c.2.2 t).2) 8).2.2 t).2)) (-(((S_divideByAbove c u ((c.2.2 t).1) ((c.2.2 t).2) 8).2.2 t).1)) 9).2.2 9).2)) (-(((S_divideByAbove (S_divideByAbove c u ((c.2.2 t).1) ((c.2.2 t).2) 8) u (-(((S_divideByAbove c u ((c.2.2 t).1) ((c.2.2 t).2) 8).2.2 t).2)) (-(((S_divideByAbove c u ((c.2.2 t).1) ((c.2.2 t).2) 8).2.2 t).1)) 9).2.2 9).1))) kt_become kw_104 kw_105 kw_106 (kc_rcN B hP (by decide)) (by decide) rfl rfl (by decide) rfl (Nat.le_of_ble_eq_true rfl) hl.1 hP hS dX2_divide_95 rfl (fun H locs hP hS => ?_)
        exact kp_retv B (by simp only [S_divide, if_pos q_1, if_pos q_2, if_pos q_3]; exact hP) hS rfl dX2_divide_98
    · refine lv_aload_n hx hb dX2_divide_14 rfl (lv_at hl 0 rfl) ?_
      refine kc_getD (j := 2) (v := .ref (aN G 8)) B hP rfl (by decide) kw_101 dX2_divide_15 ?_
      refine kp_callN (rm := rm_becomeEmpty) (As := []) (rest := []) (r := none) (st1 := []) (ws' := cw_W G (S_becomeEmpty c 8) Z) B (C_becomeEmpty l D ty sz G Z hG c 8 (by decide)) kt_becomeEmpty kw_109 kw_110 kw_111 (kc_rcN B hP (by decide)) (by decide) rfl rfl (by decide) rfl (Nat.le_of_ble_eq_true rfl) hl.1 hP hS dX2_divide_18 rfl (fun H locs hP hS => ?_)
      refine lv_aload_n hx hb dX2_divide_21 rfl (lv_at hl 0 rfl) ?_
      refine kc_getD (j := 3) (v := .ref (aN G 9)) B hP rfl (by decide) kw_139 dX2_divide_22 ?_
      refine kp_callN (rm := rm_becomeEmpty) (As := []) (rest := []) (r := none) (st1 := []) (ws' := cw_W G (S_becomeEmpty (S_becomeEmpty c 8) 9) Z) B (C_becomeEmpty l D ty sz G Z hG (S_becomeEmpty c 8) 9 (by decide)) kt_becomeEmpty kw_109 kw_110 kw_111 (kc_rcN B hP (by decide)) (by decide) rfl rfl (by decide) rfl (Nat.le_of_ble_eq_true rfl) hl.1 hP hS dX2_divide_25 rfl (fun H locs hP hS => ?_)
      exact kp_retv B (by simp only [S_divide, if_pos q_1, if_neg q_2]; exact hP) hS rfl dX2_divide_28
def S_reckonOne (c : cw_C) (x : Int32) (u : Nat) : cw_C :=
  if (F_isEmpty c u) = (0 : Int32) then (if x = (8 : Int32) then S_become c 8 (-((c.2.2 u).2)) (-((c.2.2 u).1)) else (if x = (9 : Int32) then S_become (S_takeSize c u) 8 (F_productNotAbove (S_takeSize c u) (((S_takeSize c u).2.2 8).1) (((S_takeSize c u).2.2 8).1)) (F_productNotBelow (S_takeSize c u) (((S_takeSize c u).2.2 8).2) (((S_takeSize c u).2.2 8).2)) else (if x = (10 : Int32) then S_takeRoot c u else (if x = (11 : Int32) then S_takeSize c u else S_becomeEmpty c 8)))) else S_becomeEmpty c 8
def rm_reckonOne : Room := { frames := 3, cells := 0, slots := 0, locals := 73 }
set_option maxHeartbeats 4000000 in
set_option maxRecDepth 100000 in
theorem C_reckonOne (l : Launch) (D : va_G) (ty : List (ClassId × FieldType)) (sz : Nat) (G : cw_G) (Z : va_W) (hG : cw_ok ty sz G Z) (c : cw_C) (x : Int32) (u : Nat) (hu : u < 10) : kp_M l yX2_reckonOne cX2_reckonOne 3 none rm_reckonOne D ty sz [.ref (aD G), .int x, .ref (aN G u)] (cw_W G c Z) (none) (cw_W G (S_reckonOne c x u) Z) := by
  refine kp_body (by decide) (Nat.le_of_ble_eq_true rfl) rfl ?_
  intro p e s m args below meth cd ls B hin hl hP hS
  obtain ⟨hx, hb, hml, hown, hlk, hr, hw, hE, hK, hsz⟩ := id B
  have hl : lv_has ls 3 [(0, .ref (aD G)), (1, .int x), (2, .ref (aN G u))] := hl
  refine lv_aload_n hx hb dX2_reckonOne_0 rfl (lv_at hl 2 rfl) ?_
  refine kp_callNR (rm := rm_isEmpty) (As := []) (rest := []) (r := some (.int (F_isEmpty c u))) (st1 := [.int (F_isEmpty c u)]) B (C_isEmpty l D ty sz G Z hG c u hu) kt_isEmpty kw_75 kw_8 kw_9 (kc_rcN B hP hu) (by decide) ⟨rfl, rfl⟩ (by decide) rfl (Nat.le_of_ble_eq_true rfl) hl.1 hP hS dX2_reckonOne_1 rfl ?_
  refine lv_if_eq (tgt := 15) hx hb dX2_reckonOne_4 (by decide) (fun q_1 => ?_) (fun q_1 => ?_)
  · refine lv_iload_n hx hb dX2_reckonOne_15 rfl (lv_at hl 1 rfl) ?_
    by_cases q_2 : x = (8 : Int32)
    · refine lv_tableIn (tgt := 48) hx hb dX2_reckonOne_16 (by rw [q_2]; decide) (by rw [q_2]; decide) (by rw [q_2]; rfl) (by decide) ?_
      refine lv_aload_n hx hb dX2_reckonOne_48 rfl (lv_at hl 0 rfl) ?_
      refine kc_getD (j := 2) (v := .ref (aN G 8)) B hP rfl (by decide) kw_101 dX2_reckonOne_49 ?_
      refine lv_aload_n hx hb dX2_reckonOne_52 rfl (lv_at hl 2 rfl) ?_
      refine kc_getNX (j := 1) (k := u) (v := .long ((c.2.2 u).2)) B hP hu rfl (by decide) kw_88 dX2_reckonOne_53 ?_
      refine lv_lneg hx hb dX2_reckonOne_56 ?_
      refine lv_aload_n hx hb dX2_reckonOne_57 rfl (lv_at hl 2 rfl) ?_
      refine kc_getNX (j := 0) (k := u) (v := .long ((c.2.2 u).1)) B hP hu rfl (by decide) kw_87 dX2_reckonOne_58 ?_
      refine lv_lneg hx hb dX2_reckonOne_61 ?_
      refine kp_callN (rm := rm_become) (As := [.long (-((c.2.2 u).2)), .long (-((c.2.2 u).1))]) (rest := []) (r := none) (st1 := []) (ws' := cw_W G (S_become c 8 (-((c.2.2 u).2)) (-((c.2.2 u).1))) Z) B (C_become l D ty sz G Z hG c 8 (by decide) (-((c.2.2 u).2)) (-((c.2.2 u).1))) kt_become kw_104 kw_105 kw_106 (kc_rcN B hP (by decide)) (by decide) rfl rfl (by decide) rfl (Nat.le_of_ble_eq_true rfl) hl.1 hP hS dX2_reckonOne_62 rfl (fun H locs hP hS => ?_)
      refine lv_goto (tgt := 142) hx hb dX2_reckonOne_65 (by decide) ?_
      exact kp_retv B (by simp only [S_reckonOne, if_pos q_1, if_pos q_2]; exact hP) hS rfl dX2_reckonOne_142
    · by_cases q_3 : x = (9 : Int32)
      · refine lv_tableIn (tgt := 68) hx hb dX2_reckonOne_16 (by rw [q_3]; decide) (by rw [q_3]; decide) (by rw [q_3]; rfl) (by decide) ?_
        refine lv_aload_n hx hb dX2_reckonOne_68 rfl (lv_at hl 0 rfl) ?_
        refine lv_aload_n hx hb dX2_reckonOne_69 rfl (lv_at hl 2 rfl) ?_
        refine kp_callV (rm := rm_takeSize) (As := [.ref (aN G u)]) (rest := []) (r := none) (st1 := []) (ws' := cw_W G (S_takeSize c u) Z) B (C_takeSize l D ty sz G Z hG c u hu) kt_takeSize kw_147 kw_148 kw_149 (kc_rcD B hP) (by decide) rfl rfl (by decide) rfl (Nat.le_of_ble_eq_true rfl) hl.1 hP hS dX2_reckonOne_70 rfl (fun H locs hP hS => ?_)
        refine lv_aload_n hx hb dX2_reckonOne_73 rfl (lv_at hl 0 rfl) ?_
        refine kc_getD (j := 2) (v := .ref (aN G 8)) B hP rfl (by decide) kw_101 dX2_reckonOne_74 ?_
        refine lv_aload_n hx hb dX2_reckonOne_77 rfl (lv_at hl 0 rfl) ?_
        refine lv_aload_n hx hb dX2_reckonOne_78 rfl (lv_at hl 0 rfl) ?_
        refine kc_getD (j := 2) (v := .ref (aN G 8)) B hP rfl (by decide) kw_101 dX2_reckonOne_79 ?_
        refine kc_getNX (j := 0) (k := 8) (v := .long (((S_takeSize c u).2.2 8).1)) B hP (by decide) rfl (by decide) kw_87 dX2_reckonOne_82 ?_
        refine lv_aload_n hx hb dX2_reckonOne_85 rfl (lv_at hl 0 rfl) ?_
        refine kc_getD (j := 2) (v := .ref (aN G 8)) B hP rfl (by decide) kw_101 dX2_reckonOne_86 ?_
        refine kc_getNX (j := 0) (k := 8) (v := .long (((S_takeSize c u).2.2 8).1)) B hP (by decide) rfl (by decide) kw_87 dX2_reckonOne_89 ?_
        refine kp_callVR (rm := rm_productNotAbove) (As := [.long (((S_takeSize c u).2.2 8).1), .long (((S_takeSize c u).2.2 8).1)]) (rest := [.ref (aN G 8)]) (r := some (.long (F_productNotAbove (S_takeSize c u) (((S_takeSize c u).2.2 8).1) (((S_takeSize c u).2.2 8).1)))) (st1 := [.long (F_productNotAbove (S_takeSize c u) (((S_takeSize c u).2.2 8).1) (((S_takeSize c u).2.2 8).1)), .ref (aN G 8)]) B (C_productNotAbove l D ty sz G Z hG (S_takeSize c u) (((S_takeSize c u).2.2 8).1) (((S_takeSize c u).2.2 8).1)) kt_productNotAbove kw_84 kw_85 kw_86 (kc_rcD B hP) (by decide) ⟨rfl, rfl⟩ (by decide) rfl (Nat.le_of_ble_eq_true rfl) hl.1 hP hS dX2_reckonOne_92 rfl ?_
        refine lv_aload_n hx hb dX2_reckonOne_95 rfl (lv_at hl 0 rfl) ?_
        refine lv_aload_n hx hb dX2_reckonOne_96 rfl (lv_at hl 0 rfl) ?_
        refine kc_getD (j := 2) (v := .ref (aN G 8)) B hP rfl (by decide) kw_101 dX2_reckonOne_97 ?_
        refine kc_getNX (j := 1) (k := 8) (v := .long (((S_takeSize c u).2.2 8).2)) B hP (by decide) rfl (by decide) kw_88 dX2_reckonOne_100 ?_
        refine lv_aload_n hx hb dX2_reckonOne_103 rfl (lv_at hl 0 rfl) ?_
        refine kc_getD (j := 2) (v := .ref (aN G 8)) B hP rfl (by decide) kw_101 dX2_reckonOne_104 ?_
        refine kc_getNX (j := 1) (k := 8) (v := .long (((S_takeSize c u).2.2 8).2)) B hP (by decide) rfl (by decide) kw_88 dX2_reckonOne_107 ?_
        refine kp_callVR (rm := rm_productNotBelow) (As := [.long (((S_takeSize c u).2.2 8).2), .long (((S_takeSize c u).2.2 8).2)]) (rest := [.long (F_productNotAbove (S_takeSize c u) (((S_takeSize c u).2.2 8).1) (((S_takeSize c u).2.2 8).1)), .ref (aN G 8)]) (r := some (.long (F_productNotBelow (S_takeSize c u) (((S_takeSize c u).2.2 8).2) (((S_takeSize c u).2.2 8).2)))) (st1 := [.long (F_productNotBelow (S_takeSize c u) (((S_takeSize c u).2.2 8).2) (((S_takeSize c u).2.2 8).2)), .long (F_productNotAbove (S_takeSize c u) (((S_takeSize c u).2.2 8).1) (((S_takeSize c u).2.2 8).1)), .ref (aN G 8)]) B (C_productNotBelow l D ty sz G Z hG (S_takeSize c u) (((S_takeSize c u).2.2 8).2) (((S_takeSize c u).2.2 8).2)) kt_productNotBelow kw_95 kw_96 kw_97 (kc_rcD B hP) (by decide) ⟨rfl, rfl⟩ (by decide) rfl (Nat.le_of_ble_eq_true rfl) hl.1 hP hS dX2_reckonOne_110 rfl ?_
        refine kp_callN (rm := rm_become) (As := [.long (F_productNotAbove (S_takeSize c u) (((S_takeSize c u).2.2 8).1) (((S_takeSize c u).2.2 8).1)), .long (F_productNotBelow (S_takeSize c u) (((S_takeSize c u).2.2 8).2) (((S_takeSize c u).2.2 8).2))]) (rest := []) (r := none) (st1 := []) (ws' := cw_W G (S_become (S_takeSize c u) 8 (F_productNotAbove (S_takeSize c u) (((S_takeSize c u).2.2 8).1) (((S_takeSize c u).2.2 8).1)) (F_productNotBelow (S_takeSize c u) (((S_takeSize c u).2.2 8).2) (((S_takeSize c u).2.2 8).2))) Z) B (C_become l D ty sz G Z hG (S_takeSize c u) 8 (by decide) (F_productNotAbove (S_takeSize c u) (((S_takeSize c u).2.2 8).1) (((S_takeSize c u).2.2 8).1)) (F_productNotBelow (S_takeSize c u) (((S_takeSize c u).2.2 8).2) (((S_takeSize c u).2.2 8).2))) kt_become kw_104 kw_105 kw_106 (kc_rcN B hP (by decide)) (by decide) rfl rfl (by decide) rfl (Nat.le_of_ble_eq_true rfl) hl.1 hP hS dX2_reckonOne_113 rfl (fun H locs hP hS => ?_)
        refine lv_goto (tgt := 142) hx hb dX2_reckonOne_116 (by decide) ?_
        exact kp_retv B (by simp only [S_reckonOne, if_pos q_1, if_neg q_2, if_pos q_3]; exact hP) hS rfl dX2_reckonOne_142
      · by_cases q_4 : x = (10 : Int32)
        · refine lv_tableIn (tgt := 119) hx hb dX2_reckonOne_16 (by rw [q_4]; decide) (by rw [q_4]; decide) (by rw [q_4]; rfl) (by decide) ?_
          refine lv_aload_n hx hb dX2_reckonOne_119 rfl (lv_at hl 0 rfl) ?_
          refine lv_aload_n hx hb dX2_reckonOne_120 rfl (lv_at hl 2 rfl) ?_
          refine kp_callV (rm := rm_takeRoot) (As := [.ref (aN G u)]) (rest := []) (r := none) (st1 := []) (ws' := cw_W G (S_takeRoot c u) Z) B (C_takeRoot l D ty sz G Z hG c u hu) kt_takeRoot kw_152 kw_153 kw_154 (kc_rcD B hP) (by decide) rfl rfl (by decide) rfl (Nat.le_of_ble_eq_true rfl) hl.1 hP hS dX2_reckonOne_121 rfl (fun H locs hP hS => ?_)
          refine lv_goto (tgt := 142) hx hb dX2_reckonOne_124 (by decide) ?_
          exact kp_retv B (by simp only [S_reckonOne, if_pos q_1, if_neg q_2, if_neg q_3, if_pos q_4]; exact hP) hS rfl dX2_reckonOne_142
        · by_cases q_5 : x = (11 : Int32)
          · refine lv_tableIn (tgt := 127) hx hb dX2_reckonOne_16 (by rw [q_5]; decide) (by rw [q_5]; decide) (by rw [q_5]; rfl) (by decide) ?_
            refine lv_aload_n hx hb dX2_reckonOne_127 rfl (lv_at hl 0 rfl) ?_
            refine lv_aload_n hx hb dX2_reckonOne_128 rfl (lv_at hl 2 rfl) ?_
            refine kp_callV (rm := rm_takeSize) (As := [.ref (aN G u)]) (rest := []) (r := none) (st1 := []) (ws' := cw_W G (S_takeSize c u) Z) B (C_takeSize l D ty sz G Z hG c u hu) kt_takeSize kw_147 kw_148 kw_149 (kc_rcD B hP) (by decide) rfl rfl (by decide) rfl (Nat.le_of_ble_eq_true rfl) hl.1 hP hS dX2_reckonOne_129 rfl (fun H locs hP hS => ?_)
            refine lv_goto (tgt := 142) hx hb dX2_reckonOne_132 (by decide) ?_
            exact kp_retv B (by simp only [S_reckonOne, if_pos q_1, if_neg q_2, if_neg q_3, if_neg q_4, if_pos q_5]; exact hP) hS rfl dX2_reckonOne_142
          · refine lv_tableOut (tgt := 135) hx hb dX2_reckonOne_16 (kc_out4 q_2 q_3 q_4 q_5) (by decide) ?_
            refine lv_aload_n hx hb dX2_reckonOne_135 rfl (lv_at hl 0 rfl) ?_
            refine kc_getD (j := 2) (v := .ref (aN G 8)) B hP rfl (by decide) kw_101 dX2_reckonOne_136 ?_
            refine kp_callN (rm := rm_becomeEmpty) (As := []) (rest := []) (r := none) (st1 := []) (ws' := cw_W G (S_becomeEmpty c 8) Z) B (C_becomeEmpty l D ty sz G Z hG c 8 (by decide)) kt_becomeEmpty kw_109 kw_110 kw_111 (kc_rcN B hP (by decide)) (by decide) rfl rfl (by decide) rfl (Nat.le_of_ble_eq_true rfl) hl.1 hP hS dX2_reckonOne_139 rfl (fun H locs hP hS => ?_)
            exact kp_retv B (by simp only [S_reckonOne, if_pos q_1, if_neg q_2, if_neg q_3, if_neg q_4, if_neg q_5]; exact hP) hS rfl dX2_reckonOne_142
  · refine lv_aload_n hx hb dX2_reckonOne_7 rfl (lv_at hl 0 rfl) ?_
    refine kc_getD (j := 2) (v := .ref (aN G 8)) B hP rfl (by decide) kw_101 dX2_reckonOne_8 ?_
    refine kp_callN (rm := rm_becomeEmpty) (As := []) (rest := []) (r := none) (st1 := []) (ws' := cw_W G (S_becomeEmpty c 8) Z) B (C_becomeEmpty l D ty sz G Z hG c 8 (by decide)) kt_becomeEmpty kw_109 kw_110 kw_111 (kc_rcN B hP (by decide)) (by decide) rfl rfl (by decide) rfl (Nat.le_of_ble_eq_true rfl) hl.1 hP hS dX2_reckonOne_11 rfl (fun H locs hP hS => ?_)
    exact kp_retv B (by simp only [S_reckonOne, if_neg q_1]; exact hP) hS rfl dX2_reckonOne_14
def S_reckonTwo (c : cw_C) (x : Int32) (u : Nat) (t : Nat) : cw_C :=
  if x = (4 : Int32) then S_join c u t else (if (F_isEmpty c u) = (0 : Int32) then (if (F_isEmpty c t) = (0 : Int32) then (if x = (0 : Int32) then S_become c 8 (F_plus ((c.2.2 u).1) ((c.2.2 t).1)) (F_plus ((c.2.2 u).2) ((c.2.2 t).2)) else (if x = (1 : Int32) then S_become c 8 (F_plus ((c.2.2 u).1) (-((c.2.2 t).2))) (F_plus ((c.2.2 u).2) (-((c.2.2 t).1))) else (if x = (2 : Int32) then S_multiply c u t else (if x = (3 : Int32) then S_join (S_divide c u t) 8 9 else (if x = (5 : Int32) then S_meet c u t else (if x = (6 : Int32) then S_become c 8 (z_min ((c.2.2 u).1) ((c.2.2 t).1)) (z_min ((c.2.2 u).2) ((c.2.2 t).2)) else (if x = (7 : Int32) then S_become c 8 (z_max ((c.2.2 u).1) ((c.2.2 t).1)) (z_max ((c.2.2 u).2) ((c.2.2 t).2)) else S_becomeEmpty c 8))))))) else S_becomeEmpty c 8) else S_becomeEmpty c 8)
def rm_reckonTwo : Room := { frames := 4, cells := 0, slots := 0, locals := 116 }
set_option maxHeartbeats 4000000 in
set_option maxRecDepth 100000 in
theorem C_reckonTwo (l : Launch) (D : va_G) (ty : List (ClassId × FieldType)) (sz : Nat) (G : cw_G) (Z : va_W) (hG : cw_ok ty sz G Z) (c : cw_C) (x : Int32) (u : Nat) (hu : u < 10) (t : Nat) (ht : t < 10) : kp_M l yX2_reckonTwo cX2_reckonTwo 4 none rm_reckonTwo D ty sz [.ref (aD G), .int x, .ref (aN G u), .ref (aN G t)] (cw_W G c Z) (none) (cw_W G (S_reckonTwo c x u t) Z) := by
  refine kp_body (by decide) (Nat.le_of_ble_eq_true rfl) rfl ?_
  intro p e s m args below meth cd ls B hin hl hP hS
  obtain ⟨hx, hb, hml, hown, hlk, hr, hw, hE, hK, hsz⟩ := id B
  have hl : lv_has ls 4 [(0, .ref (aD G)), (1, .int x), (2, .ref (aN G u)), (3, .ref (aN G t))] := hl
  refine lv_iload_n hx hb dX2_reckonTwo_0 rfl (lv_at hl 1 rfl) ?_
  refine lv_iconst (v := (4 : Int32)) hx hb dX2_reckonTwo_1 (by decide) ?_
  refine lv_icmp_ne (tgt := 12) hx hb dX2_reckonTwo_2 (by decide) (fun q_1 => ?_) (fun q_1 => ?_)
  · refine lv_aload_n hx hb dX2_reckonTwo_12 rfl (lv_at hl 2 rfl) ?_
    refine kp_callNR (rm := rm_isEmpty) (As := []) (rest := []) (r := some (.int (F_isEmpty c u))) (st1 := [.int (F_isEmpty c u)]) B (C_isEmpty l D ty sz G Z hG c u hu) kt_isEmpty kw_75 kw_8 kw_9 (kc_rcN B hP hu) (by decide) ⟨rfl, rfl⟩ (by decide) rfl (Nat.le_of_ble_eq_true rfl) hl.1 hP hS dX2_reckonTwo_13 rfl ?_
    refine lv_if_ne (tgt := 26) hx hb dX2_reckonTwo_16 (by decide) (fun q_2 => ?_) (fun q_2 => ?_)
    · refine lv_aload_n hx hb dX2_reckonTwo_26 rfl (lv_at hl 0 rfl) ?_
      refine kc_getD (j := 2) (v := .ref (aN G 8)) B hP rfl (by decide) kw_101 dX2_reckonTwo_27 ?_
      refine kp_callN (rm := rm_becomeEmpty) (As := []) (rest := []) (r := none) (st1 := []) (ws' := cw_W G (S_becomeEmpty c 8) Z) B (C_becomeEmpty l D ty sz G Z hG c 8 (by decide)) kt_becomeEmpty kw_109 kw_110 kw_111 (kc_rcN B hP (by decide)) (by decide) rfl rfl (by decide) rfl (Nat.le_of_ble_eq_true rfl) hl.1 hP hS dX2_reckonTwo_30 rfl (fun H locs hP hS => ?_)
      exact kp_retv B (by simp only [S_reckonTwo, if_neg q_1, if_neg q_2]; exact hP) hS rfl dX2_reckonTwo_33
    · refine lv_aload_n hx hb dX2_reckonTwo_19 rfl (lv_at hl 3 rfl) ?_
      refine kp_callNR (rm := rm_isEmpty) (As := []) (rest := []) (r := some (.int (F_isEmpty c t))) (st1 := [.int (F_isEmpty c t)]) B (C_isEmpty l D ty sz G Z hG c t ht) kt_isEmpty kw_75 kw_8 kw_9 (kc_rcN B hP ht) (by decide) ⟨rfl, rfl⟩ (by decide) rfl (Nat.le_of_ble_eq_true rfl) hl.1 hP hS dX2_reckonTwo_20 rfl ?_
      refine lv_if_eq (tgt := 34) hx hb dX2_reckonTwo_23 (by decide) (fun q_3 => ?_) (fun q_3 => ?_)
      · refine lv_iload_n hx hb dX2_reckonTwo_34 rfl (lv_at hl 1 rfl) ?_
        by_cases q_4 : x = (0 : Int32)
        · refine lv_tableIn (tgt := 80) hx hb dX2_reckonTwo_35 (by rw [q_4]; decide) (by rw [q_4]; decide) (by rw [q_4]; rfl) (by decide) ?_
          refine lv_aload_n hx hb dX2_reckonTwo_80 rfl (lv_at hl 0 rfl) ?_
          refine kc_getD (j := 2) (v := .ref (aN G 8)) B hP rfl (by decide) kw_101 dX2_reckonTwo_81 ?_
          refine lv_aload_n hx hb dX2_reckonTwo_84 rfl (lv_at hl 2 rfl) ?_
          refine kc_getNX (j := 0) (k := u) (v := .long ((c.2.2 u).1)) B hP hu rfl (by decide) kw_87 dX2_reckonTwo_85 ?_
          refine lv_aload_n hx hb dX2_reckonTwo_88 rfl (lv_at hl 3 rfl) ?_
          refine kc_getNX (j := 0) (k := t) (v := .long ((c.2.2 t).1)) B hP ht rfl (by decide) kw_87 dX2_reckonTwo_89 ?_
          refine kp_callSR (rm := rm_plus) (As := [.long ((c.2.2 u).1), .long ((c.2.2 t).1)]) (rest := [.ref (aN G 8)]) (r := some (.long (F_plus ((c.2.2 u).1) ((c.2.2 t).1)))) (st1 := [.long (F_plus ((c.2.2 u).1) ((c.2.2 t).1)), .ref (aN G 8)]) B (C_plus l D ty sz G Z hG c ((c.2.2 u).1) ((c.2.2 t).1)) kt_plus kw_114 kw_115 (by decide) ⟨rfl, rfl⟩ (by decide) rfl (Nat.le_of_ble_eq_true rfl) hl.1 hP hS dX2_reckonTwo_92 rfl ?_
          refine lv_aload_n hx hb dX2_reckonTwo_95 rfl (lv_at hl 2 rfl) ?_
          refine kc_getNX (j := 1) (k := u) (v := .long ((c.2.2 u).2)) B hP hu rfl (by decide) kw_88 dX2_reckonTwo_96 ?_
          refine lv_aload_n hx hb dX2_reckonTwo_99 rfl (lv_at hl 3 rfl) ?_
          refine kc_getNX (j := 1) (k := t) (v := .long ((c.2.2 t).2)) B hP ht rfl (by decide) kw_88 dX2_reckonTwo_100 ?_
          refine kp_callSR (rm := rm_plus) (As := [.long ((c.2.2 u).2), .long ((c.2.2 t).2)]) (rest := [.long (F_plus ((c.2.2 u).1) ((c.2.2 t).1)), .ref (aN G 8)]) (r := some (.long (F_plus ((c.2.2 u).2) ((c.2.2 t).2)))) (st1 := [.long (F_plus ((c.2.2 u).2) ((c.2.2 t).2)), .long (F_plus ((c.2.2 u).1) ((c.2.2 t).1)), .ref (aN G 8)]) B (C_plus l D ty sz G Z hG c ((c.2.2 u).2) ((c.2.2 t).2)) kt_plus kw_114 kw_115 (by decide) ⟨rfl, rfl⟩ (by decide) rfl (Nat.le_of_ble_eq_true rfl) hl.1 hP hS dX2_reckonTwo_103 rfl ?_
          refine kp_callN (rm := rm_become) (As := [.long (F_plus ((c.2.2 u).1) ((c.2.2 t).1)), .long (F_plus ((c.2.2 u).2) ((c.2.2 t).2))]) (rest := []) (r := none) (st1 := []) (ws' := cw_W G (S_become c 8 (F_plus ((c.2.2 u).1) ((c.2.2 t).1)) (F_plus ((c.2.2 u).2) ((c.2.2 t).2))) Z) B (C_become l D ty sz G Z hG c 8 (by decide) (F_plus ((c.2.2 u).1) ((c.2.2 t).1)) (F_plus ((c.2.2 u).2) ((c.2.2 t).2))) kt_become kw_104 kw_105 kw_106 (kc_rcN B hP (by decide)) (by decide) rfl rfl (by decide) rfl (Nat.le_of_ble_eq_true rfl) hl.1 hP hS dX2_reckonTwo_106 rfl (fun H locs hP hS => ?_)
          refine lv_goto (tgt := 256) hx hb dX2_reckonTwo_109 (by decide) ?_
          exact kp_retv B (by simp only [S_reckonTwo, if_neg q_1, if_pos q_2, if_pos q_3, if_pos q_4]; exact hP) hS rfl dX2_reckonTwo_256
        · by_cases q_5 : x = (1 : Int32)
          · refine lv_tableIn (tgt := 112) hx hb dX2_reckonTwo_35 (by rw [q_5]; decide) (by rw [q_5]; decide) (by rw [q_5]; rfl) (by decide) ?_
            refine lv_aload_n hx hb dX2_reckonTwo_112 rfl (lv_at hl 0 rfl) ?_
            refine kc_getD (j := 2) (v := .ref (aN G 8)) B hP rfl (by decide) kw_101 dX2_reckonTwo_113 ?_
            refine lv_aload_n hx hb dX2_reckonTwo_116 rfl (lv_at hl 2 rfl) ?_
            refine kc_getNX (j := 0) (k := u) (v := .long ((c.2.2 u).1)) B hP hu rfl (by decide) kw_87 dX2_reckonTwo_117 ?_
            refine lv_aload_n hx hb dX2_reckonTwo_120 rfl (lv_at hl 3 rfl) ?_
            refine kc_getNX (j := 1) (k := t) (v := .long ((c.2.2 t).2)) B hP ht rfl (by decide) kw_88 dX2_reckonTwo_121 ?_
            refine lv_lneg hx hb dX2_reckonTwo_124 ?_
            refine kp_callSR (rm := rm_plus) (As := [.long ((c.2.2 u).1), .long (-((c.2.2 t).2))]) (rest := [.ref (aN G 8)]) (r := some (.long (F_plus ((c.2.2 u).1) (-((c.2.2 t).2))))) (st1 := [.long (F_plus ((c.2.2 u).1) (-((c.2.2 t).2))), .ref (aN G 8)]) B (C_plus l D ty sz G Z hG c ((c.2.2 u).1) (-((c.2.2 t).2))) kt_plus kw_114 kw_115 (by decide) ⟨rfl, rfl⟩ (by decide) rfl (Nat.le_of_ble_eq_true rfl) hl.1 hP hS dX2_reckonTwo_125 rfl ?_
            refine lv_aload_n hx hb dX2_reckonTwo_128 rfl (lv_at hl 2 rfl) ?_
            refine kc_getNX (j := 1) (k := u) (v := .long ((c.2.2 u).2)) B hP hu rfl (by decide) kw_88 dX2_reckonTwo_129 ?_
            refine lv_aload_n hx hb dX2_reckonTwo_132 rfl (lv_at hl 3 rfl) ?_
            refine kc_getNX (j := 0) (k := t) (v := .long ((c.2.2 t).1)) B hP ht rfl (by decide) kw_87 dX2_reckonTwo_133 ?_
            refine lv_lneg hx hb dX2_reckonTwo_136 ?_
            refine kp_callSR (rm := rm_plus) (As := [.long ((c.2.2 u).2), .long (-((c.2.2 t).1))]) (rest := [.long (F_plus ((c.2.2 u).1) (-((c.2.2 t).2))), .ref (aN G 8)]) (r := some (.long (F_plus ((c.2.2 u).2) (-((c.2.2 t).1))))) (st1 := [.long (F_plus ((c.2.2 u).2) (-((c.2.2 t).1))), .long (F_plus ((c.2.2 u).1) (-((c.2.2 t).2))), .ref (aN G 8)]) B (C_plus l D ty sz G Z hG c ((c.2.2 u).2) (-((c.2.2 t).1))) kt_plus kw_114 kw_115 (by decide) ⟨rfl, rfl⟩ (by decide) rfl (Nat.le_of_ble_eq_true rfl) hl.1 hP hS dX2_reckonTwo_137 rfl ?_
            refine kp_callN (rm := rm_become) (As := [.long (F_plus ((c.2.2 u).1) (-((c.2.2 t).2))), .long (F_plus ((c.2.2 u).2) (-((c.2.2 t).1)))]) (rest := []) (r := none) (st1 := []) (ws' := cw_W G (S_become c 8 (F_plus ((c.2.2 u).1) (-((c.2.2 t).2))) (F_plus ((c.2.2 u).2) (-((c.2.2 t).1)))) Z) B (C_become l D ty sz G Z hG c 8 (by decide) (F_plus ((c.2.2 u).1) (-((c.2.2 t).2))) (F_plus ((c.2.2 u).2) (-((c.2.2 t).1)))) kt_become kw_104 kw_105 kw_106 (kc_rcN B hP (by decide)) (by decide) rfl rfl (by decide) rfl (Nat.le_of_ble_eq_true rfl) hl.1 hP hS dX2_reckonTwo_140 rfl (fun H locs hP hS => ?_)
            refine lv_goto (tgt := 256) hx hb dX2_reckonTwo_143 (by decide) ?_
            exact kp_retv B (by simp only [S_reckonTwo, if_neg q_1, if_pos q_2, if_pos q_3, if_neg q_4, if_pos q_5]; exact hP) hS rfl dX2_reckonTwo_256
          · by_cases q_6 : x = (2 : Int32)
            · refine lv_tableIn (tgt := 146) hx hb dX2_reckonTwo_35 (by rw [q_6]; decide) (by rw [q_6]; decide) (by rw [q_6]; rfl) (by decide) ?_
              refine lv_aload_n hx hb dX2_reckonTwo_146 rfl (lv_at hl 0 rfl) ?_
              refine lv_aload_n hx hb dX2_reckonTwo_147 rfl (lv_at hl 2 rfl) ?_
              refine lv_aload_n hx hb dX2_reckonTwo_148 rfl (lv_at hl 3 rfl) ?_
              refine kp_callV (rm := rm_multiply) (As := [.ref (aN G u), .ref (aN G t)]) (rest := []) (r := none) (st1 := []) (ws' := cw_W G (S_multiply c u t) Z) B (C_multiply l D ty sz G Z hG c u hu t ht) kt_multiply kw_157 kw_158 kw_159 (kc_rcD B hP) (by decide) rfl rfl (by decide) rfl (Nat.le_of_ble_eq_true rfl) hl.1 hP hS dX2_reckonTwo_149 rfl (fun H locs hP hS => ?_)
              refine lv_goto (tgt := 256) hx hb dX2_reckonTwo_152 (by decide) ?_
              exact kp_retv B (by simp only [S_reckonTwo, if_neg q_1, if_pos q_2, if_pos q_3, if_neg q_4, if_neg q_5, if_pos q_6]; exact hP) hS rfl dX2_reckonTwo_256
            · by_cases q_7 : x = (3 : Int32)
              · refine lv_tableIn (tgt := 155) hx hb dX2_reckonTwo_35 (by rw [q_7]; decide) (by rw [q_7]; decide) (by rw [q_7]; rfl) (by decide) ?_
                refine lv_aload_n hx hb dX2_reckonTwo_155 rfl (lv_at hl 0 rfl) ?_
                refine lv_aload_n hx hb dX2_reckonTwo_156 rfl (lv_at hl 2 rfl) ?_
                refine lv_aload_n hx hb dX2_reckonTwo_157 rfl (lv_at hl 3 rfl) ?_
                refine kp_callV (rm := rm_divide) (As := [.ref (aN G u), .ref (aN G t)]) (rest := []) (r := none) (st1 := []) (ws' := cw_W G (S_divide c u t) Z) B (C_divide l D ty sz G Z hG c u hu t ht) kt_divide kw_162 kw_163 kw_164 (kc_rcD B hP) (by decide) rfl rfl (by decide) rfl (Nat.le_of_ble_eq_true rfl) hl.1 hP hS dX2_reckonTwo_158 rfl (fun H locs hP hS => ?_)
                refine lv_aload_n hx hb dX2_reckonTwo_161 rfl (lv_at hl 0 rfl) ?_
                refine lv_aload_n hx hb dX2_reckonTwo_162 rfl (lv_at hl 0 rfl) ?_
                refine kc_getD (j := 2) (v := .ref (aN G 8)) B hP rfl (by decide) kw_101 dX2_reckonTwo_163 ?_
                refine lv_aload_n hx hb dX2_reckonTwo_166 rfl (lv_at hl 0 rfl) ?_
                refine kc_getD (j := 3) (v := .ref (aN G 9)) B hP rfl (by decide) kw_139 dX2_reckonTwo_167 ?_
                refine kp_callV (rm := rm_join) (As := [.ref (aN G 8), .ref (aN G 9)]) (rest := []) (r := none) (st1 := []) (ws' := cw_W G (S_join (S_divide c u t) 8 9) Z) B (C_join l D ty sz G Z hG (S_divide c u t) 8 (by decide) 9 (by decide)) kt_join kw_167 kw_168 kw_169 (kc_rcD B hP) (by decide) rfl rfl (by decide) rfl (Nat.le_of_ble_eq_true rfl) hl.1 hP hS dX2_reckonTwo_170 rfl (fun H locs hP hS => ?_)
                refine lv_goto (tgt := 256) hx hb dX2_reckonTwo_173 (by decide) ?_
                exact kp_retv B (by simp only [S_reckonTwo, if_neg q_1, if_pos q_2, if_pos q_3, if_neg q_4, if_neg q_5, if_neg q_6, if_pos q_7]; exact hP) hS rfl dX2_reckonTwo_256
              · by_cases q_8 : x = (5 : Int32)
                · refine lv_tableIn (tgt := 176) hx hb dX2_reckonTwo_35 (by rw [q_8]; decide) (by rw [q_8]; decide) (by rw [q_8]; rfl) (by decide) ?_
                  refine lv_aload_n hx hb dX2_reckonTwo_176 rfl (lv_at hl 0 rfl) ?_
                  refine lv_aload_n hx hb dX2_reckonTwo_177 rfl (lv_at hl 2 rfl) ?_
                  refine lv_aload_n hx hb dX2_reckonTwo_178 rfl (lv_at hl 3 rfl) ?_
                  refine kp_callV (rm := rm_meet) (As := [.ref (aN G u), .ref (aN G t)]) (rest := []) (r := none) (st1 := []) (ws' := cw_W G (S_meet c u t) Z) B (C_meet l D ty sz G Z hG c u hu t ht) kt_meet kw_172 kw_173 kw_174 (kc_rcD B hP) (by decide) rfl rfl (by decide) rfl (Nat.le_of_ble_eq_true rfl) hl.1 hP hS dX2_reckonTwo_179 rfl (fun H locs hP hS => ?_)
                  refine lv_goto (tgt := 256) hx hb dX2_reckonTwo_182 (by decide) ?_
                  exact kp_retv B (by simp only [S_reckonTwo, if_neg q_1, if_pos q_2, if_pos q_3, if_neg q_4, if_neg q_5, if_neg q_6, if_neg q_7, if_pos q_8]; exact hP) hS rfl dX2_reckonTwo_256
                · by_cases q_9 : x = (6 : Int32)
                  · refine lv_tableIn (tgt := 185) hx hb dX2_reckonTwo_35 (by rw [q_9]; decide) (by rw [q_9]; decide) (by rw [q_9]; rfl) (by decide) ?_
                    refine lv_aload_n hx hb dX2_reckonTwo_185 rfl (lv_at hl 0 rfl) ?_
                    refine kc_getD (j := 2) (v := .ref (aN G 8)) B hP rfl (by decide) kw_101 dX2_reckonTwo_186 ?_
                    refine lv_aload_n hx hb dX2_reckonTwo_189 rfl (lv_at hl 2 rfl) ?_
                    refine kc_getNX (j := 0) (k := u) (v := .long ((c.2.2 u).1)) B hP hu rfl (by decide) kw_87 dX2_reckonTwo_190 ?_
                    refine lv_aload_n hx hb dX2_reckonTwo_193 rfl (lv_at hl 3 rfl) ?_
                    refine kc_getNX (j := 0) (k := t) (v := .long ((c.2.2 t).1)) B hP ht rfl (by decide) kw_87 dX2_reckonTwo_194 ?_
                    refine kp_min (x := (c.2.2 u).1) (y := (c.2.2 t).1) B hl.1 kw_89 kw_90 kw_91 kw_92 (by decide) (Nat.le_of_ble_eq_true rfl) (Nat.zero_le _) (Nat.zero_le _) dX2_reckonTwo_197 ?_
                    refine lv_aload_n hx hb dX2_reckonTwo_200 rfl (lv_at hl 2 rfl) ?_
                    refine kc_getNX (j := 1) (k := u) (v := .long ((c.2.2 u).2)) B hP hu rfl (by decide) kw_88 dX2_reckonTwo_201 ?_
                    refine lv_aload_n hx hb dX2_reckonTwo_204 rfl (lv_at hl 3 rfl) ?_
                    refine kc_getNX (j := 1) (k := t) (v := .long ((c.2.2 t).2)) B hP ht rfl (by decide) kw_88 dX2_reckonTwo_205 ?_
                    refine kp_min (x := (c.2.2 u).2) (y := (c.2.2 t).2) B hl.1 kw_89 kw_90 kw_91 kw_92 (by decide) (Nat.le_of_ble_eq_true rfl) (Nat.zero_le _) (Nat.zero_le _) dX2_reckonTwo_208 ?_
                    refine kp_callN (rm := rm_become) (As := [.long (z_min ((c.2.2 u).1) ((c.2.2 t).1)), .long (z_min ((c.2.2 u).2) ((c.2.2 t).2))]) (rest := []) (r := none) (st1 := []) (ws' := cw_W G (S_become c 8 (z_min ((c.2.2 u).1) ((c.2.2 t).1)) (z_min ((c.2.2 u).2) ((c.2.2 t).2))) Z) B (C_become l D ty sz G Z hG c 8 (by decide) (z_min ((c.2.2 u).1) ((c.2.2 t).1)) (z_min ((c.2.2 u).2) ((c.2.2 t).2))) kt_become kw_104 kw_105 kw_106 (kc_rcN B hP (by decide)) (by decide) rfl rfl (by decide) rfl (Nat.le_of_ble_eq_true rfl) hl.1 hP hS dX2_reckonTwo_211 rfl (fun H locs hP hS => ?_)
                    refine lv_goto (tgt := 256) hx hb dX2_reckonTwo_214 (by decide) ?_
                    exact kp_retv B (by simp only [S_reckonTwo, if_neg q_1, if_pos q_2, if_pos q_3, if_neg q_4, if_neg q_5, if_neg q_6, if_neg q_7, if_neg q_8, if_pos q_9]; exact hP) hS rfl dX2_reckonTwo_256
                  · by_cases q_10 : x = (7 : Int32)
                    · refine lv_tableIn (tgt := 217) hx hb dX2_reckonTwo_35 (by rw [q_10]; decide) (by rw [q_10]; decide) (by rw [q_10]; rfl) (by decide) ?_
                      refine lv_aload_n hx hb dX2_reckonTwo_217 rfl (lv_at hl 0 rfl) ?_
                      refine kc_getD (j := 2) (v := .ref (aN G 8)) B hP rfl (by decide) kw_101 dX2_reckonTwo_218 ?_
                      refine lv_aload_n hx hb dX2_reckonTwo_221 rfl (lv_at hl 2 rfl) ?_
                      refine kc_getNX (j := 0) (k := u) (v := .long ((c.2.2 u).1)) B hP hu rfl (by decide) kw_87 dX2_reckonTwo_222 ?_
                      refine lv_aload_n hx hb dX2_reckonTwo_225 rfl (lv_at hl 3 rfl) ?_
                      refine kc_getNX (j := 0) (k := t) (v := .long ((c.2.2 t).1)) B hP ht rfl (by decide) kw_87 dX2_reckonTwo_226 ?_
                      refine kp_max (x := (c.2.2 u).1) (y := (c.2.2 t).1) B hl.1 kw_98 kw_99 kw_91 kw_100 (by decide) (Nat.le_of_ble_eq_true rfl) (Nat.zero_le _) (Nat.zero_le _) dX2_reckonTwo_229 ?_
                      refine lv_aload_n hx hb dX2_reckonTwo_232 rfl (lv_at hl 2 rfl) ?_
                      refine kc_getNX (j := 1) (k := u) (v := .long ((c.2.2 u).2)) B hP hu rfl (by decide) kw_88 dX2_reckonTwo_233 ?_
                      refine lv_aload_n hx hb dX2_reckonTwo_236 rfl (lv_at hl 3 rfl) ?_
                      refine kc_getNX (j := 1) (k := t) (v := .long ((c.2.2 t).2)) B hP ht rfl (by decide) kw_88 dX2_reckonTwo_237 ?_
                      refine kp_max (x := (c.2.2 u).2) (y := (c.2.2 t).2) B hl.1 kw_98 kw_99 kw_91 kw_100 (by decide) (Nat.le_of_ble_eq_true rfl) (Nat.zero_le _) (Nat.zero_le _) dX2_reckonTwo_240 ?_
                      refine kp_callN (rm := rm_become) (As := [.long (z_max ((c.2.2 u).1) ((c.2.2 t).1)), .long (z_max ((c.2.2 u).2) ((c.2.2 t).2))]) (rest := []) (r := none) (st1 := []) (ws' := cw_W G (S_become c 8 (z_max ((c.2.2 u).1) ((c.2.2 t).1)) (z_max ((c.2.2 u).2) ((c.2.2 t).2))) Z) B (C_become l D ty sz G Z hG c 8 (by decide) (z_max ((c.2.2 u).1) ((c.2.2 t).1)) (z_max ((c.2.2 u).2) ((c.2.2 t).2))) kt_become kw_104 kw_105 kw_106 (kc_rcN B hP (by decide)) (by decide) rfl rfl (by decide) rfl (Nat.le_of_ble_eq_true rfl) hl.1 hP hS dX2_reckonTwo_243 rfl (fun H locs hP hS => ?_)
                      refine lv_goto (tgt := 256) hx hb dX2_reckonTwo_246 (by decide) ?_
                      exact kp_retv B (by simp only [S_reckonTwo, if_neg q_1, if_pos q_2, if_pos q_3, if_neg q_4, if_neg q_5, if_neg q_6, if_neg q_7, if_neg q_8, if_neg q_9, if_pos q_10]; exact hP) hS rfl dX2_reckonTwo_256
                    · refine lv_tableOut (tgt := 249) hx hb dX2_reckonTwo_35 (kc_out8 q_4 q_5 q_6 q_7 q_1 q_8 q_9 q_10) (by decide) ?_
                      refine lv_aload_n hx hb dX2_reckonTwo_249 rfl (lv_at hl 0 rfl) ?_
                      refine kc_getD (j := 2) (v := .ref (aN G 8)) B hP rfl (by decide) kw_101 dX2_reckonTwo_250 ?_
                      refine kp_callN (rm := rm_becomeEmpty) (As := []) (rest := []) (r := none) (st1 := []) (ws' := cw_W G (S_becomeEmpty c 8) Z) B (C_becomeEmpty l D ty sz G Z hG c 8 (by decide)) kt_becomeEmpty kw_109 kw_110 kw_111 (kc_rcN B hP (by decide)) (by decide) rfl rfl (by decide) rfl (Nat.le_of_ble_eq_true rfl) hl.1 hP hS dX2_reckonTwo_253 rfl (fun H locs hP hS => ?_)
                      exact kp_retv B (by simp only [S_reckonTwo, if_neg q_1, if_pos q_2, if_pos q_3, if_neg q_4, if_neg q_5, if_neg q_6, if_neg q_7, if_neg q_8, if_neg q_9, if_neg q_10]; exact hP) hS rfl dX2_reckonTwo_256
      · refine lv_aload_n hx hb dX2_reckonTwo_26 rfl (lv_at hl 0 rfl) ?_
        refine kc_getD (j := 2) (v := .ref (aN G 8)) B hP rfl (by decide) kw_101 dX2_reckonTwo_27 ?_
        refine kp_callN (rm := rm_becomeEmpty) (As := []) (rest := []) (r := none) (st1 := []) (ws' := cw_W G (S_becomeEmpty c 8) Z) B (C_becomeEmpty l D ty sz G Z hG c 8 (by decide)) kt_becomeEmpty kw_109 kw_110 kw_111 (kc_rcN B hP (by decide)) (by decide) rfl rfl (by decide) rfl (Nat.le_of_ble_eq_true rfl) hl.1 hP hS dX2_reckonTwo_30 rfl (fun H locs hP hS => ?_)
        exact kp_retv B (by simp only [S_reckonTwo, if_neg q_1, if_pos q_2, if_neg q_3]; exact hP) hS rfl dX2_reckonTwo_33
  · refine lv_aload_n hx hb dX2_reckonTwo_5 rfl (lv_at hl 0 rfl) ?_
    refine lv_aload_n hx hb dX2_reckonTwo_6 rfl (lv_at hl 2 rfl) ?_
    refine lv_aload_n hx hb dX2_reckonTwo_7 rfl (lv_at hl 3 rfl) ?_
    refine kp_callV (rm := rm_join) (As := [.ref (aN G u), .ref (aN G t)]) (rest := []) (r := none) (st1 := []) (ws' := cw_W G (S_join c u t) Z) B (C_join l D ty sz G Z hG c u hu t ht) kt_join kw_167 kw_168 kw_169 (kc_rcD B hP) (by decide) rfl rfl (by decide) rfl (Nat.le_of_ble_eq_true rfl) hl.1 hP hS dX2_reckonTwo_8 rfl (fun H locs hP hS => ?_)
    exact kp_retv B (by simp only [S_reckonTwo, if_pos q_1]; exact hP) hS rfl dX2_reckonTwo_11
end
section
def F_keep (c : cw_C) (u : Nat) (t : Nat) : Int32 :=
  if (F_isEmpty c u) = (0 : Int32) then F_kindNumber (S_become c t (F_notAbove c ((c.2.2 u).1)) (F_notBelow c ((c.2.2 u).2))) t else F_kindNumber (S_becomeEmpty c t) t
def S_keep (c : cw_C) (u : Nat) (t : Nat) : cw_C :=
  if (F_isEmpty c u) = (0 : Int32) then S_become c t (F_notAbove c ((c.2.2 u).1)) (F_notBelow c ((c.2.2 u).2)) else S_becomeEmpty c t
def rm_keep : Room := { frames := 5, cells := 0, slots := 0, locals := 113 }
set_option maxHeartbeats 4000000 in
set_option maxRecDepth 100000 in
theorem C_keep (l : Launch) (D : va_G) (ty : List (ClassId × FieldType)) (sz : Nat) (G : cw_G) (Z : va_W) (hG : cw_ok ty sz G Z) (c : cw_C) (u : Nat) (hu : u < 10) (t : Nat) (ht : t < 10) : kp_M l yX2_keep cX2_keep 3 (some .int) rm_keep D ty sz [.ref (aD G), .ref (aN G u), .ref (aN G t)] (cw_W G c Z) (some (.int (F_keep c u t))) (cw_W G (S_keep c u t) Z) := by
  refine kp_body (by decide) (Nat.le_of_ble_eq_true rfl) rfl ?_
  intro p e s m args below meth cd ls B hin hl hP hS
  obtain ⟨hx, hb, hml, hown, hlk, hr, hw, hE, hK, hsz⟩ := id B
  have hl : lv_has ls 3 [(0, .ref (aD G)), (1, .ref (aN G u)), (2, .ref (aN G t))] := hl
  refine lv_aload_n hx hb dX2_keep_0 rfl (lv_at hl 1 rfl) ?_
  refine kp_callNR (rm := rm_isEmpty) (As := []) (rest := []) (r := some (.int (F_isEmpty c u))) (st1 := [.int (F_isEmpty c u)]) B (C_isEmpty l D ty sz G Z hG c u hu) kt_isEmpty kw_75 kw_8 kw_9 (kc_rcN B hP hu) (by decide) ⟨rfl, rfl⟩ (by decide) rfl (Nat.le_of_ble_eq_true rfl) hl.1 hP hS dX2_keep_1 rfl ?_
  refine lv_if_eq (tgt := 14) hx hb dX2_keep_4 (by decide) (fun q_1 => ?_) (fun q_1 => ?_)
  · refine lv_aload_n hx hb dX2_keep_14 rfl (lv_at hl 2 rfl) ?_
    refine lv_aload_n hx hb dX2_keep_15 rfl (lv_at hl 0 rfl) ?_
    refine kc_getD (j := 0) (v := .ref (aS G)) B hP rfl (by decide) kw_76 dX2_keep_16 ?_
    refine lv_aload_n hx hb dX2_keep_19 rfl (lv_at hl 1 rfl) ?_
    refine kc_getNX (j := 0) (k := u) (v := .long ((c.2.2 u).1)) B hP hu rfl (by decide) kw_87 dX2_keep_20 ?_
    refine kp_callNR (rm := rm_notAbove) (As := [.long ((c.2.2 u).1)]) (rest := [.ref (aN G t)]) (r := some (.long (F_notAbove c ((c.2.2 u).1)))) (st1 := [.long (F_notAbove c ((c.2.2 u).1)), .ref (aN G t)]) B (C_notAbove l D ty sz G Z hG c ((c.2.2 u).1)) kt_notAbove kw_175 kw_52 kw_53 (kc_rcS B hP) (by decide) ⟨rfl, rfl⟩ (by decide) rfl (Nat.le_of_ble_eq_true rfl) hl.1 hP hS dX2_keep_23 rfl ?_
    refine lv_aload_n hx hb dX2_keep_26 rfl (lv_at hl 0 rfl) ?_
    refine kc_getD (j := 0) (v := .ref (aS G)) B hP rfl (by decide) kw_76 dX2_keep_27 ?_
    refine lv_aload_n hx hb dX2_keep_30 rfl (lv_at hl 1 rfl) ?_
    refine kc_getNX (j := 1) (k := u) (v := .long ((c.2.2 u).2)) B hP hu rfl (by decide) kw_88 dX2_keep_31 ?_
    refine kp_callNR (rm := rm_notBelow) (As := [.long ((c.2.2 u).2)]) (rest := [.long (F_notAbove c ((c.2.2 u).1)), .ref (aN G t)]) (r := some (.long (F_notBelow c ((c.2.2 u).2)))) (st1 := [.long (F_notBelow c ((c.2.2 u).2)), .long (F_notAbove c ((c.2.2 u).1)), .ref (aN G t)]) B (C_notBelow l D ty sz G Z hG c ((c.2.2 u).2)) kt_notBelow kw_176 kw_57 kw_58 (kc_rcS B hP) (by decide) ⟨rfl, rfl⟩ (by decide) rfl (Nat.le_of_ble_eq_true rfl) hl.1 hP hS dX2_keep_34 rfl ?_
    refine kp_callN (rm := rm_become) (As := [.long (F_notAbove c ((c.2.2 u).1)), .long (F_notBelow c ((c.2.2 u).2))]) (rest := []) (r := none) (st1 := []) (ws' := cw_W G (S_become c t (F_notAbove c ((c.2.2 u).1)) (F_notBelow c ((c.2.2 u).2))) Z) B (C_become l D ty sz G Z hG c t ht (F_notAbove c ((c.2.2 u).1)) (F_notBelow c ((c.2.2 u).2))) kt_become kw_104 kw_105 kw_106 (kc_rcN B hP ht) (by decide) rfl rfl (by decide) rfl (Nat.le_of_ble_eq_true rfl) hl.1 hP hS dX2_keep_37 rfl (fun H locs hP hS => ?_)
    refine lv_aload_n hx hb dX2_keep_40 rfl (lv_at hl 2 rfl) ?_
    refine kp_callNR (rm := rm_kindNumber) (As := []) (rest := []) (r := some (.int (F_kindNumber (S_become c t (F_notAbove c ((c.2.2 u).1)) (F_notBelow c ((c.2.2 u).2))) t))) (st1 := [.int (F_kindNumber (S_become c t (F_notAbove c ((c.2.2 u).1)) (F_notBelow c ((c.2.2 u).2))) t)]) B (C_kindNumber l D ty sz G Z hG (S_become c t (F_notAbove c ((c.2.2 u).1)) (F_notBelow c ((c.2.2 u).2))) t ht) kt_kindNumber kw_179 kw_180 kw_181 (kc_rcN B hP ht) (by decide) ⟨rfl, rfl⟩ (by decide) rfl (Nat.le_of_ble_eq_true rfl) hl.1 hP hS dX2_keep_41 rfl ?_
    exact kp_reti B (by simp only [S_keep, if_pos q_1]; exact hP) hS (by simp only [F_keep, if_pos q_1]) dX2_keep_44
  · refine lv_aload_n hx hb dX2_keep_7 rfl (lv_at hl 2 rfl) ?_
    refine kp_callN (rm := rm_becomeEmpty) (As := []) (rest := []) (r := none) (st1 := []) (ws' := cw_W G (S_becomeEmpty c t) Z) B (C_becomeEmpty l D ty sz G Z hG c t ht) kt_becomeEmpty kw_109 kw_110 kw_111 (kc_rcN B hP ht) (by decide) rfl rfl (by decide) rfl (Nat.le_of_ble_eq_true rfl) hl.1 hP hS dX2_keep_8 rfl (fun H locs hP hS => ?_)
    refine lv_goto (tgt := 40) hx hb dX2_keep_11 (by decide) ?_
    refine lv_aload_n hx hb dX2_keep_40 rfl (lv_at hl 2 rfl) ?_
    refine kp_callNR (rm := rm_kindNumber) (As := []) (rest := []) (r := some (.int (F_kindNumber (S_becomeEmpty c t) t))) (st1 := [.int (F_kindNumber (S_becomeEmpty c t) t)]) B (C_kindNumber l D ty sz G Z hG (S_becomeEmpty c t) t ht) kt_kindNumber kw_179 kw_180 kw_181 (kc_rcN B hP ht) (by decide) ⟨rfl, rfl⟩ (by decide) rfl (Nat.le_of_ble_eq_true rfl) hl.1 hP hS dX2_keep_41 rfl ?_
    exact kp_reti B (by simp only [S_keep, if_neg q_1]; exact hP) hS (by simp only [F_keep, if_neg q_1]) dX2_keep_44
def F_kind (c : cw_C) (x : Int32) : Int32 :=
  if (F_isPlace x) = (0 : Int32) then (-1 : Int32) else F_kindNumber c x.toNatClampNeg
def rm_kind : Room := { frames := 2, cells := 0, slots := 0, locals := 40 }
set_option maxHeartbeats 4000000 in
set_option maxRecDepth 100000 in
theorem C_kind (l : Launch) (D : va_G) (ty : List (ClassId × FieldType)) (sz : Nat) (G : cw_G) (Z : va_W) (hG : cw_ok ty sz G Z) (c : cw_C) (x : Int32) : kp_R l yX2_kind cX2_kind 2 (some .int) rm_kind D ty sz [.ref (aD G), .int x] (cw_W G c Z) (some (.int (F_kind c x))) := by
  refine kp_bodyR (by decide) (Nat.le_of_ble_eq_true rfl) rfl ?_
  intro p e s m args below meth cd ls B hl hP hS
  obtain ⟨hx, hb, hml, hown, hlk, hr, hw, hE, hK, hsz⟩ := id B
  have hl : lv_has ls 2 [(0, .ref (aD G)), (1, .int x)] := hl
  refine lv_iload_n hx hb dX2_kind_0 rfl (lv_at hl 1 rfl) ?_
  refine kp_callSR (rm := rm_isPlace) (As := [.int x]) (rest := []) (r := some (.int (F_isPlace x))) (st1 := [.int (F_isPlace x)]) B (C_isPlace l D ty sz G Z hG c x) kt_isPlace kw_72 kw_73 (by decide) ⟨rfl, rfl⟩ (by decide) rfl (Nat.le_of_ble_eq_true rfl) hl.1 hP hS dX2_kind_1 rfl ?_
  refine lv_if_eq (tgt := 19) hx hb dX2_kind_4 (by decide) (fun q_1 => ?_) (fun q_1 => ?_)
  · refine lv_iconst (v := (-1 : Int32)) hx hb dX2_kind_19 (by decide) ?_
    exact kp_retiR B (by simp only [F_kind, if_pos q_1]) dX2_kind_20
  · refine lv_aload_n hx hb dX2_kind_7 rfl (lv_at hl 0 rfl) ?_
    refine kc_getD (j := 1) (v := .ref (aP G)) B hP rfl (by decide) kw_74 dX2_kind_8 ?_
    refine lv_iload_n hx hb dX2_kind_11 rfl (lv_at hl 1 rfl) ?_
    refine kc_aald (i := x) B hG hP (kc_inP q_1) dX2_kind_12 ?_
    refine kp_callNR (rm := rm_kindNumber) (As := []) (rest := []) (r := some (.int (F_kindNumber c x.toNatClampNeg))) (st1 := [.int (F_kindNumber c x.toNatClampNeg)]) B (C_kindNumber l D ty sz G Z hG c x.toNatClampNeg (kc_in10 (kc_inP q_1))) kt_kindNumber kw_179 kw_180 kw_181 (kc_rcN B hP (kc_in10 (kc_inP q_1))) (by decide) ⟨rfl, rfl⟩ (by decide) rfl (Nat.le_of_ble_eq_true rfl) hl.1 hP hS dX2_kind_13 rfl ?_
    refine lv_goto (tgt := 20) hx hb dX2_kind_16 (by decide) ?_
    exact kp_retiR B (by simp only [F_kind, if_neg q_1]) dX2_kind_20
def F_compare (c : cw_C) (x : Int32) (y : Int32) : Int32 :=
  if (F_isPlace x) = (0 : Int32) then (-1 : Int32) else (if (F_isPlace y) = (0 : Int32) then (-1 : Int32) else (if (F_isFilled c x) = (0 : Int32) then (0 : Int32) else (if (F_isFilled c y) = (0 : Int32) then (0 : Int32) else (((((if ((c.2.2 y.toNatClampNeg).2) ≤ ((c.2.2 x.toNatClampNeg).1) then (0 : Int32) else (1 : Int32)) ||| (if ((c.2.2 y.toNatClampNeg).2) < ((c.2.2 x.toNatClampNeg).1) then (0 : Int32) else (if ((c.2.2 x.toNatClampNeg).2) < ((c.2.2 y.toNatClampNeg).1) then (0 : Int32) else (2 : Int32)))) ||| (if ((c.2.2 x.toNatClampNeg).2) ≤ ((c.2.2 y.toNatClampNeg).1) then (0 : Int32) else (4 : Int32))) ||| (if (F_holdsAllOf c y.toNatClampNeg x.toNatClampNeg) = (0 : Int32) then (0 : Int32) else (8 : Int32))) ||| (if (F_holdsAllOf c x.toNatClampNeg y.toNatClampNeg) = (0 : Int32) then (0 : Int32) else (16 : Int32))) ||| (if (F_holdsAllOf c y.toNatClampNeg x.toNatClampNeg) = (0 : Int32) then (0 : Int32) else (if (F_holdsAllOf c x.toNatClampNeg y.toNatClampNeg) = (0 : Int32) then (0 : Int32) else (32 : Int32))))))
def rm_compare : Room := { frames := 2, cells := 0, slots := 0, locals := 41 }
set_option maxHeartbeats 4000000 in
set_option maxRecDepth 100000 in
theorem C_compare (l : Launch) (D : va_G) (ty : List (ClassId × FieldType)) (sz : Nat) (G : cw_G) (Z : va_W) (hG : cw_ok ty sz G Z) (c : cw_C) (x : Int32) (y : Int32) : kp_R l yX2_compare cX2_compare 7 (some .int) rm_compare D ty sz [.ref (aD G), .int x, .int y] (cw_W G c Z) (some (.int (F_compare c x y))) := by
  refine kp_bodyR (by decide) (Nat.le_of_ble_eq_true rfl) rfl ?_
  intro p e s m args below meth cd ls B hl hP hS
  obtain ⟨hx, hb, hml, hown, hlk, hr, hw, hE, hK, hsz⟩ := id B
  have hl : lv_has ls 7 [(0, .ref (aD G)), (1, .int x), (2, .int y)] := hl
  refine lv_iload_n hx hb dX2_compare_0 rfl (lv_at hl 1 rfl) ?_
  refine kp_callSR (rm := rm_isPlace) (As := [.int x]) (rest := []) (r := some (.int (F_isPlace x))) (st1 := [.int (F_isPlace x)]) B (C_isPlace l D ty sz G Z hG c x) kt_isPlace kw_72 kw_73 (by decide) ⟨rfl, rfl⟩ (by decide) rfl (Nat.le_of_ble_eq_true rfl) hl.1 hP hS dX2_compare_1 rfl ?_
  refine lv_if_eq (tgt := 14) hx hb dX2_compare_4 (by decide) (fun q_1 => ?_) (fun q_1 => ?_)
  · refine lv_iconst (v := (-1 : Int32)) hx hb dX2_compare_14 (by decide) ?_
    exact kp_retiR B (by simp only [F_compare, if_pos q_1]) dX2_compare_15
  · refine lv_iload_n hx hb dX2_compare_7 rfl (lv_at hl 2 rfl) ?_
    refine kp_callSR (rm := rm_isPlace) (As := [.int y]) (rest := []) (r := some (.int (F_isPlace y))) (st1 := [.int (F_isPlace y)]) B (C_isPlace l D ty sz G Z hG c y) kt_isPlace kw_72 kw_73 (by decide) ⟨rfl, rfl⟩ (by decide) rfl (Nat.le_of_ble_eq_true rfl) hl.1 hP hS dX2_compare_8 rfl ?_
    refine lv_if_ne (tgt := 16) hx hb dX2_compare_11 (by decide) (fun q_2 => ?_) (fun q_2 => ?_)
    · refine lv_aload_n hx hb dX2_compare_16 rfl (lv_at hl 0 rfl) ?_
      refine lv_iload_n hx hb dX2_compare_17 rfl (lv_at hl 1 rfl) ?_
      refine kp_callVR (rm := rm_isFilled) (As := [.int x]) (rest := []) (r := some (.int (F_isFilled c x))) (st1 := [.int (F_isFilled c x)]) B (C_isFilled l D ty sz G Z hG c x) kt_isFilled kw_184 kw_185 kw_186 (kc_rcD B hP) (by decide) ⟨rfl, rfl⟩ (by decide) rfl (Nat.le_of_ble_eq_true rfl) hl.1 hP hS dX2_compare_18 rfl ?_
      refine lv_if_eq (tgt := 32) hx hb dX2_compare_21 (by decide) (fun q_3 => ?_) (fun q_3 => ?_)
      · refine lv_iconst (v := (0 : Int32)) hx hb dX2_compare_32 (by decide) ?_
        exact kp_retiR B (by simp only [F_compare, if_neg q_1, if_neg q_2, if_pos q_3]) dX2_compare_33
      · refine lv_aload_n hx hb dX2_compare_24 rfl (lv_at hl 0 rfl) ?_
        refine lv_iload_n hx hb dX2_compare_25 rfl (lv_at hl 2 rfl) ?_
        refine kp_callVR (rm := rm_isFilled) (As := [.int y]) (rest := []) (r := some (.int (F_isFilled c y))) (st1 := [.int (F_isFilled c y)]) B (C_isFilled l D ty sz G Z hG c y) kt_isFilled kw_184 kw_185 kw_186 (kc_rcD B hP) (by decide) ⟨rfl, rfl⟩ (by decide) rfl (Nat.le_of_ble_eq_true rfl) hl.1 hP hS dX2_compare_26 rfl ?_
        refine lv_if_ne (tgt := 34) hx hb dX2_compare_29 (by decide) (fun q_4 => ?_) (fun q_4 => ?_)
        · refine lv_aload_n hx hb dX2_compare_34 rfl (lv_at hl 0 rfl) ?_
          refine kc_getD (j := 1) (v := .ref (aP G)) B hP rfl (by decide) kw_74 dX2_compare_35 ?_
          refine lv_iload_n hx hb dX2_compare_38 rfl (lv_at hl 1 rfl) ?_
          refine kc_aald (i := x) B hG hP (kc_inF q_3) dX2_compare_39 ?_
          refine lv_astore_n (lv' := [(3, .ref (aN G x.toNatClampNeg)), (0, .ref (aD G)), (1, .int x), (2, .int y)]) hx hb dX2_compare_40 rfl hl (by decide) rfl (fun ls hl => ?_)
          refine lv_aload_n hx hb dX2_compare_41 rfl (lv_at hl 1 rfl) ?_
          refine kc_getD (j := 1) (v := .ref (aP G)) B hP rfl (by decide) kw_74 dX2_compare_42 ?_
          refine lv_iload_n hx hb dX2_compare_45 rfl (lv_at hl 3 rfl) ?_
          refine kc_aald (i := y) B hG hP (kc_inF q_4) dX2_compare_46 ?_
          refine lv_astore (lv' := [(4, .ref (aN G y.toNatClampNeg)), (3, .ref (aN G x.toNatClampNeg)), (0, .ref (aD G)), (1, .int x), (2, .int y)]) hx hb dX2_compare_47 hl (by decide) rfl (fun ls hl => ?_)
          refine lv_aload hx hb dX2_compare_49 (lv_at hl 0 rfl) ?_
          refine lv_aload_n hx hb dX2_compare_51 rfl (lv_at hl 1 rfl) ?_
          refine kp_callNR (rm := rm_holdsAllOf) (As := [.ref (aN G x.toNatClampNeg)]) (rest := []) (r := some (.int (F_holdsAllOf c y.toNatClampNeg x.toNatClampNeg))) (st1 := [.int (F_holdsAllOf c y.toNatClampNeg x.toNatClampNeg)]) B (C_holdsAllOf l D ty sz G Z hG c y.toNatClampNeg (kc_in10 (kc_inF q_4)) x.toNatClampNeg (kc_in10 (kc_inF q_3))) kt_holdsAllOf kw_189 kw_190 kw_191 (kc_rcN B hP (kc_in10 (kc_inF q_4))) (by decide) ⟨rfl, rfl⟩ (by decide) rfl (Nat.le_of_ble_eq_true rfl) hl.1 hP hS dX2_compare_52 rfl ?_
          refine lv_istore (lv' := [(5, .int (F_holdsAllOf c y.toNatClampNeg x.toNatClampNeg)), (4, .ref (aN G y.toNatClampNeg)), (3, .ref (aN G x.toNatClampNeg)), (0, .ref (aD G)), (1, .int x), (2, .int y)]) hx hb dX2_compare_55 hl (by decide) rfl (fun ls hl => ?_)
          refine lv_aload_n hx hb dX2_compare_57 rfl (lv_at hl 2 rfl) ?_
          refine lv_aload hx hb dX2_compare_58 (lv_at hl 1 rfl) ?_
          refine kp_callNR (rm := rm_holdsAllOf) (As := [.ref (aN G y.toNatClampNeg)]) (rest := []) (r := some (.int (F_holdsAllOf c x.toNatClampNeg y.toNatClampNeg))) (st1 := [.int (F_holdsAllOf c x.toNatClampNeg y.toNatClampNeg)]) B (C_holdsAllOf l D ty sz G Z hG c x.toNatClampNeg (kc_in10 (kc_inF q_3)) y.toNatClampNeg (kc_in10 (kc_inF q_4))) kt_holdsAllOf kw_189 kw_190 kw_191 (kc_rcN B hP (kc_in10 (kc_inF q_3))) (by decide) ⟨rfl, rfl⟩ (by decide) rfl (Nat.le_of_ble_eq_true rfl) hl.1 hP hS dX2_compare_60 rfl ?_
          refine lv_istore (lv' := [(6, .int (F_holdsAllOf c x.toNatClampNeg y.toNatClampNeg)), (5, .int (F_holdsAllOf c y.toNatClampNeg x.toNatClampNeg)), (4, .ref (aN G y.toNatClampNeg)), (3, .ref (aN G x.toNatClampNeg)), (0, .ref (aD G)), (1, .int x), (2, .int y)]) hx hb dX2_compare_63 hl (by decide) rfl (fun ls hl => ?_)
          refine lv_aload_n hx hb dX2_compare_65 rfl (lv_at hl 3 rfl) ?_
          refine kc_getNX (j := 0) (k := x.toNatClampNeg) (v := .long ((c.2.2 x.toNatClampNeg).1)) B hP (kc_in10 (kc_inF q_3)) rfl (by decide) kw_87 dX2_compare_66 ?_
          refine lv_aload hx hb dX2_compare_69 (lv_at hl 2 rfl) ?_
          refine kc_getNX (j := 1) (k := y.toNatClampNeg) (v := .long ((c.2.2 y.toNatClampNeg).2)) B hP (kc_in10 (kc_inF q_4)) rfl (by decide) kw_88 dX2_compare_71 ?_
          have hJ83 : W p l e rm_compare s m args below meth cd s.heap [] 0 0 (MQ below (kp_QR (some (.int (F_compare c x y)))) args s 0 0 (fun _ => False)) (F0 m 83 ls [.int (if ((c.2.2 y.toNatClampNeg).2) ≤ ((c.2.2 x.toNatClampNeg).1) then (0 : Int32) else (1 : Int32))]) := by
            refine lv_aload_n hx hb dX2_compare_83 rfl (lv_at hl 3 rfl) ?_
            refine kc_getNX (j := 0) (k := x.toNatClampNeg) (v := .long ((c.2.2 x.toNatClampNeg).1)) B hP (kc_in10 (kc_inF q_3)) rfl (by decide) kw_87 dX2_compare_84 ?_
            refine lv_aload hx hb dX2_compare_87 (lv_at hl 2 rfl) ?_
            refine kc_getNX (j := 1) (k := y.toNatClampNeg) (v := .long ((c.2.2 y.toNatClampNeg).2)) B hP (kc_in10 (kc_inF q_4)) rfl (by decide) kw_88 dX2_compare_89 ?_
            have hJ114 : W p l e rm_compare s m args below meth cd s.heap [] 0 0 (MQ below (kp_QR (some (.int (F_compare c x y)))) args s 0 0 (fun _ => False)) (F0 m 114 ls [.int (if ((c.2.2 y.toNatClampNeg).2) < ((c.2.2 x.toNatClampNeg).1) then (0 : Int32) else (if ((c.2.2 x.toNatClampNeg).2) < ((c.2.2 y.toNatClampNeg).1) then (0 : Int32) else (2 : Int32))), .int (if ((c.2.2 y.toNatClampNeg).2) ≤ ((c.2.2 x.toNatClampNeg).1) then (0 : Int32) else (1 : Int32))]) := by
              refine lv_ior hx hb dX2_compare_114 ?_
              refine lv_aload_n hx hb dX2_compare_115 rfl (lv_at hl 3 rfl) ?_
              refine kc_getNX (j := 1) (k := x.toNatClampNeg) (v := .long ((c.2.2 x.toNatClampNeg).2)) B hP (kc_in10 (kc_inF q_3)) rfl (by decide) kw_88 dX2_compare_116 ?_
              refine lv_aload hx hb dX2_compare_119 (lv_at hl 2 rfl) ?_
              refine kc_getNX (j := 0) (k := y.toNatClampNeg) (v := .long ((c.2.2 y.toNatClampNeg).1)) B hP (kc_in10 (kc_inF q_4)) rfl (by decide) kw_87 dX2_compare_121 ?_
              have hJ133 : W p l e rm_compare s m args below meth cd s.heap [] 0 0 (MQ below (kp_QR (some (.int (F_compare c x y)))) args s 0 0 (fun _ => False)) (F0 m 133 ls [.int (if ((c.2.2 x.toNatClampNeg).2) ≤ ((c.2.2 y.toNatClampNeg).1) then (0 : Int32) else (4 : Int32)), .int ((if ((c.2.2 y.toNatClampNeg).2) ≤ ((c.2.2 x.toNatClampNeg).1) then (0 : Int32) else (1 : Int32)) ||| (if ((c.2.2 y.toNatClampNeg).2) < ((c.2.2 x.toNatClampNeg).1) then (0 : Int32) else (if ((c.2.2 x.toNatClampNeg).2) < ((c.2.2 y.toNatClampNeg).1) then (0 : Int32) else (2 : Int32))))]) := by
                refine lv_ior hx hb dX2_compare_133 ?_
                refine lv_iload hx hb dX2_compare_134 (lv_at hl 1 rfl) ?_
                have hJ145 : W p l e rm_compare s m args below meth cd s.heap [] 0 0 (MQ below (kp_QR (some (.int (F_compare c x y)))) args s 0 0 (fun _ => False)) (F0 m 145 ls [.int (if (F_holdsAllOf c y.toNatClampNeg x.toNatClampNeg) = (0 : Int32) then (0 : Int32) else (8 : Int32)), .int (((if ((c.2.2 y.toNatClampNeg).2) ≤ ((c.2.2 x.toNatClampNeg).1) then (0 : Int32) else (1 : Int32)) ||| (if ((c.2.2 y.toNatClampNeg).2) < ((c.2.2 x.toNatClampNeg).1) then (0 : Int32) else (if ((c.2.2 x.toNatClampNeg).2) < ((c.2.2 y.toNatClampNeg).1) then (0 : Int32) else (2 : Int32)))) ||| (if ((c.2.2 x.toNatClampNeg).2) ≤ ((c.2.2 y.toNatClampNeg).1) then (0 : Int32) else (4 : Int32)))]) := by
                  refine lv_ior hx hb dX2_compare_145 ?_
                  refine lv_iload hx hb dX2_compare_146 (lv_at hl 0 rfl) ?_
                  have hJ157 : W p l e rm_compare s m args below meth cd s.heap [] 0 0 (MQ below (kp_QR (some (.int (F_compare c x y)))) args s 0 0 (fun _ => False)) (F0 m 157 ls [.int (if (F_holdsAllOf c x.toNatClampNeg y.toNatClampNeg) = (0 : Int32) then (0 : Int32) else (16 : Int32)), .int ((((if ((c.2.2 y.toNatClampNeg).2) ≤ ((c.2.2 x.toNatClampNeg).1) then (0 : Int32) else (1 : Int32)) ||| (if ((c.2.2 y.toNatClampNeg).2) < ((c.2.2 x.toNatClampNeg).1) then (0 : Int32) else (if ((c.2.2 x.toNatClampNeg).2) < ((c.2.2 y.toNatClampNeg).1) then (0 : Int32) else (2 : Int32)))) ||| (if ((c.2.2 x.toNatClampNeg).2) ≤ ((c.2.2 y.toNatClampNeg).1) then (0 : Int32) else (4 : Int32))) ||| (if (F_holdsAllOf c y.toNatClampNeg x.toNatClampNeg) = (0 : Int32) then (0 : Int32) else (8 : Int32)))]) := by
                    refine lv_ior hx hb dX2_compare_157 ?_
                    refine lv_iload hx hb dX2_compare_158 (lv_at hl 1 rfl) ?_
                    have hJ174 : W p l e rm_compare s m args below meth cd s.heap [] 0 0 (MQ below (kp_QR (some (.int (F_compare c x y)))) args s 0 0 (fun _ => False)) (F0 m 174 ls [.int (if (F_holdsAllOf c y.toNatClampNeg x.toNatClampNeg) = (0 : Int32) then (0 : Int32) else (if (F_holdsAllOf c x.toNatClampNeg y.toNatClampNeg) = (0 : Int32) then (0 : Int32) else (32 : Int32))), .int (((((if ((c.2.2 y.toNatClampNeg).2) ≤ ((c.2.2 x.toNatClampNeg).1) then (0 : Int32) else (1 : Int32)) ||| (if ((c.2.2 y.toNatClampNeg).2) < ((c.2.2 x.toNatClampNeg).1) then (0 : Int32) else (if ((c.2.2 x.toNatClampNeg).2) < ((c.2.2 y.toNatClampNeg).1) then (0 : Int32) else (2 : Int32)))) ||| (if ((c.2.2 x.toNatClampNeg).2) ≤ ((c.2.2 y.toNatClampNeg).1) then (0 : Int32) else (4 : Int32))) ||| (if (F_holdsAllOf c y.toNatClampNeg x.toNatClampNeg) = (0 : Int32) then (0 : Int32) else (8 : Int32))) ||| (if (F_holdsAllOf c x.toNatClampNeg y.toNatClampNeg) = (0 : Int32) then (0 : Int32) else (16 : Int32)))]) := by
                      refine lv_ior hx hb dX2_compare_174 ?_
                      exact kp_retiR B (by simp only [F_compare, if_neg q_1, if_neg q_2, if_neg q_3, if_neg q_4]) dX2_compare_175
                    refine lv_if_eq (tgt := 173) hx hb dX2_compare_160 (by decide) (fun q_5 => ?_) (fun q_5 => ?_)
                    · refine lv_iconst (v := (0 : Int32)) hx hb dX2_compare_173 (by decide) ?_
                      exact kp_jI (by simp only [if_pos q_5]) hJ174
                    · refine lv_iload hx hb dX2_compare_163 (lv_at hl 0 rfl) ?_
                      refine lv_if_eq (tgt := 173) hx hb dX2_compare_165 (by decide) (fun q_6 => ?_) (fun q_6 => ?_)
                      · refine lv_iconst (v := (0 : Int32)) hx hb dX2_compare_173 (by decide) ?_
                        exact kp_jI (by simp only [if_neg q_5, if_pos q_6]) hJ174
                      · refine lv_bipush (v := (32 : Int32)) hx hb dX2_compare_168 (by decide) ?_
                        refine lv_goto (tgt := 174) hx hb dX2_compare_170 (by decide) ?_
                        exact kp_jI (by simp only [if_neg q_5, if_neg q_6]) hJ174
                  refine lv_if_eq (tgt := 156) hx hb dX2_compare_148 (by decide) (fun q_7 => ?_) (fun q_7 => ?_)
                  · refine lv_iconst (v := (0 : Int32)) hx hb dX2_compare_156 (by decide) ?_
                    exact kp_jI (by simp only [if_pos q_7]) hJ157
                  · refine lv_bipush (v := (16 : Int32)) hx hb dX2_compare_151 (by decide) ?_
                    refine lv_goto (tgt := 157) hx hb dX2_compare_153 (by decide) ?_
                    exact kp_jI (by simp only [if_neg q_7]) hJ157
                refine lv_if_eq (tgt := 144) hx hb dX2_compare_136 (by decide) (fun q_8 => ?_) (fun q_8 => ?_)
                · refine lv_iconst (v := (0 : Int32)) hx hb dX2_compare_144 (by decide) ?_
                  exact kp_jI (by simp only [if_pos q_8]) hJ145
                · refine lv_bipush (v := (8 : Int32)) hx hb dX2_compare_139 (by decide) ?_
                  refine lv_goto (tgt := 145) hx hb dX2_compare_141 (by decide) ?_
                  exact kp_jI (by simp only [if_neg q_8]) hJ145
              refine kp_lle (tgt := 132) hx hb dX2_compare_124 dX2_compare_125 (by decide) (fun q_9 => ?_) (fun q_9 => ?_)
              · refine lv_iconst (v := (0 : Int32)) hx hb dX2_compare_132 (by decide) ?_
                exact kp_jI (by simp only [if_pos q_9]) hJ133
              · refine lv_iconst (v := (4 : Int32)) hx hb dX2_compare_128 (by decide) ?_
                refine lv_goto (tgt := 133) hx hb dX2_compare_129 (by decide) ?_
                exact kp_jI (by simp only [if_neg q_9]) hJ133
            refine kp_lgt (tgt := 113) hx hb dX2_compare_92 dX2_compare_93 (by decide) (fun q_10 => ?_) (fun q_10 => ?_)
            · refine lv_iconst (v := (0 : Int32)) hx hb dX2_compare_113 (by decide) ?_
              exact kp_jI (by simp only [if_pos q_10]) hJ114
            · refine lv_aload hx hb dX2_compare_96 (lv_at hl 2 rfl) ?_
              refine kc_getNX (j := 0) (k := y.toNatClampNeg) (v := .long ((c.2.2 y.toNatClampNeg).1)) B hP (kc_in10 (kc_inF q_4)) rfl (by decide) kw_87 dX2_compare_98 ?_
              refine lv_aload_n hx hb dX2_compare_101 rfl (lv_at hl 3 rfl) ?_
              refine kc_getNX (j := 1) (k := x.toNatClampNeg) (v := .long ((c.2.2 x.toNatClampNeg).2)) B hP (kc_in10 (kc_inF q_3)) rfl (by decide) kw_88 dX2_compare_102 ?_
              refine kp_lgt (tgt := 113) hx hb dX2_compare_105 dX2_compare_106 (by decide) (fun q_11 => ?_) (fun q_11 => ?_)
              · refine lv_iconst (v := (0 : Int32)) hx hb dX2_compare_113 (by decide) ?_
                exact kp_jI (by simp only [if_neg q_10, if_pos q_11]) hJ114
              · refine lv_iconst (v := (2 : Int32)) hx hb dX2_compare_109 (by decide) ?_
                refine lv_goto (tgt := 114) hx hb dX2_compare_110 (by decide) ?_
                exact kp_jI (by simp only [if_neg q_10, if_neg q_11]) hJ114
          refine kp_lge (tgt := 82) hx hb dX2_compare_74 dX2_compare_75 (by decide) (fun q_12 => ?_) (fun q_12 => ?_)
          · refine lv_iconst (v := (0 : Int32)) hx hb dX2_compare_82 (by decide) ?_
            exact kp_jI (by simp only [if_pos q_12]) hJ83
          · refine lv_iconst (v := (1 : Int32)) hx hb dX2_compare_78 (by decide) ?_
            refine lv_goto (tgt := 83) hx hb dX2_compare_79 (by decide) ?_
            exact kp_jI (by simp only [if_neg q_12]) hJ83
        · refine lv_iconst (v := (0 : Int32)) hx hb dX2_compare_32 (by decide) ?_
          exact kp_retiR B (by simp only [F_compare, if_neg q_1, if_neg q_2, if_neg q_3, if_pos q_4]) dX2_compare_33
    · refine lv_iconst (v := (-1 : Int32)) hx hb dX2_compare_14 (by decide) ?_
      exact kp_retiR B (by simp only [F_compare, if_neg q_1, if_pos q_2]) dX2_compare_15
def F_has (c : cw_C) (x : Int32) (y : Int32) : Int32 :=
  if (F_isFilled c x) = (0 : Int32) then (0 : Int32) else (if (F_isPattern c y) = (0 : Int32) then (0 : Int32) else (if (F_isEndless (F_numberOf c y)) = (0 : Int32) then (if (F_numberOf c y) < ((c.2.2 x.toNatClampNeg).1) then (0 : Int32) else (if ((c.2.2 x.toNatClampNeg).2) < (F_numberOf c y) then (0 : Int32) else (1 : Int32))) else (0 : Int32)))
def rm_has : Room := { frames := 3, cells := 0, slots := 0, locals := 67 }
set_option maxHeartbeats 4000000 in
set_option maxRecDepth 100000 in
theorem C_has (l : Launch) (D : va_G) (ty : List (ClassId × FieldType)) (sz : Nat) (G : cw_G) (Z : va_W) (hG : cw_ok ty sz G Z) (c : cw_C) (x : Int32) (y : Int32) : kp_R l yX2_has cX2_has 5 (some .boolean) rm_has D ty sz [.ref (aD G), .int x, .int y] (cw_W G c Z) (some (.int (F_has c x y))) := by
  refine kp_bodyR (by decide) (Nat.le_of_ble_eq_true rfl) rfl ?_
  intro p e s m args below meth cd ls B hl hP hS
  obtain ⟨hx, hb, hml, hown, hlk, hr, hw, hE, hK, hsz⟩ := id B
  have hl : lv_has ls 5 [(0, .ref (aD G)), (1, .int x), (2, .int y)] := hl
  refine lv_aload_n hx hb dX2_has_0 rfl (lv_at hl 0 rfl) ?_
  refine lv_iload_n hx hb dX2_has_1 rfl (lv_at hl 1 rfl) ?_
  refine kp_callVR (rm := rm_isFilled) (As := [.int x]) (rest := []) (r := some (.int (F_isFilled c x))) (st1 := [.int (F_isFilled c x)]) B (C_isFilled l D ty sz G Z hG c x) kt_isFilled kw_184 kw_185 kw_186 (kc_rcD B hP) (by decide) ⟨rfl, rfl⟩ (by decide) rfl (Nat.le_of_ble_eq_true rfl) hl.1 hP hS dX2_has_2 rfl ?_
  refine lv_if_eq (tgt := 19) hx hb dX2_has_5 (by decide) (fun q_1 => ?_) (fun q_1 => ?_)
  · refine lv_iconst (v := (0 : Int32)) hx hb dX2_has_19 (by decide) ?_
    exact kp_retzR B (by simp only [F_has, if_pos q_1]) (Or.inl rfl) dX2_has_20
  · refine lv_aload_n hx hb dX2_has_8 rfl (lv_at hl 0 rfl) ?_
    refine kc_getD (j := 0) (v := .ref (aS G)) B hP rfl (by decide) kw_76 dX2_has_9 ?_
    refine lv_iload_n hx hb dX2_has_12 rfl (lv_at hl 2 rfl) ?_
    refine kp_callNR (rm := rm_isPattern) (As := [.int y]) (rest := []) (r := some (.int (F_isPattern c y))) (st1 := [.int (F_isPattern c y)]) B (C_isPattern l D ty sz G Z hG c y) kt_isPattern kw_194 kw_195 kw_196 (kc_rcS B hP) (by decide) ⟨rfl, rfl⟩ (by decide) rfl (Nat.le_of_ble_eq_true rfl) hl.1 hP hS dX2_has_13 rfl ?_
    refine lv_if_ne (tgt := 21) hx hb dX2_has_16 (by decide) (fun q_2 => ?_) (fun q_2 => ?_)
    · refine lv_aload_n hx hb dX2_has_21 rfl (lv_at hl 0 rfl) ?_
      refine kc_getD (j := 0) (v := .ref (aS G)) B hP rfl (by decide) kw_76 dX2_has_22 ?_
      refine lv_iload_n hx hb dX2_has_25 rfl (lv_at hl 2 rfl) ?_
      refine kp_callNR (rm := rm_numberOf) (As := [.int y]) (rest := []) (r := some (.long (F_numberOf c y))) (st1 := [.long (F_numberOf c y)]) B (C_numberOf l D ty sz G Z hG c y) kt_numberOf kw_199 kw_200 kw_201 (kc_rcS B hP) (by decide) ⟨rfl, rfl⟩ (by decide) rfl (Nat.le_of_ble_eq_true rfl) hl.1 hP hS dX2_has_26 rfl ?_
      refine lv_lstore_n (lv' := [(3, .long (F_numberOf c y)), (0, .ref (aD G)), (1, .int x), (2, .int y)]) hx hb dX2_has_29 rfl hl (by decide) rfl (fun ls hl => ?_)
      refine lv_lload_n hx hb dX2_has_30 rfl (lv_at hl 0 rfl) ?_
      refine kp_callSR (rm := rm_isEndless) (As := [.long (F_numberOf c y)]) (rest := []) (r := some (.int (F_isEndless (F_numberOf c y)))) (st1 := [.int (F_isEndless (F_numberOf c y))]) B (C_isEndless l D ty sz G Z hG c (F_numberOf c y)) kt_isEndless kw_68 kw_69 (by decide) ⟨rfl, rfl⟩ (by decide) rfl (Nat.le_of_ble_eq_true rfl) hl.1 hP hS dX2_has_31 rfl ?_
      refine lv_if_ne (tgt := 69) hx hb dX2_has_34 (by decide) (fun q_3 => ?_) (fun q_3 => ?_)
      · refine lv_iconst (v := (0 : Int32)) hx hb dX2_has_69 (by decide) ?_
        exact kp_retzR B (by simp only [F_has, if_neg q_1, if_neg q_2, if_neg q_3]) (Or.inl rfl) dX2_has_70
      · refine lv_aload_n hx hb dX2_has_37 rfl (lv_at hl 1 rfl) ?_
        refine kc_getD (j := 1) (v := .ref (aP G)) B hP rfl (by decide) kw_74 dX2_has_38 ?_
        refine lv_iload_n hx hb dX2_has_41 rfl (lv_at hl 2 rfl) ?_
        refine kc_aald (i := x) B hG hP (kc_inF q_1) dX2_has_42 ?_
        refine kc_getNX (j := 0) (k := x.toNatClampNeg) (v := .long ((c.2.2 x.toNatClampNeg).1)) B hP (kc_in10 (kc_inF q_1)) rfl (by decide) kw_87 dX2_has_43 ?_
        refine lv_lload_n hx hb dX2_has_46 rfl (lv_at hl 0 rfl) ?_
        refine kp_lgt (tgt := 69) hx hb dX2_has_47 dX2_has_48 (by decide) (fun q_4 => ?_) (fun q_4 => ?_)
        · refine lv_iconst (v := (0 : Int32)) hx hb dX2_has_69 (by decide) ?_
          exact kp_retzR B (by simp only [F_has, if_neg q_1, if_neg q_2, if_pos q_3, if_pos q_4]) (Or.inl rfl) dX2_has_70
        · refine lv_lload_n hx hb dX2_has_51 rfl (lv_at hl 0 rfl) ?_
          refine lv_aload_n hx hb dX2_has_52 rfl (lv_at hl 1 rfl) ?_
          refine kc_getD (j := 1) (v := .ref (aP G)) B hP rfl (by decide) kw_74 dX2_has_53 ?_
          refine lv_iload_n hx hb dX2_has_56 rfl (lv_at hl 2 rfl) ?_
          refine kc_aald (i := x) B hG hP (kc_inF q_1) dX2_has_57 ?_
          refine kc_getNX (j := 1) (k := x.toNatClampNeg) (v := .long ((c.2.2 x.toNatClampNeg).2)) B hP (kc_in10 (kc_inF q_1)) rfl (by decide) kw_88 dX2_has_58 ?_
          refine kp_lgt (tgt := 69) hx hb dX2_has_61 dX2_has_62 (by decide) (fun q_5 => ?_) (fun q_5 => ?_)
          · refine lv_iconst (v := (0 : Int32)) hx hb dX2_has_69 (by decide) ?_
            exact kp_retzR B (by simp only [F_has, if_neg q_1, if_neg q_2, if_pos q_3, if_neg q_4, if_pos q_5]) (Or.inl rfl) dX2_has_70
          · refine lv_iconst (v := (1 : Int32)) hx hb dX2_has_65 (by decide) ?_
            refine lv_goto (tgt := 70) hx hb dX2_has_66 (by decide) ?_
            exact kp_retzR B (by simp only [F_has, if_neg q_1, if_neg q_2, if_pos q_3, if_neg q_4, if_neg q_5]) (Or.inr rfl) dX2_has_70
    · refine lv_iconst (v := (0 : Int32)) hx hb dX2_has_19 (by decide) ?_
      exact kp_retzR B (by simp only [F_has, if_neg q_1, if_pos q_2]) (Or.inl rfl) dX2_has_20
def F_clear (c : cw_C) (x : Int32) : Int32 :=
  if (F_isPlace x) = (0 : Int32) then (0 : Int32) else (1 : Int32)
def S_clear (c : cw_C) (x : Int32) : cw_C :=
  if (F_isPlace x) = (0 : Int32) then c else S_becomeEmpty c x.toNatClampNeg
def rm_clear : Room := { frames := 1, cells := 0, slots := 0, locals := 20 }
set_option maxHeartbeats 4000000 in
set_option maxRecDepth 100000 in
theorem C_clear (l : Launch) (D : va_G) (ty : List (ClassId × FieldType)) (sz : Nat) (G : cw_G) (Z : va_W) (hG : cw_ok ty sz G Z) (c : cw_C) (x : Int32) : kp_M l yX2_clear cX2_clear 2 (some .boolean) rm_clear D ty sz [.ref (aD G), .int x] (cw_W G c Z) (some (.int (F_clear c x))) (cw_W G (S_clear c x) Z) := by
  refine kp_body (by decide) (Nat.le_of_ble_eq_true rfl) rfl ?_
  intro p e s m args below meth cd ls B hin hl hP hS
  obtain ⟨hx, hb, hml, hown, hlk, hr, hw, hE, hK, hsz⟩ := id B
  have hl : lv_has ls 2 [(0, .ref (aD G)), (1, .int x)] := hl
  refine lv_iload_n hx hb dX2_clear_0 rfl (lv_at hl 1 rfl) ?_
  refine kp_callSR (rm := rm_isPlace) (As := [.int x]) (rest := []) (r := some (.int (F_isPlace x))) (st1 := [.int (F_isPlace x)]) B (C_isPlace l D ty sz G Z hG c x) kt_isPlace kw_72 kw_73 (by decide) ⟨rfl, rfl⟩ (by decide) rfl (Nat.le_of_ble_eq_true rfl) hl.1 hP hS dX2_clear_1 rfl ?_
  refine lv_if_ne (tgt := 9) hx hb dX2_clear_4 (by decide) (fun q_1 => ?_) (fun q_1 => ?_)
  · refine lv_aload_n hx hb dX2_clear_9 rfl (lv_at hl 0 rfl) ?_
    refine kc_getD (j := 1) (v := .ref (aP G)) B hP rfl (by decide) kw_74 dX2_clear_10 ?_
    refine lv_iload_n hx hb dX2_clear_13 rfl (lv_at hl 1 rfl) ?_
    refine kc_aald (i := x) B hG hP (kc_inP q_1) dX2_clear_14 ?_
    refine kp_callN (rm := rm_becomeEmpty) (As := []) (rest := []) (r := none) (st1 := []) (ws' := cw_W G (S_becomeEmpty c x.toNatClampNeg) Z) B (C_becomeEmpty l D ty sz G Z hG c x.toNatClampNeg (kc_in10 (kc_inP q_1))) kt_becomeEmpty kw_109 kw_110 kw_111 (kc_rcN B hP (kc_in10 (kc_inP q_1))) (by decide) rfl rfl (by decide) rfl (Nat.le_of_ble_eq_true rfl) hl.1 hP hS dX2_clear_15 rfl (fun H locs hP hS => ?_)
    refine lv_iconst (v := (1 : Int32)) hx hb dX2_clear_18 (by decide) ?_
    exact kp_retz B (by simp only [S_clear, if_neg q_1]; exact hP) hS (by simp only [F_clear, if_neg q_1]) (Or.inr rfl) dX2_clear_19
  · refine lv_iconst (v := (0 : Int32)) hx hb dX2_clear_7 (by decide) ?_
    exact kp_retz B (by simp only [S_clear, if_pos q_1]; exact hP) hS (by simp only [F_clear, if_pos q_1]) (Or.inl rfl) dX2_clear_8
def F_set (c : cw_C) (x : Int32) (y : Int32) (z : Int32) : Int32 :=
  if (F_isPlace x) = (0 : Int32) then (0 : Int32) else (if (F_isPattern c y) = (0 : Int32) then (0 : Int32) else (if (F_isPattern c z) = (0 : Int32) then (0 : Int32) else (if (F_numberOf c y) = cw_inf then (0 : Int32) else (if (F_numberOf c z) = (-cw_inf) then (0 : Int32) else (if (F_numberOf c y) ≤ (F_numberOf c z) then (1 : Int32) else (0 : Int32))))))
def S_set (c : cw_C) (x : Int32) (y : Int32) (z : Int32) : cw_C :=
  if (F_isPlace x) = (0 : Int32) then c else (if (F_isPattern c y) = (0 : Int32) then c else (if (F_isPattern c z) = (0 : Int32) then c else (if (F_numberOf c y) = cw_inf then c else (if (F_numberOf c z) = (-cw_inf) then c else (if (F_numberOf c y) ≤ (F_numberOf c z) then S_become c x.toNatClampNeg (F_numberOf c y) (F_numberOf c z) else c)))))
def rm_set : Room := { frames := 3, cells := 0, slots := 0, locals := 67 }
set_option maxHeartbeats 4000000 in
set_option maxRecDepth 100000 in
theorem C_set (l : Launch) (D : va_G) (ty : List (ClassId × FieldType)) (sz : Nat) (G : cw_G) (Z : va_W) (hG : cw_ok ty sz G Z) (c : cw_C) (x : Int32) (y : Int32) (z : Int32) : kp_M l yX2_set cX2_set 8 (some .boolean) rm_set D ty sz [.ref (aD G), .int x, .int y, .int z] (cw_W G c Z) (some (.int (F_set c x y z))) (cw_W G (S_set c x y z) Z) := by
  refine kp_body (by decide) (Nat.le_of_ble_eq_true rfl) rfl ?_
  intro p e s m args below meth cd ls B hin hl hP hS
  obtain ⟨hx, hb, hml, hown, hlk, hr, hw, hE, hK, hsz⟩ := id B
  have hl : lv_has ls 8 [(0, .ref (aD G)), (1, .int x), (2, .int y), (3, .int z)] := hl
  refine lv_iload_n hx hb dX2_set_0 rfl (lv_at hl 1 rfl) ?_
  refine kp_callSR (rm := rm_isPlace) (As := [.int x]) (rest := []) (r := some (.int (F_isPlace x))) (st1 := [.int (F_isPlace x)]) B (C_isPlace l D ty sz G Z hG c x) kt_isPlace kw_72 kw_73 (by decide) ⟨rfl, rfl⟩ (by decide) rfl (Nat.le_of_ble_eq_true rfl) hl.1 hP hS dX2_set_1 rfl ?_
  refine lv_if_eq (tgt := 29) hx hb dX2_set_4 (by decide) (fun q_1 => ?_) (fun q_1 => ?_)
  · refine lv_iconst (v := (0 : Int32)) hx hb dX2_set_29 (by decide) ?_
    exact kp_retz B (by simp only [S_set, if_pos q_1]; exact hP) hS (by simp only [F_set, if_pos q_1]) (Or.inl rfl) dX2_set_30
  · refine lv_aload_n hx hb dX2_set_7 rfl (lv_at hl 0 rfl) ?_
    refine kc_getD (j := 0) (v := .ref (aS G)) B hP rfl (by decide) kw_76 dX2_set_8 ?_
    refine lv_iload_n hx hb dX2_set_11 rfl (lv_at hl 2 rfl) ?_
    refine kp_callNR (rm := rm_isPattern) (As := [.int y]) (rest := []) (r := some (.int (F_isPattern c y))) (st1 := [.int (F_isPattern c y)]) B (C_isPattern l D ty sz G Z hG c y) kt_isPattern kw_194 kw_195 kw_196 (kc_rcS B hP) (by decide) ⟨rfl, rfl⟩ (by decide) rfl (Nat.le_of_ble_eq_true rfl) hl.1 hP hS dX2_set_12 rfl ?_
    refine lv_if_eq (tgt := 29) hx hb dX2_set_15 (by decide) (fun q_2 => ?_) (fun q_2 => ?_)
    · refine lv_iconst (v := (0 : Int32)) hx hb dX2_set_29 (by decide) ?_
      exact kp_retz B (by simp only [S_set, if_neg q_1, if_pos q_2]; exact hP) hS (by simp only [F_set, if_neg q_1, if_pos q_2]) (Or.inl rfl) dX2_set_30
    · refine lv_aload_n hx hb dX2_set_18 rfl (lv_at hl 0 rfl) ?_
      refine kc_getD (j := 0) (v := .ref (aS G)) B hP rfl (by decide) kw_76 dX2_set_19 ?_
      refine lv_iload_n hx hb dX2_set_22 rfl (lv_at hl 3 rfl) ?_
      refine kp_callNR (rm := rm_isPattern) (As := [.int z]) (rest := []) (r := some (.int (F_isPattern c z))) (st1 := [.int (F_isPattern c z)]) B (C_isPattern l D ty sz G Z hG c z) kt_isPattern kw_194 kw_195 kw_196 (kc_rcS B hP) (by decide) ⟨rfl, rfl⟩ (by decide) rfl (Nat.le_of_ble_eq_true rfl) hl.1 hP hS dX2_set_23 rfl ?_
      refine lv_if_ne (tgt := 31) hx hb dX2_set_26 (by decide) (fun q_3 => ?_) (fun q_3 => ?_)
      · refine lv_aload_n hx hb dX2_set_31 rfl (lv_at hl 0 rfl) ?_
        refine kc_getD (j := 0) (v := .ref (aS G)) B hP rfl (by decide) kw_76 dX2_set_32 ?_
        refine lv_iload_n hx hb dX2_set_35 rfl (lv_at hl 2 rfl) ?_
        refine kp_callNR (rm := rm_numberOf) (As := [.int y]) (rest := []) (r := some (.long (F_numberOf c y))) (st1 := [.long (F_numberOf c y)]) B (C_numberOf l D ty sz G Z hG c y) kt_numberOf kw_199 kw_200 kw_201 (kc_rcS B hP) (by decide) ⟨rfl, rfl⟩ (by decide) rfl (Nat.le_of_ble_eq_true rfl) hl.1 hP hS dX2_set_36 rfl ?_
        refine lv_lstore (lv' := [(4, .long (F_numberOf c y)), (0, .ref (aD G)), (1, .int x), (2, .int y), (3, .int z)]) hx hb dX2_set_39 hl (by decide) rfl (fun ls hl => ?_)
        refine lv_aload_n hx hb dX2_set_41 rfl (lv_at hl 1 rfl) ?_
        refine kc_getD (j := 0) (v := .ref (aS G)) B hP rfl (by decide) kw_76 dX2_set_42 ?_
        refine lv_iload_n hx hb dX2_set_45 rfl (lv_at hl 4 rfl) ?_
        refine kp_callNR (rm := rm_numberOf) (As := [.int z]) (rest := []) (r := some (.long (F_numberOf c z))) (st1 := [.long (F_numberOf c z)]) B (C_numberOf l D ty sz G Z hG c z) kt_numberOf kw_199 kw_200 kw_201 (kc_rcS B hP) (by decide) ⟨rfl, rfl⟩ (by decide) rfl (Nat.le_of_ble_eq_true rfl) hl.1 hP hS dX2_set_46 rfl ?_
        refine lv_lstore (lv' := [(6, .long (F_numberOf c z)), (4, .long (F_numberOf c y)), (0, .ref (aD G)), (1, .int x), (2, .int y), (3, .int z)]) hx hb dX2_set_49 hl (by decide) rfl (fun ls hl => ?_)
        refine lv_lload hx hb dX2_set_51 (lv_at hl 1 rfl) ?_
        refine lv_ldc2 (v := cw_inf) hx hb hown (hw _ kw_64 rfl) dX2_set_53 ?_
        refine kp_leq (tgt := 77) hx hb dX2_set_56 dX2_set_57 (by decide) (fun q_4 => ?_) (fun q_4 => ?_)
        · refine lv_iconst (v := (0 : Int32)) hx hb dX2_set_77 (by decide) ?_
          exact kp_retz B (by simp only [S_set, if_neg q_1, if_neg q_2, if_neg q_3, if_pos q_4]; exact hP) hS (by simp only [F_set, if_neg q_1, if_neg q_2, if_neg q_3, if_pos q_4]) (Or.inl rfl) dX2_set_78
        · refine lv_lload hx hb dX2_set_60 (lv_at hl 0 rfl) ?_
          refine lv_ldc2 (v := (-cw_inf)) hx hb hown (hw _ kw_65 rfl) dX2_set_62 ?_
          refine kp_leq (tgt := 77) hx hb dX2_set_65 dX2_set_66 (by decide) (fun q_5 => ?_) (fun q_5 => ?_)
          · refine lv_iconst (v := (0 : Int32)) hx hb dX2_set_77 (by decide) ?_
            exact kp_retz B (by simp only [S_set, if_neg q_1, if_neg q_2, if_neg q_3, if_neg q_4, if_pos q_5]; exact hP) hS (by simp only [F_set, if_neg q_1, if_neg q_2, if_neg q_3, if_neg q_4, if_pos q_5]) (Or.inl rfl) dX2_set_78
          · refine lv_lload hx hb dX2_set_69 (lv_at hl 1 rfl) ?_
            refine lv_lload hx hb dX2_set_71 (lv_at hl 0 rfl) ?_
            refine kp_lle (tgt := 79) hx hb dX2_set_73 dX2_set_74 (by decide) (fun q_6 => ?_) (fun q_6 => ?_)
            · refine lv_aload_n hx hb dX2_set_79 rfl (lv_at hl 2 rfl) ?_
              refine kc_getD (j := 1) (v := .ref (aP G)) B hP rfl (by decide) kw_74 dX2_set_80 ?_
              refine lv_iload_n hx hb dX2_set_83 rfl (lv_at hl 3 rfl) ?_
              refine kc_aald (i := x) B hG hP (kc_inP q_1) dX2_set_84 ?_
              refine lv_lload hx hb dX2_set_85 (lv_at hl 1 rfl) ?_
              refine lv_lload hx hb dX2_set_87 (lv_at hl 0 rfl) ?_
              refine kp_callN (rm := rm_become) (As := [.long (F_numberOf c y), .long (F_numberOf c z)]) (rest := []) (r := none) (st1 := []) (ws' := cw_W G (S_become c x.toNatClampNeg (F_numberOf c y) (F_numberOf c z)) Z) B (C_become l D ty sz G Z hG c x.toNatClampNeg (kc_in10 (kc_inP q_1)) (F_numberOf c y) (F_numberOf c z)) kt_become kw_104 kw_105 kw_106 (kc_rcN B hP (kc_in10 (kc_inP q_1))) (by decide) rfl rfl (by decide) rfl (Nat.le_of_ble_eq_true rfl) hl.1 hP hS dX2_set_89 rfl (fun H locs hP hS => ?_)
              refine lv_iconst (v := (1 : Int32)) hx hb dX2_set_92 (by decide) ?_
              exact kp_retz B (by simp only [S_set, if_neg q_1, if_neg q_2, if_neg q_3, if_neg q_4, if_neg q_5, if_pos q_6]; exact hP) hS (by simp only [F_set, if_neg q_1, if_neg q_2, if_neg q_3, if_neg q_4, if_neg q_5, if_pos q_6]) (Or.inr rfl) dX2_set_93
            · refine lv_iconst (v := (0 : Int32)) hx hb dX2_set_77 (by decide) ?_
              exact kp_retz B (by simp only [S_set, if_neg q_1, if_neg q_2, if_neg q_3, if_neg q_4, if_neg q_5, if_neg q_6]; exact hP) hS (by simp only [F_set, if_neg q_1, if_neg q_2, if_neg q_3, if_neg q_4, if_neg q_5, if_neg q_6]) (Or.inl rfl) dX2_set_78
      · refine lv_iconst (v := (0 : Int32)) hx hb dX2_set_29 (by decide) ?_
        exact kp_retz B (by simp only [S_set, if_neg q_1, if_neg q_2, if_pos q_3]; exact hP) hS (by simp only [F_set, if_neg q_1, if_neg q_2, if_pos q_3]) (Or.inl rfl) dX2_set_30
def LF_format (x : Int32) (y : Int32) : Nat → cw_C → Int32 → Int32
  | 0, c, i => 0
  | n + 1, c, i => if (8 : Int32) ≤ i then (1 : Int32) else LF_format x y n (S_becomeEmpty c i.toNatClampNeg) (i + (1 : Int32))
def LS_format (x : Int32) (y : Int32) : Nat → cw_C → Int32 → cw_C
  | 0, c, i => c
  | n + 1, c, i => if (8 : Int32) ≤ i then c else LS_format x y n (S_becomeEmpty c i.toNatClampNeg) (i + (1 : Int32))
def F_format (c : cw_C) (x : Int32) (y : Int32) : Int32 :=
  if x < (2 : Int32) then (0 : Int32) else (if (4 : Int32) < x then (0 : Int32) else (if y < (1 : Int32) then (0 : Int32) else (if y ≤ (10 : Int32) then LF_format x y 9 (cw_e1 (cw_e0 c x) y) (0 : Int32) else (0 : Int32))))
def S_format (c : cw_C) (x : Int32) (y : Int32) : cw_C :=
  if x < (2 : Int32) then c else (if (4 : Int32) < x then c else (if y < (1 : Int32) then c else (if y ≤ (10 : Int32) then LS_format x y 9 (cw_e1 (cw_e0 c x) y) (0 : Int32) else c)))
def rm_format : Room := { frames := 1, cells := 0, slots := 0, locals := 20 }
set_option maxHeartbeats 4000000 in
set_option maxRecDepth 100000 in
theorem LP_format (l : Launch) (D : va_G) (ty : List (ClassId × FieldType)) (sz : Nat) (G : cw_G) (Z : va_W) (hG : cw_ok ty sz G Z) (x : Int32) (y : Int32) {p : Program} {e : Env} {s : State} {m : MethodId} {args : Array Value} {below : List Frame} {meth : Method} {cd : Code} (B : kp_B p l s m args meth cd yX2_format.cls cX2_format 4 (some .boolean) D ty sz) :
    ∀ (n : Nat) (c : cw_C) (i : Int32) (h1 : 0 ≤ i.toInt) (h2 : 9 ≤ i.toInt + n) (h3 : i.toInt ≤ 8), ∀ (H : Heap) (locs : List Loc) (ls : Array Slot), lv_has ls 4 [(0, .ref (aD G)), (1, .int x), (2, .int y), (3, .int i)] → va_P D vwCl (cw_W G c Z) H → va_S (kp_A sz) s.heap H locs → W p l e rm_format s m args below meth cd H locs 0 0 (MQ below (kp_Q D sz (some (.int (LF_format x y n c i))) (cw_W G (LS_format x y n c i) Z)) args s rm_format.cells rm_format.slots (kp_A sz)) (F0 m 41 ls []) := by
  obtain ⟨hx, hb, hml, hown, hlk, hr, hw, hE, hK, hsz⟩ := id B
  intro n
  induction n with
  | zero =>
    intro c i h1 h2 h3
    exact absurd h2 (by omega)
  | succ n ih =>
    intro c i h1 h2 h3 H locs ls hl hP hS
    refine lv_iload_n hx hb dX2_format_41 rfl (lv_at hl 3 rfl) ?_
    refine lv_bipush (v := (8 : Int32)) hx hb dX2_format_42 (by decide) ?_
    refine lv_icmp_ge (tgt := 62) hx hb dX2_format_44 (by decide) (fun q_1 => ?_) (fun q_1 => ?_)
    · refine lv_iconst (v := (1 : Int32)) hx hb dX2_format_62 (by decide) ?_
      exact kp_retz B (by simp only [LS_format, if_pos q_1]; exact hP) hS (by simp only [LF_format, if_pos q_1]) (Or.inr rfl) dX2_format_63
    · refine lv_aload_n hx hb dX2_format_47 rfl (lv_at hl 0 rfl) ?_
      refine kc_getD (j := 1) (v := .ref (aP G)) B hP rfl (by decide) kw_74 dX2_format_48 ?_
      refine lv_iload_n hx hb dX2_format_51 rfl (lv_at hl 3 rfl) ?_
      refine kc_aald (i := i) B hG hP (ki_in8 h1 q_1) dX2_format_52 ?_
      refine kp_callN (rm := rm_becomeEmpty) (As := []) (rest := []) (r := none) (st1 := []) (ws' := cw_W G (S_becomeEmpty c i.toNatClampNeg) Z) B (C_becomeEmpty l D ty sz G Z hG c i.toNatClampNeg (kc_in10 (ki_in8 h1 q_1))) kt_becomeEmpty kw_109 kw_110 kw_111 (kc_rcN B hP (kc_in10 (ki_in8 h1 q_1))) (by decide) rfl rfl (by decide) rfl (Nat.le_of_ble_eq_true rfl) hl.1 hP hS dX2_format_53 rfl (fun H locs hP hS => ?_)
      refine lv_iinc (v := i + (1 : Int32)) (lv' := [(3, .int (i + (1 : Int32))), (0, .ref (aD G)), (1, .int x), (2, .int y)]) hx hb dX2_format_56 hl (k := 3) rfl rfl (by decide) rfl (fun ls hl => ?_)
      refine lv_goto (tgt := 41) hx hb dX2_format_59 (by decide) ?_
      rw [show LF_format x y (n + 1) c i = LF_format x y n (S_becomeEmpty c i.toNatClampNeg) (i + (1 : Int32)) from by simp only [LF_format, if_neg q_1]]
      rw [show LS_format x y (n + 1) c i = LS_format x y n (S_becomeEmpty c i.toNatClampNeg) (i + (1 : Int32)) from by simp only [LS_format, if_neg q_1]]
      exact ih (S_becomeEmpty c i.toNatClampNeg) (i + (1 : Int32)) (ki_up8 h1 h3 q_1 h2).1 (ki_up8 h1 h3 q_1 h2).2.1 (ki_up8 h1 h3 q_1 h2).2.2 _ _ ls (lv_sub hl [1, 2, 3, 0] rfl) hP hS
set_option maxHeartbeats 4000000 in
set_option maxRecDepth 100000 in
theorem C_format (l : Launch) (D : va_G) (ty : List (ClassId × FieldType)) (sz : Nat) (G : cw_G) (Z : va_W) (hG : cw_ok ty sz G Z) (c : cw_C) (x : Int32) (y : Int32) : kp_M l yX2_format cX2_format 4 (some .boolean) rm_format D ty sz [.ref (aD G), .int x, .int y] (cw_W G c Z) (some (.int (F_format c x y))) (cw_W G (S_format c x y) Z) := by
  refine kp_body (by decide) (Nat.le_of_ble_eq_true rfl) rfl ?_
  intro p e s m args below meth cd ls B hin hl hP hS
  obtain ⟨hx, hb, hml, hown, hlk, hr, hw, hE, hK, hsz⟩ := id B
  have hl : lv_has ls 4 [(0, .ref (aD G)), (1, .int x), (2, .int y)] := hl
  refine lv_iload_n hx hb dX2_format_0 rfl (lv_at hl 1 rfl) ?_
  refine lv_iconst (v := (2 : Int32)) hx hb dX2_format_1 (by decide) ?_
  refine lv_icmp_lt (tgt := 21) hx hb dX2_format_2 (by decide) (fun q_1 => ?_) (fun q_1 => ?_)
  · refine lv_iconst (v := (0 : Int32)) hx hb dX2_format_21 (by decide) ?_
    exact kp_retz B (by simp only [S_format, if_pos q_1]; exact hP) hS (by simp only [F_format, if_pos q_1]) (Or.inl rfl) dX2_format_22
  · refine lv_iload_n hx hb dX2_format_5 rfl (lv_at hl 1 rfl) ?_
    refine lv_iconst (v := (4 : Int32)) hx hb dX2_format_6 (by decide) ?_
    refine lv_icmp_gt (tgt := 21) hx hb dX2_format_7 (by decide) (fun q_2 => ?_) (fun q_2 => ?_)
    · refine lv_iconst (v := (0 : Int32)) hx hb dX2_format_21 (by decide) ?_
      exact kp_retz B (by simp only [S_format, if_neg q_1, if_pos q_2]; exact hP) hS (by simp only [F_format, if_neg q_1, if_pos q_2]) (Or.inl rfl) dX2_format_22
    · refine lv_iload_n hx hb dX2_format_10 rfl (lv_at hl 2 rfl) ?_
      refine lv_iconst (v := (1 : Int32)) hx hb dX2_format_11 (by decide) ?_
      refine lv_icmp_lt (tgt := 21) hx hb dX2_format_12 (by decide) (fun q_3 => ?_) (fun q_3 => ?_)
      · refine lv_iconst (v := (0 : Int32)) hx hb dX2_format_21 (by decide) ?_
        exact kp_retz B (by simp only [S_format, if_neg q_1, if_neg q_2, if_pos q_3]; exact hP) hS (by simp only [F_format, if_neg q_1, if_neg q_2, if_pos q_3]) (Or.inl rfl) dX2_format_22
      · refine lv_iload_n hx hb dX2_format_15 rfl (lv_at hl 2 rfl) ?_
        refine lv_bipush (v := (10 : Int32)) hx hb dX2_format_16 (by decide) ?_
        refine lv_icmp_le (tgt := 23) hx hb dX2_format_18 (by decide) (fun q_4 => ?_) (fun q_4 => ?_)
        · refine lv_aload_n hx hb dX2_format_23 rfl (lv_at hl 0 rfl) ?_
          refine kc_getD (j := 0) (v := .ref (aS G)) B hP rfl (by decide) kw_76 dX2_format_24 ?_
          refine lv_iload_n hx hb dX2_format_27 rfl (lv_at hl 1 rfl) ?_
          refine kc_putSX0 (v := x) B hG hP hS kw_202 dX2_format_28 (fun H locs hP hS => ?_)
          refine lv_aload_n hx hb dX2_format_31 rfl (lv_at hl 0 rfl) ?_
          refine kc_getD (j := 0) (v := .ref (aS G)) B hP rfl (by decide) kw_76 dX2_format_32 ?_
          refine lv_iload_n hx hb dX2_format_35 rfl (lv_at hl 2 rfl) ?_
          refine kc_putSX1 (v := y) B hG hP hS kw_203 dX2_format_36 (fun H locs hP hS => ?_)
          refine lv_iconst (v := (0 : Int32)) hx hb dX2_format_39 (by decide) ?_
          refine lv_istore_n (lv' := [(3, .int (0 : Int32)), (0, .ref (aD G)), (1, .int x), (2, .int y)]) hx hb dX2_format_40 rfl hl (by decide) rfl (fun ls hl => ?_)
          rw [show F_format c x y = LF_format x y 9 (cw_e1 (cw_e0 c x) y) (0 : Int32) from by simp only [F_format, if_neg q_1, if_neg q_2, if_neg q_3, if_pos q_4]]
          rw [show S_format c x y = LS_format x y 9 (cw_e1 (cw_e0 c x) y) (0 : Int32) from by simp only [S_format, if_neg q_1, if_neg q_2, if_neg q_3, if_pos q_4]]
          exact LP_format l D ty sz G Z hG x y B 9 (cw_e1 (cw_e0 c x) y) (0 : Int32) (by decide) (by decide) (by decide) _ _ ls (lv_sub hl [1, 2, 3, 0] rfl) hP hS
        · refine lv_iconst (v := (0 : Int32)) hx hb dX2_format_21 (by decide) ?_
          exact kp_retz B (by simp only [S_format, if_neg q_1, if_neg q_2, if_neg q_3, if_neg q_4]; exact hP) hS (by simp only [F_format, if_neg q_1, if_neg q_2, if_neg q_3, if_neg q_4]) (Or.inl rfl) dX2_format_22
def F_does (c : cw_C) (x : Int32) (y : Int32) (z : Int32) (v : Int32) : Option Int32 :=
  if x < (0 : Int32) then none else (if x ≤ (11 : Int32) then (if (F_isPlace y) = (0 : Int32) then none else (if (F_isPlace z) = (0 : Int32) then none else (if (if x < (8 : Int32) then (0 : Int32) else (1 : Int32)) = (0 : Int32) then (if (F_isPlace v) = (0 : Int32) then none else some (F_keep (S_reckonTwo c x z.toNatClampNeg v.toNatClampNeg) 8 y.toNatClampNeg)) else some (F_keep (S_reckonOne c x z.toNatClampNeg) 8 y.toNatClampNeg)))) else none)
def S_does (c : cw_C) (x : Int32) (y : Int32) (z : Int32) (v : Int32) : cw_C :=
  if x < (0 : Int32) then c else (if x ≤ (11 : Int32) then (if (F_isPlace y) = (0 : Int32) then c else (if (F_isPlace z) = (0 : Int32) then c else (if (if x < (8 : Int32) then (0 : Int32) else (1 : Int32)) = (0 : Int32) then (if (F_isPlace v) = (0 : Int32) then c else S_keep (S_reckonTwo c x z.toNatClampNeg v.toNatClampNeg) 8 y.toNatClampNeg) else S_keep (S_reckonOne c x z.toNatClampNeg) 8 y.toNatClampNeg))) else c)
def rm_does : Room := { frames := 6, cells := 1, slots := 6, locals := 139 }
set_option maxHeartbeats 4000000 in
set_option maxRecDepth 100000 in
theorem C_does (l : Launch) (D : va_G) (ty : List (ClassId × FieldType)) (sz : Nat) (G : cw_G) (Z : va_W) (hG : cw_ok ty sz G Z) (c : cw_C) (x : Int32) (y : Int32) (z : Int32) (v : Int32) (htr : l.stackTraces = false) : kx_M l yX2_does cX2_does 6 (some .int) rm_does D ty sz [.ref (aD G), .int x, .int y, .int z, .int v] (cw_W G c Z) (Option.map Value.int (F_does c x y z v)) (cw_W G (S_does c x y z v) Z) "java/lang/IllegalArgumentException" := by
  refine kx_body (by decide) (Nat.le_of_ble_eq_true rfl) rfl ?_
  intro p e s m args below meth cd ls B hexc hH hl hP hS
  obtain ⟨hx, hb, hml, hown, hlk, hr, hw, hE, hK, hsz⟩ := id B
  have hl : lv_has ls 6 [(0, .ref (aD G)), (1, .int x), (2, .int y), (3, .int z), (4, .int v)] := hl
  refine lv_iload_n hx hb dX2_does_0 rfl (lv_at hl 1 rfl) ?_
  refine lv_if_lt (tgt := 10) hx hb dX2_does_1 (by decide) (fun q_1 => ?_) (fun q_1 => ?_)
  · exact kx_throw (names := kx_names) B htr hexc hH (by decide +kernel) (by decide +kernel) kx_at65 kw_219 kw_220 kw_221 hl.1 dX2_does_10 dX2_does_13 dX2_does_14 dX2_does_16 dX2_does_19 (by decide) (by decide) (by decide) (by decide) (by simp only [F_does, if_pos q_1, Option.map_none])
  · refine lv_iload_n hx hb dX2_does_4 rfl (lv_at hl 1 rfl) ?_
    refine lv_bipush (v := (11 : Int32)) hx hb dX2_does_5 (by decide) ?_
    refine lv_icmp_le (tgt := 20) hx hb dX2_does_7 (by decide) (fun q_2 => ?_) (fun q_2 => ?_)
    · refine lv_iload_n hx hb dX2_does_20 rfl (lv_at hl 1 rfl) ?_
      refine lv_bipush (v := (8 : Int32)) hx hb dX2_does_21 (by decide) ?_
      have hJ31 : W p l e rm_does s m args below meth cd s.heap [] 0 0 (kx_MQ below (kx_Q D sz (Option.map Value.int (F_does c x y z v)) (cw_W G (S_does c x y z v) Z) "java/lang/IllegalArgumentException") args s) (F0 m 31 ls [.int (if x < (8 : Int32) then (0 : Int32) else (1 : Int32))]) := by
        refine lv_istore (lv' := [(5, .int (if x < (8 : Int32) then (0 : Int32) else (1 : Int32))), (0, .ref (aD G)), (1, .int x), (2, .int y), (3, .int z), (4, .int v)]) hx hb dX2_does_31 hl (by decide) rfl (fun ls hl => ?_)
        refine lv_iload_n hx hb dX2_does_33 rfl (lv_at hl 3 rfl) ?_
        refine kp_callSR (rm := rm_isPlace) (As := [.int y]) (rest := []) (r := some (.int (F_isPlace y))) (st1 := [.int (F_isPlace y)]) B (C_isPlace l D ty sz G Z hG c y) kt_isPlace kw_72 kw_73 (by decide) ⟨rfl, rfl⟩ (by decide) rfl (Nat.le_of_ble_eq_true rfl) hl.1 hP hS dX2_does_34 rfl ?_
        refine lv_if_eq (tgt := 60) hx hb dX2_does_37 (by decide) (fun q_3 => ?_) (fun q_3 => ?_)
        · exact kx_throw (names := kx_names) B htr hexc hH (by decide +kernel) (by decide +kernel) kx_at65 kw_219 kw_220 kw_222 hl.1 dX2_does_60 dX2_does_63 dX2_does_64 dX2_does_66 dX2_does_69 (by decide) (by decide) (by decide) (by decide) (by simp only [F_does, if_neg q_1, if_pos q_2, if_pos q_3, Option.map_none])
        · refine lv_iload_n hx hb dX2_does_40 rfl (lv_at hl 4 rfl) ?_
          refine kp_callSR (rm := rm_isPlace) (As := [.int z]) (rest := []) (r := some (.int (F_isPlace z))) (st1 := [.int (F_isPlace z)]) B (C_isPlace l D ty sz G Z hG c z) kt_isPlace kw_72 kw_73 (by decide) ⟨rfl, rfl⟩ (by decide) rfl (Nat.le_of_ble_eq_true rfl) hl.1 hP hS dX2_does_41 rfl ?_
          refine lv_if_eq (tgt := 60) hx hb dX2_does_44 (by decide) (fun q_4 => ?_) (fun q_4 => ?_)
          · exact kx_throw (names := kx_names) B htr hexc hH (by decide +kernel) (by decide +kernel) kx_at65 kw_219 kw_220 kw_222 hl.1 dX2_does_60 dX2_does_63 dX2_does_64 dX2_does_66 dX2_does_69 (by decide) (by decide) (by decide) (by decide) (by simp only [F_does, if_neg q_1, if_pos q_2, if_neg q_3, if_pos q_4, Option.map_none])
          · refine lv_iload hx hb dX2_does_47 (lv_at hl 0 rfl) ?_
            refine lv_if_ne (tgt := 70) hx hb dX2_does_49 (by decide) (fun q_5 => ?_) (fun q_5 => ?_)
            · refine lv_iload hx hb dX2_does_70 (lv_at hl 0 rfl) ?_
              refine lv_if_eq (tgt := 89) hx hb dX2_does_72 (by decide) (fun q_6 => ?_) (fun q_6 => ?_)
              · exact absurd q_6 q_5
              · refine lv_aload_n hx hb dX2_does_75 rfl (lv_at hl 1 rfl) ?_
                refine lv_iload_n hx hb dX2_does_76 rfl (lv_at hl 2 rfl) ?_
                refine lv_aload_n hx hb dX2_does_77 rfl (lv_at hl 1 rfl) ?_
                refine kc_getD (j := 1) (v := .ref (aP G)) B hP rfl (by decide) kw_74 dX2_does_78 ?_
                refine lv_iload_n hx hb dX2_does_81 rfl (lv_at hl 4 rfl) ?_
                refine kc_aald (i := z) B hG hP (kc_inP q_4) dX2_does_82 ?_
                refine kp_callV (rm := rm_reckonOne) (As := [.int x, .ref (aN G z.toNatClampNeg)]) (rest := []) (r := none) (st1 := []) (ws' := cw_W G (S_reckonOne c x z.toNatClampNeg) Z) B (C_reckonOne l D ty sz G Z hG c x z.toNatClampNeg (kc_in10 (kc_inP q_4))) kt_reckonOne kw_206 kw_207 kw_208 (kc_rcD B hP) (by decide) rfl rfl (by decide) rfl (Nat.le_of_ble_eq_true rfl) hl.1 hP hS dX2_does_83 rfl (fun H locs hP hS => ?_)
                refine lv_goto (tgt := 107) hx hb dX2_does_86 (by decide) ?_
                refine lv_aload_n hx hb dX2_does_107 rfl (lv_at hl 1 rfl) ?_
                refine lv_aload_n hx hb dX2_does_108 rfl (lv_at hl 1 rfl) ?_
                refine kc_getD (j := 2) (v := .ref (aN G 8)) B hP rfl (by decide) kw_101 dX2_does_109 ?_
                refine lv_aload_n hx hb dX2_does_112 rfl (lv_at hl 1 rfl) ?_
                refine kc_getD (j := 1) (v := .ref (aP G)) B hP rfl (by decide) kw_74 dX2_does_113 ?_
                refine lv_iload_n hx hb dX2_does_116 rfl (lv_at hl 3 rfl) ?_
                refine kc_aald (i := y) B hG hP (kc_inP q_3) dX2_does_117 ?_
                refine kp_callV (rm := rm_keep) (As := [.ref (aN G 8), .ref (aN G y.toNatClampNeg)]) (rest := []) (r := some (.int (F_keep (S_reckonOne c x z.toNatClampNeg) 8 y.toNatClampNeg))) (st1 := [.int (F_keep (S_reckonOne c x z.toNatClampNeg) 8 y.toNatClampNeg)]) (ws' := cw_W G (S_keep (S_reckonOne c x z.toNatClampNeg) 8 y.toNatClampNeg) Z) B (C_keep l D ty sz G Z hG (S_reckonOne c x z.toNatClampNeg) 8 (by decide) y.toNatClampNeg (kc_in10 (kc_inP q_3))) kt_keep kw_211 kw_212 kw_213 (kc_rcD B hP) (by decide) rfl rfl (by decide) rfl (Nat.le_of_ble_eq_true rfl) hl.1 hP hS dX2_does_118 rfl (fun H locs hP hS => ?_)
                exact kx_reti B (by simp only [S_does, if_neg q_1, if_pos q_2, if_neg q_3, if_neg q_4, if_neg q_5]; exact hP) hS (by simp only [F_does, if_neg q_1, if_pos q_2, if_neg q_3, if_neg q_4, if_neg q_5, Option.map_some]) dX2_does_121
            · refine lv_iload hx hb dX2_does_52 (lv_at hl 5 rfl) ?_
              refine kp_callSR (rm := rm_isPlace) (As := [.int v]) (rest := []) (r := some (.int (F_isPlace v))) (st1 := [.int (F_isPlace v)]) B (C_isPlace l D ty sz G Z hG c v) kt_isPlace kw_72 kw_73 (by decide) ⟨rfl, rfl⟩ (by decide) rfl (Nat.le_of_ble_eq_true rfl) hl.1 hP hS dX2_does_54 rfl ?_
              refine lv_if_ne (tgt := 70) hx hb dX2_does_57 (by decide) (fun q_7 => ?_) (fun q_7 => ?_)
              · refine lv_iload hx hb dX2_does_70 (lv_at hl 0 rfl) ?_
                refine lv_if_eq (tgt := 89) hx hb dX2_does_72 (by decide) (fun q_8 => ?_) (fun q_8 => ?_)
                · refine lv_aload_n hx hb dX2_does_89 rfl (lv_at hl 1 rfl) ?_
                  refine lv_iload_n hx hb dX2_does_90 rfl (lv_at hl 2 rfl) ?_
                  refine lv_aload_n hx hb dX2_does_91 rfl (lv_at hl 1 rfl) ?_
                  refine kc_getD (j := 1) (v := .ref (aP G)) B hP rfl (by decide) kw_74 dX2_does_92 ?_
                  refine lv_iload_n hx hb dX2_does_95 rfl (lv_at hl 4 rfl) ?_
                  refine kc_aald (i := z) B hG hP (kc_inP q_4) dX2_does_96 ?_
                  refine lv_aload_n hx hb dX2_does_97 rfl (lv_at hl 1 rfl) ?_
                  refine kc_getD (j := 1) (v := .ref (aP G)) B hP rfl (by decide) kw_74 dX2_does_98 ?_
                  refine lv_iload hx hb dX2_does_101 (lv_at hl 5 rfl) ?_
                  refine kc_aald (i := v) B hG hP (kc_inP q_7) dX2_does_103 ?_
                  refine kp_callV (rm := rm_reckonTwo) (As := [.int x, .ref (aN G z.toNatClampNeg), .ref (aN G v.toNatClampNeg)]) (rest := []) (r := none) (st1 := []) (ws' := cw_W G (S_reckonTwo c x z.toNatClampNeg v.toNatClampNeg) Z) B (C_reckonTwo l D ty sz G Z hG c x z.toNatClampNeg (kc_in10 (kc_inP q_4)) v.toNatClampNeg (kc_in10 (kc_inP q_7))) kt_reckonTwo kw_216 kw_217 kw_218 (kc_rcD B hP) (by decide) rfl rfl (by decide) rfl (Nat.le_of_ble_eq_true rfl) hl.1 hP hS dX2_does_104 rfl (fun H locs hP hS => ?_)
                  refine lv_aload_n hx hb dX2_does_107 rfl (lv_at hl 1 rfl) ?_
                  refine lv_aload_n hx hb dX2_does_108 rfl (lv_at hl 1 rfl) ?_
                  refine kc_getD (j := 2) (v := .ref (aN G 8)) B hP rfl (by decide) kw_101 dX2_does_109 ?_
                  refine lv_aload_n hx hb dX2_does_112 rfl (lv_at hl 1 rfl) ?_
                  refine kc_getD (j := 1) (v := .ref (aP G)) B hP rfl (by decide) kw_74 dX2_does_113 ?_
                  refine lv_iload_n hx hb dX2_does_116 rfl (lv_at hl 3 rfl) ?_
                  refine kc_aald (i := y) B hG hP (kc_inP q_3) dX2_does_117 ?_
                  refine kp_callV (rm := rm_keep) (As := [.ref (aN G 8), .ref (aN G y.toNatClampNeg)]) (rest := []) (r := some (.int (F_keep (S_reckonTwo c x z.toNatClampNeg v.toNatClampNeg) 8 y.toNatClampNeg))) (st1 := [.int (F_keep (S_reckonTwo c x z.toNatClampNeg v.toNatClampNeg) 8 y.toNatClampNeg)]) (ws' := cw_W G (S_keep (S_reckonTwo c x z.toNatClampNeg v.toNatClampNeg) 8 y.toNatClampNeg) Z) B (C_keep l D ty sz G Z hG (S_reckonTwo c x z.toNatClampNeg v.toNatClampNeg) 8 (by decide) y.toNatClampNeg (kc_in10 (kc_inP q_3))) kt_keep kw_211 kw_212 kw_213 (kc_rcD B hP) (by decide) rfl rfl (by decide) rfl (Nat.le_of_ble_eq_true rfl) hl.1 hP hS dX2_does_118 rfl (fun H locs hP hS => ?_)
                  exact kx_reti B (by simp only [S_does, if_neg q_1, if_pos q_2, if_neg q_3, if_neg q_4, if_pos q_5, if_neg q_7]; exact hP) hS (by simp only [F_does, if_neg q_1, if_pos q_2, if_neg q_3, if_neg q_4, if_pos q_5, if_neg q_7, Option.map_some]) dX2_does_121
                · exact absurd q_5 q_8
              · exact kx_throw (names := kx_names) B htr hexc hH (by decide +kernel) (by decide +kernel) kx_at65 kw_219 kw_220 kw_222 hl.1 dX2_does_60 dX2_does_63 dX2_does_64 dX2_does_66 dX2_does_69 (by decide) (by decide) (by decide) (by decide) (by simp only [F_does, if_neg q_1, if_pos q_2, if_neg q_3, if_neg q_4, if_pos q_5, if_pos q_7, Option.map_none])
      refine lv_icmp_lt (tgt := 30) hx hb dX2_does_23 (by decide) (fun q_9 => ?_) (fun q_9 => ?_)
      · refine lv_iconst (v := (0 : Int32)) hx hb dX2_does_30 (by decide) ?_
        exact kp_jI (by simp only [if_pos q_9]) hJ31
      · refine lv_iconst (v := (1 : Int32)) hx hb dX2_does_26 (by decide) ?_
        refine lv_goto (tgt := 31) hx hb dX2_does_27 (by decide) ?_
        exact kp_jI (by simp only [if_neg q_9]) hJ31
    · exact kx_throw (names := kx_names) B htr hexc hH (by decide +kernel) (by decide +kernel) kx_at65 kw_219 kw_220 kw_221 hl.1 dX2_does_10 dX2_does_13 dX2_does_14 dX2_does_16 dX2_does_19 (by decide) (by decide) (by decide) (by decide) (by simp only [F_does, if_neg q_1, if_neg q_2, Option.map_none])
def F_part (c : cw_C) (x : Int32) (y : Int32) (z : Int32) : Option Int32 :=
  if (F_isPlace x) = (0 : Int32) then none else (if (F_isPlace (x + (1 : Int32))) = (0 : Int32) then none else (if (F_isPlace y) = (0 : Int32) then none else (if (F_isPlace z) = (0 : Int32) then none else some ((F_keep (S_divide c y.toNatClampNeg z.toNatClampNeg) 8 x.toNatClampNeg) + ((8 : Int32) * (F_keep (S_keep (S_divide c y.toNatClampNeg z.toNatClampNeg) 8 x.toNatClampNeg) 9 ((x + (1 : Int32)).toNatClampNeg)))))))
def S_part (c : cw_C) (x : Int32) (y : Int32) (z : Int32) : cw_C :=
  if (F_isPlace x) = (0 : Int32) then c else (if (F_isPlace (x + (1 : Int32))) = (0 : Int32) then c else (if (F_isPlace y) = (0 : Int32) then c else (if (F_isPlace z) = (0 : Int32) then c else S_keep (S_keep (S_divide c y.toNatClampNeg z.toNatClampNeg) 8 x.toNatClampNeg) 9 ((x + (1 : Int32)).toNatClampNeg))))
def rm_part : Room := { frames := 6, cells := 1, slots := 6, locals := 135 }
set_option maxHeartbeats 4000000 in
set_option maxRecDepth 100000 in
theorem C_part (l : Launch) (D : va_G) (ty : List (ClassId × FieldType)) (sz : Nat) (G : cw_G) (Z : va_W) (hG : cw_ok ty sz G Z) (c : cw_C) (x : Int32) (y : Int32) (z : Int32) (htr : l.stackTraces = false) : kx_M l yX2_part cX2_part 6 (some .int) rm_part D ty sz [.ref (aD G), .int x, .int y, .int z] (cw_W G c Z) (Option.map Value.int (F_part c x y z)) (cw_W G (S_part c x y z) Z) "java/lang/IllegalArgumentException" := by
  refine kx_body (by decide) (Nat.le_of_ble_eq_true rfl) rfl ?_
  intro p e s m args below meth cd ls B hexc hH hl hP hS
  obtain ⟨hx, hb, hml, hown, hlk, hr, hw, hE, hK, hsz⟩ := id B
  have hl : lv_has ls 6 [(0, .ref (aD G)), (1, .int x), (2, .int y), (3, .int z)] := hl
  refine lv_iload_n hx hb dX2_part_0 rfl (lv_at hl 1 rfl) ?_
  refine kp_callSR (rm := rm_isPlace) (As := [.int x]) (rest := []) (r := some (.int (F_isPlace x))) (st1 := [.int (F_isPlace x)]) B (C_isPlace l D ty sz G Z hG c x) kt_isPlace kw_72 kw_73 (by decide) ⟨rfl, rfl⟩ (by decide) rfl (Nat.le_of_ble_eq_true rfl) hl.1 hP hS dX2_part_1 rfl ?_
  refine lv_if_eq (tgt := 30) hx hb dX2_part_4 (by decide) (fun q_1 => ?_) (fun q_1 => ?_)
  · exact kx_throw (names := kx_names) B htr hexc hH (by decide +kernel) (by decide +kernel) kx_at65 kw_219 kw_220 kw_222 hl.1 dX2_part_30 dX2_part_33 dX2_part_34 dX2_part_36 dX2_part_39 (by decide) (by decide) (by decide) (by decide) (by simp only [F_part, if_pos q_1, Option.map_none])
  · refine lv_iload_n hx hb dX2_part_7 rfl (lv_at hl 1 rfl) ?_
    refine lv_iconst (v := (1 : Int32)) hx hb dX2_part_8 (by decide) ?_
    refine lv_iadd hx hb dX2_part_9 ?_
    refine kp_callSR (rm := rm_isPlace) (As := [.int (x + (1 : Int32))]) (rest := []) (r := some (.int (F_isPlace (x + (1 : Int32))))) (st1 := [.int (F_isPlace (x + (1 : Int32)))]) B (C_isPlace l D ty sz G Z hG c (x + (1 : Int32))) kt_isPlace kw_72 kw_73 (by decide) ⟨rfl, rfl⟩ (by decide) rfl (Nat.le_of_ble_eq_true rfl) hl.1 hP hS dX2_part_10 rfl ?_
    refine lv_if_eq (tgt := 30) hx hb dX2_part_13 (by decide) (fun q_2 => ?_) (fun q_2 => ?_)
    · exact kx_throw (names := kx_names) B htr hexc hH (by decide +kernel) (by decide +kernel) kx_at65 kw_219 kw_220 kw_222 hl.1 dX2_part_30 dX2_part_33 dX2_part_34 dX2_part_36 dX2_part_39 (by decide) (by decide) (by decide) (by decide) (by simp only [F_part, if_neg q_1, if_pos q_2, Option.map_none])
    · refine lv_iload_n hx hb dX2_part_16 rfl (lv_at hl 2 rfl) ?_
      refine kp_callSR (rm := rm_isPlace) (As := [.int y]) (rest := []) (r := some (.int (F_isPlace y))) (st1 := [.int (F_isPlace y)]) B (C_isPlace l D ty sz G Z hG c y) kt_isPlace kw_72 kw_73 (by decide) ⟨rfl, rfl⟩ (by decide) rfl (Nat.le_of_ble_eq_true rfl) hl.1 hP hS dX2_part_17 rfl ?_
      refine lv_if_eq (tgt := 30) hx hb dX2_part_20 (by decide) (fun q_3 => ?_) (fun q_3 => ?_)
      · exact kx_throw (names := kx_names) B htr hexc hH (by decide +kernel) (by decide +kernel) kx_at65 kw_219 kw_220 kw_222 hl.1 dX2_part_30 dX2_part_33 dX2_part_34 dX2_part_36 dX2_part_39 (by decide) (by decide) (by decide) (by decide) (by simp only [F_part, if_neg q_1, if_neg q_2, if_pos q_3, Option.map_none])
      · refine lv_iload_n hx hb dX2_part_23 rfl (lv_at hl 3 rfl) ?_
        refine kp_callSR (rm := rm_isPlace) (As := [.int z]) (rest := []) (r := some (.int (F_isPlace z))) (st1 := [.int (F_isPlace z)]) B (C_isPlace l D ty sz G Z hG c z) kt_isPlace kw_72 kw_73 (by decide) ⟨rfl, rfl⟩ (by decide) rfl (Nat.le_of_ble_eq_true rfl) hl.1 hP hS dX2_part_24 rfl ?_
        refine lv_if_ne (tgt := 40) hx hb dX2_part_27 (by decide) (fun q_4 => ?_) (fun q_4 => ?_)
        · refine lv_aload_n hx hb dX2_part_40 rfl (lv_at hl 0 rfl) ?_
          refine lv_aload_n hx hb dX2_part_41 rfl (lv_at hl 0 rfl) ?_
          refine kc_getD (j := 1) (v := .ref (aP G)) B hP rfl (by decide) kw_74 dX2_part_42 ?_
          refine lv_iload_n hx hb dX2_part_45 rfl (lv_at hl 2 rfl) ?_
          refine kc_aald (i := y) B hG hP (kc_inP q_3) dX2_part_46 ?_
          refine lv_aload_n hx hb dX2_part_47 rfl (lv_at hl 0 rfl) ?_
          refine kc_getD (j := 1) (v := .ref (aP G)) B hP rfl (by decide) kw_74 dX2_part_48 ?_
          refine lv_iload_n hx hb dX2_part_51 rfl (lv_at hl 3 rfl) ?_
          refine kc_aald (i := z) B hG hP (kc_inP q_4) dX2_part_52 ?_
          refine kp_callV (rm := rm_divide) (As := [.ref (aN G y.toNatClampNeg), .ref (aN G z.toNatClampNeg)]) (rest := []) (r := none) (st1 := []) (ws' := cw_W G (S_divide c y.toNatClampNeg z.toNatClampNeg) Z) B (C_divide l D ty sz G Z hG c y.toNatClampNeg (kc_in10 (kc_inP q_3)) z.toNatClampNeg (kc_in10 (kc_inP q_4))) kt_divide kw_162 kw_163 kw_164 (kc_rcD B hP) (by decide) rfl rfl (by decide) rfl (Nat.le_of_ble_eq_true rfl) hl.1 hP hS dX2_part_53 rfl (fun H locs hP hS => ?_)
          refine lv_aload_n hx hb dX2_part_56 rfl (lv_at hl 0 rfl) ?_
          refine lv_aload_n hx hb dX2_part_57 rfl (lv_at hl 0 rfl) ?_
          refine kc_getD (j := 2) (v := .ref (aN G 8)) B hP rfl (by decide) kw_101 dX2_part_58 ?_
          refine lv_aload_n hx hb dX2_part_61 rfl (lv_at hl 0 rfl) ?_
          refine kc_getD (j := 1) (v := .ref (aP G)) B hP rfl (by decide) kw_74 dX2_part_62 ?_
          refine lv_iload_n hx hb dX2_part_65 rfl (lv_at hl 1 rfl) ?_
          refine kc_aald (i := x) B hG hP (kc_inP q_1) dX2_part_66 ?_
          refine kp_callV (rm := rm_keep) (As := [.ref (aN G 8), .ref (aN G x.toNatClampNeg)]) (rest := []) (r := some (.int (F_keep (S_divide c y.toNatClampNeg z.toNatClampNeg) 8 x.toNatClampNeg))) (st1 := [.int (F_keep (S_divide c y.toNatClampNeg z.toNatClampNeg) 8 x.toNatClampNeg)]) (ws' := cw_W G (S_keep (S_divide c y.toNatClampNeg z.toNatClampNeg) 8 x.toNatClampNeg) Z) B (C_keep l D ty sz G Z hG (S_divide c y.toNatClampNeg z.toNatClampNeg) 8 (by decide) x.toNatClampNeg (kc_in10 (kc_inP q_1))) kt_keep kw_211 kw_212 kw_213 (kc_rcD B hP) (by decide) rfl rfl (by decide) rfl (Nat.le_of_ble_eq_true rfl) hl.1 hP hS dX2_part_67 rfl (fun H locs hP hS => ?_)
          refine lv_istore (lv' := [(4, .int (F_keep (S_divide c y.toNatClampNeg z.toNatClampNeg) 8 x.toNatClampNeg)), (0, .ref (aD G)), (1, .int x), (2, .int y), (3, .int z)]) hx hb dX2_part_70 hl (by decide) rfl (fun ls hl => ?_)
          refine lv_aload_n hx hb dX2_part_72 rfl (lv_at hl 1 rfl) ?_
          refine lv_aload_n hx hb dX2_part_73 rfl (lv_at hl 1 rfl) ?_
          refine kc_getD (j := 3) (v := .ref (aN G 9)) B hP rfl (by decide) kw_139 dX2_part_74 ?_
          refine lv_aload_n hx hb dX2_part_77 rfl (lv_at hl 1 rfl) ?_
          refine kc_getD (j := 1) (v := .ref (aP G)) B hP rfl (by decide) kw_74 dX2_part_78 ?_
          refine lv_iload_n hx hb dX2_part_81 rfl (lv_at hl 2 rfl) ?_
          refine lv_iconst (v := (1 : Int32)) hx hb dX2_part_82 (by decide) ?_
          refine lv_iadd hx hb dX2_part_83 ?_
          refine kc_aald (i := x + (1 : Int32)) B hG hP (kc_inP q_2) dX2_part_84 ?_
          refine kp_callV (rm := rm_keep) (As := [.ref (aN G 9), .ref (aN G (x + (1 : Int32)).toNatClampNeg)]) (rest := []) (r := some (.int (F_keep (S_keep (S_divide c y.toNatClampNeg z.toNatClampNeg) 8 x.toNatClampNeg) 9 ((x + (1 : Int32)).toNatClampNeg)))) (st1 := [.int (F_keep (S_keep (S_divide c y.toNatClampNeg z.toNatClampNeg) 8 x.toNatClampNeg) 9 ((x + (1 : Int32)).toNatClampNeg))]) (ws' := cw_W G (S_keep (S_keep (S_divide c y.toNatClampNeg z.toNatClampNeg) 8 x.toNatClampNeg) 9 ((x + (1 : Int32)).toNatClampNeg)) Z) B (C_keep l D ty sz G Z hG (S_keep (S_divide c y.toNatClampNeg z.toNatClampNeg) 8 x.toNatClampNeg) 9 (by decide) ((x + (1 : Int32)).toNatClampNeg) (kc_in10 (kc_inP q_2))) kt_keep kw_211 kw_212 kw_213 (kc_rcD B hP) (by decide) rfl rfl (by decide) rfl (Nat.le_of_ble_eq_true rfl) hl.1 hP hS dX2_part_85 rfl (fun H locs hP hS => ?_)
          refine lv_istore (lv' := [(5, .int (F_keep (S_keep (S_divide c y.toNatClampNeg z.toNatClampNeg) 8 x.toNatClampNeg) 9 ((x + (1 : Int32)).toNatClampNeg))), (4, .int (F_keep (S_divide c y.toNatClampNeg z.toNatClampNeg) 8 x.toNatClampNeg)), (0, .ref (aD G)), (1, .int x), (2, .int y), (3, .int z)]) hx hb dX2_part_88 hl (by decide) rfl (fun ls hl => ?_)
          refine lv_iload hx hb dX2_part_90 (lv_at hl 1 rfl) ?_
          refine lv_bipush (v := (8 : Int32)) hx hb dX2_part_92 (by decide) ?_
          refine lv_iload hx hb dX2_part_94 (lv_at hl 0 rfl) ?_
          refine lv_imul hx hb dX2_part_96 ?_
          refine lv_iadd hx hb dX2_part_97 ?_
          exact kx_reti B (by simp only [S_part, if_neg q_1, if_neg q_2, if_neg q_3, if_neg q_4]; exact hP) hS (by simp only [F_part, if_neg q_1, if_neg q_2, if_neg q_3, if_neg q_4, Option.map_some]) dX2_part_98
        · exact kx_throw (names := kx_names) B htr hexc hH (by decide +kernel) (by decide +kernel) kx_at65 kw_219 kw_220 kw_222 hl.1 dX2_part_30 dX2_part_33 dX2_part_34 dX2_part_36 dX2_part_39 (by decide) (by decide) (by decide) (by decide) (by simp only [F_part, if_neg q_1, if_neg q_2, if_neg q_3, if_pos q_4, Option.map_none])
def LF_sum (x : Int32) (y : Int32) (z : Int32) : Nat → cw_C → Int32 → Option Int32
  | 0, c, i => none
  | n + 1, c, i => if (y + z) ≤ i then some (F_keep c 8 x.toNatClampNeg) else LF_sum x y z n (S_add c 8 i.toNatClampNeg) (i + (1 : Int32))
def LS_sum (x : Int32) (y : Int32) (z : Int32) : Nat → cw_C → Int32 → cw_C
  | 0, c, i => c
  | n + 1, c, i => if (y + z) ≤ i then S_keep c 8 x.toNatClampNeg else LS_sum x y z n (S_add c 8 i.toNatClampNeg) (i + (1 : Int32))
def F_sum (c : cw_C) (x : Int32) (y : Int32) (z : Int32) : Option Int32 :=
  if (F_isPlace x) = (0 : Int32) then none else (if (F_isPlace y) = (0 : Int32) then none else (if z < (1 : Int32) then none else (if z ≤ ((8 : Int32) - y) then LF_sum x y z 9 (S_become c 8 (0 : Int64) (0 : Int64)) y else none)))
def S_sum (c : cw_C) (x : Int32) (y : Int32) (z : Int32) : cw_C :=
  if (F_isPlace x) = (0 : Int32) then c else (if (F_isPlace y) = (0 : Int32) then c else (if z < (1 : Int32) then c else (if z ≤ ((8 : Int32) - y) then LS_sum x y z 9 (S_become c 8 (0 : Int64) (0 : Int64)) y else c)))
def rm_sum : Room := { frames := 6, cells := 1, slots := 6, locals := 135 }
set_option maxHeartbeats 4000000 in
set_option maxRecDepth 100000 in
theorem LP_sum (l : Launch) (D : va_G) (ty : List (ClassId × FieldType)) (sz : Nat) (G : cw_G) (Z : va_W) (hG : cw_ok ty sz G Z) (x : Int32) (y : Int32) (z : Int32) {p : Program} {e : Env} {s : State} {m : MethodId} {args : Array Value} {below : List Frame} {meth : Method} {cd : Code} (B : kp_B p l s m args meth cd yX2_sum.cls cX2_sum 5 (some .int) D ty sz) :
    ∀ (n : Nat) (c : cw_C) (i : Int32) (hx8 : vp_in x 8) (hv : 0 ≤ y.toInt ∧ 1 ≤ z.toInt ∧ y.toInt + z.toInt ≤ 8 ∧ y.toInt ≤ i.toInt ∧ i.toInt ≤ y.toInt + z.toInt) (h2 : y.toInt + z.toInt + 1 ≤ i.toInt + n), ∀ (H : Heap) (locs : List Loc) (ls : Array Slot), lv_has ls 5 [(0, .ref (aD G)), (1, .int x), (2, .int y), (3, .int z), (4, .int i)] → va_P D vwCl (cw_W G c Z) H → va_S (kp_A sz) s.heap H locs → W p l e rm_sum s m args below meth cd H locs 0 0 (kx_MQ below (kx_Q D sz (Option.map Value.int (LF_sum x y z n c i)) (cw_W G (LS_sum x y z n c i) Z) "java/lang/IllegalArgumentException") args s) (F0 m 59 ls []) := by
  obtain ⟨hx, hb, hml, hown, hlk, hr, hw, hE, hK, hsz⟩ := id B
  intro n
  induction n with
  | zero =>
    intro c i hx8 hv h2
    exact absurd h2 (by omega)
  | succ n ih =>
    intro c i hx8 hv h2 H locs ls hl hP hS
    refine lv_iload hx hb dX2_sum_59 (lv_at hl 4 rfl) ?_
    refine lv_iload_n hx hb dX2_sum_61 rfl (lv_at hl 2 rfl) ?_
    refine lv_iload_n hx hb dX2_sum_62 rfl (lv_at hl 3 rfl) ?_
    refine lv_iadd hx hb dX2_sum_63 ?_
    refine lv_icmp_ge (tgt := 87) hx hb dX2_sum_64 (by decide) (fun q_1 => ?_) (fun q_1 => ?_)
    · refine lv_aload_n hx hb dX2_sum_87 rfl (lv_at hl 0 rfl) ?_
      refine lv_aload_n hx hb dX2_sum_88 rfl (lv_at hl 0 rfl) ?_
      refine kc_getD (j := 2) (v := .ref (aN G 8)) B hP rfl (by decide) kw_101 dX2_sum_89 ?_
      refine lv_aload_n hx hb dX2_sum_92 rfl (lv_at hl 0 rfl) ?_
      refine kc_getD (j := 1) (v := .ref (aP G)) B hP rfl (by decide) kw_74 dX2_sum_93 ?_
      refine lv_iload_n hx hb dX2_sum_96 rfl (lv_at hl 1 rfl) ?_
      refine kc_aald (i := x) B hG hP hx8 dX2_sum_97 ?_
      refine kp_callV (rm := rm_keep) (As := [.ref (aN G 8), .ref (aN G x.toNatClampNeg)]) (rest := []) (r := some (.int (F_keep c 8 x.toNatClampNeg))) (st1 := [.int (F_keep c 8 x.toNatClampNeg)]) (ws' := cw_W G (S_keep c 8 x.toNatClampNeg) Z) B (C_keep l D ty sz G Z hG c 8 (by decide) x.toNatClampNeg (kc_in10 hx8)) kt_keep kw_211 kw_212 kw_213 (kc_rcD B hP) (by decide) rfl rfl (by decide) rfl (Nat.le_of_ble_eq_true rfl) hl.1 hP hS dX2_sum_98 rfl (fun H locs hP hS => ?_)
      exact kx_reti B (by simp only [LS_sum, if_pos q_1]; exact hP) hS (by simp only [LF_sum, if_pos q_1, Option.map_some]) dX2_sum_101
    · refine lv_aload_n hx hb dX2_sum_67 rfl (lv_at hl 0 rfl) ?_
      refine kc_getD (j := 2) (v := .ref (aN G 8)) B hP rfl (by decide) kw_101 dX2_sum_68 ?_
      refine lv_aload_n hx hb dX2_sum_71 rfl (lv_at hl 0 rfl) ?_
      refine kc_getD (j := 1) (v := .ref (aP G)) B hP rfl (by decide) kw_74 dX2_sum_72 ?_
      refine lv_iload hx hb dX2_sum_75 (lv_at hl 4 rfl) ?_
      refine kc_aald (i := i) B hG hP (ki_insum hv q_1) dX2_sum_77 ?_
      refine kp_callS (rm := rm_add) (As := [.ref (aN G 8), .ref (aN G i.toNatClampNeg)]) (rest := []) (r := none) (st1 := []) (ws' := cw_W G (S_add c 8 i.toNatClampNeg) Z) B (C_add l D ty sz G Z hG c 8 (by decide) i.toNatClampNeg (kc_in10 (ki_insum hv q_1))) kt_add kw_225 kw_226 (by decide) rfl rfl (by decide) rfl (Nat.le_of_ble_eq_true rfl) hl.1 hP hS dX2_sum_78 rfl (fun H locs hP hS => ?_)
      refine lv_iinc (v := i + (1 : Int32)) (lv' := [(4, .int (i + (1 : Int32))), (0, .ref (aD G)), (1, .int x), (2, .int y), (3, .int z)]) hx hb dX2_sum_81 hl (k := 4) rfl rfl (by decide) rfl (fun ls hl => ?_)
      refine lv_goto (tgt := 59) hx hb dX2_sum_84 (by decide) ?_
      rw [show LF_sum x y z (n + 1) c i = LF_sum x y z n (S_add c 8 i.toNatClampNeg) (i + (1 : Int32)) from by simp only [LF_sum, if_neg q_1]]
      rw [show LS_sum x y z (n + 1) c i = LS_sum x y z n (S_add c 8 i.toNatClampNeg) (i + (1 : Int32)) from by simp only [LS_sum, if_neg q_1]]
      exact ih (S_add c 8 i.toNatClampNeg) (i + (1 : Int32)) hx8 (ki_sum1 hv q_1 h2).1 (ki_sum1 hv q_1 h2).2 _ _ ls (lv_sub hl [1, 2, 3, 4, 0] rfl) hP hS
set_option maxHeartbeats 4000000 in
set_option maxRecDepth 100000 in
theorem C_sum (l : Launch) (D : va_G) (ty : List (ClassId × FieldType)) (sz : Nat) (G : cw_G) (Z : va_W) (hG : cw_ok ty sz G Z) (c : cw_C) (x : Int32) (y : Int32) (z : Int32) (htr : l.stackTraces = false) : kx_M l yX2_sum cX2_sum 5 (some .int) rm_sum D ty sz [.ref (aD G), .int x, .int y, .int z] (cw_W G c Z) (Option.map Value.int (F_sum c x y z)) (cw_W G (S_sum c x y z) Z) "java/lang/IllegalArgumentException" := by
  refine kx_body (by decide) (Nat.le_of_ble_eq_true rfl) rfl ?_
  intro p e s m args below meth cd ls B hexc hH hl hP hS
  obtain ⟨hx, hb, hml, hown, hlk, hr, hw, hE, hK, hsz⟩ := id B
  have hl : lv_has ls 5 [(0, .ref (aD G)), (1, .int x), (2, .int y), (3, .int z)] := hl
  refine lv_iload_n hx hb dX2_sum_0 rfl (lv_at hl 1 rfl) ?_
  refine kp_callSR (rm := rm_isPlace) (As := [.int x]) (rest := []) (r := some (.int (F_isPlace x))) (st1 := [.int (F_isPlace x)]) B (C_isPlace l D ty sz G Z hG c x) kt_isPlace kw_72 kw_73 (by decide) ⟨rfl, rfl⟩ (by decide) rfl (Nat.le_of_ble_eq_true rfl) hl.1 hP hS dX2_sum_1 rfl ?_
  refine lv_if_eq (tgt := 14) hx hb dX2_sum_4 (by decide) (fun q_1 => ?_) (fun q_1 => ?_)
  · exact kx_throw (names := kx_names) B htr hexc hH (by decide +kernel) (by decide +kernel) kx_at65 kw_219 kw_220 kw_222 hl.1 dX2_sum_14 dX2_sum_17 dX2_sum_18 dX2_sum_20 dX2_sum_23 (by decide) (by decide) (by decide) (by decide) (by simp only [F_sum, if_pos q_1, Option.map_none])
  · refine lv_iload_n hx hb dX2_sum_7 rfl (lv_at hl 2 rfl) ?_
    refine kp_callSR (rm := rm_isPlace) (As := [.int y]) (rest := []) (r := some (.int (F_isPlace y))) (st1 := [.int (F_isPlace y)]) B (C_isPlace l D ty sz G Z hG c y) kt_isPlace kw_72 kw_73 (by decide) ⟨rfl, rfl⟩ (by decide) rfl (Nat.le_of_ble_eq_true rfl) hl.1 hP hS dX2_sum_8 rfl ?_
    refine lv_if_ne (tgt := 24) hx hb dX2_sum_11 (by decide) (fun q_2 => ?_) (fun q_2 => ?_)
    · refine lv_iload_n hx hb dX2_sum_24 rfl (lv_at hl 3 rfl) ?_
      refine lv_iconst (v := (1 : Int32)) hx hb dX2_sum_25 (by decide) ?_
      refine lv_icmp_lt (tgt := 37) hx hb dX2_sum_26 (by decide) (fun q_3 => ?_) (fun q_3 => ?_)
      · exact kx_throw (names := kx_names) B htr hexc hH (by decide +kernel) (by decide +kernel) kx_at65 kw_219 kw_220 kw_227 hl.1 dX2_sum_37 dX2_sum_40 dX2_sum_41 dX2_sum_43 dX2_sum_46 (by decide) (by decide) (by decide) (by decide) (by simp only [F_sum, if_neg q_1, if_neg q_2, if_pos q_3, Option.map_none])
      · refine lv_iload_n hx hb dX2_sum_29 rfl (lv_at hl 3 rfl) ?_
        refine lv_bipush (v := (8 : Int32)) hx hb dX2_sum_30 (by decide) ?_
        refine lv_iload_n hx hb dX2_sum_32 rfl (lv_at hl 2 rfl) ?_
        refine lv_isub hx hb dX2_sum_33 ?_
        refine lv_icmp_le (tgt := 47) hx hb dX2_sum_34 (by decide) (fun q_4 => ?_) (fun q_4 => ?_)
        · refine lv_aload_n hx hb dX2_sum_47 rfl (lv_at hl 0 rfl) ?_
          refine kc_getD (j := 2) (v := .ref (aN G 8)) B hP rfl (by decide) kw_101 dX2_sum_48 ?_
          refine lv_lconst (v := (0 : Int64)) hx hb dX2_sum_51 (by decide) ?_
          refine lv_lconst (v := (0 : Int64)) hx hb dX2_sum_52 (by decide) ?_
          refine kp_callN (rm := rm_become) (As := [.long (0 : Int64), .long (0 : Int64)]) (rest := []) (r := none) (st1 := []) (ws' := cw_W G (S_become c 8 (0 : Int64) (0 : Int64)) Z) B (C_become l D ty sz G Z hG c 8 (by decide) (0 : Int64) (0 : Int64)) kt_become kw_104 kw_105 kw_106 (kc_rcN B hP (by decide)) (by decide) rfl rfl (by decide) rfl (Nat.le_of_ble_eq_true rfl) hl.1 hP hS dX2_sum_53 rfl (fun H locs hP hS => ?_)
          refine lv_iload_n hx hb dX2_sum_56 rfl (lv_at hl 2 rfl) ?_
          refine lv_istore (lv' := [(4, .int y), (0, .ref (aD G)), (1, .int x), (2, .int y), (3, .int z)]) hx hb dX2_sum_57 hl (by decide) rfl (fun ls hl => ?_)
          rw [show F_sum c x y z = LF_sum x y z 9 (S_become c 8 (0 : Int64) (0 : Int64)) y from by simp only [F_sum, if_neg q_1, if_neg q_2, if_neg q_3, if_pos q_4]]
          rw [show S_sum c x y z = LS_sum x y z 9 (S_become c 8 (0 : Int64) (0 : Int64)) y from by simp only [S_sum, if_neg q_1, if_neg q_2, if_neg q_3, if_pos q_4]]
          exact LP_sum l D ty sz G Z hG x y z B 9 (S_become c 8 (0 : Int64) (0 : Int64)) y (kc_inP q_1) (ki_sum0 q_2 q_3 q_4).1 (ki_sum0 q_2 q_3 q_4).2 _ _ ls (lv_sub hl [1, 2, 3, 4, 0] rfl) hP hS
        · exact kx_throw (names := kx_names) B htr hexc hH (by decide +kernel) (by decide +kernel) kx_at65 kw_219 kw_220 kw_227 hl.1 dX2_sum_37 dX2_sum_40 dX2_sum_41 dX2_sum_43 dX2_sum_46 (by decide) (by decide) (by decide) (by decide) (by simp only [F_sum, if_neg q_1, if_neg q_2, if_neg q_3, if_neg q_4, Option.map_none])
    · exact kx_throw (names := kx_names) B htr hexc hH (by decide +kernel) (by decide +kernel) kx_at65 kw_219 kw_220 kw_222 hl.1 dX2_sum_14 dX2_sum_17 dX2_sum_18 dX2_sum_20 dX2_sum_23 (by decide) (by decide) (by decide) (by decide) (by simp only [F_sum, if_neg q_1, if_pos q_2, Option.map_none])
def F_low (c : cw_C) (x : Int32) : Option Int32 :=
  if (F_isFilled c x) = (0 : Int32) then none else some (F_patternOf c ((c.2.2 x.toNatClampNeg).1))
def rm_low : Room := { frames := 6, cells := 1, slots := 6, locals := 82 }
set_option maxHeartbeats 4000000 in
set_option maxRecDepth 100000 in
theorem C_low (l : Launch) (D : va_G) (ty : List (ClassId × FieldType)) (sz : Nat) (G : cw_G) (Z : va_W) (hG : cw_ok ty sz G Z) (c : cw_C) (x : Int32) (htr : l.stackTraces = false) : kx_M l yX2_low cX2_low 2 (some .int) rm_low D ty sz [.ref (aD G), .int x] (cw_W G c Z) (Option.map Value.int (F_low c x)) (cw_W G c Z) "java/util/NoSuchElementException" := by
  refine kx_body (by decide) (Nat.le_of_ble_eq_true rfl) rfl ?_
  intro p e s m args below meth cd ls B hexc hH hl hP hS
  obtain ⟨hx, hb, hml, hown, hlk, hr, hw, hE, hK, hsz⟩ := id B
  have hl : lv_has ls 2 [(0, .ref (aD G)), (1, .int x)] := hl
  refine lv_aload_n hx hb dX2_low_0 rfl (lv_at hl 0 rfl) ?_
  refine lv_iload_n hx hb dX2_low_1 rfl (lv_at hl 1 rfl) ?_
  refine kp_callVR (rm := rm_isFilled) (As := [.int x]) (rest := []) (r := some (.int (F_isFilled c x))) (st1 := [.int (F_isFilled c x)]) B (C_isFilled l D ty sz G Z hG c x) kt_isFilled kw_184 kw_185 kw_186 (kc_rcD B hP) (by decide) ⟨rfl, rfl⟩ (by decide) rfl (Nat.le_of_ble_eq_true rfl) hl.1 hP hS dX2_low_2 rfl ?_
  refine lv_if_ne (tgt := 18) hx hb dX2_low_5 (by decide) (fun q_1 => ?_) (fun q_1 => ?_)
  · refine lv_aload_n hx hb dX2_low_18 rfl (lv_at hl 0 rfl) ?_
    refine kc_getD (j := 0) (v := .ref (aS G)) B hP rfl (by decide) kw_76 dX2_low_19 ?_
    refine lv_aload_n hx hb dX2_low_22 rfl (lv_at hl 0 rfl) ?_
    refine kc_getD (j := 1) (v := .ref (aP G)) B hP rfl (by decide) kw_74 dX2_low_23 ?_
    refine lv_iload_n hx hb dX2_low_26 rfl (lv_at hl 1 rfl) ?_
    refine kc_aald (i := x) B hG hP (kc_inF q_1) dX2_low_27 ?_
    refine kc_getNX (j := 0) (k := x.toNatClampNeg) (v := .long ((c.2.2 x.toNatClampNeg).1)) B hP (kc_in10 (kc_inF q_1)) rfl (by decide) kw_87 dX2_low_28 ?_
    refine kp_callNR (rm := rm_patternOf) (As := [.long ((c.2.2 x.toNatClampNeg).1)]) (rest := []) (r := some (.int (F_patternOf c ((c.2.2 x.toNatClampNeg).1)))) (st1 := [.int (F_patternOf c ((c.2.2 x.toNatClampNeg).1))]) B (C_patternOf l D ty sz G Z hG c ((c.2.2 x.toNatClampNeg).1)) kt_patternOf kw_228 kw_62 kw_63 (kc_rcS B hP) (by decide) ⟨rfl, rfl⟩ (by decide) rfl (Nat.le_of_ble_eq_true rfl) hl.1 hP hS dX2_low_31 rfl ?_
    exact kx_reti B hP hS (by simp only [F_low, if_neg q_1, Option.map_some]) dX2_low_34
  · exact kx_throwN (ic := 102) B htr hexc hH kw_232 kw_229 kw_230 kw_231 hl.1 dX2_low_8 dX2_low_11 dX2_low_12 dX2_low_14 dX2_low_17 (by decide) (by decide) (by decide) (by decide) (by simp only [F_low, if_pos q_1, Option.map_none])
def F_high (c : cw_C) (x : Int32) : Option Int32 :=
  if (F_isFilled c x) = (0 : Int32) then none else some (F_patternOf c ((c.2.2 x.toNatClampNeg).2))
def rm_high : Room := { frames := 6, cells := 1, slots := 6, locals := 82 }
set_option maxHeartbeats 4000000 in
set_option maxRecDepth 100000 in
theorem C_high (l : Launch) (D : va_G) (ty : List (ClassId × FieldType)) (sz : Nat) (G : cw_G) (Z : va_W) (hG : cw_ok ty sz G Z) (c : cw_C) (x : Int32) (htr : l.stackTraces = false) : kx_M l yX2_high cX2_high 2 (some .int) rm_high D ty sz [.ref (aD G), .int x] (cw_W G c Z) (Option.map Value.int (F_high c x)) (cw_W G c Z) "java/util/NoSuchElementException" := by
  refine kx_body (by decide) (Nat.le_of_ble_eq_true rfl) rfl ?_
  intro p e s m args below meth cd ls B hexc hH hl hP hS
  obtain ⟨hx, hb, hml, hown, hlk, hr, hw, hE, hK, hsz⟩ := id B
  have hl : lv_has ls 2 [(0, .ref (aD G)), (1, .int x)] := hl
  refine lv_aload_n hx hb dX2_high_0 rfl (lv_at hl 0 rfl) ?_
  refine lv_iload_n hx hb dX2_high_1 rfl (lv_at hl 1 rfl) ?_
  refine kp_callVR (rm := rm_isFilled) (As := [.int x]) (rest := []) (r := some (.int (F_isFilled c x))) (st1 := [.int (F_isFilled c x)]) B (C_isFilled l D ty sz G Z hG c x) kt_isFilled kw_184 kw_185 kw_186 (kc_rcD B hP) (by decide) ⟨rfl, rfl⟩ (by decide) rfl (Nat.le_of_ble_eq_true rfl) hl.1 hP hS dX2_high_2 rfl ?_
  refine lv_if_ne (tgt := 18) hx hb dX2_high_5 (by decide) (fun q_1 => ?_) (fun q_1 => ?_)
  · refine lv_aload_n hx hb dX2_high_18 rfl (lv_at hl 0 rfl) ?_
    refine kc_getD (j := 0) (v := .ref (aS G)) B hP rfl (by decide) kw_76 dX2_high_19 ?_
    refine lv_aload_n hx hb dX2_high_22 rfl (lv_at hl 0 rfl) ?_
    refine kc_getD (j := 1) (v := .ref (aP G)) B hP rfl (by decide) kw_74 dX2_high_23 ?_
    refine lv_iload_n hx hb dX2_high_26 rfl (lv_at hl 1 rfl) ?_
    refine kc_aald (i := x) B hG hP (kc_inF q_1) dX2_high_27 ?_
    refine kc_getNX (j := 1) (k := x.toNatClampNeg) (v := .long ((c.2.2 x.toNatClampNeg).2)) B hP (kc_in10 (kc_inF q_1)) rfl (by decide) kw_88 dX2_high_28 ?_
    refine kp_callNR (rm := rm_patternOf) (As := [.long ((c.2.2 x.toNatClampNeg).2)]) (rest := []) (r := some (.int (F_patternOf c ((c.2.2 x.toNatClampNeg).2)))) (st1 := [.int (F_patternOf c ((c.2.2 x.toNatClampNeg).2))]) B (C_patternOf l D ty sz G Z hG c ((c.2.2 x.toNatClampNeg).2)) kt_patternOf kw_228 kw_62 kw_63 (kc_rcS B hP) (by decide) ⟨rfl, rfl⟩ (by decide) rfl (Nat.le_of_ble_eq_true rfl) hl.1 hP hS dX2_high_31 rfl ?_
    exact kx_reti B hP hS (by simp only [F_high, if_neg q_1, Option.map_some]) dX2_high_34
  · exact kx_throwN (ic := 102) B htr hexc hH kw_232 kw_229 kw_230 kw_231 hl.1 dX2_high_8 dX2_high_11 dX2_high_12 dX2_high_14 dX2_high_17 (by decide) (by decide) (by decide) (by decide) (by simp only [F_high, if_pos q_1, Option.map_none])
def F_middle (c : cw_C) (x : Int32) : Option Int32 :=
  if (F_isFilled c x) = (0 : Int32) then none else (if (F_lacksAnEnd c x.toNatClampNeg) = (0 : Int32) then some (F_patternOfHalf c (((c.2.2 x.toNatClampNeg).1) + ((c.2.2 x.toNatClampNeg).2))) else none)
def rm_middle : Room := { frames := 6, cells := 1, slots := 6, locals := 145 }
set_option maxHeartbeats 4000000 in
set_option maxRecDepth 100000 in
theorem C_middle (l : Launch) (D : va_G) (ty : List (ClassId × FieldType)) (sz : Nat) (G : cw_G) (Z : va_W) (hG : cw_ok ty sz G Z) (c : cw_C) (x : Int32) (htr : l.stackTraces = false) : kx_M l yX2_middle cX2_middle 2 (some .int) rm_middle D ty sz [.ref (aD G), .int x] (cw_W G c Z) (Option.map Value.int (F_middle c x)) (cw_W G c Z) "java/util/NoSuchElementException" := by
  refine kx_body (by decide) (Nat.le_of_ble_eq_true rfl) rfl ?_
  intro p e s m args below meth cd ls B hexc hH hl hP hS
  obtain ⟨hx, hb, hml, hown, hlk, hr, hw, hE, hK, hsz⟩ := id B
  have hl : lv_has ls 2 [(0, .ref (aD G)), (1, .int x)] := hl
  refine lv_aload_n hx hb dX2_middle_0 rfl (lv_at hl 0 rfl) ?_
  refine lv_iload_n hx hb dX2_middle_1 rfl (lv_at hl 1 rfl) ?_
  refine kp_callVR (rm := rm_isFilled) (As := [.int x]) (rest := []) (r := some (.int (F_isFilled c x))) (st1 := [.int (F_isFilled c x)]) B (C_isFilled l D ty sz G Z hG c x) kt_isFilled kw_184 kw_185 kw_186 (kc_rcD B hP) (by decide) ⟨rfl, rfl⟩ (by decide) rfl (Nat.le_of_ble_eq_true rfl) hl.1 hP hS dX2_middle_2 rfl ?_
  refine lv_if_eq (tgt := 20) hx hb dX2_middle_5 (by decide) (fun q_1 => ?_) (fun q_1 => ?_)
  · exact kx_throwN (ic := 102) B htr hexc hH kw_232 kw_229 kw_230 kw_243 hl.1 dX2_middle_20 dX2_middle_23 dX2_middle_24 dX2_middle_26 dX2_middle_29 (by decide) (by decide) (by decide) (by decide) (by simp only [F_middle, if_pos q_1, Option.map_none])
  · refine lv_aload_n hx hb dX2_middle_8 rfl (lv_at hl 0 rfl) ?_
    refine kc_getD (j := 1) (v := .ref (aP G)) B hP rfl (by decide) kw_74 dX2_middle_9 ?_
    refine lv_iload_n hx hb dX2_middle_12 rfl (lv_at hl 1 rfl) ?_
    refine kc_aald (i := x) B hG hP (kc_inF q_1) dX2_middle_13 ?_
    refine kp_callNR (rm := rm_lacksAnEnd) (As := []) (rest := []) (r := some (.int (F_lacksAnEnd c x.toNatClampNeg))) (st1 := [.int (F_lacksAnEnd c x.toNatClampNeg)]) B (C_lacksAnEnd l D ty sz G Z hG c x.toNatClampNeg (kc_in10 (kc_inF q_1))) kt_lacksAnEnd kw_235 kw_236 kw_237 (kc_rcN B hP (kc_in10 (kc_inF q_1))) (by decide) ⟨rfl, rfl⟩ (by decide) rfl (Nat.le_of_ble_eq_true rfl) hl.1 hP hS dX2_middle_14 rfl ?_
    refine lv_if_eq (tgt := 30) hx hb dX2_middle_17 (by decide) (fun q_2 => ?_) (fun q_2 => ?_)
    · refine lv_aload_n hx hb dX2_middle_30 rfl (lv_at hl 0 rfl) ?_
      refine kc_getD (j := 0) (v := .ref (aS G)) B hP rfl (by decide) kw_76 dX2_middle_31 ?_
      refine lv_aload_n hx hb dX2_middle_34 rfl (lv_at hl 0 rfl) ?_
      refine kc_getD (j := 1) (v := .ref (aP G)) B hP rfl (by decide) kw_74 dX2_middle_35 ?_
      refine lv_iload_n hx hb dX2_middle_38 rfl (lv_at hl 1 rfl) ?_
      refine kc_aald (i := x) B hG hP (kc_inF q_1) dX2_middle_39 ?_
      refine kc_getNX (j := 0) (k := x.toNatClampNeg) (v := .long ((c.2.2 x.toNatClampNeg).1)) B hP (kc_in10 (kc_inF q_1)) rfl (by decide) kw_87 dX2_middle_40 ?_
      refine lv_aload_n hx hb dX2_middle_43 rfl (lv_at hl 0 rfl) ?_
      refine kc_getD (j := 1) (v := .ref (aP G)) B hP rfl (by decide) kw_74 dX2_middle_44 ?_
      refine lv_iload_n hx hb dX2_middle_47 rfl (lv_at hl 1 rfl) ?_
      refine kc_aald (i := x) B hG hP (kc_inF q_1) dX2_middle_48 ?_
      refine kc_getNX (j := 1) (k := x.toNatClampNeg) (v := .long ((c.2.2 x.toNatClampNeg).2)) B hP (kc_in10 (kc_inF q_1)) rfl (by decide) kw_88 dX2_middle_49 ?_
      refine lv_ladd hx hb dX2_middle_52 ?_
      refine kp_callNR (rm := rm_patternOfHalf) (As := [.long (((c.2.2 x.toNatClampNeg).1) + ((c.2.2 x.toNatClampNeg).2))]) (rest := []) (r := some (.int (F_patternOfHalf c (((c.2.2 x.toNatClampNeg).1) + ((c.2.2 x.toNatClampNeg).2))))) (st1 := [.int (F_patternOfHalf c (((c.2.2 x.toNatClampNeg).1) + ((c.2.2 x.toNatClampNeg).2)))]) B (C_patternOfHalf l D ty sz G Z hG c (((c.2.2 x.toNatClampNeg).1) + ((c.2.2 x.toNatClampNeg).2))) kt_patternOfHalf kw_240 kw_241 kw_242 (kc_rcS B hP) (by decide) ⟨rfl, rfl⟩ (by decide) rfl (Nat.le_of_ble_eq_true rfl) hl.1 hP hS dX2_middle_53 rfl ?_
      exact kx_reti B hP hS (by simp only [F_middle, if_neg q_1, if_pos q_2, Option.map_some]) dX2_middle_56
    · exact kx_throwN (ic := 102) B htr hexc hH kw_232 kw_229 kw_230 kw_243 hl.1 dX2_middle_20 dX2_middle_23 dX2_middle_24 dX2_middle_26 dX2_middle_29 (by decide) (by decide) (by decide) (by decide) (by simp only [F_middle, if_neg q_1, if_neg q_2, Option.map_none])
def F_width (c : cw_C) (x : Int32) : Option Int32 :=
  if (F_isFilled c x) = (0 : Int32) then none else some (F_patternOf c (F_notBelow c (F_plus ((c.2.2 x.toNatClampNeg).2) (-((c.2.2 x.toNatClampNeg).1)))))
def rm_width : Room := { frames := 6, cells := 1, slots := 6, locals := 113 }
set_option maxHeartbeats 4000000 in
set_option maxRecDepth 100000 in
theorem C_width (l : Launch) (D : va_G) (ty : List (ClassId × FieldType)) (sz : Nat) (G : cw_G) (Z : va_W) (hG : cw_ok ty sz G Z) (c : cw_C) (x : Int32) (htr : l.stackTraces = false) : kx_M l yX2_width cX2_width 4 (some .int) rm_width D ty sz [.ref (aD G), .int x] (cw_W G c Z) (Option.map Value.int (F_width c x)) (cw_W G c Z) "java/util/NoSuchElementException" := by
  refine kx_body (by decide) (Nat.le_of_ble_eq_true rfl) rfl ?_
  intro p e s m args below meth cd ls B hexc hH hl hP hS
  obtain ⟨hx, hb, hml, hown, hlk, hr, hw, hE, hK, hsz⟩ := id B
  have hl : lv_has ls 4 [(0, .ref (aD G)), (1, .int x)] := hl
  refine lv_aload_n hx hb dX2_width_0 rfl (lv_at hl 0 rfl) ?_
  refine lv_iload_n hx hb dX2_width_1 rfl (lv_at hl 1 rfl) ?_
  refine kp_callVR (rm := rm_isFilled) (As := [.int x]) (rest := []) (r := some (.int (F_isFilled c x))) (st1 := [.int (F_isFilled c x)]) B (C_isFilled l D ty sz G Z hG c x) kt_isFilled kw_184 kw_185 kw_186 (kc_rcD B hP) (by decide) ⟨rfl, rfl⟩ (by decide) rfl (Nat.le_of_ble_eq_true rfl) hl.1 hP hS dX2_width_2 rfl ?_
  refine lv_if_ne (tgt := 18) hx hb dX2_width_5 (by decide) (fun q_1 => ?_) (fun q_1 => ?_)
  · refine lv_aload_n hx hb dX2_width_18 rfl (lv_at hl 0 rfl) ?_
    refine kc_getD (j := 1) (v := .ref (aP G)) B hP rfl (by decide) kw_74 dX2_width_19 ?_
    refine lv_iload_n hx hb dX2_width_22 rfl (lv_at hl 1 rfl) ?_
    refine kc_aald (i := x) B hG hP (kc_inF q_1) dX2_width_23 ?_
    refine kc_getNX (j := 1) (k := x.toNatClampNeg) (v := .long ((c.2.2 x.toNatClampNeg).2)) B hP (kc_in10 (kc_inF q_1)) rfl (by decide) kw_88 dX2_width_24 ?_
    refine lv_aload_n hx hb dX2_width_27 rfl (lv_at hl 0 rfl) ?_
    refine kc_getD (j := 1) (v := .ref (aP G)) B hP rfl (by decide) kw_74 dX2_width_28 ?_
    refine lv_iload_n hx hb dX2_width_31 rfl (lv_at hl 1 rfl) ?_
    refine kc_aald (i := x) B hG hP (kc_inF q_1) dX2_width_32 ?_
    refine kc_getNX (j := 0) (k := x.toNatClampNeg) (v := .long ((c.2.2 x.toNatClampNeg).1)) B hP (kc_in10 (kc_inF q_1)) rfl (by decide) kw_87 dX2_width_33 ?_
    refine lv_lneg hx hb dX2_width_36 ?_
    refine kp_callSR (rm := rm_plus) (As := [.long ((c.2.2 x.toNatClampNeg).2), .long (-((c.2.2 x.toNatClampNeg).1))]) (rest := []) (r := some (.long (F_plus ((c.2.2 x.toNatClampNeg).2) (-((c.2.2 x.toNatClampNeg).1))))) (st1 := [.long (F_plus ((c.2.2 x.toNatClampNeg).2) (-((c.2.2 x.toNatClampNeg).1)))]) B (C_plus l D ty sz G Z hG c ((c.2.2 x.toNatClampNeg).2) (-((c.2.2 x.toNatClampNeg).1))) kt_plus kw_114 kw_115 (by decide) ⟨rfl, rfl⟩ (by decide) rfl (Nat.le_of_ble_eq_true rfl) hl.1 hP hS dX2_width_37 rfl ?_
    refine lv_lstore_n (lv' := [(2, .long (F_plus ((c.2.2 x.toNatClampNeg).2) (-((c.2.2 x.toNatClampNeg).1)))), (0, .ref (aD G)), (1, .int x)]) hx hb dX2_width_40 rfl hl (by decide) rfl (fun ls hl => ?_)
    refine lv_aload_n hx hb dX2_width_41 rfl (lv_at hl 1 rfl) ?_
    refine kc_getD (j := 0) (v := .ref (aS G)) B hP rfl (by decide) kw_76 dX2_width_42 ?_
    refine lv_aload_n hx hb dX2_width_45 rfl (lv_at hl 1 rfl) ?_
    refine kc_getD (j := 0) (v := .ref (aS G)) B hP rfl (by decide) kw_76 dX2_width_46 ?_
    refine lv_lload_n hx hb dX2_width_49 rfl (lv_at hl 0 rfl) ?_
    refine kp_callNR (rm := rm_notBelow) (As := [.long (F_plus ((c.2.2 x.toNatClampNeg).2) (-((c.2.2 x.toNatClampNeg).1)))]) (rest := [.ref (aS G)]) (r := some (.long (F_notBelow c (F_plus ((c.2.2 x.toNatClampNeg).2) (-((c.2.2 x.toNatClampNeg).1)))))) (st1 := [.long (F_notBelow c (F_plus ((c.2.2 x.toNatClampNeg).2) (-((c.2.2 x.toNatClampNeg).1)))), .ref (aS G)]) B (C_notBelow l D ty sz G Z hG c (F_plus ((c.2.2 x.toNatClampNeg).2) (-((c.2.2 x.toNatClampNeg).1)))) kt_notBelow kw_176 kw_57 kw_58 (kc_rcS B hP) (by decide) ⟨rfl, rfl⟩ (by decide) rfl (Nat.le_of_ble_eq_true rfl) hl.1 hP hS dX2_width_50 rfl ?_
    refine kp_callNR (rm := rm_patternOf) (As := [.long (F_notBelow c (F_plus ((c.2.2 x.toNatClampNeg).2) (-((c.2.2 x.toNatClampNeg).1))))]) (rest := []) (r := some (.int (F_patternOf c (F_notBelow c (F_plus ((c.2.2 x.toNatClampNeg).2) (-((c.2.2 x.toNatClampNeg).1))))))) (st1 := [.int (F_patternOf c (F_notBelow c (F_plus ((c.2.2 x.toNatClampNeg).2) (-((c.2.2 x.toNatClampNeg).1)))))]) B (C_patternOf l D ty sz G Z hG c (F_notBelow c (F_plus ((c.2.2 x.toNatClampNeg).2) (-((c.2.2 x.toNatClampNeg).1))))) kt_patternOf kw_228 kw_62 kw_63 (kc_rcS B hP) (by decide) ⟨rfl, rfl⟩ (by decide) rfl (Nat.le_of_ble_eq_true rfl) hl.1 hP hS dX2_width_53 rfl ?_
    exact kx_reti B hP hS (by simp only [F_width, if_neg q_1, Option.map_some]) dX2_width_56
  · exact kx_throwN (ic := 102) B htr hexc hH kw_232 kw_229 kw_230 kw_231 hl.1 dX2_width_8 dX2_width_11 dX2_width_12 dX2_width_14 dX2_width_17 (by decide) (by decide) (by decide) (by decide) (by simp only [F_width, if_pos q_1, Option.map_none])
end
section
theorem dX3_init_0 : decode cX3_init 0 = .ok (.aload_n 0, 1) := by decide +kernel
theorem dX3_init_1 : decode cX3_init 1 = .ok (.invokespecial 1, 3) := by decide +kernel
theorem dX3_init_4 : decode cX3_init 4 = .ok (.aload_n 0, 1) := by decide +kernel
theorem dX3_init_5 : decode cX3_init 5 = .ok (.iconst 4, 1) := by decide +kernel
theorem dX3_init_6 : decode cX3_init 6 = .ok (.putfield 7, 3) := by decide +kernel
theorem dX3_init_9 : decode cX3_init 9 = .ok (.aload_n 0, 1) := by decide +kernel
theorem dX3_init_10 : decode cX3_init 10 = .ok (.bipush 10, 2) := by decide +kernel
theorem dX3_init_12 : decode cX3_init 12 = .ok (.putfield 13, 3) := by decide +kernel
theorem dX3_init_15 : decode cX3_init 15 = .ok (.aload_n 0, 1) := by decide +kernel
theorem dX3_init_16 : decode cX3_init 16 = .ok (.bipush 8, 2) := by decide +kernel
theorem dX3_init_18 : decode cX3_init 18 = .ok (.newarray .boolean, 2) := by decide +kernel
theorem dX3_init_20 : decode cX3_init 20 = .ok (.putfield 16, 3) := by decide +kernel
theorem dX3_init_23 : decode cX3_init 23 = .ok (.aload_n 0, 1) := by decide +kernel
theorem dX3_init_24 : decode cX3_init 24 = .ok (.bipush 8, 2) := by decide +kernel
theorem dX3_init_26 : decode cX3_init 26 = .ok (.newarray .long, 2) := by decide +kernel
theorem dX3_init_28 : decode cX3_init 28 = .ok (.putfield 20, 3) := by decide +kernel
theorem dX3_init_31 : decode cX3_init 31 = .ok (.aload_n 0, 1) := by decide +kernel
theorem dX3_init_32 : decode cX3_init 32 = .ok (.bipush 8, 2) := by decide +kernel
theorem dX3_init_34 : decode cX3_init 34 = .ok (.newarray .long, 2) := by decide +kernel
theorem dX3_init_36 : decode cX3_init 36 = .ok (.putfield 24, 3) := by decide +kernel
theorem dX3_init_39 : decode cX3_init 39 = .ok (.return_, 1) := by decide +kernel
theorem dX3_thrown_0 : decode cX3_thrown 0 = .ok (.aload_n 0, 1) := by decide +kernel
theorem dX3_thrown_1 : decode cX3_thrown 1 = .ok (.getfield 27, 3) := by decide +kernel
theorem dX3_thrown_4 : decode cX3_thrown 4 = .ok (.ireturn, 1) := by decide +kernel
theorem dX3_raise_0 : decode cX3_raise 0 = .ok (.aload_n 0, 1) := by decide +kernel
theorem dX3_raise_1 : decode cX3_raise 1 = .ok (.iload_n 1, 1) := by decide +kernel
theorem dX3_raise_2 : decode cX3_raise 2 = .ok (.putfield 27, 3) := by decide +kernel
theorem dX3_raise_5 : decode cX3_raise 5 = .ok (.iconst 0, 1) := by decide +kernel
theorem dX3_raise_6 : decode cX3_raise 6 = .ok (.ireturn, 1) := by decide +kernel
theorem dX3_isPlace_0 : decode cX3_isPlace 0 = .ok (.iload_n 0, 1) := by decide +kernel
theorem dX3_isPlace_1 : decode cX3_isPlace 1 = .ok (.ifCond .lt 13, 3) := by decide +kernel
theorem dX3_isPlace_4 : decode cX3_isPlace 4 = .ok (.iload_n 0, 1) := by decide +kernel
theorem dX3_isPlace_5 : decode cX3_isPlace 5 = .ok (.bipush 8, 2) := by decide +kernel
theorem dX3_isPlace_7 : decode cX3_isPlace 7 = .ok (.if_icmp .ge 7, 3) := by decide +kernel
theorem dX3_isPlace_10 : decode cX3_isPlace 10 = .ok (.iconst 1, 1) := by decide +kernel
theorem dX3_isPlace_11 : decode cX3_isPlace 11 = .ok (.goto 4, 3) := by decide +kernel
theorem dX3_isPlace_14 : decode cX3_isPlace 14 = .ok (.iconst 0, 1) := by decide +kernel
theorem dX3_isPlace_15 : decode cX3_isPlace 15 = .ok (.ireturn, 1) := by decide +kernel
theorem dX3_format_0 : decode cX3_format 0 = .ok (.aload_n 0, 1) := by decide +kernel
theorem dX3_format_1 : decode cX3_format 1 = .ok (.iconst 0, 1) := by decide +kernel
theorem dX3_format_2 : decode cX3_format 2 = .ok (.putfield 27, 3) := by decide +kernel
theorem dX3_format_5 : decode cX3_format 5 = .ok (.iload_n 1, 1) := by decide +kernel
theorem dX3_format_6 : decode cX3_format 6 = .ok (.iconst 2, 1) := by decide +kernel
theorem dX3_format_7 : decode cX3_format 7 = .ok (.if_icmp .lt 19, 3) := by decide +kernel
theorem dX3_format_10 : decode cX3_format 10 = .ok (.iload_n 1, 1) := by decide +kernel
theorem dX3_format_11 : decode cX3_format 11 = .ok (.iconst 4, 1) := by decide +kernel
theorem dX3_format_12 : decode cX3_format 12 = .ok (.if_icmp .gt 14, 3) := by decide +kernel
theorem dX3_format_15 : decode cX3_format 15 = .ok (.iload_n 2, 1) := by decide +kernel
theorem dX3_format_16 : decode cX3_format 16 = .ok (.iconst 1, 1) := by decide +kernel
theorem dX3_format_17 : decode cX3_format 17 = .ok (.if_icmp .lt 9, 3) := by decide +kernel
theorem dX3_format_20 : decode cX3_format 20 = .ok (.iload_n 2, 1) := by decide +kernel
theorem dX3_format_21 : decode cX3_format 21 = .ok (.bipush 10, 2) := by decide +kernel
theorem dX3_format_23 : decode cX3_format 23 = .ok (.if_icmp .le 5, 3) := by decide +kernel
theorem dX3_format_26 : decode cX3_format 26 = .ok (.iconst 0, 1) := by decide +kernel
theorem dX3_format_27 : decode cX3_format 27 = .ok (.ireturn, 1) := by decide +kernel
theorem dX3_format_28 : decode cX3_format 28 = .ok (.aload_n 0, 1) := by decide +kernel
theorem dX3_format_29 : decode cX3_format 29 = .ok (.iload_n 1, 1) := by decide +kernel
theorem dX3_format_30 : decode cX3_format 30 = .ok (.putfield 7, 3) := by decide +kernel
theorem dX3_format_33 : decode cX3_format 33 = .ok (.aload_n 0, 1) := by decide +kernel
theorem dX3_format_34 : decode cX3_format 34 = .ok (.iload_n 2, 1) := by decide +kernel
theorem dX3_format_35 : decode cX3_format 35 = .ok (.putfield 13, 3) := by decide +kernel
theorem dX3_format_38 : decode cX3_format 38 = .ok (.iconst 0, 1) := by decide +kernel
theorem dX3_format_39 : decode cX3_format 39 = .ok (.istore_n 3, 1) := by decide +kernel
theorem dX3_format_40 : decode cX3_format 40 = .ok (.iload_n 3, 1) := by decide +kernel
theorem dX3_format_41 : decode cX3_format 41 = .ok (.bipush 8, 2) := by decide +kernel
theorem dX3_format_43 : decode cX3_format 43 = .ok (.if_icmp .ge 16, 3) := by decide +kernel
theorem dX3_format_46 : decode cX3_format 46 = .ok (.aload_n 0, 1) := by decide +kernel
theorem dX3_format_47 : decode cX3_format 47 = .ok (.getfield 16, 3) := by decide +kernel
theorem dX3_format_50 : decode cX3_format 50 = .ok (.iload_n 3, 1) := by decide +kernel
theorem dX3_format_51 : decode cX3_format 51 = .ok (.iconst 0, 1) := by decide +kernel
theorem dX3_format_52 : decode cX3_format 52 = .ok (.bastore, 1) := by decide +kernel
theorem dX3_format_53 : decode cX3_format 53 = .ok (.iinc 3 1, 3) := by decide +kernel
theorem dX3_format_56 : decode cX3_format 56 = .ok (.goto (-16), 3) := by decide +kernel
theorem dX3_format_59 : decode cX3_format 59 = .ok (.iconst 1, 1) := by decide +kernel
theorem dX3_format_60 : decode cX3_format 60 = .ok (.ireturn, 1) := by decide +kernel
theorem dX3_fine_0 : decode cX3_fine 0 = .ok (.iconst 1, 1) := by decide +kernel
theorem dX3_fine_1 : decode cX3_fine 1 = .ok (.aload_n 0, 1) := by decide +kernel
theorem dX3_fine_2 : decode cX3_fine 2 = .ok (.getfield 7, 3) := by decide +kernel
theorem dX3_fine_5 : decode cX3_fine 5 = .ok (.iconst 1, 1) := by decide +kernel
theorem dX3_fine_6 : decode cX3_fine 6 = .ok (.isub, 1) := by decide +kernel
theorem dX3_fine_7 : decode cX3_fine 7 = .ok (.ishl, 1) := by decide +kernel
theorem dX3_fine_8 : decode cX3_fine 8 = .ok (.iconst 2, 1) := by decide +kernel
theorem dX3_fine_9 : decode cX3_fine 9 = .ok (.isub, 1) := by decide +kernel
theorem dX3_fine_10 : decode cX3_fine 10 = .ok (.aload_n 0, 1) := by decide +kernel
theorem dX3_fine_11 : decode cX3_fine 11 = .ok (.getfield 13, 3) := by decide +kernel
theorem dX3_fine_14 : decode cX3_fine 14 = .ok (.iadd, 1) := by decide +kernel
theorem dX3_fine_15 : decode cX3_fine 15 = .ok (.ireturn, 1) := by decide +kernel
theorem dX3_most_0 : decode cX3_most 0 = .ok (.ldc2_w 30, 3) := by decide +kernel
theorem dX3_most_3 : decode cX3_most 3 = .ok (.aload_n 0, 1) := by decide +kernel
theorem dX3_most_4 : decode cX3_most 4 = .ok (.getfield 13, 3) := by decide +kernel
theorem dX3_most_7 : decode cX3_most 7 = .ok (.lshl, 1) := by decide +kernel
theorem dX3_most_8 : decode cX3_most 8 = .ok (.lconst 1, 1) := by decide +kernel
theorem dX3_most_9 : decode cX3_most 9 = .ok (.lsub, 1) := by decide +kernel
theorem dX3_most_10 : decode cX3_most 10 = .ok (.iconst 1, 1) := by decide +kernel
theorem dX3_most_11 : decode cX3_most 11 = .ok (.aload_n 0, 1) := by decide +kernel
theorem dX3_most_12 : decode cX3_most 12 = .ok (.getfield 7, 3) := by decide +kernel
theorem dX3_most_15 : decode cX3_most 15 = .ok (.ishl, 1) := by decide +kernel
theorem dX3_most_16 : decode cX3_most 16 = .ok (.iconst 3, 1) := by decide +kernel
theorem dX3_most_17 : decode cX3_most 17 = .ok (.isub, 1) := by decide +kernel
theorem dX3_most_18 : decode cX3_most 18 = .ok (.lshl, 1) := by decide +kernel
theorem dX3_most_19 : decode cX3_most 19 = .ok (.lreturn, 1) := by decide +kernel
theorem dX3_endless_0 : decode cX3_endless 0 = .ok (.iconst 1, 1) := by decide +kernel
theorem dX3_endless_1 : decode cX3_endless 1 = .ok (.aload_n 0, 1) := by decide +kernel
theorem dX3_endless_2 : decode cX3_endless 2 = .ok (.getfield 7, 3) := by decide +kernel
theorem dX3_endless_5 : decode cX3_endless 5 = .ok (.ishl, 1) := by decide +kernel
theorem dX3_endless_6 : decode cX3_endless 6 = .ok (.iconst 1, 1) := by decide +kernel
theorem dX3_endless_7 : decode cX3_endless 7 = .ok (.isub, 1) := by decide +kernel
theorem dX3_endless_8 : decode cX3_endless 8 = .ok (.aload_n 0, 1) := by decide +kernel
theorem dX3_endless_9 : decode cX3_endless 9 = .ok (.getfield 13, 3) := by decide +kernel
theorem dX3_endless_12 : decode cX3_endless 12 = .ok (.ishl, 1) := by decide +kernel
theorem dX3_endless_13 : decode cX3_endless 13 = .ok (.ireturn, 1) := by decide +kernel
theorem dX3_isPattern_0 : decode cX3_isPattern 0 = .ok (.iload_n 1, 1) := by decide +kernel
theorem dX3_isPattern_1 : decode cX3_isPattern 1 = .ok (.ifCond .lt 45, 3) := by decide +kernel
theorem dX3_isPattern_4 : decode cX3_isPattern 4 = .ok (.iload_n 1, 1) := by decide +kernel
theorem dX3_isPattern_5 : decode cX3_isPattern 5 = .ok (.iconst 1, 1) := by decide +kernel
theorem dX3_isPattern_6 : decode cX3_isPattern 6 = .ok (.aload_n 0, 1) := by decide +kernel
theorem dX3_isPattern_7 : decode cX3_isPattern 7 = .ok (.getfield 7, 3) := by decide +kernel
theorem dX3_isPattern_10 : decode cX3_isPattern 10 = .ok (.iadd, 1) := by decide +kernel
theorem dX3_isPattern_11 : decode cX3_isPattern 11 = .ok (.aload_n 0, 1) := by decide +kernel
theorem dX3_isPattern_12 : decode cX3_isPattern 12 = .ok (.getfield 13, 3) := by decide +kernel
theorem dX3_isPattern_15 : decode cX3_isPattern 15 = .ok (.iadd, 1) := by decide +kernel
theorem dX3_isPattern_16 : decode cX3_isPattern 16 = .ok (.ishr, 1) := by decide +kernel
theorem dX3_isPattern_17 : decode cX3_isPattern 17 = .ok (.ifCond .ne 29, 3) := by decide +kernel
theorem dX3_isPattern_20 : decode cX3_isPattern 20 = .ok (.iload_n 1, 1) := by decide +kernel
theorem dX3_isPattern_21 : decode cX3_isPattern 21 = .ok (.iconst 1, 1) := by decide +kernel
theorem dX3_isPattern_22 : decode cX3_isPattern 22 = .ok (.aload_n 0, 1) := by decide +kernel
theorem dX3_isPattern_23 : decode cX3_isPattern 23 = .ok (.getfield 7, 3) := by decide +kernel
theorem dX3_isPattern_26 : decode cX3_isPattern 26 = .ok (.aload_n 0, 1) := by decide +kernel
theorem dX3_isPattern_27 : decode cX3_isPattern 27 = .ok (.getfield 13, 3) := by decide +kernel
theorem dX3_isPattern_30 : decode cX3_isPattern 30 = .ok (.iadd, 1) := by decide +kernel
theorem dX3_isPattern_31 : decode cX3_isPattern 31 = .ok (.ishl, 1) := by decide +kernel
theorem dX3_isPattern_32 : decode cX3_isPattern 32 = .ok (.iconst 1, 1) := by decide +kernel
theorem dX3_isPattern_33 : decode cX3_isPattern 33 = .ok (.isub, 1) := by decide +kernel
theorem dX3_isPattern_34 : decode cX3_isPattern 34 = .ok (.iand, 1) := by decide +kernel
theorem dX3_isPattern_35 : decode cX3_isPattern 35 = .ok (.aload_n 0, 1) := by decide +kernel
theorem dX3_isPattern_36 : decode cX3_isPattern 36 = .ok (.invokevirtual 32, 3) := by decide +kernel
theorem dX3_isPattern_39 : decode cX3_isPattern 39 = .ok (.if_icmp .gt 7, 3) := by decide +kernel
theorem dX3_isPattern_42 : decode cX3_isPattern 42 = .ok (.iconst 1, 1) := by decide +kernel
theorem dX3_isPattern_43 : decode cX3_isPattern 43 = .ok (.goto 4, 3) := by decide +kernel
theorem dX3_isPattern_46 : decode cX3_isPattern 46 = .ok (.iconst 0, 1) := by decide +kernel
theorem dX3_isPattern_47 : decode cX3_isPattern 47 = .ok (.ireturn, 1) := by decide +kernel
theorem dX3_number_0 : decode cX3_number 0 = .ok (.iload_n 1, 1) := by decide +kernel
theorem dX3_number_1 : decode cX3_number 1 = .ok (.iconst 1, 1) := by decide +kernel
theorem dX3_number_2 : decode cX3_number 2 = .ok (.aload_n 0, 1) := by decide +kernel
theorem dX3_number_3 : decode cX3_number 3 = .ok (.getfield 7, 3) := by decide +kernel
theorem dX3_number_6 : decode cX3_number 6 = .ok (.aload_n 0, 1) := by decide +kernel
theorem dX3_number_7 : decode cX3_number 7 = .ok (.getfield 13, 3) := by decide +kernel
theorem dX3_number_10 : decode cX3_number 10 = .ok (.iadd, 1) := by decide +kernel
theorem dX3_number_11 : decode cX3_number 11 = .ok (.ishl, 1) := by decide +kernel
theorem dX3_number_12 : decode cX3_number 12 = .ok (.iconst 1, 1) := by decide +kernel
theorem dX3_number_13 : decode cX3_number 13 = .ok (.isub, 1) := by decide +kernel
theorem dX3_number_14 : decode cX3_number 14 = .ok (.iand, 1) := by decide +kernel
theorem dX3_number_15 : decode cX3_number 15 = .ok (.istore_n 2, 1) := by decide +kernel
theorem dX3_number_16 : decode cX3_number 16 = .ok (.iload_n 2, 1) := by decide +kernel
theorem dX3_number_17 : decode cX3_number 17 = .ok (.aload_n 0, 1) := by decide +kernel
theorem dX3_number_18 : decode cX3_number 18 = .ok (.getfield 13, 3) := by decide +kernel
theorem dX3_number_21 : decode cX3_number 21 = .ok (.ishr, 1) := by decide +kernel
theorem dX3_number_22 : decode cX3_number 22 = .ok (.istore_n 3, 1) := by decide +kernel
theorem dX3_number_23 : decode cX3_number 23 = .ok (.iload_n 2, 1) := by decide +kernel
theorem dX3_number_24 : decode cX3_number 24 = .ok (.iconst 1, 1) := by decide +kernel
theorem dX3_number_25 : decode cX3_number 25 = .ok (.aload_n 0, 1) := by decide +kernel
theorem dX3_number_26 : decode cX3_number 26 = .ok (.getfield 13, 3) := by decide +kernel
theorem dX3_number_29 : decode cX3_number 29 = .ok (.ishl, 1) := by decide +kernel
theorem dX3_number_30 : decode cX3_number 30 = .ok (.iconst 1, 1) := by decide +kernel
theorem dX3_number_31 : decode cX3_number 31 = .ok (.isub, 1) := by decide +kernel
theorem dX3_number_32 : decode cX3_number 32 = .ok (.iand, 1) := by decide +kernel
theorem dX3_number_33 : decode cX3_number 33 = .ok (.i2l, 1) := by decide +kernel
theorem dX3_number_34 : decode cX3_number 34 = .ok (.lstore 4, 2) := by decide +kernel
theorem dX3_number_36 : decode cX3_number 36 = .ok (.iload_n 2, 1) := by decide +kernel
theorem dX3_number_37 : decode cX3_number 37 = .ok (.aload_n 0, 1) := by decide +kernel
theorem dX3_number_38 : decode cX3_number 38 = .ok (.invokevirtual 32, 3) := by decide +kernel
theorem dX3_number_41 : decode cX3_number 41 = .ok (.if_icmp .ne 9, 3) := by decide +kernel
theorem dX3_number_44 : decode cX3_number 44 = .ok (.ldc2_w 36, 3) := by decide +kernel
theorem dX3_number_47 : decode cX3_number 47 = .ok (.goto 25, 3) := by decide +kernel
theorem dX3_number_50 : decode cX3_number 50 = .ok (.iload_n 3, 1) := by decide +kernel
theorem dX3_number_51 : decode cX3_number 51 = .ok (.ifCond .ne 8, 3) := by decide +kernel
theorem dX3_number_54 : decode cX3_number 54 = .ok (.lload 4, 2) := by decide +kernel
theorem dX3_number_56 : decode cX3_number 56 = .ok (.goto 16, 3) := by decide +kernel
theorem dX3_number_59 : decode cX3_number 59 = .ok (.lload 4, 2) := by decide +kernel
theorem dX3_number_61 : decode cX3_number 61 = .ok (.lconst 1, 1) := by decide +kernel
theorem dX3_number_62 : decode cX3_number 62 = .ok (.aload_n 0, 1) := by decide +kernel
theorem dX3_number_63 : decode cX3_number 63 = .ok (.getfield 13, 3) := by decide +kernel
theorem dX3_number_66 : decode cX3_number 66 = .ok (.lshl, 1) := by decide +kernel
theorem dX3_number_67 : decode cX3_number 67 = .ok (.ladd, 1) := by decide +kernel
theorem dX3_number_68 : decode cX3_number 68 = .ok (.iload_n 3, 1) := by decide +kernel
theorem dX3_number_69 : decode cX3_number 69 = .ok (.iconst 1, 1) := by decide +kernel
theorem dX3_number_70 : decode cX3_number 70 = .ok (.isub, 1) := by decide +kernel
theorem dX3_number_71 : decode cX3_number 71 = .ok (.lshl, 1) := by decide +kernel
theorem dX3_number_72 : decode cX3_number 72 = .ok (.lstore 6, 2) := by decide +kernel
theorem dX3_number_74 : decode cX3_number 74 = .ok (.iload_n 2, 1) := by decide +kernel
theorem dX3_number_75 : decode cX3_number 75 = .ok (.iload_n 1, 1) := by decide +kernel
theorem dX3_number_76 : decode cX3_number 76 = .ok (.if_icmp .ne 8, 3) := by decide +kernel
theorem dX3_number_79 : decode cX3_number 79 = .ok (.lload 6, 2) := by decide +kernel
theorem dX3_number_81 : decode cX3_number 81 = .ok (.goto 6, 3) := by decide +kernel
theorem dX3_number_84 : decode cX3_number 84 = .ok (.lload 6, 2) := by decide +kernel
theorem dX3_number_86 : decode cX3_number 86 = .ok (.lneg, 1) := by decide +kernel
theorem dX3_number_87 : decode cX3_number 87 = .ok (.lreturn, 1) := by decide +kernel
theorem dX3_length_0 : decode cX3_length 0 = .ok (.iconst 0, 1) := by decide +kernel
theorem dX3_length_1 : decode cX3_length 1 = .ok (.istore_n 2, 1) := by decide +kernel
theorem dX3_length_2 : decode cX3_length 2 = .ok (.lload_n 0, 1) := by decide +kernel
theorem dX3_length_3 : decode cX3_length 3 = .ok (.iload_n 2, 1) := by decide +kernel
theorem dX3_length_4 : decode cX3_length 4 = .ok (.lshr, 1) := by decide +kernel
theorem dX3_length_5 : decode cX3_length 5 = .ok (.lconst 0, 1) := by decide +kernel
theorem dX3_length_6 : decode cX3_length 6 = .ok (.lcmp, 1) := by decide +kernel
theorem dX3_length_7 : decode cX3_length 7 = .ok (.ifCond .le 9, 3) := by decide +kernel
theorem dX3_length_10 : decode cX3_length 10 = .ok (.iinc 2 1, 3) := by decide +kernel
theorem dX3_length_13 : decode cX3_length 13 = .ok (.goto (-11), 3) := by decide +kernel
theorem dX3_length_16 : decode cX3_length 16 = .ok (.iload_n 2, 1) := by decide +kernel
theorem dX3_length_17 : decode cX3_length 17 = .ok (.ireturn, 1) := by decide +kernel
theorem dX3_pattern_0 : decode cX3_pattern 0 = .ok (.lload_n 1, 1) := by decide +kernel
theorem dX3_pattern_1 : decode cX3_pattern 1 = .ok (.lconst 0, 1) := by decide +kernel
theorem dX3_pattern_2 : decode cX3_pattern 2 = .ok (.lcmp, 1) := by decide +kernel
theorem dX3_pattern_3 : decode cX3_pattern 3 = .ok (.ifCond .ge 8, 3) := by decide +kernel
theorem dX3_pattern_6 : decode cX3_pattern 6 = .ok (.lload_n 1, 1) := by decide +kernel
theorem dX3_pattern_7 : decode cX3_pattern 7 = .ok (.lneg, 1) := by decide +kernel
theorem dX3_pattern_8 : decode cX3_pattern 8 = .ok (.goto 4, 3) := by decide +kernel
theorem dX3_pattern_11 : decode cX3_pattern 11 = .ok (.lload_n 1, 1) := by decide +kernel
theorem dX3_pattern_12 : decode cX3_pattern 12 = .ok (.lstore_n 3, 1) := by decide +kernel
theorem dX3_pattern_13 : decode cX3_pattern 13 = .ok (.lload_n 3, 1) := by decide +kernel
theorem dX3_pattern_14 : decode cX3_pattern 14 = .ok (.ldc2_w 36, 3) := by decide +kernel
theorem dX3_pattern_17 : decode cX3_pattern 17 = .ok (.lcmp, 1) := by decide +kernel
theorem dX3_pattern_18 : decode cX3_pattern 18 = .ok (.ifCond .lt 12, 3) := by decide +kernel
theorem dX3_pattern_21 : decode cX3_pattern 21 = .ok (.aload_n 0, 1) := by decide +kernel
theorem dX3_pattern_22 : decode cX3_pattern 22 = .ok (.invokevirtual 32, 3) := by decide +kernel
theorem dX3_pattern_25 : decode cX3_pattern 25 = .ok (.istore 5, 2) := by decide +kernel
theorem dX3_pattern_27 : decode cX3_pattern 27 = .ok (.goto 58, 3) := by decide +kernel
theorem dX3_pattern_30 : decode cX3_pattern 30 = .ok (.lload_n 3, 1) := by decide +kernel
theorem dX3_pattern_31 : decode cX3_pattern 31 = .ok (.aload_n 0, 1) := by decide +kernel
theorem dX3_pattern_32 : decode cX3_pattern 32 = .ok (.getfield 13, 3) := by decide +kernel
theorem dX3_pattern_35 : decode cX3_pattern 35 = .ok (.lshr, 1) := by decide +kernel
theorem dX3_pattern_36 : decode cX3_pattern 36 = .ok (.lconst 0, 1) := by decide +kernel
theorem dX3_pattern_37 : decode cX3_pattern 37 = .ok (.lcmp, 1) := by decide +kernel
theorem dX3_pattern_38 : decode cX3_pattern 38 = .ok (.ifCond .ne 10, 3) := by decide +kernel
theorem dX3_pattern_41 : decode cX3_pattern 41 = .ok (.lload_n 3, 1) := by decide +kernel
theorem dX3_pattern_42 : decode cX3_pattern 42 = .ok (.l2i, 1) := by decide +kernel
theorem dX3_pattern_43 : decode cX3_pattern 43 = .ok (.istore 5, 2) := by decide +kernel
theorem dX3_pattern_45 : decode cX3_pattern 45 = .ok (.goto 40, 3) := by decide +kernel
theorem dX3_pattern_48 : decode cX3_pattern 48 = .ok (.lload_n 3, 1) := by decide +kernel
theorem dX3_pattern_49 : decode cX3_pattern 49 = .ok (.invokestatic 38, 3) := by decide +kernel
theorem dX3_pattern_52 : decode cX3_pattern 52 = .ok (.aload_n 0, 1) := by decide +kernel
theorem dX3_pattern_53 : decode cX3_pattern 53 = .ok (.getfield 13, 3) := by decide +kernel
theorem dX3_pattern_56 : decode cX3_pattern 56 = .ok (.isub, 1) := by decide +kernel
theorem dX3_pattern_57 : decode cX3_pattern 57 = .ok (.iconst 1, 1) := by decide +kernel
theorem dX3_pattern_58 : decode cX3_pattern 58 = .ok (.isub, 1) := by decide +kernel
theorem dX3_pattern_59 : decode cX3_pattern 59 = .ok (.istore 6, 2) := by decide +kernel
theorem dX3_pattern_61 : decode cX3_pattern 61 = .ok (.iload 6, 2) := by decide +kernel
theorem dX3_pattern_63 : decode cX3_pattern 63 = .ok (.iconst 1, 1) := by decide +kernel
theorem dX3_pattern_64 : decode cX3_pattern 64 = .ok (.iadd, 1) := by decide +kernel
theorem dX3_pattern_65 : decode cX3_pattern 65 = .ok (.aload_n 0, 1) := by decide +kernel
theorem dX3_pattern_66 : decode cX3_pattern 66 = .ok (.getfield 13, 3) := by decide +kernel
theorem dX3_pattern_69 : decode cX3_pattern 69 = .ok (.ishl, 1) := by decide +kernel
theorem dX3_pattern_70 : decode cX3_pattern 70 = .ok (.lload_n 3, 1) := by decide +kernel
theorem dX3_pattern_71 : decode cX3_pattern 71 = .ok (.iload 6, 2) := by decide +kernel
theorem dX3_pattern_73 : decode cX3_pattern 73 = .ok (.lshr, 1) := by decide +kernel
theorem dX3_pattern_74 : decode cX3_pattern 74 = .ok (.l2i, 1) := by decide +kernel
theorem dX3_pattern_75 : decode cX3_pattern 75 = .ok (.iadd, 1) := by decide +kernel
theorem dX3_pattern_76 : decode cX3_pattern 76 = .ok (.iconst 1, 1) := by decide +kernel
theorem dX3_pattern_77 : decode cX3_pattern 77 = .ok (.aload_n 0, 1) := by decide +kernel
theorem dX3_pattern_78 : decode cX3_pattern 78 = .ok (.getfield 13, 3) := by decide +kernel
theorem dX3_pattern_81 : decode cX3_pattern 81 = .ok (.ishl, 1) := by decide +kernel
theorem dX3_pattern_82 : decode cX3_pattern 82 = .ok (.isub, 1) := by decide +kernel
theorem dX3_pattern_83 : decode cX3_pattern 83 = .ok (.istore 5, 2) := by decide +kernel
theorem dX3_pattern_85 : decode cX3_pattern 85 = .ok (.lload_n 1, 1) := by decide +kernel
theorem dX3_pattern_86 : decode cX3_pattern 86 = .ok (.lconst 0, 1) := by decide +kernel
theorem dX3_pattern_87 : decode cX3_pattern 87 = .ok (.lcmp, 1) := by decide +kernel
theorem dX3_pattern_88 : decode cX3_pattern 88 = .ok (.ifCond .ge 20, 3) := by decide +kernel
theorem dX3_pattern_91 : decode cX3_pattern 91 = .ok (.iload 5, 2) := by decide +kernel
theorem dX3_pattern_93 : decode cX3_pattern 93 = .ok (.iconst 1, 1) := by decide +kernel
theorem dX3_pattern_94 : decode cX3_pattern 94 = .ok (.aload_n 0, 1) := by decide +kernel
theorem dX3_pattern_95 : decode cX3_pattern 95 = .ok (.getfield 7, 3) := by decide +kernel
theorem dX3_pattern_98 : decode cX3_pattern 98 = .ok (.aload_n 0, 1) := by decide +kernel
theorem dX3_pattern_99 : decode cX3_pattern 99 = .ok (.getfield 13, 3) := by decide +kernel
theorem dX3_pattern_102 : decode cX3_pattern 102 = .ok (.iadd, 1) := by decide +kernel
theorem dX3_pattern_103 : decode cX3_pattern 103 = .ok (.ishl, 1) := by decide +kernel
theorem dX3_pattern_104 : decode cX3_pattern 104 = .ok (.iadd, 1) := by decide +kernel
theorem dX3_pattern_105 : decode cX3_pattern 105 = .ok (.goto 5, 3) := by decide +kernel
theorem dX3_pattern_108 : decode cX3_pattern 108 = .ok (.iload 5, 2) := by decide +kernel
theorem dX3_pattern_110 : decode cX3_pattern 110 = .ok (.ireturn, 1) := by decide +kernel
theorem dX3_rounded_0 : decode cX3_rounded 0 = .ok (.lload_n 1, 1) := by decide +kernel
theorem dX3_rounded_1 : decode cX3_rounded 1 = .ok (.lconst 0, 1) := by decide +kernel
theorem dX3_rounded_2 : decode cX3_rounded 2 = .ok (.lcmp, 1) := by decide +kernel
theorem dX3_rounded_3 : decode cX3_rounded 3 = .ok (.ifCond .ge 7, 3) := by decide +kernel
theorem dX3_rounded_6 : decode cX3_rounded 6 = .ok (.iconst 1, 1) := by decide +kernel
theorem dX3_rounded_7 : decode cX3_rounded 7 = .ok (.goto 4, 3) := by decide +kernel
theorem dX3_rounded_10 : decode cX3_rounded 10 = .ok (.iconst 0, 1) := by decide +kernel
theorem dX3_rounded_11 : decode cX3_rounded 11 = .ok (.istore 6, 2) := by decide +kernel
theorem dX3_rounded_13 : decode cX3_rounded 13 = .ok (.iload 6, 2) := by decide +kernel
theorem dX3_rounded_15 : decode cX3_rounded 15 = .ok (.ifCond .eq 8, 3) := by decide +kernel
theorem dX3_rounded_18 : decode cX3_rounded 18 = .ok (.lload_n 1, 1) := by decide +kernel
theorem dX3_rounded_19 : decode cX3_rounded 19 = .ok (.lneg, 1) := by decide +kernel
theorem dX3_rounded_20 : decode cX3_rounded 20 = .ok (.goto 4, 3) := by decide +kernel
theorem dX3_rounded_23 : decode cX3_rounded 23 = .ok (.lload_n 1, 1) := by decide +kernel
theorem dX3_rounded_24 : decode cX3_rounded 24 = .ok (.lstore 7, 2) := by decide +kernel
theorem dX3_rounded_26 : decode cX3_rounded 26 = .ok (.lload 7, 2) := by decide +kernel
theorem dX3_rounded_28 : decode cX3_rounded 28 = .ok (.lload_n 3, 1) := by decide +kernel
theorem dX3_rounded_29 : decode cX3_rounded 29 = .ok (.ldiv, 1) := by decide +kernel
theorem dX3_rounded_30 : decode cX3_rounded 30 = .ok (.lstore 9, 2) := by decide +kernel
theorem dX3_rounded_32 : decode cX3_rounded 32 = .ok (.lload 7, 2) := by decide +kernel
theorem dX3_rounded_34 : decode cX3_rounded 34 = .ok (.lload_n 3, 1) := by decide +kernel
theorem dX3_rounded_35 : decode cX3_rounded 35 = .ok (.lrem, 1) := by decide +kernel
theorem dX3_rounded_36 : decode cX3_rounded 36 = .ok (.lconst 0, 1) := by decide +kernel
theorem dX3_rounded_37 : decode cX3_rounded 37 = .ok (.lcmp, 1) := by decide +kernel
theorem dX3_rounded_38 : decode cX3_rounded 38 = .ok (.ifCond .eq 7, 3) := by decide +kernel
theorem dX3_rounded_41 : decode cX3_rounded 41 = .ok (.iconst 1, 1) := by decide +kernel
theorem dX3_rounded_42 : decode cX3_rounded 42 = .ok (.goto 4, 3) := by decide +kernel
theorem dX3_rounded_45 : decode cX3_rounded 45 = .ok (.iconst 0, 1) := by decide +kernel
theorem dX3_rounded_46 : decode cX3_rounded 46 = .ok (.istore 11, 2) := by decide +kernel
theorem dX3_rounded_48 : decode cX3_rounded 48 = .ok (.lload 9, 2) := by decide +kernel
theorem dX3_rounded_50 : decode cX3_rounded 50 = .ok (.invokestatic 38, 3) := by decide +kernel
theorem dX3_rounded_53 : decode cX3_rounded 53 = .ok (.aload_n 0, 1) := by decide +kernel
theorem dX3_rounded_54 : decode cX3_rounded 54 = .ok (.getfield 13, 3) := by decide +kernel
theorem dX3_rounded_57 : decode cX3_rounded 57 = .ok (.iconst 1, 1) := by decide +kernel
theorem dX3_rounded_58 : decode cX3_rounded 58 = .ok (.iadd, 1) := by decide +kernel
theorem dX3_rounded_59 : decode cX3_rounded 59 = .ok (.if_icmp .le 18, 3) := by decide +kernel
theorem dX3_rounded_62 : decode cX3_rounded 62 = .ok (.lload 9, 2) := by decide +kernel
theorem dX3_rounded_64 : decode cX3_rounded 64 = .ok (.invokestatic 38, 3) := by decide +kernel
theorem dX3_rounded_67 : decode cX3_rounded 67 = .ok (.aload_n 0, 1) := by decide +kernel
theorem dX3_rounded_68 : decode cX3_rounded 68 = .ok (.getfield 13, 3) := by decide +kernel
theorem dX3_rounded_71 : decode cX3_rounded 71 = .ok (.isub, 1) := by decide +kernel
theorem dX3_rounded_72 : decode cX3_rounded 72 = .ok (.iconst 1, 1) := by decide +kernel
theorem dX3_rounded_73 : decode cX3_rounded 73 = .ok (.isub, 1) := by decide +kernel
theorem dX3_rounded_74 : decode cX3_rounded 74 = .ok (.goto 4, 3) := by decide +kernel
theorem dX3_rounded_77 : decode cX3_rounded 77 = .ok (.iconst 0, 1) := by decide +kernel
theorem dX3_rounded_78 : decode cX3_rounded 78 = .ok (.istore 12, 2) := by decide +kernel
theorem dX3_rounded_80 : decode cX3_rounded 80 = .ok (.iload 11, 2) := by decide +kernel
theorem dX3_rounded_82 : decode cX3_rounded 82 = .ok (.ifCond .ne 17, 3) := by decide +kernel
theorem dX3_rounded_85 : decode cX3_rounded 85 = .ok (.lload 9, 2) := by decide +kernel
theorem dX3_rounded_87 : decode cX3_rounded 87 = .ok (.iload 12, 2) := by decide +kernel
theorem dX3_rounded_89 : decode cX3_rounded 89 = .ok (.lshr, 1) := by decide +kernel
theorem dX3_rounded_90 : decode cX3_rounded 90 = .ok (.iload 12, 2) := by decide +kernel
theorem dX3_rounded_92 : decode cX3_rounded 92 = .ok (.lshl, 1) := by decide +kernel
theorem dX3_rounded_93 : decode cX3_rounded 93 = .ok (.lload 9, 2) := by decide +kernel
theorem dX3_rounded_95 : decode cX3_rounded 95 = .ok (.lcmp, 1) := by decide +kernel
theorem dX3_rounded_96 : decode cX3_rounded 96 = .ok (.ifCond .eq 7, 3) := by decide +kernel
theorem dX3_rounded_99 : decode cX3_rounded 99 = .ok (.iconst 1, 1) := by decide +kernel
theorem dX3_rounded_100 : decode cX3_rounded 100 = .ok (.goto 4, 3) := by decide +kernel
theorem dX3_rounded_103 : decode cX3_rounded 103 = .ok (.iconst 0, 1) := by decide +kernel
theorem dX3_rounded_104 : decode cX3_rounded 104 = .ok (.istore 11, 2) := by decide +kernel
theorem dX3_rounded_106 : decode cX3_rounded 106 = .ok (.lload 9, 2) := by decide +kernel
theorem dX3_rounded_108 : decode cX3_rounded 108 = .ok (.iload 12, 2) := by decide +kernel
theorem dX3_rounded_110 : decode cX3_rounded 110 = .ok (.lshr, 1) := by decide +kernel
theorem dX3_rounded_111 : decode cX3_rounded 111 = .ok (.iload 12, 2) := by decide +kernel
theorem dX3_rounded_113 : decode cX3_rounded 113 = .ok (.lshl, 1) := by decide +kernel
theorem dX3_rounded_114 : decode cX3_rounded 114 = .ok (.lstore 9, 2) := by decide +kernel
theorem dX3_rounded_116 : decode cX3_rounded 116 = .ok (.iload 5, 2) := by decide +kernel
theorem dX3_rounded_118 : decode cX3_rounded 118 = .ok (.iload 6, 2) := by decide +kernel
theorem dX3_rounded_120 : decode cX3_rounded 120 = .ok (.if_icmp .eq 7, 3) := by decide +kernel
theorem dX3_rounded_123 : decode cX3_rounded 123 = .ok (.iconst 1, 1) := by decide +kernel
theorem dX3_rounded_124 : decode cX3_rounded 124 = .ok (.goto 4, 3) := by decide +kernel
theorem dX3_rounded_127 : decode cX3_rounded 127 = .ok (.iconst 0, 1) := by decide +kernel
theorem dX3_rounded_128 : decode cX3_rounded 128 = .ok (.istore 13, 2) := by decide +kernel
theorem dX3_rounded_130 : decode cX3_rounded 130 = .ok (.iload 13, 2) := by decide +kernel
theorem dX3_rounded_132 : decode cX3_rounded 132 = .ok (.ifCond .eq 17, 3) := by decide +kernel
theorem dX3_rounded_135 : decode cX3_rounded 135 = .ok (.iload 11, 2) := by decide +kernel
theorem dX3_rounded_137 : decode cX3_rounded 137 = .ok (.ifCond .eq 12, 3) := by decide +kernel
theorem dX3_rounded_140 : decode cX3_rounded 140 = .ok (.lload 9, 2) := by decide +kernel
theorem dX3_rounded_142 : decode cX3_rounded 142 = .ok (.lconst 1, 1) := by decide +kernel
theorem dX3_rounded_143 : decode cX3_rounded 143 = .ok (.iload 12, 2) := by decide +kernel
theorem dX3_rounded_145 : decode cX3_rounded 145 = .ok (.lshl, 1) := by decide +kernel
theorem dX3_rounded_146 : decode cX3_rounded 146 = .ok (.ladd, 1) := by decide +kernel
theorem dX3_rounded_147 : decode cX3_rounded 147 = .ok (.lstore 9, 2) := by decide +kernel
theorem dX3_rounded_149 : decode cX3_rounded 149 = .ok (.lload 9, 2) := by decide +kernel
theorem dX3_rounded_151 : decode cX3_rounded 151 = .ok (.aload_n 0, 1) := by decide +kernel
theorem dX3_rounded_152 : decode cX3_rounded 152 = .ok (.invokevirtual 42, 3) := by decide +kernel
theorem dX3_rounded_155 : decode cX3_rounded 155 = .ok (.lcmp, 1) := by decide +kernel
theorem dX3_rounded_156 : decode cX3_rounded 156 = .ok (.ifCond .le 20, 3) := by decide +kernel
theorem dX3_rounded_159 : decode cX3_rounded 159 = .ok (.iload 13, 2) := by decide +kernel
theorem dX3_rounded_161 : decode cX3_rounded 161 = .ok (.ifCond .eq 9, 3) := by decide +kernel
theorem dX3_rounded_164 : decode cX3_rounded 164 = .ok (.ldc2_w 36, 3) := by decide +kernel
theorem dX3_rounded_167 : decode cX3_rounded 167 = .ok (.goto 7, 3) := by decide +kernel
theorem dX3_rounded_170 : decode cX3_rounded 170 = .ok (.aload_n 0, 1) := by decide +kernel
theorem dX3_rounded_171 : decode cX3_rounded 171 = .ok (.invokevirtual 42, 3) := by decide +kernel
theorem dX3_rounded_174 : decode cX3_rounded 174 = .ok (.lstore 9, 2) := by decide +kernel
theorem dX3_rounded_176 : decode cX3_rounded 176 = .ok (.iload 6, 2) := by decide +kernel
theorem dX3_rounded_178 : decode cX3_rounded 178 = .ok (.ifCond .eq 9, 3) := by decide +kernel
theorem dX3_rounded_181 : decode cX3_rounded 181 = .ok (.lload 9, 2) := by decide +kernel
theorem dX3_rounded_183 : decode cX3_rounded 183 = .ok (.lneg, 1) := by decide +kernel
theorem dX3_rounded_184 : decode cX3_rounded 184 = .ok (.goto 5, 3) := by decide +kernel
theorem dX3_rounded_187 : decode cX3_rounded 187 = .ok (.lload 9, 2) := by decide +kernel
theorem dX3_rounded_189 : decode cX3_rounded 189 = .ok (.lreturn, 1) := by decide +kernel
theorem dX3_set_0 : decode cX3_set 0 = .ok (.aload_n 0, 1) := by decide +kernel
theorem dX3_set_1 : decode cX3_set 1 = .ok (.iconst 0, 1) := by decide +kernel
theorem dX3_set_2 : decode cX3_set 2 = .ok (.putfield 27, 3) := by decide +kernel
theorem dX3_set_5 : decode cX3_set 5 = .ok (.iload_n 1, 1) := by decide +kernel
theorem dX3_set_6 : decode cX3_set 6 = .ok (.invokestatic 46, 3) := by decide +kernel
theorem dX3_set_9 : decode cX3_set 9 = .ok (.ifCond .eq 19, 3) := by decide +kernel
theorem dX3_set_12 : decode cX3_set 12 = .ok (.aload_n 0, 1) := by decide +kernel
theorem dX3_set_13 : decode cX3_set 13 = .ok (.iload_n 2, 1) := by decide +kernel
theorem dX3_set_14 : decode cX3_set 14 = .ok (.invokevirtual 50, 3) := by decide +kernel
theorem dX3_set_17 : decode cX3_set 17 = .ok (.ifCond .eq 11, 3) := by decide +kernel
theorem dX3_set_20 : decode cX3_set 20 = .ok (.aload_n 0, 1) := by decide +kernel
theorem dX3_set_21 : decode cX3_set 21 = .ok (.iload_n 3, 1) := by decide +kernel
theorem dX3_set_22 : decode cX3_set 22 = .ok (.invokevirtual 50, 3) := by decide +kernel
theorem dX3_set_25 : decode cX3_set 25 = .ok (.ifCond .ne 5, 3) := by decide +kernel
theorem dX3_set_28 : decode cX3_set 28 = .ok (.iconst 0, 1) := by decide +kernel
theorem dX3_set_29 : decode cX3_set 29 = .ok (.ireturn, 1) := by decide +kernel
theorem dX3_set_30 : decode cX3_set 30 = .ok (.aload_n 0, 1) := by decide +kernel
theorem dX3_set_31 : decode cX3_set 31 = .ok (.iload_n 2, 1) := by decide +kernel
theorem dX3_set_32 : decode cX3_set 32 = .ok (.invokevirtual 53, 3) := by decide +kernel
theorem dX3_set_35 : decode cX3_set 35 = .ok (.lstore 4, 2) := by decide +kernel
theorem dX3_set_37 : decode cX3_set 37 = .ok (.aload_n 0, 1) := by decide +kernel
theorem dX3_set_38 : decode cX3_set 38 = .ok (.iload_n 3, 1) := by decide +kernel
theorem dX3_set_39 : decode cX3_set 39 = .ok (.invokevirtual 53, 3) := by decide +kernel
theorem dX3_set_42 : decode cX3_set 42 = .ok (.lstore 6, 2) := by decide +kernel
theorem dX3_set_44 : decode cX3_set 44 = .ok (.lload 4, 2) := by decide +kernel
theorem dX3_set_46 : decode cX3_set 46 = .ok (.lload 6, 2) := by decide +kernel
theorem dX3_set_48 : decode cX3_set 48 = .ok (.lcmp, 1) := by decide +kernel
theorem dX3_set_49 : decode cX3_set 49 = .ok (.ifCond .gt 21, 3) := by decide +kernel
theorem dX3_set_52 : decode cX3_set 52 = .ok (.lload 4, 2) := by decide +kernel
theorem dX3_set_54 : decode cX3_set 54 = .ok (.ldc2_w 36, 3) := by decide +kernel
theorem dX3_set_57 : decode cX3_set 57 = .ok (.lcmp, 1) := by decide +kernel
theorem dX3_set_58 : decode cX3_set 58 = .ok (.ifCond .eq 12, 3) := by decide +kernel
theorem dX3_set_61 : decode cX3_set 61 = .ok (.lload 6, 2) := by decide +kernel
theorem dX3_set_63 : decode cX3_set 63 = .ok (.ldc2_w 57, 3) := by decide +kernel
theorem dX3_set_66 : decode cX3_set 66 = .ok (.lcmp, 1) := by decide +kernel
theorem dX3_set_67 : decode cX3_set 67 = .ok (.ifCond .ne 5, 3) := by decide +kernel
theorem dX3_set_70 : decode cX3_set 70 = .ok (.iconst 0, 1) := by decide +kernel
theorem dX3_set_71 : decode cX3_set 71 = .ok (.ireturn, 1) := by decide +kernel
theorem dX3_set_72 : decode cX3_set 72 = .ok (.aload_n 0, 1) := by decide +kernel
theorem dX3_set_73 : decode cX3_set 73 = .ok (.getfield 16, 3) := by decide +kernel
theorem dX3_set_76 : decode cX3_set 76 = .ok (.iload_n 1, 1) := by decide +kernel
theorem dX3_set_77 : decode cX3_set 77 = .ok (.iconst 1, 1) := by decide +kernel
theorem dX3_set_78 : decode cX3_set 78 = .ok (.bastore, 1) := by decide +kernel
theorem dX3_set_79 : decode cX3_set 79 = .ok (.aload_n 0, 1) := by decide +kernel
theorem dX3_set_80 : decode cX3_set 80 = .ok (.getfield 20, 3) := by decide +kernel
theorem dX3_set_83 : decode cX3_set 83 = .ok (.iload_n 1, 1) := by decide +kernel
theorem dX3_set_84 : decode cX3_set 84 = .ok (.lload 4, 2) := by decide +kernel
theorem dX3_set_86 : decode cX3_set 86 = .ok (.lastore, 1) := by decide +kernel
theorem dX3_set_87 : decode cX3_set 87 = .ok (.aload_n 0, 1) := by decide +kernel
theorem dX3_set_88 : decode cX3_set 88 = .ok (.getfield 24, 3) := by decide +kernel
theorem dX3_set_91 : decode cX3_set 91 = .ok (.iload_n 1, 1) := by decide +kernel
theorem dX3_set_92 : decode cX3_set 92 = .ok (.lload 6, 2) := by decide +kernel
theorem dX3_set_94 : decode cX3_set 94 = .ok (.lastore, 1) := by decide +kernel
theorem dX3_set_95 : decode cX3_set 95 = .ok (.iconst 1, 1) := by decide +kernel
theorem dX3_set_96 : decode cX3_set 96 = .ok (.ireturn, 1) := by decide +kernel
end
section
theorem dX3_clear_0 : decode cX3_clear 0 = .ok (.aload_n 0, 1) := by decide +kernel
theorem dX3_clear_1 : decode cX3_clear 1 = .ok (.iconst 0, 1) := by decide +kernel
theorem dX3_clear_2 : decode cX3_clear 2 = .ok (.putfield 27, 3) := by decide +kernel
theorem dX3_clear_5 : decode cX3_clear 5 = .ok (.iload_n 1, 1) := by decide +kernel
theorem dX3_clear_6 : decode cX3_clear 6 = .ok (.invokestatic 46, 3) := by decide +kernel
theorem dX3_clear_9 : decode cX3_clear 9 = .ok (.ifCond .ne 5, 3) := by decide +kernel
theorem dX3_clear_12 : decode cX3_clear 12 = .ok (.iconst 0, 1) := by decide +kernel
theorem dX3_clear_13 : decode cX3_clear 13 = .ok (.ireturn, 1) := by decide +kernel
theorem dX3_clear_14 : decode cX3_clear 14 = .ok (.aload_n 0, 1) := by decide +kernel
theorem dX3_clear_15 : decode cX3_clear 15 = .ok (.getfield 16, 3) := by decide +kernel
theorem dX3_clear_18 : decode cX3_clear 18 = .ok (.iload_n 1, 1) := by decide +kernel
theorem dX3_clear_19 : decode cX3_clear 19 = .ok (.iconst 0, 1) := by decide +kernel
theorem dX3_clear_20 : decode cX3_clear 20 = .ok (.bastore, 1) := by decide +kernel
theorem dX3_clear_21 : decode cX3_clear 21 = .ok (.iconst 1, 1) := by decide +kernel
theorem dX3_clear_22 : decode cX3_clear 22 = .ok (.ireturn, 1) := by decide +kernel
theorem dX3_keep_0 : decode cX3_keep 0 = .ok (.aload_n 0, 1) := by decide +kernel
theorem dX3_keep_1 : decode cX3_keep 1 = .ok (.getfield 16, 3) := by decide +kernel
theorem dX3_keep_4 : decode cX3_keep 4 = .ok (.iload_n 1, 1) := by decide +kernel
theorem dX3_keep_5 : decode cX3_keep 5 = .ok (.aload_n 0, 1) := by decide +kernel
theorem dX3_keep_6 : decode cX3_keep 6 = .ok (.getfield 59, 3) := by decide +kernel
theorem dX3_keep_9 : decode cX3_keep 9 = .ok (.bastore, 1) := by decide +kernel
theorem dX3_keep_10 : decode cX3_keep 10 = .ok (.aload_n 0, 1) := by decide +kernel
theorem dX3_keep_11 : decode cX3_keep 11 = .ok (.getfield 20, 3) := by decide +kernel
theorem dX3_keep_14 : decode cX3_keep 14 = .ok (.iload_n 1, 1) := by decide +kernel
theorem dX3_keep_15 : decode cX3_keep 15 = .ok (.aload_n 0, 1) := by decide +kernel
theorem dX3_keep_16 : decode cX3_keep 16 = .ok (.getfield 63, 3) := by decide +kernel
theorem dX3_keep_19 : decode cX3_keep 19 = .ok (.lastore, 1) := by decide +kernel
theorem dX3_keep_20 : decode cX3_keep 20 = .ok (.aload_n 0, 1) := by decide +kernel
theorem dX3_keep_21 : decode cX3_keep 21 = .ok (.getfield 24, 3) := by decide +kernel
theorem dX3_keep_24 : decode cX3_keep 24 = .ok (.iload_n 1, 1) := by decide +kernel
theorem dX3_keep_25 : decode cX3_keep 25 = .ok (.aload_n 0, 1) := by decide +kernel
theorem dX3_keep_26 : decode cX3_keep 26 = .ok (.getfield 67, 3) := by decide +kernel
theorem dX3_keep_29 : decode cX3_keep 29 = .ok (.lastore, 1) := by decide +kernel
theorem dX3_keep_30 : decode cX3_keep 30 = .ok (.aload_n 0, 1) := by decide +kernel
theorem dX3_keep_31 : decode cX3_keep 31 = .ok (.iload_n 1, 1) := by decide +kernel
theorem dX3_keep_32 : decode cX3_keep 32 = .ok (.invokevirtual 70, 3) := by decide +kernel
theorem dX3_keep_35 : decode cX3_keep 35 = .ok (.ireturn, 1) := by decide +kernel
theorem dX3_isEnd_0 : decode cX3_isEnd 0 = .ok (.lload_n 0, 1) := by decide +kernel
theorem dX3_isEnd_1 : decode cX3_isEnd 1 = .ok (.ldc2_w 57, 3) := by decide +kernel
theorem dX3_isEnd_4 : decode cX3_isEnd 4 = .ok (.lcmp, 1) := by decide +kernel
theorem dX3_isEnd_5 : decode cX3_isEnd 5 = .ok (.ifCond .le 15, 3) := by decide +kernel
theorem dX3_isEnd_8 : decode cX3_isEnd 8 = .ok (.lload_n 0, 1) := by decide +kernel
theorem dX3_isEnd_9 : decode cX3_isEnd 9 = .ok (.ldc2_w 36, 3) := by decide +kernel
theorem dX3_isEnd_12 : decode cX3_isEnd 12 = .ok (.lcmp, 1) := by decide +kernel
theorem dX3_isEnd_13 : decode cX3_isEnd 13 = .ok (.ifCond .ge 7, 3) := by decide +kernel
theorem dX3_isEnd_16 : decode cX3_isEnd 16 = .ok (.iconst 1, 1) := by decide +kernel
theorem dX3_isEnd_17 : decode cX3_isEnd 17 = .ok (.goto 4, 3) := by decide +kernel
theorem dX3_isEnd_20 : decode cX3_isEnd 20 = .ok (.iconst 0, 1) := by decide +kernel
theorem dX3_isEnd_21 : decode cX3_isEnd 21 = .ok (.ireturn, 1) := by decide +kernel
theorem dX3_span_0 : decode cX3_span 0 = .ok (.aload_n 0, 1) := by decide +kernel
theorem dX3_span_1 : decode cX3_span 1 = .ok (.iconst 1, 1) := by decide +kernel
theorem dX3_span_2 : decode cX3_span 2 = .ok (.putfield 59, 3) := by decide +kernel
theorem dX3_span_5 : decode cX3_span 5 = .ok (.aload_n 0, 1) := by decide +kernel
theorem dX3_span_6 : decode cX3_span 6 = .ok (.lload_n 1, 1) := by decide +kernel
theorem dX3_span_7 : decode cX3_span 7 = .ok (.invokestatic 74, 3) := by decide +kernel
theorem dX3_span_10 : decode cX3_span 10 = .ok (.ifCond .eq 14, 3) := by decide +kernel
theorem dX3_span_13 : decode cX3_span 13 = .ok (.aload_n 0, 1) := by decide +kernel
theorem dX3_span_14 : decode cX3_span 14 = .ok (.lload_n 1, 1) := by decide +kernel
theorem dX3_span_15 : decode cX3_span 15 = .ok (.lload 5, 2) := by decide +kernel
theorem dX3_span_17 : decode cX3_span 17 = .ok (.iconst 0, 1) := by decide +kernel
theorem dX3_span_18 : decode cX3_span 18 = .ok (.invokevirtual 78, 3) := by decide +kernel
theorem dX3_span_21 : decode cX3_span 21 = .ok (.goto 6, 3) := by decide +kernel
theorem dX3_span_24 : decode cX3_span 24 = .ok (.ldc2_w 57, 3) := by decide +kernel
theorem dX3_span_27 : decode cX3_span 27 = .ok (.putfield 63, 3) := by decide +kernel
theorem dX3_span_30 : decode cX3_span 30 = .ok (.aload_n 0, 1) := by decide +kernel
theorem dX3_span_31 : decode cX3_span 31 = .ok (.lload_n 3, 1) := by decide +kernel
theorem dX3_span_32 : decode cX3_span 32 = .ok (.invokestatic 74, 3) := by decide +kernel
theorem dX3_span_35 : decode cX3_span 35 = .ok (.ifCond .eq 14, 3) := by decide +kernel
theorem dX3_span_38 : decode cX3_span 38 = .ok (.aload_n 0, 1) := by decide +kernel
theorem dX3_span_39 : decode cX3_span 39 = .ok (.lload_n 3, 1) := by decide +kernel
theorem dX3_span_40 : decode cX3_span 40 = .ok (.lload 5, 2) := by decide +kernel
theorem dX3_span_42 : decode cX3_span 42 = .ok (.iconst 1, 1) := by decide +kernel
theorem dX3_span_43 : decode cX3_span 43 = .ok (.invokevirtual 78, 3) := by decide +kernel
theorem dX3_span_46 : decode cX3_span 46 = .ok (.goto 6, 3) := by decide +kernel
theorem dX3_span_49 : decode cX3_span 49 = .ok (.ldc2_w 36, 3) := by decide +kernel
theorem dX3_span_52 : decode cX3_span 52 = .ok (.putfield 67, 3) := by decide +kernel
theorem dX3_span_55 : decode cX3_span 55 = .ok (.return_, 1) := by decide +kernel
theorem dX3_plus_0 : decode cX3_plus 0 = .ok (.lload_n 0, 1) := by decide +kernel
theorem dX3_plus_1 : decode cX3_plus 1 = .ok (.invokestatic 74, 3) := by decide +kernel
theorem dX3_plus_4 : decode cX3_plus 4 = .ok (.ifCond .eq 16, 3) := by decide +kernel
theorem dX3_plus_7 : decode cX3_plus 7 = .ok (.lload_n 2, 1) := by decide +kernel
theorem dX3_plus_8 : decode cX3_plus 8 = .ok (.invokestatic 74, 3) := by decide +kernel
theorem dX3_plus_11 : decode cX3_plus 11 = .ok (.ifCond .eq 9, 3) := by decide +kernel
theorem dX3_plus_14 : decode cX3_plus 14 = .ok (.lload_n 0, 1) := by decide +kernel
theorem dX3_plus_15 : decode cX3_plus 15 = .ok (.lload_n 2, 1) := by decide +kernel
theorem dX3_plus_16 : decode cX3_plus 16 = .ok (.ladd, 1) := by decide +kernel
theorem dX3_plus_17 : decode cX3_plus 17 = .ok (.goto 5, 3) := by decide +kernel
theorem dX3_plus_20 : decode cX3_plus 20 = .ok (.lload 4, 2) := by decide +kernel
theorem dX3_plus_22 : decode cX3_plus 22 = .ok (.lreturn, 1) := by decide +kernel
theorem dX3_times_0 : decode cX3_times 0 = .ok (.lload_n 0, 1) := by decide +kernel
theorem dX3_times_1 : decode cX3_times 1 = .ok (.lconst 0, 1) := by decide +kernel
theorem dX3_times_2 : decode cX3_times 2 = .ok (.lcmp, 1) := by decide +kernel
theorem dX3_times_3 : decode cX3_times 3 = .ok (.ifCond .eq 9, 3) := by decide +kernel
theorem dX3_times_6 : decode cX3_times 6 = .ok (.lload_n 2, 1) := by decide +kernel
theorem dX3_times_7 : decode cX3_times 7 = .ok (.lconst 0, 1) := by decide +kernel
theorem dX3_times_8 : decode cX3_times 8 = .ok (.lcmp, 1) := by decide +kernel
theorem dX3_times_9 : decode cX3_times 9 = .ok (.ifCond .ne 5, 3) := by decide +kernel
theorem dX3_times_12 : decode cX3_times 12 = .ok (.lconst 0, 1) := by decide +kernel
theorem dX3_times_13 : decode cX3_times 13 = .ok (.lreturn, 1) := by decide +kernel
theorem dX3_times_14 : decode cX3_times 14 = .ok (.lload_n 0, 1) := by decide +kernel
theorem dX3_times_15 : decode cX3_times 15 = .ok (.invokestatic 74, 3) := by decide +kernel
theorem dX3_times_18 : decode cX3_times 18 = .ok (.ifCond .eq 16, 3) := by decide +kernel
theorem dX3_times_21 : decode cX3_times 21 = .ok (.lload_n 2, 1) := by decide +kernel
theorem dX3_times_22 : decode cX3_times 22 = .ok (.invokestatic 74, 3) := by decide +kernel
theorem dX3_times_25 : decode cX3_times 25 = .ok (.ifCond .eq 9, 3) := by decide +kernel
theorem dX3_times_28 : decode cX3_times 28 = .ok (.lload_n 0, 1) := by decide +kernel
theorem dX3_times_29 : decode cX3_times 29 = .ok (.lload_n 2, 1) := by decide +kernel
theorem dX3_times_30 : decode cX3_times 30 = .ok (.lmul, 1) := by decide +kernel
theorem dX3_times_31 : decode cX3_times 31 = .ok (.goto 37, 3) := by decide +kernel
theorem dX3_times_34 : decode cX3_times 34 = .ok (.lload_n 0, 1) := by decide +kernel
theorem dX3_times_35 : decode cX3_times 35 = .ok (.lconst 0, 1) := by decide +kernel
theorem dX3_times_36 : decode cX3_times 36 = .ok (.lcmp, 1) := by decide +kernel
theorem dX3_times_37 : decode cX3_times 37 = .ok (.ifCond .ge 7, 3) := by decide +kernel
theorem dX3_times_40 : decode cX3_times 40 = .ok (.iconst 1, 1) := by decide +kernel
theorem dX3_times_41 : decode cX3_times 41 = .ok (.goto 4, 3) := by decide +kernel
theorem dX3_times_44 : decode cX3_times 44 = .ok (.iconst 0, 1) := by decide +kernel
theorem dX3_times_45 : decode cX3_times 45 = .ok (.lload_n 2, 1) := by decide +kernel
theorem dX3_times_46 : decode cX3_times 46 = .ok (.lconst 0, 1) := by decide +kernel
theorem dX3_times_47 : decode cX3_times 47 = .ok (.lcmp, 1) := by decide +kernel
theorem dX3_times_48 : decode cX3_times 48 = .ok (.ifCond .ge 7, 3) := by decide +kernel
theorem dX3_times_51 : decode cX3_times 51 = .ok (.iconst 1, 1) := by decide +kernel
theorem dX3_times_52 : decode cX3_times 52 = .ok (.goto 4, 3) := by decide +kernel
theorem dX3_times_55 : decode cX3_times 55 = .ok (.iconst 0, 1) := by decide +kernel
theorem dX3_times_56 : decode cX3_times 56 = .ok (.if_icmp .ne 9, 3) := by decide +kernel
theorem dX3_times_59 : decode cX3_times 59 = .ok (.ldc2_w 36, 3) := by decide +kernel
theorem dX3_times_62 : decode cX3_times 62 = .ok (.goto 6, 3) := by decide +kernel
theorem dX3_times_65 : decode cX3_times 65 = .ok (.ldc2_w 57, 3) := by decide +kernel
theorem dX3_times_68 : decode cX3_times 68 = .ok (.lreturn, 1) := by decide +kernel
theorem dX3_product_0 : decode cX3_product 0 = .ok (.ldc2_w 36, 3) := by decide +kernel
theorem dX3_product_3 : decode cX3_product 3 = .ok (.lstore 9, 2) := by decide +kernel
theorem dX3_product_5 : decode cX3_product 5 = .ok (.ldc2_w 57, 3) := by decide +kernel
theorem dX3_product_8 : decode cX3_product 8 = .ok (.lstore 11, 2) := by decide +kernel
theorem dX3_product_10 : decode cX3_product 10 = .ok (.iconst 0, 1) := by decide +kernel
theorem dX3_product_11 : decode cX3_product 11 = .ok (.istore 13, 2) := by decide +kernel
theorem dX3_product_13 : decode cX3_product 13 = .ok (.iload 13, 2) := by decide +kernel
theorem dX3_product_15 : decode cX3_product 15 = .ok (.iconst 4, 1) := by decide +kernel
theorem dX3_product_16 : decode cX3_product 16 = .ok (.if_icmp .ge 73, 3) := by decide +kernel
theorem dX3_product_19 : decode cX3_product 19 = .ok (.iload 13, 2) := by decide +kernel
theorem dX3_product_21 : decode cX3_product 21 = .ok (.iconst 2, 1) := by decide +kernel
theorem dX3_product_22 : decode cX3_product 22 = .ok (.if_icmp .ge 7, 3) := by decide +kernel
theorem dX3_product_25 : decode cX3_product 25 = .ok (.lload_n 1, 1) := by decide +kernel
theorem dX3_product_26 : decode cX3_product 26 = .ok (.goto 4, 3) := by decide +kernel
theorem dX3_product_29 : decode cX3_product 29 = .ok (.lload_n 3, 1) := by decide +kernel
theorem dX3_product_30 : decode cX3_product 30 = .ok (.iload 13, 2) := by decide +kernel
theorem dX3_product_32 : decode cX3_product 32 = .ok (.iconst 2, 1) := by decide +kernel
theorem dX3_product_33 : decode cX3_product 33 = .ok (.irem, 1) := by decide +kernel
theorem dX3_product_34 : decode cX3_product 34 = .ok (.ifCond .ne 8, 3) := by decide +kernel
theorem dX3_product_37 : decode cX3_product 37 = .ok (.lload 5, 2) := by decide +kernel
theorem dX3_product_39 : decode cX3_product 39 = .ok (.goto 5, 3) := by decide +kernel
theorem dX3_product_42 : decode cX3_product 42 = .ok (.lload 7, 2) := by decide +kernel
theorem dX3_product_44 : decode cX3_product 44 = .ok (.invokestatic 82, 3) := by decide +kernel
theorem dX3_product_47 : decode cX3_product 47 = .ok (.lstore 14, 2) := by decide +kernel
theorem dX3_product_49 : decode cX3_product 49 = .ok (.lload 14, 2) := by decide +kernel
theorem dX3_product_51 : decode cX3_product 51 = .ok (.lload 9, 2) := by decide +kernel
theorem dX3_product_53 : decode cX3_product 53 = .ok (.lcmp, 1) := by decide +kernel
theorem dX3_product_54 : decode cX3_product 54 = .ok (.ifCond .ge 8, 3) := by decide +kernel
theorem dX3_product_57 : decode cX3_product 57 = .ok (.lload 14, 2) := by decide +kernel
theorem dX3_product_59 : decode cX3_product 59 = .ok (.goto 5, 3) := by decide +kernel
theorem dX3_product_62 : decode cX3_product 62 = .ok (.lload 9, 2) := by decide +kernel
theorem dX3_product_64 : decode cX3_product 64 = .ok (.lstore 9, 2) := by decide +kernel
theorem dX3_product_66 : decode cX3_product 66 = .ok (.lload 14, 2) := by decide +kernel
theorem dX3_product_68 : decode cX3_product 68 = .ok (.lload 11, 2) := by decide +kernel
theorem dX3_product_70 : decode cX3_product 70 = .ok (.lcmp, 1) := by decide +kernel
theorem dX3_product_71 : decode cX3_product 71 = .ok (.ifCond .le 8, 3) := by decide +kernel
theorem dX3_product_74 : decode cX3_product 74 = .ok (.lload 14, 2) := by decide +kernel
theorem dX3_product_76 : decode cX3_product 76 = .ok (.goto 5, 3) := by decide +kernel
theorem dX3_product_79 : decode cX3_product 79 = .ok (.lload 11, 2) := by decide +kernel
theorem dX3_product_81 : decode cX3_product 81 = .ok (.lstore 11, 2) := by decide +kernel
theorem dX3_product_83 : decode cX3_product 83 = .ok (.iinc 13 1, 3) := by decide +kernel
theorem dX3_product_86 : decode cX3_product 86 = .ok (.goto (-73), 3) := by decide +kernel
theorem dX3_product_89 : decode cX3_product 89 = .ok (.aload_n 0, 1) := by decide +kernel
theorem dX3_product_90 : decode cX3_product 90 = .ok (.lload 9, 2) := by decide +kernel
theorem dX3_product_92 : decode cX3_product 92 = .ok (.lload 11, 2) := by decide +kernel
theorem dX3_product_94 : decode cX3_product 94 = .ok (.lconst 1, 1) := by decide +kernel
theorem dX3_product_95 : decode cX3_product 95 = .ok (.aload_n 0, 1) := by decide +kernel
theorem dX3_product_96 : decode cX3_product 96 = .ok (.invokevirtual 86, 3) := by decide +kernel
theorem dX3_product_99 : decode cX3_product 99 = .ok (.lshl, 1) := by decide +kernel
theorem dX3_product_100 : decode cX3_product 100 = .ok (.invokevirtual 89, 3) := by decide +kernel
theorem dX3_product_103 : decode cX3_product 103 = .ok (.return_, 1) := by decide +kernel
theorem dX3_ratio_0 : decode cX3_ratio 0 = .ok (.aload_n 0, 1) := by decide +kernel
theorem dX3_ratio_1 : decode cX3_ratio 1 = .ok (.lload 7, 2) := by decide +kernel
theorem dX3_ratio_3 : decode cX3_ratio 3 = .ok (.lconst 0, 1) := by decide +kernel
theorem dX3_ratio_4 : decode cX3_ratio 4 = .ok (.lcmp, 1) := by decide +kernel
theorem dX3_ratio_5 : decode cX3_ratio 5 = .ok (.ifCond .le 7, 3) := by decide +kernel
theorem dX3_ratio_8 : decode cX3_ratio 8 = .ok (.iconst 1, 1) := by decide +kernel
theorem dX3_ratio_9 : decode cX3_ratio 9 = .ok (.goto 4, 3) := by decide +kernel
theorem dX3_ratio_12 : decode cX3_ratio 12 = .ok (.iconst 0, 1) := by decide +kernel
theorem dX3_ratio_13 : decode cX3_ratio 13 = .ok (.putfield 93, 3) := by decide +kernel
theorem dX3_ratio_16 : decode cX3_ratio 16 = .ok (.aload_n 0, 1) := by decide +kernel
theorem dX3_ratio_17 : decode cX3_ratio 17 = .ok (.getfield 93, 3) := by decide +kernel
theorem dX3_ratio_20 : decode cX3_ratio 20 = .ok (.ifCond .ne 4, 3) := by decide +kernel
theorem dX3_ratio_23 : decode cX3_ratio 23 = .ok (.return_, 1) := by decide +kernel
theorem dX3_ratio_24 : decode cX3_ratio 24 = .ok (.aload_n 0, 1) := by decide +kernel
theorem dX3_ratio_25 : decode cX3_ratio 25 = .ok (.lload_n 1, 1) := by decide +kernel
theorem dX3_ratio_26 : decode cX3_ratio 26 = .ok (.lconst 0, 1) := by decide +kernel
theorem dX3_ratio_27 : decode cX3_ratio 27 = .ok (.lcmp, 1) := by decide +kernel
theorem dX3_ratio_28 : decode cX3_ratio 28 = .ok (.ifCond .ge 14, 3) := by decide +kernel
theorem dX3_ratio_31 : decode cX3_ratio 31 = .ok (.aload_n 0, 1) := by decide +kernel
theorem dX3_ratio_32 : decode cX3_ratio 32 = .ok (.lload_n 1, 1) := by decide +kernel
theorem dX3_ratio_33 : decode cX3_ratio 33 = .ok (.lload 5, 2) := by decide +kernel
theorem dX3_ratio_35 : decode cX3_ratio 35 = .ok (.iconst 0, 1) := by decide +kernel
theorem dX3_ratio_36 : decode cX3_ratio 36 = .ok (.invokevirtual 96, 3) := by decide +kernel
theorem dX3_ratio_39 : decode cX3_ratio 39 = .ok (.goto 11, 3) := by decide +kernel
theorem dX3_ratio_42 : decode cX3_ratio 42 = .ok (.aload_n 0, 1) := by decide +kernel
theorem dX3_ratio_43 : decode cX3_ratio 43 = .ok (.lload_n 1, 1) := by decide +kernel
theorem dX3_ratio_44 : decode cX3_ratio 44 = .ok (.lload 7, 2) := by decide +kernel
theorem dX3_ratio_46 : decode cX3_ratio 46 = .ok (.iconst 0, 1) := by decide +kernel
theorem dX3_ratio_47 : decode cX3_ratio 47 = .ok (.invokevirtual 96, 3) := by decide +kernel
theorem dX3_ratio_50 : decode cX3_ratio 50 = .ok (.putfield 99, 3) := by decide +kernel
theorem dX3_ratio_53 : decode cX3_ratio 53 = .ok (.aload_n 0, 1) := by decide +kernel
theorem dX3_ratio_54 : decode cX3_ratio 54 = .ok (.lload_n 3, 1) := by decide +kernel
theorem dX3_ratio_55 : decode cX3_ratio 55 = .ok (.lconst 0, 1) := by decide +kernel
theorem dX3_ratio_56 : decode cX3_ratio 56 = .ok (.lcmp, 1) := by decide +kernel
theorem dX3_ratio_57 : decode cX3_ratio 57 = .ok (.ifCond .le 14, 3) := by decide +kernel
theorem dX3_ratio_60 : decode cX3_ratio 60 = .ok (.aload_n 0, 1) := by decide +kernel
theorem dX3_ratio_61 : decode cX3_ratio 61 = .ok (.lload_n 3, 1) := by decide +kernel
theorem dX3_ratio_62 : decode cX3_ratio 62 = .ok (.lload 5, 2) := by decide +kernel
theorem dX3_ratio_64 : decode cX3_ratio 64 = .ok (.iconst 1, 1) := by decide +kernel
theorem dX3_ratio_65 : decode cX3_ratio 65 = .ok (.invokevirtual 96, 3) := by decide +kernel
theorem dX3_ratio_68 : decode cX3_ratio 68 = .ok (.goto 11, 3) := by decide +kernel
theorem dX3_ratio_71 : decode cX3_ratio 71 = .ok (.aload_n 0, 1) := by decide +kernel
theorem dX3_ratio_72 : decode cX3_ratio 72 = .ok (.lload_n 3, 1) := by decide +kernel
theorem dX3_ratio_73 : decode cX3_ratio 73 = .ok (.lload 7, 2) := by decide +kernel
theorem dX3_ratio_75 : decode cX3_ratio 75 = .ok (.iconst 1, 1) := by decide +kernel
theorem dX3_ratio_76 : decode cX3_ratio 76 = .ok (.invokevirtual 96, 3) := by decide +kernel
theorem dX3_ratio_79 : decode cX3_ratio 79 = .ok (.putfield 102, 3) := by decide +kernel
theorem dX3_ratio_82 : decode cX3_ratio 82 = .ok (.return_, 1) := by decide +kernel
theorem dX3_quotient_0 : decode cX3_quotient 0 = .ok (.lload_n 1, 1) := by decide +kernel
theorem dX3_quotient_1 : decode cX3_quotient 1 = .ok (.lconst 0, 1) := by decide +kernel
theorem dX3_quotient_2 : decode cX3_quotient 2 = .ok (.lcmp, 1) := by decide +kernel
theorem dX3_quotient_3 : decode cX3_quotient 3 = .ok (.ifCond .ne 5, 3) := by decide +kernel
theorem dX3_quotient_6 : decode cX3_quotient 6 = .ok (.lconst 0, 1) := by decide +kernel
theorem dX3_quotient_7 : decode cX3_quotient 7 = .ok (.lreturn, 1) := by decide +kernel
theorem dX3_quotient_8 : decode cX3_quotient 8 = .ok (.lload_n 1, 1) := by decide +kernel
theorem dX3_quotient_9 : decode cX3_quotient 9 = .ok (.invokestatic 74, 3) := by decide +kernel
theorem dX3_quotient_12 : decode cX3_quotient 12 = .ok (.ifCond .eq 9, 3) := by decide +kernel
theorem dX3_quotient_15 : decode cX3_quotient 15 = .ok (.lload_n 3, 1) := by decide +kernel
theorem dX3_quotient_16 : decode cX3_quotient 16 = .ok (.lconst 0, 1) := by decide +kernel
theorem dX3_quotient_17 : decode cX3_quotient 17 = .ok (.lcmp, 1) := by decide +kernel
theorem dX3_quotient_18 : decode cX3_quotient 18 = .ok (.ifCond .gt 19, 3) := by decide +kernel
theorem dX3_quotient_21 : decode cX3_quotient 21 = .ok (.lload_n 1, 1) := by decide +kernel
theorem dX3_quotient_22 : decode cX3_quotient 22 = .ok (.lconst 0, 1) := by decide +kernel
theorem dX3_quotient_23 : decode cX3_quotient 23 = .ok (.lcmp, 1) := by decide +kernel
theorem dX3_quotient_24 : decode cX3_quotient 24 = .ok (.ifCond .ge 9, 3) := by decide +kernel
theorem dX3_quotient_27 : decode cX3_quotient 27 = .ok (.ldc2_w 57, 3) := by decide +kernel
theorem dX3_quotient_30 : decode cX3_quotient 30 = .ok (.goto 6, 3) := by decide +kernel
theorem dX3_quotient_33 : decode cX3_quotient 33 = .ok (.ldc2_w 36, 3) := by decide +kernel
theorem dX3_quotient_36 : decode cX3_quotient 36 = .ok (.lreturn, 1) := by decide +kernel
theorem dX3_quotient_37 : decode cX3_quotient 37 = .ok (.lload_n 3, 1) := by decide +kernel
theorem dX3_quotient_38 : decode cX3_quotient 38 = .ok (.invokestatic 74, 3) := by decide +kernel
theorem dX3_quotient_41 : decode cX3_quotient 41 = .ok (.ifCond .ne 5, 3) := by decide +kernel
theorem dX3_quotient_44 : decode cX3_quotient 44 = .ok (.lconst 0, 1) := by decide +kernel
theorem dX3_quotient_45 : decode cX3_quotient 45 = .ok (.lreturn, 1) := by decide +kernel
theorem dX3_quotient_46 : decode cX3_quotient 46 = .ok (.aload_n 0, 1) := by decide +kernel
theorem dX3_quotient_47 : decode cX3_quotient 47 = .ok (.lload_n 1, 1) := by decide +kernel
theorem dX3_quotient_48 : decode cX3_quotient 48 = .ok (.aload_n 0, 1) := by decide +kernel
theorem dX3_quotient_49 : decode cX3_quotient 49 = .ok (.invokevirtual 86, 3) := by decide +kernel
theorem dX3_quotient_52 : decode cX3_quotient 52 = .ok (.lshl, 1) := by decide +kernel
theorem dX3_quotient_53 : decode cX3_quotient 53 = .ok (.lload_n 3, 1) := by decide +kernel
theorem dX3_quotient_54 : decode cX3_quotient 54 = .ok (.iload 5, 2) := by decide +kernel
theorem dX3_quotient_56 : decode cX3_quotient 56 = .ok (.invokevirtual 78, 3) := by decide +kernel
theorem dX3_quotient_59 : decode cX3_quotient 59 = .ok (.lreturn, 1) := by decide +kernel
theorem dX3_divide_0 : decode cX3_divide 0 = .ok (.aload_n 0, 1) := by decide +kernel
theorem dX3_divide_1 : decode cX3_divide 1 = .ok (.iconst 0, 1) := by decide +kernel
theorem dX3_divide_2 : decode cX3_divide 2 = .ok (.putfield 59, 3) := by decide +kernel
theorem dX3_divide_5 : decode cX3_divide 5 = .ok (.aload_n 0, 1) := by decide +kernel
theorem dX3_divide_6 : decode cX3_divide 6 = .ok (.getfield 16, 3) := by decide +kernel
theorem dX3_divide_9 : decode cX3_divide 9 = .ok (.iload_n 1, 1) := by decide +kernel
theorem dX3_divide_10 : decode cX3_divide 10 = .ok (.baload, 1) := by decide +kernel
theorem dX3_divide_11 : decode cX3_divide 11 = .ok (.ifCond .eq 12, 3) := by decide +kernel
theorem dX3_divide_14 : decode cX3_divide 14 = .ok (.aload_n 0, 1) := by decide +kernel
theorem dX3_divide_15 : decode cX3_divide 15 = .ok (.getfield 16, 3) := by decide +kernel
theorem dX3_divide_18 : decode cX3_divide 18 = .ok (.iload_n 2, 1) := by decide +kernel
theorem dX3_divide_19 : decode cX3_divide 19 = .ok (.baload, 1) := by decide +kernel
theorem dX3_divide_20 : decode cX3_divide 20 = .ok (.ifCond .ne 4, 3) := by decide +kernel
theorem dX3_divide_23 : decode cX3_divide 23 = .ok (.return_, 1) := by decide +kernel
theorem dX3_divide_24 : decode cX3_divide 24 = .ok (.aload_n 0, 1) := by decide +kernel
theorem dX3_divide_25 : decode cX3_divide 25 = .ok (.aload_n 0, 1) := by decide +kernel
theorem dX3_divide_26 : decode cX3_divide 26 = .ok (.getfield 20, 3) := by decide +kernel
theorem dX3_divide_29 : decode cX3_divide 29 = .ok (.iload_n 1, 1) := by decide +kernel
theorem dX3_divide_30 : decode cX3_divide 30 = .ok (.laload, 1) := by decide +kernel
theorem dX3_divide_31 : decode cX3_divide 31 = .ok (.aload_n 0, 1) := by decide +kernel
theorem dX3_divide_32 : decode cX3_divide 32 = .ok (.getfield 24, 3) := by decide +kernel
theorem dX3_divide_35 : decode cX3_divide 35 = .ok (.iload_n 1, 1) := by decide +kernel
theorem dX3_divide_36 : decode cX3_divide 36 = .ok (.laload, 1) := by decide +kernel
theorem dX3_divide_37 : decode cX3_divide 37 = .ok (.aload_n 0, 1) := by decide +kernel
theorem dX3_divide_38 : decode cX3_divide 38 = .ok (.getfield 20, 3) := by decide +kernel
theorem dX3_divide_41 : decode cX3_divide 41 = .ok (.iload_n 2, 1) := by decide +kernel
theorem dX3_divide_42 : decode cX3_divide 42 = .ok (.laload, 1) := by decide +kernel
theorem dX3_divide_43 : decode cX3_divide 43 = .ok (.aload_n 0, 1) := by decide +kernel
theorem dX3_divide_44 : decode cX3_divide 44 = .ok (.getfield 24, 3) := by decide +kernel
theorem dX3_divide_47 : decode cX3_divide 47 = .ok (.iload_n 2, 1) := by decide +kernel
theorem dX3_divide_48 : decode cX3_divide 48 = .ok (.laload, 1) := by decide +kernel
theorem dX3_divide_49 : decode cX3_divide 49 = .ok (.invokevirtual 105, 3) := by decide +kernel
theorem dX3_divide_52 : decode cX3_divide 52 = .ok (.aload_n 0, 1) := by decide +kernel
theorem dX3_divide_53 : decode cX3_divide 53 = .ok (.aload_n 0, 1) := by decide +kernel
theorem dX3_divide_54 : decode cX3_divide 54 = .ok (.getfield 93, 3) := by decide +kernel
theorem dX3_divide_57 : decode cX3_divide 57 = .ok (.putfield 59, 3) := by decide +kernel
theorem dX3_divide_60 : decode cX3_divide 60 = .ok (.aload_n 0, 1) := by decide +kernel
theorem dX3_divide_61 : decode cX3_divide 61 = .ok (.aload_n 0, 1) := by decide +kernel
theorem dX3_divide_62 : decode cX3_divide 62 = .ok (.getfield 99, 3) := by decide +kernel
theorem dX3_divide_65 : decode cX3_divide 65 = .ok (.putfield 63, 3) := by decide +kernel
theorem dX3_divide_68 : decode cX3_divide 68 = .ok (.aload_n 0, 1) := by decide +kernel
theorem dX3_divide_69 : decode cX3_divide 69 = .ok (.aload_n 0, 1) := by decide +kernel
theorem dX3_divide_70 : decode cX3_divide 70 = .ok (.getfield 102, 3) := by decide +kernel
theorem dX3_divide_73 : decode cX3_divide 73 = .ok (.putfield 67, 3) := by decide +kernel
theorem dX3_divide_76 : decode cX3_divide 76 = .ok (.aload_n 0, 1) := by decide +kernel
theorem dX3_divide_77 : decode cX3_divide 77 = .ok (.aload_n 0, 1) := by decide +kernel
theorem dX3_divide_78 : decode cX3_divide 78 = .ok (.getfield 24, 3) := by decide +kernel
theorem dX3_divide_81 : decode cX3_divide 81 = .ok (.iload_n 1, 1) := by decide +kernel
theorem dX3_divide_82 : decode cX3_divide 82 = .ok (.laload, 1) := by decide +kernel
theorem dX3_divide_83 : decode cX3_divide 83 = .ok (.lneg, 1) := by decide +kernel
theorem dX3_divide_84 : decode cX3_divide 84 = .ok (.aload_n 0, 1) := by decide +kernel
theorem dX3_divide_85 : decode cX3_divide 85 = .ok (.getfield 20, 3) := by decide +kernel
theorem dX3_divide_88 : decode cX3_divide 88 = .ok (.iload_n 1, 1) := by decide +kernel
theorem dX3_divide_89 : decode cX3_divide 89 = .ok (.laload, 1) := by decide +kernel
theorem dX3_divide_90 : decode cX3_divide 90 = .ok (.lneg, 1) := by decide +kernel
theorem dX3_divide_91 : decode cX3_divide 91 = .ok (.aload_n 0, 1) := by decide +kernel
theorem dX3_divide_92 : decode cX3_divide 92 = .ok (.getfield 24, 3) := by decide +kernel
theorem dX3_divide_95 : decode cX3_divide 95 = .ok (.iload_n 2, 1) := by decide +kernel
theorem dX3_divide_96 : decode cX3_divide 96 = .ok (.laload, 1) := by decide +kernel
theorem dX3_divide_97 : decode cX3_divide 97 = .ok (.lneg, 1) := by decide +kernel
theorem dX3_divide_98 : decode cX3_divide 98 = .ok (.aload_n 0, 1) := by decide +kernel
theorem dX3_divide_99 : decode cX3_divide 99 = .ok (.getfield 20, 3) := by decide +kernel
theorem dX3_divide_102 : decode cX3_divide 102 = .ok (.iload_n 2, 1) := by decide +kernel
theorem dX3_divide_103 : decode cX3_divide 103 = .ok (.laload, 1) := by decide +kernel
theorem dX3_divide_104 : decode cX3_divide 104 = .ok (.lneg, 1) := by decide +kernel
theorem dX3_divide_105 : decode cX3_divide 105 = .ok (.invokevirtual 105, 3) := by decide +kernel
theorem dX3_divide_108 : decode cX3_divide 108 = .ok (.aload_n 0, 1) := by decide +kernel
theorem dX3_divide_109 : decode cX3_divide 109 = .ok (.getfield 93, 3) := by decide +kernel
theorem dX3_divide_112 : decode cX3_divide 112 = .ok (.ifCond .ne 4, 3) := by decide +kernel
theorem dX3_divide_115 : decode cX3_divide 115 = .ok (.return_, 1) := by decide +kernel
theorem dX3_divide_116 : decode cX3_divide 116 = .ok (.aload_n 0, 1) := by decide +kernel
theorem dX3_divide_117 : decode cX3_divide 117 = .ok (.aload_n 0, 1) := by decide +kernel
theorem dX3_divide_118 : decode cX3_divide 118 = .ok (.getfield 59, 3) := by decide +kernel
theorem dX3_divide_121 : decode cX3_divide 121 = .ok (.ifCond .eq 22, 3) := by decide +kernel
theorem dX3_divide_124 : decode cX3_divide 124 = .ok (.aload_n 0, 1) := by decide +kernel
theorem dX3_divide_125 : decode cX3_divide 125 = .ok (.getfield 63, 3) := by decide +kernel
theorem dX3_divide_128 : decode cX3_divide 128 = .ok (.aload_n 0, 1) := by decide +kernel
theorem dX3_divide_129 : decode cX3_divide 129 = .ok (.getfield 99, 3) := by decide +kernel
theorem dX3_divide_132 : decode cX3_divide 132 = .ok (.lcmp, 1) := by decide +kernel
theorem dX3_divide_133 : decode cX3_divide 133 = .ok (.ifCond .ge 10, 3) := by decide +kernel
theorem dX3_divide_136 : decode cX3_divide 136 = .ok (.aload_n 0, 1) := by decide +kernel
theorem dX3_divide_137 : decode cX3_divide 137 = .ok (.getfield 63, 3) := by decide +kernel
theorem dX3_divide_140 : decode cX3_divide 140 = .ok (.goto 7, 3) := by decide +kernel
theorem dX3_divide_143 : decode cX3_divide 143 = .ok (.aload_n 0, 1) := by decide +kernel
theorem dX3_divide_144 : decode cX3_divide 144 = .ok (.getfield 99, 3) := by decide +kernel
theorem dX3_divide_147 : decode cX3_divide 147 = .ok (.putfield 63, 3) := by decide +kernel
theorem dX3_divide_150 : decode cX3_divide 150 = .ok (.aload_n 0, 1) := by decide +kernel
theorem dX3_divide_151 : decode cX3_divide 151 = .ok (.aload_n 0, 1) := by decide +kernel
theorem dX3_divide_152 : decode cX3_divide 152 = .ok (.getfield 59, 3) := by decide +kernel
theorem dX3_divide_155 : decode cX3_divide 155 = .ok (.ifCond .eq 22, 3) := by decide +kernel
theorem dX3_divide_158 : decode cX3_divide 158 = .ok (.aload_n 0, 1) := by decide +kernel
theorem dX3_divide_159 : decode cX3_divide 159 = .ok (.getfield 67, 3) := by decide +kernel
theorem dX3_divide_162 : decode cX3_divide 162 = .ok (.aload_n 0, 1) := by decide +kernel
theorem dX3_divide_163 : decode cX3_divide 163 = .ok (.getfield 102, 3) := by decide +kernel
theorem dX3_divide_166 : decode cX3_divide 166 = .ok (.lcmp, 1) := by decide +kernel
theorem dX3_divide_167 : decode cX3_divide 167 = .ok (.ifCond .le 10, 3) := by decide +kernel
theorem dX3_divide_170 : decode cX3_divide 170 = .ok (.aload_n 0, 1) := by decide +kernel
theorem dX3_divide_171 : decode cX3_divide 171 = .ok (.getfield 67, 3) := by decide +kernel
theorem dX3_divide_174 : decode cX3_divide 174 = .ok (.goto 7, 3) := by decide +kernel
theorem dX3_divide_177 : decode cX3_divide 177 = .ok (.aload_n 0, 1) := by decide +kernel
theorem dX3_divide_178 : decode cX3_divide 178 = .ok (.getfield 102, 3) := by decide +kernel
theorem dX3_divide_181 : decode cX3_divide 181 = .ok (.putfield 67, 3) := by decide +kernel
theorem dX3_divide_184 : decode cX3_divide 184 = .ok (.aload_n 0, 1) := by decide +kernel
theorem dX3_divide_185 : decode cX3_divide 185 = .ok (.iconst 1, 1) := by decide +kernel
theorem dX3_divide_186 : decode cX3_divide 186 = .ok (.putfield 59, 3) := by decide +kernel
theorem dX3_divide_189 : decode cX3_divide 189 = .ok (.return_, 1) := by decide +kernel
theorem dX3_less_0 : decode cX3_less 0 = .ok (.lload_n 0, 1) := by decide +kernel
theorem dX3_less_1 : decode cX3_less 1 = .ok (.lload_n 2, 1) := by decide +kernel
theorem dX3_less_2 : decode cX3_less 2 = .ok (.lcmp, 1) := by decide +kernel
theorem dX3_less_3 : decode cX3_less 3 = .ok (.ifCond .ge 7, 3) := by decide +kernel
theorem dX3_less_6 : decode cX3_less 6 = .ok (.lload_n 0, 1) := by decide +kernel
theorem dX3_less_7 : decode cX3_less 7 = .ok (.goto 4, 3) := by decide +kernel
theorem dX3_less_10 : decode cX3_less 10 = .ok (.lload_n 2, 1) := by decide +kernel
theorem dX3_less_11 : decode cX3_less 11 = .ok (.lreturn, 1) := by decide +kernel
theorem dX3_more_0 : decode cX3_more 0 = .ok (.lload_n 0, 1) := by decide +kernel
theorem dX3_more_1 : decode cX3_more 1 = .ok (.lload_n 2, 1) := by decide +kernel
theorem dX3_more_2 : decode cX3_more 2 = .ok (.lcmp, 1) := by decide +kernel
theorem dX3_more_3 : decode cX3_more 3 = .ok (.ifCond .le 7, 3) := by decide +kernel
theorem dX3_more_6 : decode cX3_more 6 = .ok (.lload_n 0, 1) := by decide +kernel
theorem dX3_more_7 : decode cX3_more 7 = .ok (.goto 4, 3) := by decide +kernel
theorem dX3_more_10 : decode cX3_more 10 = .ok (.lload_n 2, 1) := by decide +kernel
theorem dX3_more_11 : decode cX3_more 11 = .ok (.lreturn, 1) := by decide +kernel
theorem dX3_root_0 : decode cX3_root 0 = .ok (.lconst 0, 1) := by decide +kernel
theorem dX3_root_1 : decode cX3_root 1 = .ok (.lstore_n 2, 1) := by decide +kernel
theorem dX3_root_2 : decode cX3_root 2 = .ok (.bipush 24, 2) := by decide +kernel
theorem dX3_root_4 : decode cX3_root 4 = .ok (.istore 4, 2) := by decide +kernel
theorem dX3_root_6 : decode cX3_root 6 = .ok (.iload 4, 2) := by decide +kernel
theorem dX3_root_8 : decode cX3_root 8 = .ok (.ifCond .lt 34, 3) := by decide +kernel
theorem dX3_root_11 : decode cX3_root 11 = .ok (.lload_n 2, 1) := by decide +kernel
theorem dX3_root_12 : decode cX3_root 12 = .ok (.lconst 1, 1) := by decide +kernel
theorem dX3_root_13 : decode cX3_root 13 = .ok (.iload 4, 2) := by decide +kernel
theorem dX3_root_15 : decode cX3_root 15 = .ok (.lshl, 1) := by decide +kernel
theorem dX3_root_16 : decode cX3_root 16 = .ok (.ladd, 1) := by decide +kernel
theorem dX3_root_17 : decode cX3_root 17 = .ok (.lload_n 2, 1) := by decide +kernel
theorem dX3_root_18 : decode cX3_root 18 = .ok (.lconst 1, 1) := by decide +kernel
theorem dX3_root_19 : decode cX3_root 19 = .ok (.iload 4, 2) := by decide +kernel
theorem dX3_root_21 : decode cX3_root 21 = .ok (.lshl, 1) := by decide +kernel
theorem dX3_root_22 : decode cX3_root 22 = .ok (.ladd, 1) := by decide +kernel
theorem dX3_root_23 : decode cX3_root 23 = .ok (.lmul, 1) := by decide +kernel
theorem dX3_root_24 : decode cX3_root 24 = .ok (.lload_n 0, 1) := by decide +kernel
theorem dX3_root_25 : decode cX3_root 25 = .ok (.lcmp, 1) := by decide +kernel
theorem dX3_root_26 : decode cX3_root 26 = .ok (.ifCond .gt 10, 3) := by decide +kernel
theorem dX3_root_29 : decode cX3_root 29 = .ok (.lload_n 2, 1) := by decide +kernel
theorem dX3_root_30 : decode cX3_root 30 = .ok (.lconst 1, 1) := by decide +kernel
theorem dX3_root_31 : decode cX3_root 31 = .ok (.iload 4, 2) := by decide +kernel
theorem dX3_root_33 : decode cX3_root 33 = .ok (.lshl, 1) := by decide +kernel
theorem dX3_root_34 : decode cX3_root 34 = .ok (.ladd, 1) := by decide +kernel
theorem dX3_root_35 : decode cX3_root 35 = .ok (.lstore_n 2, 1) := by decide +kernel
theorem dX3_root_36 : decode cX3_root 36 = .ok (.iinc 4 (-1), 3) := by decide +kernel
theorem dX3_root_39 : decode cX3_root 39 = .ok (.goto (-33), 3) := by decide +kernel
theorem dX3_root_42 : decode cX3_root 42 = .ok (.lload_n 2, 1) := by decide +kernel
theorem dX3_root_43 : decode cX3_root 43 = .ok (.lreturn, 1) := by decide +kernel
theorem dX3_roots_0 : decode cX3_roots 0 = .ok (.aload_n 0, 1) := by decide +kernel
theorem dX3_roots_1 : decode cX3_roots 1 = .ok (.lload_n 3, 1) := by decide +kernel
theorem dX3_roots_2 : decode cX3_roots 2 = .ok (.lconst 0, 1) := by decide +kernel
theorem dX3_roots_3 : decode cX3_roots 3 = .ok (.lcmp, 1) := by decide +kernel
theorem dX3_roots_4 : decode cX3_roots 4 = .ok (.ifCond .lt 7, 3) := by decide +kernel
theorem dX3_roots_7 : decode cX3_roots 7 = .ok (.iconst 1, 1) := by decide +kernel
theorem dX3_roots_8 : decode cX3_roots 8 = .ok (.goto 4, 3) := by decide +kernel
theorem dX3_roots_11 : decode cX3_roots 11 = .ok (.iconst 0, 1) := by decide +kernel
theorem dX3_roots_12 : decode cX3_roots 12 = .ok (.putfield 59, 3) := by decide +kernel
theorem dX3_roots_15 : decode cX3_roots 15 = .ok (.aload_n 0, 1) := by decide +kernel
theorem dX3_roots_16 : decode cX3_roots 16 = .ok (.getfield 59, 3) := by decide +kernel
theorem dX3_roots_19 : decode cX3_roots 19 = .ok (.ifCond .ne 4, 3) := by decide +kernel
theorem dX3_roots_22 : decode cX3_roots 22 = .ok (.return_, 1) := by decide +kernel
theorem dX3_roots_23 : decode cX3_roots 23 = .ok (.lload_n 1, 1) := by decide +kernel
theorem dX3_roots_24 : decode cX3_roots 24 = .ok (.lconst 0, 1) := by decide +kernel
theorem dX3_roots_25 : decode cX3_roots 25 = .ok (.lcmp, 1) := by decide +kernel
theorem dX3_roots_26 : decode cX3_roots 26 = .ok (.ifCond .le 15, 3) := by decide +kernel
theorem dX3_roots_29 : decode cX3_roots 29 = .ok (.lload_n 1, 1) := by decide +kernel
theorem dX3_roots_30 : decode cX3_roots 30 = .ok (.aload_n 0, 1) := by decide +kernel
theorem dX3_roots_31 : decode cX3_roots 31 = .ok (.invokevirtual 86, 3) := by decide +kernel
theorem dX3_roots_34 : decode cX3_roots 34 = .ok (.lshl, 1) := by decide +kernel
theorem dX3_roots_35 : decode cX3_roots 35 = .ok (.invokestatic 109, 3) := by decide +kernel
theorem dX3_roots_38 : decode cX3_roots 38 = .ok (.goto 4, 3) := by decide +kernel
theorem dX3_roots_41 : decode cX3_roots 41 = .ok (.lconst 0, 1) := by decide +kernel
theorem dX3_roots_42 : decode cX3_roots 42 = .ok (.lstore 5, 2) := by decide +kernel
theorem dX3_roots_44 : decode cX3_roots 44 = .ok (.aload_n 0, 1) := by decide +kernel
theorem dX3_roots_45 : decode cX3_roots 45 = .ok (.aload_n 0, 1) := by decide +kernel
theorem dX3_roots_46 : decode cX3_roots 46 = .ok (.lload 5, 2) := by decide +kernel
theorem dX3_roots_48 : decode cX3_roots 48 = .ok (.lconst 1, 1) := by decide +kernel
theorem dX3_roots_49 : decode cX3_roots 49 = .ok (.iconst 0, 1) := by decide +kernel
theorem dX3_roots_50 : decode cX3_roots 50 = .ok (.invokevirtual 78, 3) := by decide +kernel
theorem dX3_roots_53 : decode cX3_roots 53 = .ok (.putfield 63, 3) := by decide +kernel
theorem dX3_roots_56 : decode cX3_roots 56 = .ok (.lload_n 3, 1) := by decide +kernel
theorem dX3_roots_57 : decode cX3_roots 57 = .ok (.invokestatic 74, 3) := by decide +kernel
theorem dX3_roots_60 : decode cX3_roots 60 = .ok (.ifCond .ne 11, 3) := by decide +kernel
theorem dX3_roots_63 : decode cX3_roots 63 = .ok (.aload_n 0, 1) := by decide +kernel
theorem dX3_roots_64 : decode cX3_roots 64 = .ok (.ldc2_w 36, 3) := by decide +kernel
theorem dX3_roots_67 : decode cX3_roots 67 = .ok (.putfield 67, 3) := by decide +kernel
theorem dX3_roots_70 : decode cX3_roots 70 = .ok (.return_, 1) := by decide +kernel
theorem dX3_roots_71 : decode cX3_roots 71 = .ok (.lload_n 3, 1) := by decide +kernel
theorem dX3_roots_72 : decode cX3_roots 72 = .ok (.aload_n 0, 1) := by decide +kernel
theorem dX3_roots_73 : decode cX3_roots 73 = .ok (.invokevirtual 86, 3) := by decide +kernel
theorem dX3_roots_76 : decode cX3_roots 76 = .ok (.lshl, 1) := by decide +kernel
theorem dX3_roots_77 : decode cX3_roots 77 = .ok (.invokestatic 109, 3) := by decide +kernel
theorem dX3_roots_80 : decode cX3_roots 80 = .ok (.lstore 7, 2) := by decide +kernel
theorem dX3_roots_82 : decode cX3_roots 82 = .ok (.aload_n 0, 1) := by decide +kernel
theorem dX3_roots_83 : decode cX3_roots 83 = .ok (.aload_n 0, 1) := by decide +kernel
theorem dX3_roots_84 : decode cX3_roots 84 = .ok (.lload 7, 2) := by decide +kernel
theorem dX3_roots_86 : decode cX3_roots 86 = .ok (.lload 7, 2) := by decide +kernel
theorem dX3_roots_88 : decode cX3_roots 88 = .ok (.lmul, 1) := by decide +kernel
theorem dX3_roots_89 : decode cX3_roots 89 = .ok (.lload_n 3, 1) := by decide +kernel
theorem dX3_roots_90 : decode cX3_roots 90 = .ok (.aload_n 0, 1) := by decide +kernel
theorem dX3_roots_91 : decode cX3_roots 91 = .ok (.invokevirtual 86, 3) := by decide +kernel
theorem dX3_roots_94 : decode cX3_roots 94 = .ok (.lshl, 1) := by decide +kernel
theorem dX3_roots_95 : decode cX3_roots 95 = .ok (.lcmp, 1) := by decide +kernel
theorem dX3_roots_96 : decode cX3_roots 96 = .ok (.ifCond .ne 12, 3) := by decide +kernel
theorem dX3_roots_99 : decode cX3_roots 99 = .ok (.ldc2_w 30, 3) := by decide +kernel
theorem dX3_roots_102 : decode cX3_roots 102 = .ok (.lload 7, 2) := by decide +kernel
theorem dX3_roots_104 : decode cX3_roots 104 = .ok (.lmul, 1) := by decide +kernel
theorem dX3_roots_105 : decode cX3_roots 105 = .ok (.goto 11, 3) := by decide +kernel
theorem dX3_roots_108 : decode cX3_roots 108 = .ok (.ldc2_w 30, 3) := by decide +kernel
theorem dX3_roots_111 : decode cX3_roots 111 = .ok (.lload 7, 2) := by decide +kernel
theorem dX3_roots_113 : decode cX3_roots 113 = .ok (.lmul, 1) := by decide +kernel
theorem dX3_roots_114 : decode cX3_roots 114 = .ok (.lconst 1, 1) := by decide +kernel
theorem dX3_roots_115 : decode cX3_roots 115 = .ok (.ladd, 1) := by decide +kernel
theorem dX3_roots_116 : decode cX3_roots 116 = .ok (.ldc2_w 30, 3) := by decide +kernel
theorem dX3_roots_119 : decode cX3_roots 119 = .ok (.iconst 1, 1) := by decide +kernel
theorem dX3_roots_120 : decode cX3_roots 120 = .ok (.invokevirtual 78, 3) := by decide +kernel
theorem dX3_roots_123 : decode cX3_roots 123 = .ok (.putfield 67, 3) := by decide +kernel
theorem dX3_roots_126 : decode cX3_roots 126 = .ok (.return_, 1) := by decide +kernel
end
section
theorem dX3_sizes_0 : decode cX3_sizes 0 = .ok (.aload_n 0, 1) := by decide +kernel
theorem dX3_sizes_1 : decode cX3_sizes 1 = .ok (.lload_n 1, 1) := by decide +kernel
theorem dX3_sizes_2 : decode cX3_sizes 2 = .ok (.lconst 0, 1) := by decide +kernel
theorem dX3_sizes_3 : decode cX3_sizes 3 = .ok (.lcmp, 1) := by decide +kernel
theorem dX3_sizes_4 : decode cX3_sizes 4 = .ok (.ifCond .le 7, 3) := by decide +kernel
theorem dX3_sizes_7 : decode cX3_sizes 7 = .ok (.lload_n 1, 1) := by decide +kernel
theorem dX3_sizes_8 : decode cX3_sizes 8 = .ok (.goto 15, 3) := by decide +kernel
theorem dX3_sizes_11 : decode cX3_sizes 11 = .ok (.lload_n 3, 1) := by decide +kernel
theorem dX3_sizes_12 : decode cX3_sizes 12 = .ok (.lconst 0, 1) := by decide +kernel
theorem dX3_sizes_13 : decode cX3_sizes 13 = .ok (.lcmp, 1) := by decide +kernel
theorem dX3_sizes_14 : decode cX3_sizes 14 = .ok (.ifCond .ge 8, 3) := by decide +kernel
theorem dX3_sizes_17 : decode cX3_sizes 17 = .ok (.lload_n 3, 1) := by decide +kernel
theorem dX3_sizes_18 : decode cX3_sizes 18 = .ok (.lneg, 1) := by decide +kernel
theorem dX3_sizes_19 : decode cX3_sizes 19 = .ok (.goto 4, 3) := by decide +kernel
theorem dX3_sizes_22 : decode cX3_sizes 22 = .ok (.lconst 0, 1) := by decide +kernel
theorem dX3_sizes_23 : decode cX3_sizes 23 = .ok (.putfield 63, 3) := by decide +kernel
theorem dX3_sizes_26 : decode cX3_sizes 26 = .ok (.aload_n 0, 1) := by decide +kernel
theorem dX3_sizes_27 : decode cX3_sizes 27 = .ok (.lload_n 1, 1) := by decide +kernel
theorem dX3_sizes_28 : decode cX3_sizes 28 = .ok (.lneg, 1) := by decide +kernel
theorem dX3_sizes_29 : decode cX3_sizes 29 = .ok (.lload_n 3, 1) := by decide +kernel
theorem dX3_sizes_30 : decode cX3_sizes 30 = .ok (.invokestatic 113, 3) := by decide +kernel
theorem dX3_sizes_33 : decode cX3_sizes 33 = .ok (.putfield 67, 3) := by decide +kernel
theorem dX3_sizes_36 : decode cX3_sizes 36 = .ok (.return_, 1) := by decide +kernel
theorem dX3_two_0 : decode cX3_two 0 = .ok (.aload_n 0, 1) := by decide +kernel
theorem dX3_two_1 : decode cX3_two 1 = .ok (.aload_n 0, 1) := by decide +kernel
theorem dX3_two_2 : decode cX3_two 2 = .ok (.getfield 16, 3) := by decide +kernel
theorem dX3_two_5 : decode cX3_two 5 = .ok (.iload_n 2, 1) := by decide +kernel
theorem dX3_two_6 : decode cX3_two 6 = .ok (.baload, 1) := by decide +kernel
theorem dX3_two_7 : decode cX3_two 7 = .ok (.ifCond .eq 16, 3) := by decide +kernel
theorem dX3_two_10 : decode cX3_two 10 = .ok (.aload_n 0, 1) := by decide +kernel
theorem dX3_two_11 : decode cX3_two 11 = .ok (.getfield 16, 3) := by decide +kernel
theorem dX3_two_14 : decode cX3_two 14 = .ok (.iload_n 3, 1) := by decide +kernel
theorem dX3_two_15 : decode cX3_two 15 = .ok (.baload, 1) := by decide +kernel
theorem dX3_two_16 : decode cX3_two 16 = .ok (.ifCond .eq 7, 3) := by decide +kernel
theorem dX3_two_19 : decode cX3_two 19 = .ok (.iconst 1, 1) := by decide +kernel
theorem dX3_two_20 : decode cX3_two 20 = .ok (.goto 4, 3) := by decide +kernel
theorem dX3_two_23 : decode cX3_two 23 = .ok (.iconst 0, 1) := by decide +kernel
theorem dX3_two_24 : decode cX3_two 24 = .ok (.putfield 59, 3) := by decide +kernel
theorem dX3_two_27 : decode cX3_two 27 = .ok (.iload_n 1, 1) := by decide +kernel
theorem dX3_two_28 : decode cX3_two 28 = .ok (.iconst 4, 1) := by decide +kernel
theorem dX3_two_29 : decode cX3_two 29 = .ok (.if_icmp .ne 59, 3) := by decide +kernel
theorem dX3_two_32 : decode cX3_two 32 = .ok (.aload_n 0, 1) := by decide +kernel
theorem dX3_two_33 : decode cX3_two 33 = .ok (.getfield 59, 3) := by decide +kernel
theorem dX3_two_36 : decode cX3_two 36 = .ok (.ifCond .ne 52, 3) := by decide +kernel
theorem dX3_two_39 : decode cX3_two 39 = .ok (.aload_n 0, 1) := by decide +kernel
theorem dX3_two_40 : decode cX3_two 40 = .ok (.getfield 16, 3) := by decide +kernel
theorem dX3_two_43 : decode cX3_two 43 = .ok (.iload_n 2, 1) := by decide +kernel
theorem dX3_two_44 : decode cX3_two 44 = .ok (.baload, 1) := by decide +kernel
theorem dX3_two_45 : decode cX3_two 45 = .ok (.ifCond .eq 7, 3) := by decide +kernel
theorem dX3_two_48 : decode cX3_two 48 = .ok (.iload_n 2, 1) := by decide +kernel
theorem dX3_two_49 : decode cX3_two 49 = .ok (.goto 4, 3) := by decide +kernel
theorem dX3_two_52 : decode cX3_two 52 = .ok (.iload_n 3, 1) := by decide +kernel
theorem dX3_two_53 : decode cX3_two 53 = .ok (.istore 4, 2) := by decide +kernel
theorem dX3_two_55 : decode cX3_two 55 = .ok (.aload_n 0, 1) := by decide +kernel
theorem dX3_two_56 : decode cX3_two 56 = .ok (.aload_n 0, 1) := by decide +kernel
theorem dX3_two_57 : decode cX3_two 57 = .ok (.getfield 16, 3) := by decide +kernel
theorem dX3_two_60 : decode cX3_two 60 = .ok (.iload 4, 2) := by decide +kernel
theorem dX3_two_62 : decode cX3_two 62 = .ok (.baload, 1) := by decide +kernel
theorem dX3_two_63 : decode cX3_two 63 = .ok (.putfield 59, 3) := by decide +kernel
theorem dX3_two_66 : decode cX3_two 66 = .ok (.aload_n 0, 1) := by decide +kernel
theorem dX3_two_67 : decode cX3_two 67 = .ok (.aload_n 0, 1) := by decide +kernel
theorem dX3_two_68 : decode cX3_two 68 = .ok (.getfield 20, 3) := by decide +kernel
theorem dX3_two_71 : decode cX3_two 71 = .ok (.iload 4, 2) := by decide +kernel
theorem dX3_two_73 : decode cX3_two 73 = .ok (.laload, 1) := by decide +kernel
theorem dX3_two_74 : decode cX3_two 74 = .ok (.putfield 63, 3) := by decide +kernel
theorem dX3_two_77 : decode cX3_two 77 = .ok (.aload_n 0, 1) := by decide +kernel
theorem dX3_two_78 : decode cX3_two 78 = .ok (.aload_n 0, 1) := by decide +kernel
theorem dX3_two_79 : decode cX3_two 79 = .ok (.getfield 24, 3) := by decide +kernel
theorem dX3_two_82 : decode cX3_two 82 = .ok (.iload 4, 2) := by decide +kernel
theorem dX3_two_84 : decode cX3_two 84 = .ok (.laload, 1) := by decide +kernel
theorem dX3_two_85 : decode cX3_two 85 = .ok (.putfield 67, 3) := by decide +kernel
theorem dX3_two_88 : decode cX3_two 88 = .ok (.aload_n 0, 1) := by decide +kernel
theorem dX3_two_89 : decode cX3_two 89 = .ok (.getfield 59, 3) := by decide +kernel
theorem dX3_two_92 : decode cX3_two 92 = .ok (.ifCond .eq 26, 3) := by decide +kernel
theorem dX3_two_95 : decode cX3_two 95 = .ok (.iload_n 1, 1) := by decide +kernel
theorem dX3_two_96 : decode cX3_two 96 = .ok (.iconst 4, 1) := by decide +kernel
theorem dX3_two_97 : decode cX3_two 97 = .ok (.if_icmp .ne 22, 3) := by decide +kernel
theorem dX3_two_100 : decode cX3_two 100 = .ok (.aload_n 0, 1) := by decide +kernel
theorem dX3_two_101 : decode cX3_two 101 = .ok (.getfield 16, 3) := by decide +kernel
theorem dX3_two_104 : decode cX3_two 104 = .ok (.iload_n 2, 1) := by decide +kernel
theorem dX3_two_105 : decode cX3_two 105 = .ok (.baload, 1) := by decide +kernel
theorem dX3_two_106 : decode cX3_two 106 = .ok (.ifCond .eq 12, 3) := by decide +kernel
theorem dX3_two_109 : decode cX3_two 109 = .ok (.aload_n 0, 1) := by decide +kernel
theorem dX3_two_110 : decode cX3_two 110 = .ok (.getfield 16, 3) := by decide +kernel
theorem dX3_two_113 : decode cX3_two 113 = .ok (.iload_n 3, 1) := by decide +kernel
theorem dX3_two_114 : decode cX3_two 114 = .ok (.baload, 1) := by decide +kernel
theorem dX3_two_115 : decode cX3_two 115 = .ok (.ifCond .ne 4, 3) := by decide +kernel
theorem dX3_two_118 : decode cX3_two 118 = .ok (.return_, 1) := by decide +kernel
theorem dX3_two_119 : decode cX3_two 119 = .ok (.aload_n 0, 1) := by decide +kernel
theorem dX3_two_120 : decode cX3_two 120 = .ok (.getfield 20, 3) := by decide +kernel
theorem dX3_two_123 : decode cX3_two 123 = .ok (.iload_n 2, 1) := by decide +kernel
theorem dX3_two_124 : decode cX3_two 124 = .ok (.laload, 1) := by decide +kernel
theorem dX3_two_125 : decode cX3_two 125 = .ok (.lstore 4, 2) := by decide +kernel
theorem dX3_two_127 : decode cX3_two 127 = .ok (.aload_n 0, 1) := by decide +kernel
theorem dX3_two_128 : decode cX3_two 128 = .ok (.getfield 24, 3) := by decide +kernel
theorem dX3_two_131 : decode cX3_two 131 = .ok (.iload_n 2, 1) := by decide +kernel
theorem dX3_two_132 : decode cX3_two 132 = .ok (.laload, 1) := by decide +kernel
theorem dX3_two_133 : decode cX3_two 133 = .ok (.lstore 6, 2) := by decide +kernel
theorem dX3_two_135 : decode cX3_two 135 = .ok (.aload_n 0, 1) := by decide +kernel
theorem dX3_two_136 : decode cX3_two 136 = .ok (.getfield 20, 3) := by decide +kernel
theorem dX3_two_139 : decode cX3_two 139 = .ok (.iload_n 3, 1) := by decide +kernel
theorem dX3_two_140 : decode cX3_two 140 = .ok (.laload, 1) := by decide +kernel
theorem dX3_two_141 : decode cX3_two 141 = .ok (.lstore 8, 2) := by decide +kernel
theorem dX3_two_143 : decode cX3_two 143 = .ok (.aload_n 0, 1) := by decide +kernel
theorem dX3_two_144 : decode cX3_two 144 = .ok (.getfield 24, 3) := by decide +kernel
theorem dX3_two_147 : decode cX3_two 147 = .ok (.iload_n 3, 1) := by decide +kernel
theorem dX3_two_148 : decode cX3_two 148 = .ok (.laload, 1) := by decide +kernel
theorem dX3_two_149 : decode cX3_two 149 = .ok (.lstore 10, 2) := by decide +kernel
theorem dX3_two_151 : decode cX3_two 151 = .ok (.iload_n 1, 1) := by decide +kernel
theorem dX3_two_152 : decode cX3_two 152 = .ok (.tableswitch 213 0 6 #[44, 72, 102, 213, 117, 142, 188], 44) := by decide +kernel
theorem dX3_two_196 : decode cX3_two 196 = .ok (.aload_n 0, 1) := by decide +kernel
theorem dX3_two_197 : decode cX3_two 197 = .ok (.lload 4, 2) := by decide +kernel
theorem dX3_two_199 : decode cX3_two 199 = .ok (.lload 8, 2) := by decide +kernel
theorem dX3_two_201 : decode cX3_two 201 = .ok (.ldc2_w 57, 3) := by decide +kernel
theorem dX3_two_204 : decode cX3_two 204 = .ok (.invokestatic 116, 3) := by decide +kernel
theorem dX3_two_207 : decode cX3_two 207 = .ok (.lload 6, 2) := by decide +kernel
theorem dX3_two_209 : decode cX3_two 209 = .ok (.lload 10, 2) := by decide +kernel
theorem dX3_two_211 : decode cX3_two 211 = .ok (.ldc2_w 36, 3) := by decide +kernel
theorem dX3_two_214 : decode cX3_two 214 = .ok (.invokestatic 116, 3) := by decide +kernel
theorem dX3_two_217 : decode cX3_two 217 = .ok (.lconst 1, 1) := by decide +kernel
theorem dX3_two_218 : decode cX3_two 218 = .ok (.invokevirtual 89, 3) := by decide +kernel
theorem dX3_two_221 : decode cX3_two 221 = .ok (.goto 166, 3) := by decide +kernel
theorem dX3_two_224 : decode cX3_two 224 = .ok (.aload_n 0, 1) := by decide +kernel
theorem dX3_two_225 : decode cX3_two 225 = .ok (.lload 4, 2) := by decide +kernel
theorem dX3_two_227 : decode cX3_two 227 = .ok (.lload 10, 2) := by decide +kernel
theorem dX3_two_229 : decode cX3_two 229 = .ok (.lneg, 1) := by decide +kernel
theorem dX3_two_230 : decode cX3_two 230 = .ok (.ldc2_w 57, 3) := by decide +kernel
theorem dX3_two_233 : decode cX3_two 233 = .ok (.invokestatic 116, 3) := by decide +kernel
theorem dX3_two_236 : decode cX3_two 236 = .ok (.lload 6, 2) := by decide +kernel
theorem dX3_two_238 : decode cX3_two 238 = .ok (.lload 8, 2) := by decide +kernel
theorem dX3_two_240 : decode cX3_two 240 = .ok (.lneg, 1) := by decide +kernel
theorem dX3_two_241 : decode cX3_two 241 = .ok (.ldc2_w 36, 3) := by decide +kernel
theorem dX3_two_244 : decode cX3_two 244 = .ok (.invokestatic 116, 3) := by decide +kernel
theorem dX3_two_247 : decode cX3_two 247 = .ok (.lconst 1, 1) := by decide +kernel
theorem dX3_two_248 : decode cX3_two 248 = .ok (.invokevirtual 89, 3) := by decide +kernel
theorem dX3_two_251 : decode cX3_two 251 = .ok (.goto 136, 3) := by decide +kernel
theorem dX3_two_254 : decode cX3_two 254 = .ok (.aload_n 0, 1) := by decide +kernel
theorem dX3_two_255 : decode cX3_two 255 = .ok (.lload 4, 2) := by decide +kernel
theorem dX3_two_257 : decode cX3_two 257 = .ok (.lload 6, 2) := by decide +kernel
theorem dX3_two_259 : decode cX3_two 259 = .ok (.lload 8, 2) := by decide +kernel
theorem dX3_two_261 : decode cX3_two 261 = .ok (.lload 10, 2) := by decide +kernel
theorem dX3_two_263 : decode cX3_two 263 = .ok (.invokevirtual 120, 3) := by decide +kernel
theorem dX3_two_266 : decode cX3_two 266 = .ok (.goto 121, 3) := by decide +kernel
theorem dX3_two_269 : decode cX3_two 269 = .ok (.aload_n 0, 1) := by decide +kernel
theorem dX3_two_270 : decode cX3_two 270 = .ok (.lload 4, 2) := by decide +kernel
theorem dX3_two_272 : decode cX3_two 272 = .ok (.lload 8, 2) := by decide +kernel
theorem dX3_two_274 : decode cX3_two 274 = .ok (.invokestatic 123, 3) := by decide +kernel
theorem dX3_two_277 : decode cX3_two 277 = .ok (.putfield 63, 3) := by decide +kernel
theorem dX3_two_280 : decode cX3_two 280 = .ok (.aload_n 0, 1) := by decide +kernel
theorem dX3_two_281 : decode cX3_two 281 = .ok (.lload 6, 2) := by decide +kernel
theorem dX3_two_283 : decode cX3_two 283 = .ok (.lload 10, 2) := by decide +kernel
theorem dX3_two_285 : decode cX3_two 285 = .ok (.invokestatic 113, 3) := by decide +kernel
theorem dX3_two_288 : decode cX3_two 288 = .ok (.putfield 67, 3) := by decide +kernel
theorem dX3_two_291 : decode cX3_two 291 = .ok (.goto 96, 3) := by decide +kernel
theorem dX3_two_294 : decode cX3_two 294 = .ok (.aload_n 0, 1) := by decide +kernel
theorem dX3_two_295 : decode cX3_two 295 = .ok (.lload 4, 2) := by decide +kernel
theorem dX3_two_297 : decode cX3_two 297 = .ok (.lload 8, 2) := by decide +kernel
theorem dX3_two_299 : decode cX3_two 299 = .ok (.invokestatic 113, 3) := by decide +kernel
theorem dX3_two_302 : decode cX3_two 302 = .ok (.putfield 63, 3) := by decide +kernel
theorem dX3_two_305 : decode cX3_two 305 = .ok (.aload_n 0, 1) := by decide +kernel
theorem dX3_two_306 : decode cX3_two 306 = .ok (.lload 6, 2) := by decide +kernel
theorem dX3_two_308 : decode cX3_two 308 = .ok (.lload 10, 2) := by decide +kernel
theorem dX3_two_310 : decode cX3_two 310 = .ok (.invokestatic 123, 3) := by decide +kernel
theorem dX3_two_313 : decode cX3_two 313 = .ok (.putfield 67, 3) := by decide +kernel
theorem dX3_two_316 : decode cX3_two 316 = .ok (.aload_n 0, 1) := by decide +kernel
theorem dX3_two_317 : decode cX3_two 317 = .ok (.aload_n 0, 1) := by decide +kernel
theorem dX3_two_318 : decode cX3_two 318 = .ok (.getfield 63, 3) := by decide +kernel
theorem dX3_two_321 : decode cX3_two 321 = .ok (.aload_n 0, 1) := by decide +kernel
theorem dX3_two_322 : decode cX3_two 322 = .ok (.getfield 67, 3) := by decide +kernel
theorem dX3_two_325 : decode cX3_two 325 = .ok (.lcmp, 1) := by decide +kernel
theorem dX3_two_326 : decode cX3_two 326 = .ok (.ifCond .gt 7, 3) := by decide +kernel
theorem dX3_two_329 : decode cX3_two 329 = .ok (.iconst 1, 1) := by decide +kernel
theorem dX3_two_330 : decode cX3_two 330 = .ok (.goto 4, 3) := by decide +kernel
theorem dX3_two_333 : decode cX3_two 333 = .ok (.iconst 0, 1) := by decide +kernel
theorem dX3_two_334 : decode cX3_two 334 = .ok (.putfield 59, 3) := by decide +kernel
theorem dX3_two_337 : decode cX3_two 337 = .ok (.goto 50, 3) := by decide +kernel
theorem dX3_two_340 : decode cX3_two 340 = .ok (.aload_n 0, 1) := by decide +kernel
theorem dX3_two_341 : decode cX3_two 341 = .ok (.lload 4, 2) := by decide +kernel
theorem dX3_two_343 : decode cX3_two 343 = .ok (.lload 8, 2) := by decide +kernel
theorem dX3_two_345 : decode cX3_two 345 = .ok (.invokestatic 123, 3) := by decide +kernel
theorem dX3_two_348 : decode cX3_two 348 = .ok (.putfield 63, 3) := by decide +kernel
theorem dX3_two_351 : decode cX3_two 351 = .ok (.aload_n 0, 1) := by decide +kernel
theorem dX3_two_352 : decode cX3_two 352 = .ok (.lload 6, 2) := by decide +kernel
theorem dX3_two_354 : decode cX3_two 354 = .ok (.lload 10, 2) := by decide +kernel
theorem dX3_two_356 : decode cX3_two 356 = .ok (.invokestatic 123, 3) := by decide +kernel
theorem dX3_two_359 : decode cX3_two 359 = .ok (.putfield 67, 3) := by decide +kernel
theorem dX3_two_362 : decode cX3_two 362 = .ok (.goto 25, 3) := by decide +kernel
theorem dX3_two_365 : decode cX3_two 365 = .ok (.aload_n 0, 1) := by decide +kernel
theorem dX3_two_366 : decode cX3_two 366 = .ok (.lload 4, 2) := by decide +kernel
theorem dX3_two_368 : decode cX3_two 368 = .ok (.lload 8, 2) := by decide +kernel
theorem dX3_two_370 : decode cX3_two 370 = .ok (.invokestatic 113, 3) := by decide +kernel
theorem dX3_two_373 : decode cX3_two 373 = .ok (.putfield 63, 3) := by decide +kernel
theorem dX3_two_376 : decode cX3_two 376 = .ok (.aload_n 0, 1) := by decide +kernel
theorem dX3_two_377 : decode cX3_two 377 = .ok (.lload 6, 2) := by decide +kernel
theorem dX3_two_379 : decode cX3_two 379 = .ok (.lload 10, 2) := by decide +kernel
theorem dX3_two_381 : decode cX3_two 381 = .ok (.invokestatic 113, 3) := by decide +kernel
theorem dX3_two_384 : decode cX3_two 384 = .ok (.putfield 67, 3) := by decide +kernel
theorem dX3_two_387 : decode cX3_two 387 = .ok (.return_, 1) := by decide +kernel
theorem dX3_alone_0 : decode cX3_alone 0 = .ok (.aload_n 0, 1) := by decide +kernel
theorem dX3_alone_1 : decode cX3_alone 1 = .ok (.aload_n 0, 1) := by decide +kernel
theorem dX3_alone_2 : decode cX3_alone 2 = .ok (.getfield 16, 3) := by decide +kernel
theorem dX3_alone_5 : decode cX3_alone 5 = .ok (.iload_n 2, 1) := by decide +kernel
theorem dX3_alone_6 : decode cX3_alone 6 = .ok (.baload, 1) := by decide +kernel
theorem dX3_alone_7 : decode cX3_alone 7 = .ok (.putfield 59, 3) := by decide +kernel
theorem dX3_alone_10 : decode cX3_alone 10 = .ok (.aload_n 0, 1) := by decide +kernel
theorem dX3_alone_11 : decode cX3_alone 11 = .ok (.getfield 59, 3) := by decide +kernel
theorem dX3_alone_14 : decode cX3_alone 14 = .ok (.ifCond .ne 4, 3) := by decide +kernel
theorem dX3_alone_17 : decode cX3_alone 17 = .ok (.return_, 1) := by decide +kernel
theorem dX3_alone_18 : decode cX3_alone 18 = .ok (.iload_n 1, 1) := by decide +kernel
theorem dX3_alone_19 : decode cX3_alone 19 = .ok (.tableswitch 154 8 10 #[25, 50, 135], 25) := by decide +kernel
theorem dX3_alone_44 : decode cX3_alone 44 = .ok (.aload_n 0, 1) := by decide +kernel
theorem dX3_alone_45 : decode cX3_alone 45 = .ok (.aload_n 0, 1) := by decide +kernel
theorem dX3_alone_46 : decode cX3_alone 46 = .ok (.getfield 24, 3) := by decide +kernel
theorem dX3_alone_49 : decode cX3_alone 49 = .ok (.iload_n 2, 1) := by decide +kernel
theorem dX3_alone_50 : decode cX3_alone 50 = .ok (.laload, 1) := by decide +kernel
theorem dX3_alone_51 : decode cX3_alone 51 = .ok (.lneg, 1) := by decide +kernel
theorem dX3_alone_52 : decode cX3_alone 52 = .ok (.putfield 63, 3) := by decide +kernel
theorem dX3_alone_55 : decode cX3_alone 55 = .ok (.aload_n 0, 1) := by decide +kernel
theorem dX3_alone_56 : decode cX3_alone 56 = .ok (.aload_n 0, 1) := by decide +kernel
theorem dX3_alone_57 : decode cX3_alone 57 = .ok (.getfield 20, 3) := by decide +kernel
theorem dX3_alone_60 : decode cX3_alone 60 = .ok (.iload_n 2, 1) := by decide +kernel
theorem dX3_alone_61 : decode cX3_alone 61 = .ok (.laload, 1) := by decide +kernel
theorem dX3_alone_62 : decode cX3_alone 62 = .ok (.lneg, 1) := by decide +kernel
theorem dX3_alone_63 : decode cX3_alone 63 = .ok (.putfield 67, 3) := by decide +kernel
theorem dX3_alone_66 : decode cX3_alone 66 = .ok (.goto 123, 3) := by decide +kernel
theorem dX3_alone_69 : decode cX3_alone 69 = .ok (.aload_n 0, 1) := by decide +kernel
theorem dX3_alone_70 : decode cX3_alone 70 = .ok (.aload_n 0, 1) := by decide +kernel
theorem dX3_alone_71 : decode cX3_alone 71 = .ok (.getfield 20, 3) := by decide +kernel
theorem dX3_alone_74 : decode cX3_alone 74 = .ok (.iload_n 2, 1) := by decide +kernel
theorem dX3_alone_75 : decode cX3_alone 75 = .ok (.laload, 1) := by decide +kernel
theorem dX3_alone_76 : decode cX3_alone 76 = .ok (.aload_n 0, 1) := by decide +kernel
theorem dX3_alone_77 : decode cX3_alone 77 = .ok (.getfield 24, 3) := by decide +kernel
theorem dX3_alone_80 : decode cX3_alone 80 = .ok (.iload_n 2, 1) := by decide +kernel
theorem dX3_alone_81 : decode cX3_alone 81 = .ok (.laload, 1) := by decide +kernel
theorem dX3_alone_82 : decode cX3_alone 82 = .ok (.invokevirtual 126, 3) := by decide +kernel
theorem dX3_alone_85 : decode cX3_alone 85 = .ok (.aload_n 0, 1) := by decide +kernel
theorem dX3_alone_86 : decode cX3_alone 86 = .ok (.aload_n 0, 1) := by decide +kernel
theorem dX3_alone_87 : decode cX3_alone 87 = .ok (.getfield 63, 3) := by decide +kernel
theorem dX3_alone_90 : decode cX3_alone 90 = .ok (.aload_n 0, 1) := by decide +kernel
theorem dX3_alone_91 : decode cX3_alone 91 = .ok (.getfield 63, 3) := by decide +kernel
theorem dX3_alone_94 : decode cX3_alone 94 = .ok (.aload_n 0, 1) := by decide +kernel
theorem dX3_alone_95 : decode cX3_alone 95 = .ok (.getfield 63, 3) := by decide +kernel
theorem dX3_alone_98 : decode cX3_alone 98 = .ok (.aload_n 0, 1) := by decide +kernel
theorem dX3_alone_99 : decode cX3_alone 99 = .ok (.getfield 63, 3) := by decide +kernel
theorem dX3_alone_102 : decode cX3_alone 102 = .ok (.invokevirtual 120, 3) := by decide +kernel
theorem dX3_alone_105 : decode cX3_alone 105 = .ok (.aload_n 0, 1) := by decide +kernel
theorem dX3_alone_106 : decode cX3_alone 106 = .ok (.getfield 63, 3) := by decide +kernel
theorem dX3_alone_109 : decode cX3_alone 109 = .ok (.lstore_n 3, 1) := by decide +kernel
theorem dX3_alone_110 : decode cX3_alone 110 = .ok (.aload_n 0, 1) := by decide +kernel
theorem dX3_alone_111 : decode cX3_alone 111 = .ok (.aload_n 0, 1) := by decide +kernel
theorem dX3_alone_112 : decode cX3_alone 112 = .ok (.getfield 20, 3) := by decide +kernel
theorem dX3_alone_115 : decode cX3_alone 115 = .ok (.iload_n 2, 1) := by decide +kernel
theorem dX3_alone_116 : decode cX3_alone 116 = .ok (.laload, 1) := by decide +kernel
theorem dX3_alone_117 : decode cX3_alone 117 = .ok (.aload_n 0, 1) := by decide +kernel
theorem dX3_alone_118 : decode cX3_alone 118 = .ok (.getfield 24, 3) := by decide +kernel
theorem dX3_alone_121 : decode cX3_alone 121 = .ok (.iload_n 2, 1) := by decide +kernel
theorem dX3_alone_122 : decode cX3_alone 122 = .ok (.laload, 1) := by decide +kernel
theorem dX3_alone_123 : decode cX3_alone 123 = .ok (.invokevirtual 126, 3) := by decide +kernel
theorem dX3_alone_126 : decode cX3_alone 126 = .ok (.aload_n 0, 1) := by decide +kernel
theorem dX3_alone_127 : decode cX3_alone 127 = .ok (.aload_n 0, 1) := by decide +kernel
theorem dX3_alone_128 : decode cX3_alone 128 = .ok (.getfield 67, 3) := by decide +kernel
theorem dX3_alone_131 : decode cX3_alone 131 = .ok (.aload_n 0, 1) := by decide +kernel
theorem dX3_alone_132 : decode cX3_alone 132 = .ok (.getfield 67, 3) := by decide +kernel
theorem dX3_alone_135 : decode cX3_alone 135 = .ok (.aload_n 0, 1) := by decide +kernel
theorem dX3_alone_136 : decode cX3_alone 136 = .ok (.getfield 67, 3) := by decide +kernel
theorem dX3_alone_139 : decode cX3_alone 139 = .ok (.aload_n 0, 1) := by decide +kernel
theorem dX3_alone_140 : decode cX3_alone 140 = .ok (.getfield 67, 3) := by decide +kernel
theorem dX3_alone_143 : decode cX3_alone 143 = .ok (.invokevirtual 120, 3) := by decide +kernel
theorem dX3_alone_146 : decode cX3_alone 146 = .ok (.aload_n 0, 1) := by decide +kernel
theorem dX3_alone_147 : decode cX3_alone 147 = .ok (.lload_n 3, 1) := by decide +kernel
theorem dX3_alone_148 : decode cX3_alone 148 = .ok (.putfield 63, 3) := by decide +kernel
theorem dX3_alone_151 : decode cX3_alone 151 = .ok (.goto 38, 3) := by decide +kernel
theorem dX3_alone_154 : decode cX3_alone 154 = .ok (.aload_n 0, 1) := by decide +kernel
theorem dX3_alone_155 : decode cX3_alone 155 = .ok (.aload_n 0, 1) := by decide +kernel
theorem dX3_alone_156 : decode cX3_alone 156 = .ok (.getfield 20, 3) := by decide +kernel
theorem dX3_alone_159 : decode cX3_alone 159 = .ok (.iload_n 2, 1) := by decide +kernel
theorem dX3_alone_160 : decode cX3_alone 160 = .ok (.laload, 1) := by decide +kernel
theorem dX3_alone_161 : decode cX3_alone 161 = .ok (.aload_n 0, 1) := by decide +kernel
theorem dX3_alone_162 : decode cX3_alone 162 = .ok (.getfield 24, 3) := by decide +kernel
theorem dX3_alone_165 : decode cX3_alone 165 = .ok (.iload_n 2, 1) := by decide +kernel
theorem dX3_alone_166 : decode cX3_alone 166 = .ok (.laload, 1) := by decide +kernel
theorem dX3_alone_167 : decode cX3_alone 167 = .ok (.invokevirtual 130, 3) := by decide +kernel
theorem dX3_alone_170 : decode cX3_alone 170 = .ok (.goto 19, 3) := by decide +kernel
theorem dX3_alone_173 : decode cX3_alone 173 = .ok (.aload_n 0, 1) := by decide +kernel
theorem dX3_alone_174 : decode cX3_alone 174 = .ok (.aload_n 0, 1) := by decide +kernel
theorem dX3_alone_175 : decode cX3_alone 175 = .ok (.getfield 20, 3) := by decide +kernel
theorem dX3_alone_178 : decode cX3_alone 178 = .ok (.iload_n 2, 1) := by decide +kernel
theorem dX3_alone_179 : decode cX3_alone 179 = .ok (.laload, 1) := by decide +kernel
theorem dX3_alone_180 : decode cX3_alone 180 = .ok (.aload_n 0, 1) := by decide +kernel
theorem dX3_alone_181 : decode cX3_alone 181 = .ok (.getfield 24, 3) := by decide +kernel
theorem dX3_alone_184 : decode cX3_alone 184 = .ok (.iload_n 2, 1) := by decide +kernel
theorem dX3_alone_185 : decode cX3_alone 185 = .ok (.laload, 1) := by decide +kernel
theorem dX3_alone_186 : decode cX3_alone 186 = .ok (.invokevirtual 126, 3) := by decide +kernel
theorem dX3_alone_189 : decode cX3_alone 189 = .ok (.return_, 1) := by decide +kernel
theorem dX3_does_0 : decode cX3_does 0 = .ok (.iload_n 1, 1) := by decide +kernel
theorem dX3_does_1 : decode cX3_does 1 = .ok (.ifCond .lt 37, 3) := by decide +kernel
theorem dX3_does_4 : decode cX3_does 4 = .ok (.iload_n 1, 1) := by decide +kernel
theorem dX3_does_5 : decode cX3_does 5 = .ok (.bipush 11, 2) := by decide +kernel
theorem dX3_does_7 : decode cX3_does 7 = .ok (.if_icmp .gt 31, 3) := by decide +kernel
theorem dX3_does_10 : decode cX3_does 10 = .ok (.iload_n 2, 1) := by decide +kernel
theorem dX3_does_11 : decode cX3_does 11 = .ok (.invokestatic 46, 3) := by decide +kernel
theorem dX3_does_14 : decode cX3_does 14 = .ok (.ifCond .eq 24, 3) := by decide +kernel
theorem dX3_does_17 : decode cX3_does 17 = .ok (.iload_n 3, 1) := by decide +kernel
theorem dX3_does_18 : decode cX3_does 18 = .ok (.invokestatic 46, 3) := by decide +kernel
theorem dX3_does_21 : decode cX3_does 21 = .ok (.ifCond .eq 17, 3) := by decide +kernel
theorem dX3_does_24 : decode cX3_does 24 = .ok (.iload_n 1, 1) := by decide +kernel
theorem dX3_does_25 : decode cX3_does 25 = .ok (.bipush 8, 2) := by decide +kernel
theorem dX3_does_27 : decode cX3_does 27 = .ok (.if_icmp .ge 17, 3) := by decide +kernel
theorem dX3_does_30 : decode cX3_does 30 = .ok (.iload 4, 2) := by decide +kernel
theorem dX3_does_32 : decode cX3_does 32 = .ok (.invokestatic 46, 3) := by decide +kernel
theorem dX3_does_35 : decode cX3_does 35 = .ok (.ifCond .ne 9, 3) := by decide +kernel
theorem dX3_does_38 : decode cX3_does 38 = .ok (.aload_n 0, 1) := by decide +kernel
theorem dX3_does_39 : decode cX3_does 39 = .ok (.iconst 1, 1) := by decide +kernel
theorem dX3_does_40 : decode cX3_does 40 = .ok (.invokevirtual 133, 3) := by decide +kernel
theorem dX3_does_43 : decode cX3_does 43 = .ok (.ireturn, 1) := by decide +kernel
theorem dX3_does_44 : decode cX3_does 44 = .ok (.aload_n 0, 1) := by decide +kernel
theorem dX3_does_45 : decode cX3_does 45 = .ok (.iconst 0, 1) := by decide +kernel
theorem dX3_does_46 : decode cX3_does 46 = .ok (.putfield 27, 3) := by decide +kernel
theorem dX3_does_49 : decode cX3_does 49 = .ok (.iload_n 1, 1) := by decide +kernel
theorem dX3_does_50 : decode cX3_does 50 = .ok (.bipush 7, 2) := by decide +kernel
theorem dX3_does_52 : decode cX3_does 52 = .ok (.if_icmp .le 12, 3) := by decide +kernel
theorem dX3_does_55 : decode cX3_does 55 = .ok (.aload_n 0, 1) := by decide +kernel
theorem dX3_does_56 : decode cX3_does 56 = .ok (.iload_n 1, 1) := by decide +kernel
theorem dX3_does_57 : decode cX3_does 57 = .ok (.iload_n 3, 1) := by decide +kernel
theorem dX3_does_58 : decode cX3_does 58 = .ok (.invokevirtual 136, 3) := by decide +kernel
theorem dX3_does_61 : decode cX3_does 61 = .ok (.goto 26, 3) := by decide +kernel
theorem dX3_does_64 : decode cX3_does 64 = .ok (.iload_n 1, 1) := by decide +kernel
theorem dX3_does_65 : decode cX3_does 65 = .ok (.iconst 3, 1) := by decide +kernel
theorem dX3_does_66 : decode cX3_does 66 = .ok (.if_icmp .ne 13, 3) := by decide +kernel
theorem dX3_does_69 : decode cX3_does 69 = .ok (.aload_n 0, 1) := by decide +kernel
theorem dX3_does_70 : decode cX3_does 70 = .ok (.iload_n 3, 1) := by decide +kernel
theorem dX3_does_71 : decode cX3_does 71 = .ok (.iload 4, 2) := by decide +kernel
theorem dX3_does_73 : decode cX3_does 73 = .ok (.invokevirtual 140, 3) := by decide +kernel
theorem dX3_does_76 : decode cX3_does 76 = .ok (.goto 11, 3) := by decide +kernel
theorem dX3_does_79 : decode cX3_does 79 = .ok (.aload_n 0, 1) := by decide +kernel
theorem dX3_does_80 : decode cX3_does 80 = .ok (.iload_n 1, 1) := by decide +kernel
theorem dX3_does_81 : decode cX3_does 81 = .ok (.iload_n 3, 1) := by decide +kernel
theorem dX3_does_82 : decode cX3_does 82 = .ok (.iload 4, 2) := by decide +kernel
theorem dX3_does_84 : decode cX3_does 84 = .ok (.invokevirtual 143, 3) := by decide +kernel
theorem dX3_does_87 : decode cX3_does 87 = .ok (.aload_n 0, 1) := by decide +kernel
theorem dX3_does_88 : decode cX3_does 88 = .ok (.iload_n 2, 1) := by decide +kernel
theorem dX3_does_89 : decode cX3_does 89 = .ok (.invokevirtual 147, 3) := by decide +kernel
theorem dX3_does_92 : decode cX3_does 92 = .ok (.ireturn, 1) := by decide +kernel
theorem dX3_part_0 : decode cX3_part 0 = .ok (.iload_n 1, 1) := by decide +kernel
theorem dX3_part_1 : decode cX3_part 1 = .ok (.invokestatic 46, 3) := by decide +kernel
theorem dX3_part_4 : decode cX3_part 4 = .ok (.ifCond .eq 26, 3) := by decide +kernel
theorem dX3_part_7 : decode cX3_part 7 = .ok (.iload_n 1, 1) := by decide +kernel
theorem dX3_part_8 : decode cX3_part 8 = .ok (.iconst 1, 1) := by decide +kernel
theorem dX3_part_9 : decode cX3_part 9 = .ok (.iadd, 1) := by decide +kernel
theorem dX3_part_10 : decode cX3_part 10 = .ok (.invokestatic 46, 3) := by decide +kernel
theorem dX3_part_13 : decode cX3_part 13 = .ok (.ifCond .eq 17, 3) := by decide +kernel
theorem dX3_part_16 : decode cX3_part 16 = .ok (.iload_n 2, 1) := by decide +kernel
theorem dX3_part_17 : decode cX3_part 17 = .ok (.invokestatic 46, 3) := by decide +kernel
theorem dX3_part_20 : decode cX3_part 20 = .ok (.ifCond .eq 10, 3) := by decide +kernel
theorem dX3_part_23 : decode cX3_part 23 = .ok (.iload_n 3, 1) := by decide +kernel
theorem dX3_part_24 : decode cX3_part 24 = .ok (.invokestatic 46, 3) := by decide +kernel
theorem dX3_part_27 : decode cX3_part 27 = .ok (.ifCond .ne 9, 3) := by decide +kernel
theorem dX3_part_30 : decode cX3_part 30 = .ok (.aload_n 0, 1) := by decide +kernel
theorem dX3_part_31 : decode cX3_part 31 = .ok (.iconst 1, 1) := by decide +kernel
theorem dX3_part_32 : decode cX3_part 32 = .ok (.invokevirtual 133, 3) := by decide +kernel
theorem dX3_part_35 : decode cX3_part 35 = .ok (.ireturn, 1) := by decide +kernel
theorem dX3_part_36 : decode cX3_part 36 = .ok (.aload_n 0, 1) := by decide +kernel
theorem dX3_part_37 : decode cX3_part 37 = .ok (.iconst 0, 1) := by decide +kernel
theorem dX3_part_38 : decode cX3_part 38 = .ok (.putfield 27, 3) := by decide +kernel
theorem dX3_part_41 : decode cX3_part 41 = .ok (.aload_n 0, 1) := by decide +kernel
theorem dX3_part_42 : decode cX3_part 42 = .ok (.getfield 16, 3) := by decide +kernel
theorem dX3_part_45 : decode cX3_part 45 = .ok (.iload_n 2, 1) := by decide +kernel
theorem dX3_part_46 : decode cX3_part 46 = .ok (.baload, 1) := by decide +kernel
theorem dX3_part_47 : decode cX3_part 47 = .ok (.ifCond .eq 16, 3) := by decide +kernel
theorem dX3_part_50 : decode cX3_part 50 = .ok (.aload_n 0, 1) := by decide +kernel
theorem dX3_part_51 : decode cX3_part 51 = .ok (.getfield 16, 3) := by decide +kernel
theorem dX3_part_54 : decode cX3_part 54 = .ok (.iload_n 3, 1) := by decide +kernel
theorem dX3_part_55 : decode cX3_part 55 = .ok (.baload, 1) := by decide +kernel
theorem dX3_part_56 : decode cX3_part 56 = .ok (.ifCond .eq 7, 3) := by decide +kernel
theorem dX3_part_59 : decode cX3_part 59 = .ok (.iconst 1, 1) := by decide +kernel
theorem dX3_part_60 : decode cX3_part 60 = .ok (.goto 4, 3) := by decide +kernel
theorem dX3_part_63 : decode cX3_part 63 = .ok (.iconst 0, 1) := by decide +kernel
theorem dX3_part_64 : decode cX3_part 64 = .ok (.istore 4, 2) := by decide +kernel
theorem dX3_part_66 : decode cX3_part 66 = .ok (.aload_n 0, 1) := by decide +kernel
theorem dX3_part_67 : decode cX3_part 67 = .ok (.getfield 20, 3) := by decide +kernel
theorem dX3_part_70 : decode cX3_part 70 = .ok (.iload_n 2, 1) := by decide +kernel
theorem dX3_part_71 : decode cX3_part 71 = .ok (.laload, 1) := by decide +kernel
theorem dX3_part_72 : decode cX3_part 72 = .ok (.lstore 5, 2) := by decide +kernel
theorem dX3_part_74 : decode cX3_part 74 = .ok (.aload_n 0, 1) := by decide +kernel
theorem dX3_part_75 : decode cX3_part 75 = .ok (.getfield 24, 3) := by decide +kernel
theorem dX3_part_78 : decode cX3_part 78 = .ok (.iload_n 2, 1) := by decide +kernel
theorem dX3_part_79 : decode cX3_part 79 = .ok (.laload, 1) := by decide +kernel
theorem dX3_part_80 : decode cX3_part 80 = .ok (.lstore 7, 2) := by decide +kernel
theorem dX3_part_82 : decode cX3_part 82 = .ok (.aload_n 0, 1) := by decide +kernel
theorem dX3_part_83 : decode cX3_part 83 = .ok (.getfield 20, 3) := by decide +kernel
theorem dX3_part_86 : decode cX3_part 86 = .ok (.iload_n 3, 1) := by decide +kernel
theorem dX3_part_87 : decode cX3_part 87 = .ok (.laload, 1) := by decide +kernel
theorem dX3_part_88 : decode cX3_part 88 = .ok (.lstore 9, 2) := by decide +kernel
theorem dX3_part_90 : decode cX3_part 90 = .ok (.aload_n 0, 1) := by decide +kernel
theorem dX3_part_91 : decode cX3_part 91 = .ok (.getfield 24, 3) := by decide +kernel
theorem dX3_part_94 : decode cX3_part 94 = .ok (.iload_n 3, 1) := by decide +kernel
theorem dX3_part_95 : decode cX3_part 95 = .ok (.laload, 1) := by decide +kernel
theorem dX3_part_96 : decode cX3_part 96 = .ok (.lstore 11, 2) := by decide +kernel
theorem dX3_part_98 : decode cX3_part 98 = .ok (.aload_n 0, 1) := by decide +kernel
theorem dX3_part_99 : decode cX3_part 99 = .ok (.lload 5, 2) := by decide +kernel
theorem dX3_part_101 : decode cX3_part 101 = .ok (.lload 7, 2) := by decide +kernel
theorem dX3_part_103 : decode cX3_part 103 = .ok (.lload 9, 2) := by decide +kernel
theorem dX3_part_105 : decode cX3_part 105 = .ok (.lload 11, 2) := by decide +kernel
theorem dX3_part_107 : decode cX3_part 107 = .ok (.invokevirtual 105, 3) := by decide +kernel
theorem dX3_part_110 : decode cX3_part 110 = .ok (.aload_n 0, 1) := by decide +kernel
theorem dX3_part_111 : decode cX3_part 111 = .ok (.iload 4, 2) := by decide +kernel
theorem dX3_part_113 : decode cX3_part 113 = .ok (.ifCond .eq 14, 3) := by decide +kernel
theorem dX3_part_116 : decode cX3_part 116 = .ok (.aload_n 0, 1) := by decide +kernel
theorem dX3_part_117 : decode cX3_part 117 = .ok (.getfield 93, 3) := by decide +kernel
theorem dX3_part_120 : decode cX3_part 120 = .ok (.ifCond .eq 7, 3) := by decide +kernel
theorem dX3_part_123 : decode cX3_part 123 = .ok (.iconst 1, 1) := by decide +kernel
theorem dX3_part_124 : decode cX3_part 124 = .ok (.goto 4, 3) := by decide +kernel
theorem dX3_part_127 : decode cX3_part 127 = .ok (.iconst 0, 1) := by decide +kernel
theorem dX3_part_128 : decode cX3_part 128 = .ok (.putfield 59, 3) := by decide +kernel
theorem dX3_part_131 : decode cX3_part 131 = .ok (.aload_n 0, 1) := by decide +kernel
theorem dX3_part_132 : decode cX3_part 132 = .ok (.aload_n 0, 1) := by decide +kernel
theorem dX3_part_133 : decode cX3_part 133 = .ok (.getfield 99, 3) := by decide +kernel
theorem dX3_part_136 : decode cX3_part 136 = .ok (.putfield 63, 3) := by decide +kernel
theorem dX3_part_139 : decode cX3_part 139 = .ok (.aload_n 0, 1) := by decide +kernel
theorem dX3_part_140 : decode cX3_part 140 = .ok (.aload_n 0, 1) := by decide +kernel
theorem dX3_part_141 : decode cX3_part 141 = .ok (.getfield 102, 3) := by decide +kernel
theorem dX3_part_144 : decode cX3_part 144 = .ok (.putfield 67, 3) := by decide +kernel
theorem dX3_part_147 : decode cX3_part 147 = .ok (.aload_n 0, 1) := by decide +kernel
theorem dX3_part_148 : decode cX3_part 148 = .ok (.iload_n 1, 1) := by decide +kernel
theorem dX3_part_149 : decode cX3_part 149 = .ok (.invokevirtual 147, 3) := by decide +kernel
theorem dX3_part_152 : decode cX3_part 152 = .ok (.istore 13, 2) := by decide +kernel
theorem dX3_part_154 : decode cX3_part 154 = .ok (.aload_n 0, 1) := by decide +kernel
theorem dX3_part_155 : decode cX3_part 155 = .ok (.lload 7, 2) := by decide +kernel
theorem dX3_part_157 : decode cX3_part 157 = .ok (.lneg, 1) := by decide +kernel
theorem dX3_part_158 : decode cX3_part 158 = .ok (.lload 5, 2) := by decide +kernel
theorem dX3_part_160 : decode cX3_part 160 = .ok (.lneg, 1) := by decide +kernel
theorem dX3_part_161 : decode cX3_part 161 = .ok (.lload 11, 2) := by decide +kernel
theorem dX3_part_163 : decode cX3_part 163 = .ok (.lneg, 1) := by decide +kernel
theorem dX3_part_164 : decode cX3_part 164 = .ok (.lload 9, 2) := by decide +kernel
theorem dX3_part_166 : decode cX3_part 166 = .ok (.lneg, 1) := by decide +kernel
theorem dX3_part_167 : decode cX3_part 167 = .ok (.invokevirtual 105, 3) := by decide +kernel
theorem dX3_part_170 : decode cX3_part 170 = .ok (.aload_n 0, 1) := by decide +kernel
theorem dX3_part_171 : decode cX3_part 171 = .ok (.iload 4, 2) := by decide +kernel
theorem dX3_part_173 : decode cX3_part 173 = .ok (.ifCond .eq 14, 3) := by decide +kernel
theorem dX3_part_176 : decode cX3_part 176 = .ok (.aload_n 0, 1) := by decide +kernel
theorem dX3_part_177 : decode cX3_part 177 = .ok (.getfield 93, 3) := by decide +kernel
theorem dX3_part_180 : decode cX3_part 180 = .ok (.ifCond .eq 7, 3) := by decide +kernel
theorem dX3_part_183 : decode cX3_part 183 = .ok (.iconst 1, 1) := by decide +kernel
theorem dX3_part_184 : decode cX3_part 184 = .ok (.goto 4, 3) := by decide +kernel
theorem dX3_part_187 : decode cX3_part 187 = .ok (.iconst 0, 1) := by decide +kernel
theorem dX3_part_188 : decode cX3_part 188 = .ok (.putfield 59, 3) := by decide +kernel
theorem dX3_part_191 : decode cX3_part 191 = .ok (.aload_n 0, 1) := by decide +kernel
theorem dX3_part_192 : decode cX3_part 192 = .ok (.aload_n 0, 1) := by decide +kernel
theorem dX3_part_193 : decode cX3_part 193 = .ok (.getfield 99, 3) := by decide +kernel
theorem dX3_part_196 : decode cX3_part 196 = .ok (.putfield 63, 3) := by decide +kernel
theorem dX3_part_199 : decode cX3_part 199 = .ok (.aload_n 0, 1) := by decide +kernel
theorem dX3_part_200 : decode cX3_part 200 = .ok (.aload_n 0, 1) := by decide +kernel
theorem dX3_part_201 : decode cX3_part 201 = .ok (.getfield 102, 3) := by decide +kernel
theorem dX3_part_204 : decode cX3_part 204 = .ok (.putfield 67, 3) := by decide +kernel
theorem dX3_part_207 : decode cX3_part 207 = .ok (.iload 13, 2) := by decide +kernel
theorem dX3_part_209 : decode cX3_part 209 = .ok (.bipush 8, 2) := by decide +kernel
theorem dX3_part_211 : decode cX3_part 211 = .ok (.aload_n 0, 1) := by decide +kernel
theorem dX3_part_212 : decode cX3_part 212 = .ok (.iload_n 1, 1) := by decide +kernel
theorem dX3_part_213 : decode cX3_part 213 = .ok (.iconst 1, 1) := by decide +kernel
theorem dX3_part_214 : decode cX3_part 214 = .ok (.iadd, 1) := by decide +kernel
theorem dX3_part_215 : decode cX3_part 215 = .ok (.invokevirtual 147, 3) := by decide +kernel
theorem dX3_part_218 : decode cX3_part 218 = .ok (.imul, 1) := by decide +kernel
theorem dX3_part_219 : decode cX3_part 219 = .ok (.iadd, 1) := by decide +kernel
theorem dX3_part_220 : decode cX3_part 220 = .ok (.ireturn, 1) := by decide +kernel
end
section
theorem dX3_sum_0 : decode cX3_sum 0 = .ok (.iload_n 1, 1) := by decide +kernel
theorem dX3_sum_1 : decode cX3_sum 1 = .ok (.invokestatic 46, 3) := by decide +kernel
theorem dX3_sum_4 : decode cX3_sum 4 = .ok (.ifCond .eq 23, 3) := by decide +kernel
theorem dX3_sum_7 : decode cX3_sum 7 = .ok (.iload_n 2, 1) := by decide +kernel
theorem dX3_sum_8 : decode cX3_sum 8 = .ok (.invokestatic 46, 3) := by decide +kernel
theorem dX3_sum_11 : decode cX3_sum 11 = .ok (.ifCond .eq 16, 3) := by decide +kernel
theorem dX3_sum_14 : decode cX3_sum 14 = .ok (.iload_n 3, 1) := by decide +kernel
theorem dX3_sum_15 : decode cX3_sum 15 = .ok (.iconst 1, 1) := by decide +kernel
theorem dX3_sum_16 : decode cX3_sum 16 = .ok (.if_icmp .lt 11, 3) := by decide +kernel
theorem dX3_sum_19 : decode cX3_sum 19 = .ok (.iload_n 3, 1) := by decide +kernel
theorem dX3_sum_20 : decode cX3_sum 20 = .ok (.bipush 8, 2) := by decide +kernel
theorem dX3_sum_22 : decode cX3_sum 22 = .ok (.iload_n 2, 1) := by decide +kernel
theorem dX3_sum_23 : decode cX3_sum 23 = .ok (.isub, 1) := by decide +kernel
theorem dX3_sum_24 : decode cX3_sum 24 = .ok (.if_icmp .le 9, 3) := by decide +kernel
theorem dX3_sum_27 : decode cX3_sum 27 = .ok (.aload_n 0, 1) := by decide +kernel
theorem dX3_sum_28 : decode cX3_sum 28 = .ok (.iconst 1, 1) := by decide +kernel
theorem dX3_sum_29 : decode cX3_sum 29 = .ok (.invokevirtual 133, 3) := by decide +kernel
theorem dX3_sum_32 : decode cX3_sum 32 = .ok (.ireturn, 1) := by decide +kernel
theorem dX3_sum_33 : decode cX3_sum 33 = .ok (.aload_n 0, 1) := by decide +kernel
theorem dX3_sum_34 : decode cX3_sum 34 = .ok (.iconst 0, 1) := by decide +kernel
theorem dX3_sum_35 : decode cX3_sum 35 = .ok (.putfield 27, 3) := by decide +kernel
theorem dX3_sum_38 : decode cX3_sum 38 = .ok (.iconst 1, 1) := by decide +kernel
theorem dX3_sum_39 : decode cX3_sum 39 = .ok (.istore 4, 2) := by decide +kernel
theorem dX3_sum_41 : decode cX3_sum 41 = .ok (.lconst 0, 1) := by decide +kernel
theorem dX3_sum_42 : decode cX3_sum 42 = .ok (.lstore 5, 2) := by decide +kernel
theorem dX3_sum_44 : decode cX3_sum 44 = .ok (.lconst 0, 1) := by decide +kernel
theorem dX3_sum_45 : decode cX3_sum 45 = .ok (.lstore 7, 2) := by decide +kernel
theorem dX3_sum_47 : decode cX3_sum 47 = .ok (.iload_n 2, 1) := by decide +kernel
theorem dX3_sum_48 : decode cX3_sum 48 = .ok (.istore 9, 2) := by decide +kernel
theorem dX3_sum_50 : decode cX3_sum 50 = .ok (.iload 9, 2) := by decide +kernel
theorem dX3_sum_52 : decode cX3_sum 52 = .ok (.iload_n 2, 1) := by decide +kernel
theorem dX3_sum_53 : decode cX3_sum 53 = .ok (.iload_n 3, 1) := by decide +kernel
theorem dX3_sum_54 : decode cX3_sum 54 = .ok (.iadd, 1) := by decide +kernel
theorem dX3_sum_55 : decode cX3_sum 55 = .ok (.if_icmp .ge 65, 3) := by decide +kernel
theorem dX3_sum_58 : decode cX3_sum 58 = .ok (.iload 4, 2) := by decide +kernel
theorem dX3_sum_60 : decode cX3_sum 60 = .ok (.ifCond .eq 17, 3) := by decide +kernel
theorem dX3_sum_63 : decode cX3_sum 63 = .ok (.aload_n 0, 1) := by decide +kernel
theorem dX3_sum_64 : decode cX3_sum 64 = .ok (.getfield 16, 3) := by decide +kernel
theorem dX3_sum_67 : decode cX3_sum 67 = .ok (.iload 9, 2) := by decide +kernel
theorem dX3_sum_69 : decode cX3_sum 69 = .ok (.baload, 1) := by decide +kernel
theorem dX3_sum_70 : decode cX3_sum 70 = .ok (.ifCond .eq 7, 3) := by decide +kernel
theorem dX3_sum_73 : decode cX3_sum 73 = .ok (.iconst 1, 1) := by decide +kernel
theorem dX3_sum_74 : decode cX3_sum 74 = .ok (.goto 4, 3) := by decide +kernel
theorem dX3_sum_77 : decode cX3_sum 77 = .ok (.iconst 0, 1) := by decide +kernel
theorem dX3_sum_78 : decode cX3_sum 78 = .ok (.istore 4, 2) := by decide +kernel
theorem dX3_sum_80 : decode cX3_sum 80 = .ok (.lload 5, 2) := by decide +kernel
theorem dX3_sum_82 : decode cX3_sum 82 = .ok (.aload_n 0, 1) := by decide +kernel
theorem dX3_sum_83 : decode cX3_sum 83 = .ok (.getfield 20, 3) := by decide +kernel
theorem dX3_sum_86 : decode cX3_sum 86 = .ok (.iload 9, 2) := by decide +kernel
theorem dX3_sum_88 : decode cX3_sum 88 = .ok (.laload, 1) := by decide +kernel
theorem dX3_sum_89 : decode cX3_sum 89 = .ok (.ldc2_w 57, 3) := by decide +kernel
theorem dX3_sum_92 : decode cX3_sum 92 = .ok (.invokestatic 116, 3) := by decide +kernel
theorem dX3_sum_95 : decode cX3_sum 95 = .ok (.lstore 5, 2) := by decide +kernel
theorem dX3_sum_97 : decode cX3_sum 97 = .ok (.lload 7, 2) := by decide +kernel
theorem dX3_sum_99 : decode cX3_sum 99 = .ok (.aload_n 0, 1) := by decide +kernel
theorem dX3_sum_100 : decode cX3_sum 100 = .ok (.getfield 24, 3) := by decide +kernel
theorem dX3_sum_103 : decode cX3_sum 103 = .ok (.iload 9, 2) := by decide +kernel
theorem dX3_sum_105 : decode cX3_sum 105 = .ok (.laload, 1) := by decide +kernel
theorem dX3_sum_106 : decode cX3_sum 106 = .ok (.ldc2_w 36, 3) := by decide +kernel
theorem dX3_sum_109 : decode cX3_sum 109 = .ok (.invokestatic 116, 3) := by decide +kernel
theorem dX3_sum_112 : decode cX3_sum 112 = .ok (.lstore 7, 2) := by decide +kernel
theorem dX3_sum_114 : decode cX3_sum 114 = .ok (.iinc 9 1, 3) := by decide +kernel
theorem dX3_sum_117 : decode cX3_sum 117 = .ok (.goto (-67), 3) := by decide +kernel
theorem dX3_sum_120 : decode cX3_sum 120 = .ok (.iload 4, 2) := by decide +kernel
theorem dX3_sum_122 : decode cX3_sum 122 = .ok (.ifCond .eq 12, 3) := by decide +kernel
theorem dX3_sum_125 : decode cX3_sum 125 = .ok (.aload_n 0, 1) := by decide +kernel
theorem dX3_sum_126 : decode cX3_sum 126 = .ok (.lload 5, 2) := by decide +kernel
theorem dX3_sum_128 : decode cX3_sum 128 = .ok (.lload 7, 2) := by decide +kernel
theorem dX3_sum_130 : decode cX3_sum 130 = .ok (.lconst 1, 1) := by decide +kernel
theorem dX3_sum_131 : decode cX3_sum 131 = .ok (.invokevirtual 89, 3) := by decide +kernel
theorem dX3_sum_134 : decode cX3_sum 134 = .ok (.aload_n 0, 1) := by decide +kernel
theorem dX3_sum_135 : decode cX3_sum 135 = .ok (.iload 4, 2) := by decide +kernel
theorem dX3_sum_137 : decode cX3_sum 137 = .ok (.putfield 59, 3) := by decide +kernel
theorem dX3_sum_140 : decode cX3_sum 140 = .ok (.aload_n 0, 1) := by decide +kernel
theorem dX3_sum_141 : decode cX3_sum 141 = .ok (.iload_n 1, 1) := by decide +kernel
theorem dX3_sum_142 : decode cX3_sum 142 = .ok (.invokevirtual 147, 3) := by decide +kernel
theorem dX3_sum_145 : decode cX3_sum 145 = .ok (.ireturn, 1) := by decide +kernel
theorem dX3_kind_0 : decode cX3_kind 0 = .ok (.aload_n 0, 1) := by decide +kernel
theorem dX3_kind_1 : decode cX3_kind 1 = .ok (.iconst 0, 1) := by decide +kernel
theorem dX3_kind_2 : decode cX3_kind 2 = .ok (.putfield 27, 3) := by decide +kernel
theorem dX3_kind_5 : decode cX3_kind 5 = .ok (.iload_n 1, 1) := by decide +kernel
theorem dX3_kind_6 : decode cX3_kind 6 = .ok (.invokestatic 46, 3) := by decide +kernel
theorem dX3_kind_9 : decode cX3_kind 9 = .ok (.ifCond .ne 5, 3) := by decide +kernel
theorem dX3_kind_12 : decode cX3_kind 12 = .ok (.iconst (-1), 1) := by decide +kernel
theorem dX3_kind_13 : decode cX3_kind 13 = .ok (.ireturn, 1) := by decide +kernel
theorem dX3_kind_14 : decode cX3_kind 14 = .ok (.aload_n 0, 1) := by decide +kernel
theorem dX3_kind_15 : decode cX3_kind 15 = .ok (.getfield 16, 3) := by decide +kernel
theorem dX3_kind_18 : decode cX3_kind 18 = .ok (.iload_n 1, 1) := by decide +kernel
theorem dX3_kind_19 : decode cX3_kind 19 = .ok (.baload, 1) := by decide +kernel
theorem dX3_kind_20 : decode cX3_kind 20 = .ok (.ifCond .ne 5, 3) := by decide +kernel
theorem dX3_kind_23 : decode cX3_kind 23 = .ok (.iconst 0, 1) := by decide +kernel
theorem dX3_kind_24 : decode cX3_kind 24 = .ok (.ireturn, 1) := by decide +kernel
theorem dX3_kind_25 : decode cX3_kind 25 = .ok (.aload_n 0, 1) := by decide +kernel
theorem dX3_kind_26 : decode cX3_kind 26 = .ok (.getfield 20, 3) := by decide +kernel
theorem dX3_kind_29 : decode cX3_kind 29 = .ok (.iload_n 1, 1) := by decide +kernel
theorem dX3_kind_30 : decode cX3_kind 30 = .ok (.laload, 1) := by decide +kernel
theorem dX3_kind_31 : decode cX3_kind 31 = .ok (.invokestatic 74, 3) := by decide +kernel
theorem dX3_kind_34 : decode cX3_kind 34 = .ok (.ifCond .ne 21, 3) := by decide +kernel
theorem dX3_kind_37 : decode cX3_kind 37 = .ok (.aload_n 0, 1) := by decide +kernel
theorem dX3_kind_38 : decode cX3_kind 38 = .ok (.getfield 24, 3) := by decide +kernel
theorem dX3_kind_41 : decode cX3_kind 41 = .ok (.iload_n 1, 1) := by decide +kernel
theorem dX3_kind_42 : decode cX3_kind 42 = .ok (.laload, 1) := by decide +kernel
theorem dX3_kind_43 : decode cX3_kind 43 = .ok (.invokestatic 74, 3) := by decide +kernel
theorem dX3_kind_46 : decode cX3_kind 46 = .ok (.ifCond .eq 7, 3) := by decide +kernel
theorem dX3_kind_49 : decode cX3_kind 49 = .ok (.iconst 4, 1) := by decide +kernel
theorem dX3_kind_50 : decode cX3_kind 50 = .ok (.goto 4, 3) := by decide +kernel
theorem dX3_kind_53 : decode cX3_kind 53 = .ok (.iconst 5, 1) := by decide +kernel
theorem dX3_kind_54 : decode cX3_kind 54 = .ok (.ireturn, 1) := by decide +kernel
theorem dX3_kind_55 : decode cX3_kind 55 = .ok (.aload_n 0, 1) := by decide +kernel
theorem dX3_kind_56 : decode cX3_kind 56 = .ok (.getfield 24, 3) := by decide +kernel
theorem dX3_kind_59 : decode cX3_kind 59 = .ok (.iload_n 1, 1) := by decide +kernel
theorem dX3_kind_60 : decode cX3_kind 60 = .ok (.laload, 1) := by decide +kernel
theorem dX3_kind_61 : decode cX3_kind 61 = .ok (.invokestatic 74, 3) := by decide +kernel
theorem dX3_kind_64 : decode cX3_kind 64 = .ok (.ifCond .ne 7, 3) := by decide +kernel
theorem dX3_kind_67 : decode cX3_kind 67 = .ok (.iconst 3, 1) := by decide +kernel
theorem dX3_kind_68 : decode cX3_kind 68 = .ok (.goto 24, 3) := by decide +kernel
theorem dX3_kind_71 : decode cX3_kind 71 = .ok (.aload_n 0, 1) := by decide +kernel
theorem dX3_kind_72 : decode cX3_kind 72 = .ok (.getfield 20, 3) := by decide +kernel
theorem dX3_kind_75 : decode cX3_kind 75 = .ok (.iload_n 1, 1) := by decide +kernel
theorem dX3_kind_76 : decode cX3_kind 76 = .ok (.laload, 1) := by decide +kernel
theorem dX3_kind_77 : decode cX3_kind 77 = .ok (.aload_n 0, 1) := by decide +kernel
theorem dX3_kind_78 : decode cX3_kind 78 = .ok (.getfield 24, 3) := by decide +kernel
theorem dX3_kind_81 : decode cX3_kind 81 = .ok (.iload_n 1, 1) := by decide +kernel
theorem dX3_kind_82 : decode cX3_kind 82 = .ok (.laload, 1) := by decide +kernel
theorem dX3_kind_83 : decode cX3_kind 83 = .ok (.lcmp, 1) := by decide +kernel
theorem dX3_kind_84 : decode cX3_kind 84 = .ok (.ifCond .ne 7, 3) := by decide +kernel
theorem dX3_kind_87 : decode cX3_kind 87 = .ok (.iconst 1, 1) := by decide +kernel
theorem dX3_kind_88 : decode cX3_kind 88 = .ok (.goto 4, 3) := by decide +kernel
theorem dX3_kind_91 : decode cX3_kind 91 = .ok (.iconst 2, 1) := by decide +kernel
theorem dX3_kind_92 : decode cX3_kind 92 = .ok (.ireturn, 1) := by decide +kernel
theorem dX3_low_0 : decode cX3_low 0 = .ok (.aload_n 0, 1) := by decide +kernel
theorem dX3_low_1 : decode cX3_low 1 = .ok (.iload_n 1, 1) := by decide +kernel
theorem dX3_low_2 : decode cX3_low 2 = .ok (.invokestatic 46, 3) := by decide +kernel
theorem dX3_low_5 : decode cX3_low 5 = .ok (.ifCond .eq 16, 3) := by decide +kernel
theorem dX3_low_8 : decode cX3_low 8 = .ok (.aload_n 0, 1) := by decide +kernel
theorem dX3_low_9 : decode cX3_low 9 = .ok (.getfield 16, 3) := by decide +kernel
theorem dX3_low_12 : decode cX3_low 12 = .ok (.iload_n 1, 1) := by decide +kernel
theorem dX3_low_13 : decode cX3_low 13 = .ok (.baload, 1) := by decide +kernel
theorem dX3_low_14 : decode cX3_low 14 = .ok (.ifCond .eq 7, 3) := by decide +kernel
theorem dX3_low_17 : decode cX3_low 17 = .ok (.iconst 0, 1) := by decide +kernel
theorem dX3_low_18 : decode cX3_low 18 = .ok (.goto 4, 3) := by decide +kernel
theorem dX3_low_21 : decode cX3_low 21 = .ok (.iconst 1, 1) := by decide +kernel
theorem dX3_low_22 : decode cX3_low 22 = .ok (.putfield 27, 3) := by decide +kernel
theorem dX3_low_25 : decode cX3_low 25 = .ok (.aload_n 0, 1) := by decide +kernel
theorem dX3_low_26 : decode cX3_low 26 = .ok (.getfield 27, 3) := by decide +kernel
theorem dX3_low_29 : decode cX3_low 29 = .ok (.ifCond .le 7, 3) := by decide +kernel
theorem dX3_low_32 : decode cX3_low 32 = .ok (.iconst 0, 1) := by decide +kernel
theorem dX3_low_33 : decode cX3_low 33 = .ok (.goto 13, 3) := by decide +kernel
theorem dX3_low_36 : decode cX3_low 36 = .ok (.aload_n 0, 1) := by decide +kernel
theorem dX3_low_37 : decode cX3_low 37 = .ok (.aload_n 0, 1) := by decide +kernel
theorem dX3_low_38 : decode cX3_low 38 = .ok (.getfield 20, 3) := by decide +kernel
theorem dX3_low_41 : decode cX3_low 41 = .ok (.iload_n 1, 1) := by decide +kernel
theorem dX3_low_42 : decode cX3_low 42 = .ok (.laload, 1) := by decide +kernel
theorem dX3_low_43 : decode cX3_low 43 = .ok (.invokevirtual 150, 3) := by decide +kernel
theorem dX3_low_46 : decode cX3_low 46 = .ok (.ireturn, 1) := by decide +kernel
theorem dX3_high_0 : decode cX3_high 0 = .ok (.aload_n 0, 1) := by decide +kernel
theorem dX3_high_1 : decode cX3_high 1 = .ok (.iload_n 1, 1) := by decide +kernel
theorem dX3_high_2 : decode cX3_high 2 = .ok (.invokestatic 46, 3) := by decide +kernel
theorem dX3_high_5 : decode cX3_high 5 = .ok (.ifCond .eq 16, 3) := by decide +kernel
theorem dX3_high_8 : decode cX3_high 8 = .ok (.aload_n 0, 1) := by decide +kernel
theorem dX3_high_9 : decode cX3_high 9 = .ok (.getfield 16, 3) := by decide +kernel
theorem dX3_high_12 : decode cX3_high 12 = .ok (.iload_n 1, 1) := by decide +kernel
theorem dX3_high_13 : decode cX3_high 13 = .ok (.baload, 1) := by decide +kernel
theorem dX3_high_14 : decode cX3_high 14 = .ok (.ifCond .eq 7, 3) := by decide +kernel
theorem dX3_high_17 : decode cX3_high 17 = .ok (.iconst 0, 1) := by decide +kernel
theorem dX3_high_18 : decode cX3_high 18 = .ok (.goto 4, 3) := by decide +kernel
theorem dX3_high_21 : decode cX3_high 21 = .ok (.iconst 1, 1) := by decide +kernel
theorem dX3_high_22 : decode cX3_high 22 = .ok (.putfield 27, 3) := by decide +kernel
theorem dX3_high_25 : decode cX3_high 25 = .ok (.aload_n 0, 1) := by decide +kernel
theorem dX3_high_26 : decode cX3_high 26 = .ok (.getfield 27, 3) := by decide +kernel
theorem dX3_high_29 : decode cX3_high 29 = .ok (.ifCond .le 7, 3) := by decide +kernel
theorem dX3_high_32 : decode cX3_high 32 = .ok (.iconst 0, 1) := by decide +kernel
theorem dX3_high_33 : decode cX3_high 33 = .ok (.goto 13, 3) := by decide +kernel
theorem dX3_high_36 : decode cX3_high 36 = .ok (.aload_n 0, 1) := by decide +kernel
theorem dX3_high_37 : decode cX3_high 37 = .ok (.aload_n 0, 1) := by decide +kernel
theorem dX3_high_38 : decode cX3_high 38 = .ok (.getfield 24, 3) := by decide +kernel
theorem dX3_high_41 : decode cX3_high 41 = .ok (.iload_n 1, 1) := by decide +kernel
theorem dX3_high_42 : decode cX3_high 42 = .ok (.laload, 1) := by decide +kernel
theorem dX3_high_43 : decode cX3_high 43 = .ok (.invokevirtual 150, 3) := by decide +kernel
theorem dX3_high_46 : decode cX3_high 46 = .ok (.ireturn, 1) := by decide +kernel
theorem dX3_middle_0 : decode cX3_middle 0 = .ok (.aload_n 0, 1) := by decide +kernel
theorem dX3_middle_1 : decode cX3_middle 1 = .ok (.iload_n 1, 1) := by decide +kernel
theorem dX3_middle_2 : decode cX3_middle 2 = .ok (.invokevirtual 70, 3) := by decide +kernel
theorem dX3_middle_5 : decode cX3_middle 5 = .ok (.istore_n 2, 1) := by decide +kernel
theorem dX3_middle_6 : decode cX3_middle 6 = .ok (.iload_n 2, 1) := by decide +kernel
theorem dX3_middle_7 : decode cX3_middle 7 = .ok (.iconst 1, 1) := by decide +kernel
theorem dX3_middle_8 : decode cX3_middle 8 = .ok (.if_icmp .eq 14, 3) := by decide +kernel
theorem dX3_middle_11 : decode cX3_middle 11 = .ok (.iload_n 2, 1) := by decide +kernel
theorem dX3_middle_12 : decode cX3_middle 12 = .ok (.iconst 2, 1) := by decide +kernel
theorem dX3_middle_13 : decode cX3_middle 13 = .ok (.if_icmp .eq 9, 3) := by decide +kernel
theorem dX3_middle_16 : decode cX3_middle 16 = .ok (.aload_n 0, 1) := by decide +kernel
theorem dX3_middle_17 : decode cX3_middle 17 = .ok (.iconst 1, 1) := by decide +kernel
theorem dX3_middle_18 : decode cX3_middle 18 = .ok (.invokevirtual 133, 3) := by decide +kernel
theorem dX3_middle_21 : decode cX3_middle 21 = .ok (.ireturn, 1) := by decide +kernel
theorem dX3_middle_22 : decode cX3_middle 22 = .ok (.aload_n 0, 1) := by decide +kernel
theorem dX3_middle_23 : decode cX3_middle 23 = .ok (.getfield 20, 3) := by decide +kernel
theorem dX3_middle_26 : decode cX3_middle 26 = .ok (.iload_n 1, 1) := by decide +kernel
theorem dX3_middle_27 : decode cX3_middle 27 = .ok (.laload, 1) := by decide +kernel
theorem dX3_middle_28 : decode cX3_middle 28 = .ok (.aload_n 0, 1) := by decide +kernel
theorem dX3_middle_29 : decode cX3_middle 29 = .ok (.getfield 24, 3) := by decide +kernel
theorem dX3_middle_32 : decode cX3_middle 32 = .ok (.iload_n 1, 1) := by decide +kernel
theorem dX3_middle_33 : decode cX3_middle 33 = .ok (.laload, 1) := by decide +kernel
theorem dX3_middle_34 : decode cX3_middle 34 = .ok (.ladd, 1) := by decide +kernel
theorem dX3_middle_35 : decode cX3_middle 35 = .ok (.lstore_n 3, 1) := by decide +kernel
theorem dX3_middle_36 : decode cX3_middle 36 = .ok (.aload_n 0, 1) := by decide +kernel
theorem dX3_middle_37 : decode cX3_middle 37 = .ok (.lload_n 3, 1) := by decide +kernel
theorem dX3_middle_38 : decode cX3_middle 38 = .ok (.ldc2_w 30, 3) := by decide +kernel
theorem dX3_middle_41 : decode cX3_middle 41 = .ok (.iconst 0, 1) := by decide +kernel
theorem dX3_middle_42 : decode cX3_middle 42 = .ok (.invokevirtual 78, 3) := by decide +kernel
theorem dX3_middle_45 : decode cX3_middle 45 = .ok (.lstore 5, 2) := by decide +kernel
theorem dX3_middle_47 : decode cX3_middle 47 = .ok (.aload_n 0, 1) := by decide +kernel
theorem dX3_middle_48 : decode cX3_middle 48 = .ok (.lload_n 3, 1) := by decide +kernel
theorem dX3_middle_49 : decode cX3_middle 49 = .ok (.ldc2_w 30, 3) := by decide +kernel
theorem dX3_middle_52 : decode cX3_middle 52 = .ok (.iconst 1, 1) := by decide +kernel
theorem dX3_middle_53 : decode cX3_middle 53 = .ok (.invokevirtual 78, 3) := by decide +kernel
theorem dX3_middle_56 : decode cX3_middle 56 = .ok (.lstore 7, 2) := by decide +kernel
theorem dX3_middle_58 : decode cX3_middle 58 = .ok (.lload_n 3, 1) := by decide +kernel
theorem dX3_middle_59 : decode cX3_middle 59 = .ok (.ldc2_w 30, 3) := by decide +kernel
theorem dX3_middle_62 : decode cX3_middle 62 = .ok (.lload 5, 2) := by decide +kernel
theorem dX3_middle_64 : decode cX3_middle 64 = .ok (.lmul, 1) := by decide +kernel
theorem dX3_middle_65 : decode cX3_middle 65 = .ok (.lsub, 1) := by decide +kernel
theorem dX3_middle_66 : decode cX3_middle 66 = .ok (.ldc2_w 30, 3) := by decide +kernel
theorem dX3_middle_69 : decode cX3_middle 69 = .ok (.lload 7, 2) := by decide +kernel
theorem dX3_middle_71 : decode cX3_middle 71 = .ok (.lmul, 1) := by decide +kernel
theorem dX3_middle_72 : decode cX3_middle 72 = .ok (.lload_n 3, 1) := by decide +kernel
theorem dX3_middle_73 : decode cX3_middle 73 = .ok (.lsub, 1) := by decide +kernel
theorem dX3_middle_74 : decode cX3_middle 74 = .ok (.lsub, 1) := by decide +kernel
theorem dX3_middle_75 : decode cX3_middle 75 = .ok (.lstore 9, 2) := by decide +kernel
theorem dX3_middle_77 : decode cX3_middle 77 = .ok (.aload_n 0, 1) := by decide +kernel
theorem dX3_middle_78 : decode cX3_middle 78 = .ok (.lload 5, 2) := by decide +kernel
theorem dX3_middle_80 : decode cX3_middle 80 = .ok (.invokevirtual 150, 3) := by decide +kernel
theorem dX3_middle_83 : decode cX3_middle 83 = .ok (.iconst 1, 1) := by decide +kernel
theorem dX3_middle_84 : decode cX3_middle 84 = .ok (.iand, 1) := by decide +kernel
theorem dX3_middle_85 : decode cX3_middle 85 = .ok (.ifCond .ne 7, 3) := by decide +kernel
theorem dX3_middle_88 : decode cX3_middle 88 = .ok (.iconst 1, 1) := by decide +kernel
theorem dX3_middle_89 : decode cX3_middle 89 = .ok (.goto 4, 3) := by decide +kernel
theorem dX3_middle_92 : decode cX3_middle 92 = .ok (.iconst 0, 1) := by decide +kernel
theorem dX3_middle_93 : decode cX3_middle 93 = .ok (.istore 11, 2) := by decide +kernel
theorem dX3_middle_95 : decode cX3_middle 95 = .ok (.aload_n 0, 1) := by decide +kernel
theorem dX3_middle_96 : decode cX3_middle 96 = .ok (.lload 9, 2) := by decide +kernel
theorem dX3_middle_98 : decode cX3_middle 98 = .ok (.lconst 0, 1) := by decide +kernel
theorem dX3_middle_99 : decode cX3_middle 99 = .ok (.lcmp, 1) := by decide +kernel
theorem dX3_middle_100 : decode cX3_middle 100 = .ok (.ifCond .lt 15, 3) := by decide +kernel
theorem dX3_middle_103 : decode cX3_middle 103 = .ok (.lload 9, 2) := by decide +kernel
theorem dX3_middle_105 : decode cX3_middle 105 = .ok (.lconst 0, 1) := by decide +kernel
theorem dX3_middle_106 : decode cX3_middle 106 = .ok (.lcmp, 1) := by decide +kernel
theorem dX3_middle_107 : decode cX3_middle 107 = .ok (.ifCond .ne 13, 3) := by decide +kernel
theorem dX3_middle_110 : decode cX3_middle 110 = .ok (.iload 11, 2) := by decide +kernel
theorem dX3_middle_112 : decode cX3_middle 112 = .ok (.ifCond .eq 8, 3) := by decide +kernel
theorem dX3_middle_115 : decode cX3_middle 115 = .ok (.lload 5, 2) := by decide +kernel
theorem dX3_middle_117 : decode cX3_middle 117 = .ok (.goto 5, 3) := by decide +kernel
theorem dX3_middle_120 : decode cX3_middle 120 = .ok (.lload 7, 2) := by decide +kernel
theorem dX3_middle_122 : decode cX3_middle 122 = .ok (.invokevirtual 150, 3) := by decide +kernel
theorem dX3_middle_125 : decode cX3_middle 125 = .ok (.ireturn, 1) := by decide +kernel
theorem dX3_width_0 : decode cX3_width 0 = .ok (.aload_n 0, 1) := by decide +kernel
theorem dX3_width_1 : decode cX3_width 1 = .ok (.iload_n 1, 1) := by decide +kernel
theorem dX3_width_2 : decode cX3_width 2 = .ok (.invokestatic 46, 3) := by decide +kernel
theorem dX3_width_5 : decode cX3_width 5 = .ok (.ifCond .eq 16, 3) := by decide +kernel
theorem dX3_width_8 : decode cX3_width 8 = .ok (.aload_n 0, 1) := by decide +kernel
theorem dX3_width_9 : decode cX3_width 9 = .ok (.getfield 16, 3) := by decide +kernel
theorem dX3_width_12 : decode cX3_width 12 = .ok (.iload_n 1, 1) := by decide +kernel
theorem dX3_width_13 : decode cX3_width 13 = .ok (.baload, 1) := by decide +kernel
theorem dX3_width_14 : decode cX3_width 14 = .ok (.ifCond .eq 7, 3) := by decide +kernel
theorem dX3_width_17 : decode cX3_width 17 = .ok (.iconst 0, 1) := by decide +kernel
theorem dX3_width_18 : decode cX3_width 18 = .ok (.goto 4, 3) := by decide +kernel
theorem dX3_width_21 : decode cX3_width 21 = .ok (.iconst 1, 1) := by decide +kernel
theorem dX3_width_22 : decode cX3_width 22 = .ok (.putfield 27, 3) := by decide +kernel
theorem dX3_width_25 : decode cX3_width 25 = .ok (.aload_n 0, 1) := by decide +kernel
theorem dX3_width_26 : decode cX3_width 26 = .ok (.getfield 27, 3) := by decide +kernel
theorem dX3_width_29 : decode cX3_width 29 = .ok (.ifCond .le 5, 3) := by decide +kernel
theorem dX3_width_32 : decode cX3_width 32 = .ok (.iconst 0, 1) := by decide +kernel
theorem dX3_width_33 : decode cX3_width 33 = .ok (.ireturn, 1) := by decide +kernel
theorem dX3_width_34 : decode cX3_width 34 = .ok (.aload_n 0, 1) := by decide +kernel
theorem dX3_width_35 : decode cX3_width 35 = .ok (.getfield 20, 3) := by decide +kernel
theorem dX3_width_38 : decode cX3_width 38 = .ok (.iload_n 1, 1) := by decide +kernel
theorem dX3_width_39 : decode cX3_width 39 = .ok (.laload, 1) := by decide +kernel
theorem dX3_width_40 : decode cX3_width 40 = .ok (.invokestatic 74, 3) := by decide +kernel
theorem dX3_width_43 : decode cX3_width 43 = .ok (.ifCond .eq 19, 3) := by decide +kernel
theorem dX3_width_46 : decode cX3_width 46 = .ok (.aload_n 0, 1) := by decide +kernel
theorem dX3_width_47 : decode cX3_width 47 = .ok (.getfield 24, 3) := by decide +kernel
theorem dX3_width_50 : decode cX3_width 50 = .ok (.iload_n 1, 1) := by decide +kernel
theorem dX3_width_51 : decode cX3_width 51 = .ok (.laload, 1) := by decide +kernel
theorem dX3_width_52 : decode cX3_width 52 = .ok (.invokestatic 74, 3) := by decide +kernel
theorem dX3_width_55 : decode cX3_width 55 = .ok (.ifCond .eq 7, 3) := by decide +kernel
theorem dX3_width_58 : decode cX3_width 58 = .ok (.iconst 1, 1) := by decide +kernel
theorem dX3_width_59 : decode cX3_width 59 = .ok (.goto 4, 3) := by decide +kernel
theorem dX3_width_62 : decode cX3_width 62 = .ok (.iconst 0, 1) := by decide +kernel
theorem dX3_width_63 : decode cX3_width 63 = .ok (.istore_n 2, 1) := by decide +kernel
theorem dX3_width_64 : decode cX3_width 64 = .ok (.aload_n 0, 1) := by decide +kernel
theorem dX3_width_65 : decode cX3_width 65 = .ok (.iload_n 2, 1) := by decide +kernel
theorem dX3_width_66 : decode cX3_width 66 = .ok (.ifCond .eq 25, 3) := by decide +kernel
theorem dX3_width_69 : decode cX3_width 69 = .ok (.aload_n 0, 1) := by decide +kernel
theorem dX3_width_70 : decode cX3_width 70 = .ok (.aload_n 0, 1) := by decide +kernel
theorem dX3_width_71 : decode cX3_width 71 = .ok (.getfield 24, 3) := by decide +kernel
theorem dX3_width_74 : decode cX3_width 74 = .ok (.iload_n 1, 1) := by decide +kernel
theorem dX3_width_75 : decode cX3_width 75 = .ok (.laload, 1) := by decide +kernel
theorem dX3_width_76 : decode cX3_width 76 = .ok (.aload_n 0, 1) := by decide +kernel
theorem dX3_width_77 : decode cX3_width 77 = .ok (.getfield 20, 3) := by decide +kernel
theorem dX3_width_80 : decode cX3_width 80 = .ok (.iload_n 1, 1) := by decide +kernel
theorem dX3_width_81 : decode cX3_width 81 = .ok (.laload, 1) := by decide +kernel
theorem dX3_width_82 : decode cX3_width 82 = .ok (.lsub, 1) := by decide +kernel
theorem dX3_width_83 : decode cX3_width 83 = .ok (.lconst 1, 1) := by decide +kernel
theorem dX3_width_84 : decode cX3_width 84 = .ok (.iconst 1, 1) := by decide +kernel
theorem dX3_width_85 : decode cX3_width 85 = .ok (.invokevirtual 78, 3) := by decide +kernel
theorem dX3_width_88 : decode cX3_width 88 = .ok (.goto 6, 3) := by decide +kernel
theorem dX3_width_91 : decode cX3_width 91 = .ok (.ldc2_w 36, 3) := by decide +kernel
theorem dX3_width_94 : decode cX3_width 94 = .ok (.invokevirtual 150, 3) := by decide +kernel
theorem dX3_width_97 : decode cX3_width 97 = .ok (.ireturn, 1) := by decide +kernel
theorem dX3_compare_0 : decode cX3_compare 0 = .ok (.aload_n 0, 1) := by decide +kernel
theorem dX3_compare_1 : decode cX3_compare 1 = .ok (.iconst 0, 1) := by decide +kernel
theorem dX3_compare_2 : decode cX3_compare 2 = .ok (.putfield 27, 3) := by decide +kernel
theorem dX3_compare_5 : decode cX3_compare 5 = .ok (.iload_n 1, 1) := by decide +kernel
theorem dX3_compare_6 : decode cX3_compare 6 = .ok (.invokestatic 46, 3) := by decide +kernel
theorem dX3_compare_9 : decode cX3_compare 9 = .ok (.ifCond .eq 10, 3) := by decide +kernel
theorem dX3_compare_12 : decode cX3_compare 12 = .ok (.iload_n 2, 1) := by decide +kernel
theorem dX3_compare_13 : decode cX3_compare 13 = .ok (.invokestatic 46, 3) := by decide +kernel
theorem dX3_compare_16 : decode cX3_compare 16 = .ok (.ifCond .ne 5, 3) := by decide +kernel
theorem dX3_compare_19 : decode cX3_compare 19 = .ok (.iconst (-1), 1) := by decide +kernel
theorem dX3_compare_20 : decode cX3_compare 20 = .ok (.ireturn, 1) := by decide +kernel
theorem dX3_compare_21 : decode cX3_compare 21 = .ok (.aload_n 0, 1) := by decide +kernel
theorem dX3_compare_22 : decode cX3_compare 22 = .ok (.getfield 16, 3) := by decide +kernel
theorem dX3_compare_25 : decode cX3_compare 25 = .ok (.iload_n 1, 1) := by decide +kernel
theorem dX3_compare_26 : decode cX3_compare 26 = .ok (.baload, 1) := by decide +kernel
theorem dX3_compare_27 : decode cX3_compare 27 = .ok (.ifCond .eq 12, 3) := by decide +kernel
theorem dX3_compare_30 : decode cX3_compare 30 = .ok (.aload_n 0, 1) := by decide +kernel
theorem dX3_compare_31 : decode cX3_compare 31 = .ok (.getfield 16, 3) := by decide +kernel
theorem dX3_compare_34 : decode cX3_compare 34 = .ok (.iload_n 2, 1) := by decide +kernel
theorem dX3_compare_35 : decode cX3_compare 35 = .ok (.baload, 1) := by decide +kernel
theorem dX3_compare_36 : decode cX3_compare 36 = .ok (.ifCond .ne 5, 3) := by decide +kernel
theorem dX3_compare_39 : decode cX3_compare 39 = .ok (.iconst 0, 1) := by decide +kernel
theorem dX3_compare_40 : decode cX3_compare 40 = .ok (.ireturn, 1) := by decide +kernel
theorem dX3_compare_41 : decode cX3_compare 41 = .ok (.aload_n 0, 1) := by decide +kernel
theorem dX3_compare_42 : decode cX3_compare 42 = .ok (.getfield 20, 3) := by decide +kernel
theorem dX3_compare_45 : decode cX3_compare 45 = .ok (.iload_n 1, 1) := by decide +kernel
theorem dX3_compare_46 : decode cX3_compare 46 = .ok (.laload, 1) := by decide +kernel
theorem dX3_compare_47 : decode cX3_compare 47 = .ok (.lstore_n 3, 1) := by decide +kernel
theorem dX3_compare_48 : decode cX3_compare 48 = .ok (.aload_n 0, 1) := by decide +kernel
theorem dX3_compare_49 : decode cX3_compare 49 = .ok (.getfield 24, 3) := by decide +kernel
theorem dX3_compare_52 : decode cX3_compare 52 = .ok (.iload_n 1, 1) := by decide +kernel
theorem dX3_compare_53 : decode cX3_compare 53 = .ok (.laload, 1) := by decide +kernel
theorem dX3_compare_54 : decode cX3_compare 54 = .ok (.lstore 5, 2) := by decide +kernel
theorem dX3_compare_56 : decode cX3_compare 56 = .ok (.aload_n 0, 1) := by decide +kernel
theorem dX3_compare_57 : decode cX3_compare 57 = .ok (.getfield 20, 3) := by decide +kernel
theorem dX3_compare_60 : decode cX3_compare 60 = .ok (.iload_n 2, 1) := by decide +kernel
theorem dX3_compare_61 : decode cX3_compare 61 = .ok (.laload, 1) := by decide +kernel
theorem dX3_compare_62 : decode cX3_compare 62 = .ok (.lstore 7, 2) := by decide +kernel
theorem dX3_compare_64 : decode cX3_compare 64 = .ok (.aload_n 0, 1) := by decide +kernel
theorem dX3_compare_65 : decode cX3_compare 65 = .ok (.getfield 24, 3) := by decide +kernel
theorem dX3_compare_68 : decode cX3_compare 68 = .ok (.iload_n 2, 1) := by decide +kernel
theorem dX3_compare_69 : decode cX3_compare 69 = .ok (.laload, 1) := by decide +kernel
theorem dX3_compare_70 : decode cX3_compare 70 = .ok (.lstore 9, 2) := by decide +kernel
theorem dX3_compare_72 : decode cX3_compare 72 = .ok (.lload_n 3, 1) := by decide +kernel
theorem dX3_compare_73 : decode cX3_compare 73 = .ok (.lload 9, 2) := by decide +kernel
theorem dX3_compare_75 : decode cX3_compare 75 = .ok (.lcmp, 1) := by decide +kernel
theorem dX3_compare_76 : decode cX3_compare 76 = .ok (.ifCond .ge 7, 3) := by decide +kernel
theorem dX3_compare_79 : decode cX3_compare 79 = .ok (.iconst 1, 1) := by decide +kernel
theorem dX3_compare_80 : decode cX3_compare 80 = .ok (.goto 4, 3) := by decide +kernel
theorem dX3_compare_83 : decode cX3_compare 83 = .ok (.iconst 0, 1) := by decide +kernel
theorem dX3_compare_84 : decode cX3_compare 84 = .ok (.istore 11, 2) := by decide +kernel
theorem dX3_compare_86 : decode cX3_compare 86 = .ok (.lload_n 3, 1) := by decide +kernel
theorem dX3_compare_87 : decode cX3_compare 87 = .ok (.lload 7, 2) := by decide +kernel
theorem dX3_compare_89 : decode cX3_compare 89 = .ok (.invokestatic 113, 3) := by decide +kernel
theorem dX3_compare_92 : decode cX3_compare 92 = .ok (.lload 5, 2) := by decide +kernel
theorem dX3_compare_94 : decode cX3_compare 94 = .ok (.lload 9, 2) := by decide +kernel
theorem dX3_compare_96 : decode cX3_compare 96 = .ok (.invokestatic 123, 3) := by decide +kernel
theorem dX3_compare_99 : decode cX3_compare 99 = .ok (.lcmp, 1) := by decide +kernel
theorem dX3_compare_100 : decode cX3_compare 100 = .ok (.ifCond .gt 6, 3) := by decide +kernel
theorem dX3_compare_103 : decode cX3_compare 103 = .ok (.iinc 11 2, 3) := by decide +kernel
theorem dX3_compare_106 : decode cX3_compare 106 = .ok (.lload 5, 2) := by decide +kernel
theorem dX3_compare_108 : decode cX3_compare 108 = .ok (.lload 7, 2) := by decide +kernel
theorem dX3_compare_110 : decode cX3_compare 110 = .ok (.lcmp, 1) := by decide +kernel
theorem dX3_compare_111 : decode cX3_compare 111 = .ok (.ifCond .le 6, 3) := by decide +kernel
theorem dX3_compare_114 : decode cX3_compare 114 = .ok (.iinc 11 4, 3) := by decide +kernel
theorem dX3_compare_117 : decode cX3_compare 117 = .ok (.lload_n 3, 1) := by decide +kernel
theorem dX3_compare_118 : decode cX3_compare 118 = .ok (.lload 7, 2) := by decide +kernel
theorem dX3_compare_120 : decode cX3_compare 120 = .ok (.lcmp, 1) := by decide +kernel
theorem dX3_compare_121 : decode cX3_compare 121 = .ok (.ifCond .lt 14, 3) := by decide +kernel
theorem dX3_compare_124 : decode cX3_compare 124 = .ok (.lload 5, 2) := by decide +kernel
theorem dX3_compare_126 : decode cX3_compare 126 = .ok (.lload 9, 2) := by decide +kernel
theorem dX3_compare_128 : decode cX3_compare 128 = .ok (.lcmp, 1) := by decide +kernel
theorem dX3_compare_129 : decode cX3_compare 129 = .ok (.ifCond .gt 6, 3) := by decide +kernel
theorem dX3_compare_132 : decode cX3_compare 132 = .ok (.iinc 11 8, 3) := by decide +kernel
theorem dX3_compare_135 : decode cX3_compare 135 = .ok (.lload 7, 2) := by decide +kernel
theorem dX3_compare_137 : decode cX3_compare 137 = .ok (.lload_n 3, 1) := by decide +kernel
theorem dX3_compare_138 : decode cX3_compare 138 = .ok (.lcmp, 1) := by decide +kernel
theorem dX3_compare_139 : decode cX3_compare 139 = .ok (.ifCond .lt 14, 3) := by decide +kernel
theorem dX3_compare_142 : decode cX3_compare 142 = .ok (.lload 9, 2) := by decide +kernel
theorem dX3_compare_144 : decode cX3_compare 144 = .ok (.lload 5, 2) := by decide +kernel
theorem dX3_compare_146 : decode cX3_compare 146 = .ok (.lcmp, 1) := by decide +kernel
theorem dX3_compare_147 : decode cX3_compare 147 = .ok (.ifCond .gt 6, 3) := by decide +kernel
theorem dX3_compare_150 : decode cX3_compare 150 = .ok (.iinc 11 16, 3) := by decide +kernel
theorem dX3_compare_153 : decode cX3_compare 153 = .ok (.lload_n 3, 1) := by decide +kernel
theorem dX3_compare_154 : decode cX3_compare 154 = .ok (.lload 7, 2) := by decide +kernel
theorem dX3_compare_156 : decode cX3_compare 156 = .ok (.lcmp, 1) := by decide +kernel
theorem dX3_compare_157 : decode cX3_compare 157 = .ok (.ifCond .ne 14, 3) := by decide +kernel
theorem dX3_compare_160 : decode cX3_compare 160 = .ok (.lload 5, 2) := by decide +kernel
theorem dX3_compare_162 : decode cX3_compare 162 = .ok (.lload 9, 2) := by decide +kernel
theorem dX3_compare_164 : decode cX3_compare 164 = .ok (.lcmp, 1) := by decide +kernel
theorem dX3_compare_165 : decode cX3_compare 165 = .ok (.ifCond .ne 6, 3) := by decide +kernel
theorem dX3_compare_168 : decode cX3_compare 168 = .ok (.iinc 11 32, 3) := by decide +kernel
theorem dX3_compare_171 : decode cX3_compare 171 = .ok (.iload 11, 2) := by decide +kernel
theorem dX3_compare_173 : decode cX3_compare 173 = .ok (.ireturn, 1) := by decide +kernel
theorem dX3_has_0 : decode cX3_has 0 = .ok (.aload_n 0, 1) := by decide +kernel
theorem dX3_has_1 : decode cX3_has 1 = .ok (.iconst 0, 1) := by decide +kernel
theorem dX3_has_2 : decode cX3_has 2 = .ok (.putfield 27, 3) := by decide +kernel
theorem dX3_has_5 : decode cX3_has 5 = .ok (.iload_n 1, 1) := by decide +kernel
theorem dX3_has_6 : decode cX3_has 6 = .ok (.invokestatic 46, 3) := by decide +kernel
theorem dX3_has_9 : decode cX3_has 9 = .ok (.ifCond .eq 20, 3) := by decide +kernel
theorem dX3_has_12 : decode cX3_has 12 = .ok (.aload_n 0, 1) := by decide +kernel
theorem dX3_has_13 : decode cX3_has 13 = .ok (.getfield 16, 3) := by decide +kernel
theorem dX3_has_16 : decode cX3_has 16 = .ok (.iload_n 1, 1) := by decide +kernel
theorem dX3_has_17 : decode cX3_has 17 = .ok (.baload, 1) := by decide +kernel
theorem dX3_has_18 : decode cX3_has 18 = .ok (.ifCond .eq 11, 3) := by decide +kernel
theorem dX3_has_21 : decode cX3_has 21 = .ok (.aload_n 0, 1) := by decide +kernel
theorem dX3_has_22 : decode cX3_has 22 = .ok (.iload_n 2, 1) := by decide +kernel
theorem dX3_has_23 : decode cX3_has 23 = .ok (.invokevirtual 50, 3) := by decide +kernel
theorem dX3_has_26 : decode cX3_has 26 = .ok (.ifCond .ne 5, 3) := by decide +kernel
theorem dX3_has_29 : decode cX3_has 29 = .ok (.iconst 0, 1) := by decide +kernel
theorem dX3_has_30 : decode cX3_has 30 = .ok (.ireturn, 1) := by decide +kernel
theorem dX3_has_31 : decode cX3_has 31 = .ok (.aload_n 0, 1) := by decide +kernel
theorem dX3_has_32 : decode cX3_has 32 = .ok (.iload_n 2, 1) := by decide +kernel
theorem dX3_has_33 : decode cX3_has 33 = .ok (.invokevirtual 53, 3) := by decide +kernel
theorem dX3_has_36 : decode cX3_has 36 = .ok (.lstore_n 3, 1) := by decide +kernel
theorem dX3_has_37 : decode cX3_has 37 = .ok (.lload_n 3, 1) := by decide +kernel
theorem dX3_has_38 : decode cX3_has 38 = .ok (.invokestatic 74, 3) := by decide +kernel
theorem dX3_has_41 : decode cX3_has 41 = .ok (.ifCond .eq 29, 3) := by decide +kernel
theorem dX3_has_44 : decode cX3_has 44 = .ok (.lload_n 3, 1) := by decide +kernel
theorem dX3_has_45 : decode cX3_has 45 = .ok (.aload_n 0, 1) := by decide +kernel
theorem dX3_has_46 : decode cX3_has 46 = .ok (.getfield 20, 3) := by decide +kernel
theorem dX3_has_49 : decode cX3_has 49 = .ok (.iload_n 1, 1) := by decide +kernel
theorem dX3_has_50 : decode cX3_has 50 = .ok (.laload, 1) := by decide +kernel
theorem dX3_has_51 : decode cX3_has 51 = .ok (.lcmp, 1) := by decide +kernel
theorem dX3_has_52 : decode cX3_has 52 = .ok (.ifCond .lt 18, 3) := by decide +kernel
theorem dX3_has_55 : decode cX3_has 55 = .ok (.lload_n 3, 1) := by decide +kernel
theorem dX3_has_56 : decode cX3_has 56 = .ok (.aload_n 0, 1) := by decide +kernel
theorem dX3_has_57 : decode cX3_has 57 = .ok (.getfield 24, 3) := by decide +kernel
theorem dX3_has_60 : decode cX3_has 60 = .ok (.iload_n 1, 1) := by decide +kernel
theorem dX3_has_61 : decode cX3_has 61 = .ok (.laload, 1) := by decide +kernel
theorem dX3_has_62 : decode cX3_has 62 = .ok (.lcmp, 1) := by decide +kernel
theorem dX3_has_63 : decode cX3_has 63 = .ok (.ifCond .gt 7, 3) := by decide +kernel
theorem dX3_has_66 : decode cX3_has 66 = .ok (.iconst 1, 1) := by decide +kernel
theorem dX3_has_67 : decode cX3_has 67 = .ok (.goto 4, 3) := by decide +kernel
theorem dX3_has_70 : decode cX3_has 70 = .ok (.iconst 0, 1) := by decide +kernel
theorem dX3_has_71 : decode cX3_has 71 = .ok (.ireturn, 1) := by decide +kernel
end
section
-- THE REFERENCE'S WORLD: the object, its three arrays, and whatever else Z
abbrev mw_C : Type := (Int32 × Int32 × Int32) × ((Nat → Bool) × (Nat → Int64) × (Nat → Int64)) × (Bool × Int64 × Int64) × (Bool × Int64 × Int64)
abbrev mw_G : Type := Nat × Nat × Nat × Nat × ClassId × ClassId
def bM (G : mw_G) : Nat := G.1
def bB (G : mw_G) : Nat := G.2.1
def bL (G : mw_G) : Nat := G.2.2.1
def bH (G : mw_G) : Nat := G.2.2.2.1
def bZ (G : mw_G) : ClassId := G.2.2.2.2.1
def bJ (G : mw_G) : ClassId := G.2.2.2.2.2
def mw_far : Int64 := 1125899906842624
def z_i (b : Bool) : Int32 := if b = true then 1 else 0
def z_t (v : Int32) : Bool := decide (¬ v = 0)
theorem z_i01 (b : Bool) : z_i b = 0 ∨ z_i b = 1 := by cases b <;> decide
theorem z_ite01 {p : Prop} [Decidable p] {a b : Int32} (ha : a = 0 ∨ a = 1) (hb : b = 0 ∨ b = 1) : (if p then a else b) = 0 ∨ (if p then a else b) = 1 := by
  split
  · exact ha
  · exact hb
theorem z_it {v : Int32} (h : v = 0 ∨ v = 1) : z_i (z_t v) = v := by rcases h with rfl | rfl <;> decide
def mp_thrown (c : mw_C) (v : Int32) : mw_C := ((v, c.1.2), c.2)
def mp_widthE (c : mw_C) (v : Int32) : mw_C := ((c.1.1, v, c.1.2.2), c.2)
def mp_widthM (c : mw_C) (v : Int32) : mw_C := ((c.1.1, c.1.2.1, v), c.2)
def mp_some (c : mw_C) (f : Nat → Bool) : mw_C := (c.1, (f, c.2.1.2), c.2.2)
def mp_lows (c : mw_C) (f : Nat → Int64) : mw_C := (c.1, (c.2.1.1, f, c.2.1.2.2), c.2.2)
def mp_highs (c : mw_C) (f : Nat → Int64) : mw_C := (c.1, (c.2.1.1, c.2.1.2.1, f), c.2.2)
def mp_is (c : mw_C) (v : Bool) : mw_C := (c.1, c.2.1, (v, c.2.2.1.2), c.2.2.2)
def mp_from (c : mw_C) (v : Int64) : mw_C := (c.1, c.2.1, (c.2.2.1.1, v, c.2.2.1.2.2), c.2.2.2)
def mp_to (c : mw_C) (v : Int64) : mw_C := (c.1, c.2.1, (c.2.2.1.1, c.2.2.1.2.1, v), c.2.2.2)
def mp_isPart (c : mw_C) (v : Bool) : mw_C := (c.1, c.2.1, c.2.2.1, (v, c.2.2.2.2))
def mp_partFrom (c : mw_C) (v : Int64) : mw_C := (c.1, c.2.1, c.2.2.1, (c.2.2.2.1, v, c.2.2.2.2.2))
def mp_partTo (c : mw_C) (v : Int64) : mw_C := (c.1, c.2.1, c.2.2.1, (c.2.2.2.1, c.2.2.2.2.1, v))
def mw_l (G : mw_G) (c : mw_C) : List Value := [.int c.1.1, .int c.1.2.1, .int c.1.2.2, .ref (bB G), .ref (bL G), .ref (bH G), .int (z_i c.2.2.1.1), .long c.2.2.1.2.1, .long c.2.2.1.2.2, .int (z_i c.2.2.2.1), .long c.2.2.2.2.1, .long c.2.2.2.2.2]
def mw_W (G : mw_G) (c : mw_C) (Z : va_W) : va_W :=
  (bM G, .inr (3, mw_l G c)) :: (bB G, .inl (bZ G, 8, .inl (fun j => z_i (c.2.1.1 j)))) :: (bL G, .inl (bJ G, 8, .inr (.inl c.2.1.2.1))) :: (bH G, .inl (bJ G, 8, .inr (.inl c.2.1.2.2))) :: Z
def mw_ok (ty : List (ClassId × FieldType)) (sz : Nat) (G : mw_G) (Z : va_W) : Prop := ty[1]? = some (bZ G, .boolean) ∧ ty[2]? = some (bJ G, .long) ∧ ∀ c : mw_C, va_D (kp_A sz) (mw_W G c Z)
theorem ul_M : ∀ w ∈ u_ws RX3 TX3 12, w ∈ lw_tbl ∧ kp_w w = true := by decide +kernel
theorem km_12 {j : Nat} (h : j < 12) : j = 0 ∨ j = 1 ∨ j = 2 ∨ j = 3 ∨ j = 4 ∨ j = 5 ∨ j = 6 ∨ j = 7 ∨ j = 8 ∨ j = 9 ∨ j = 10 ∨ j = 11 := by omega
section KMR
variable {p : Program} {l : Launch} {e : Env} {R : Room} {s : State} {m : MethodId} {args : Array Value} {below : List Frame} {meth : Method} {cd : Code} {H : Heap} {locs : List Loc} {cells slots : Nat} {Q : State → Prop}
variable {own : String} {cc : ByteArray} {nL : Nat} {ret : Option FieldType} {D : va_G} {ty : List (ClassId × FieldType)} {sz pc idx : Nat} {ls : Array Slot} {rest : List Value} {G : mw_G} {c M' : mw_C} {Z : va_W}
theorem km_same {j : Nat} (hj : j < 12) {s : State} : ∀ x, s.fieldFound? (TX3 j).1 (TX3 j).2.1 (TX3 j).2.2.1 = some x → s.fieldFound? RX3 (TX3 j).2.1 (TX3 j).2.2.1 = some x := by
  intro x h
  rcases km_12 hj with rfl | rfl | rfl | rfl | rfl | rfl | rfl | rfl | rfl | rfl | rfl | rfl <;> exact h
theorem km_get {j : Nat} {v : Value} (B : kp_B p l s m args meth cd own cc nL ret D ty sz) (hP : va_P D vwCl (mw_W G c Z) H) (hv : (mw_l G c)[j]? = some v) (hj : j < 12)
    (hl : Cond.fieldLink own idx RX3 (TX3 j).2.1 (TX3 j).2.2.1 ∈ lw_tbl) (hdg : decode cc pc = .ok (.getfield idx, 3))
    (kk : W p l e R s m args below meth cd H locs cells slots Q (F0 m (pc + 3) ls (v :: rest))) : W p l e R s m args below meth cd H locs cells slots Q (F0 m pc ls (.ref (bM G) :: rest)) := by
  obtain ⟨hx, hb, hml, ho, hlk, hr, hw, hE, hK, hz⟩ := B
  exact va_get (D := D) (ci := 3) (C := RX3) (T := TX3) (N := 12) (ref := RX3) hx hb (Ts := u_ws RX3 TX3 12) (fun w h => hw w (ul_M w h).1 (ul_M w h).2) (fun _ h => h) ho hK hP 0 rfl rfl j hj (hw _ hl rfl) (km_same hj) hv hdg kk
theorem km_put {j : Nat} {v : Value} {t : FieldType} (B : kp_B p l s m args meth cd own cc nL ret D ty sz) (hG : mw_ok ty sz G Z) (hP : va_P D vwCl (mw_W G c Z) H) (hS : va_S (kp_A sz) s.heap H locs) (hj : j < 12)
    (hnf : (TX3 j).2.2.2 = false) (hty : parseFieldDescriptor (TX3 j).2.2.1 = some t) (hn : narrow t v = v) (hf : fits t v = true) (hM : ((mw_W G c Z).set 0 (bM G, .inr (3, (mw_l G c).set j v))) = mw_W G M' Z)
    (hl : Cond.fieldLink own idx RX3 (TX3 j).2.1 (TX3 j).2.2.1 ∈ lw_tbl) (hdg : decode cc pc = .ok (.putfield idx, 3))
    (kk : ∀ (H1 : Heap) (locs1 : List Loc), va_P D vwCl (mw_W G M' Z) H1 → va_S (kp_A sz) s.heap H1 locs1 → W p l e R s m args below meth cd H1 locs1 cells slots Q (F0 m (pc + 3) ls rest)) : W p l e R s m args below meth cd H locs cells slots Q (F0 m pc ls (v :: .ref (bM G) :: rest)) := by
  obtain ⟨hx, hb, hml, ho, hlk, hr, hw, hE, hK, hz⟩ := B
  exact va_put (D := D) (ci := 3) (v := v) (ty := t) (C := RX3) (T := TX3) (N := 12) (ref := RX3) hx hb (Ts := u_ws RX3 TX3 12) (fun w h => hw w (ul_M w h).1 (ul_M w h).2) (fun _ h => h) tyX3 tyX3_ok nmX3 ho hK hP (hG.2.2 c) hS 0 rfl rfl j hj (hw _ hl rfl) (km_same hj) hnf hty hn hf hj hdg (fun H1 locs1 hP1 hD1 hS1 => kk H1 locs1 (hM ▸ hP1) hS1)
theorem km_putZ {j : Nat} {v : Int32} (B : kp_B p l s m args meth cd own cc nL ret D ty sz) (hG : mw_ok ty sz G Z) (hP : va_P D vwCl (mw_W G c Z) H) (hS : va_S (kp_A sz) s.heap H locs) (hj : j < 12)
    (hnf : (TX3 j).2.2.2 = false) (hty : parseFieldDescriptor (TX3 j).2.2.1 = some .boolean) (h01 : v = 0 ∨ v = 1) (hM : ((mw_W G c Z).set 0 (bM G, .inr (3, (mw_l G c).set j (.int (z_i (z_t v)))))) = mw_W G M' Z)
    (hl : Cond.fieldLink own idx RX3 (TX3 j).2.1 (TX3 j).2.2.1 ∈ lw_tbl) (hdg : decode cc pc = .ok (.putfield idx, 3))
    (kk : ∀ (H1 : Heap) (locs1 : List Loc), va_P D vwCl (mw_W G M' Z) H1 → va_S (kp_A sz) s.heap H1 locs1 → W p l e R s m args below meth cd H1 locs1 cells slots Q (F0 m (pc + 3) ls rest)) : W p l e R s m args below meth cd H locs cells slots Q (F0 m pc ls (.int v :: .ref (bM G) :: rest)) := by
  rw [z_it h01] at hM
  exact km_put (t := .boolean) B hG hP hS hj hnf hty (by rcases h01 with rfl | rfl <;> rfl) (by rcases h01 with rfl | rfl <;> rfl) hM hl hdg kk
theorem km_put0 {v : Int32} (B : kp_B p l s m args meth cd own cc nL ret D ty sz) (hG : mw_ok ty sz G Z) (hP : va_P D vwCl (mw_W G c Z) H) (hS : va_S (kp_A sz) s.heap H locs) (hM : mp_thrown c v = M')
    (hl : Cond.fieldLink own idx RX3 (TX3 0).2.1 (TX3 0).2.2.1 ∈ lw_tbl) (hdg : decode cc pc = .ok (.putfield idx, 3))
    (kk : ∀ (H1 : Heap) (locs1 : List Loc), va_P D vwCl (mw_W G M' Z) H1 → va_S (kp_A sz) s.heap H1 locs1 → W p l e R s m args below meth cd H1 locs1 cells slots Q (F0 m (pc + 3) ls rest)) : W p l e R s m args below meth cd H locs cells slots Q (F0 m pc ls (.int v :: .ref (bM G) :: rest)) :=
  km_put (t := .int) B hG hP hS (by decide) rfl (by decide +kernel) rfl rfl (hM ▸ rfl) hl hdg kk
theorem km_put1 {v : Int32} (B : kp_B p l s m args meth cd own cc nL ret D ty sz) (hG : mw_ok ty sz G Z) (hP : va_P D vwCl (mw_W G c Z) H) (hS : va_S (kp_A sz) s.heap H locs) (hM : mp_widthE c v = M')
    (hl : Cond.fieldLink own idx RX3 (TX3 1).2.1 (TX3 1).2.2.1 ∈ lw_tbl) (hdg : decode cc pc = .ok (.putfield idx, 3))
    (kk : ∀ (H1 : Heap) (locs1 : List Loc), va_P D vwCl (mw_W G M' Z) H1 → va_S (kp_A sz) s.heap H1 locs1 → W p l e R s m args below meth cd H1 locs1 cells slots Q (F0 m (pc + 3) ls rest)) : W p l e R s m args below meth cd H locs cells slots Q (F0 m pc ls (.int v :: .ref (bM G) :: rest)) :=
  km_put (t := .int) B hG hP hS (by decide) rfl (by decide +kernel) rfl rfl (hM ▸ rfl) hl hdg kk
theorem km_put2 {v : Int32} (B : kp_B p l s m args meth cd own cc nL ret D ty sz) (hG : mw_ok ty sz G Z) (hP : va_P D vwCl (mw_W G c Z) H) (hS : va_S (kp_A sz) s.heap H locs) (hM : mp_widthM c v = M')
    (hl : Cond.fieldLink own idx RX3 (TX3 2).2.1 (TX3 2).2.2.1 ∈ lw_tbl) (hdg : decode cc pc = .ok (.putfield idx, 3))
    (kk : ∀ (H1 : Heap) (locs1 : List Loc), va_P D vwCl (mw_W G M' Z) H1 → va_S (kp_A sz) s.heap H1 locs1 → W p l e R s m args below meth cd H1 locs1 cells slots Q (F0 m (pc + 3) ls rest)) : W p l e R s m args below meth cd H locs cells slots Q (F0 m pc ls (.int v :: .ref (bM G) :: rest)) :=
  km_put (t := .int) B hG hP hS (by decide) rfl (by decide +kernel) rfl rfl (hM ▸ rfl) hl hdg kk
theorem km_put6 {v : Int32} (B : kp_B p l s m args meth cd own cc nL ret D ty sz) (hG : mw_ok ty sz G Z) (hP : va_P D vwCl (mw_W G c Z) H) (hS : va_S (kp_A sz) s.heap H locs) (h01 : v = 0 ∨ v = 1) (hM : mp_is c (z_t v) = M')
    (hl : Cond.fieldLink own idx RX3 (TX3 6).2.1 (TX3 6).2.2.1 ∈ lw_tbl) (hdg : decode cc pc = .ok (.putfield idx, 3))
    (kk : ∀ (H1 : Heap) (locs1 : List Loc), va_P D vwCl (mw_W G M' Z) H1 → va_S (kp_A sz) s.heap H1 locs1 → W p l e R s m args below meth cd H1 locs1 cells slots Q (F0 m (pc + 3) ls rest)) : W p l e R s m args below meth cd H locs cells slots Q (F0 m pc ls (.int v :: .ref (bM G) :: rest)) :=
  km_putZ B hG hP hS (by decide) rfl (by decide +kernel) h01 (hM ▸ rfl) hl hdg kk
theorem km_put7 {v : Int64} (B : kp_B p l s m args meth cd own cc nL ret D ty sz) (hG : mw_ok ty sz G Z) (hP : va_P D vwCl (mw_W G c Z) H) (hS : va_S (kp_A sz) s.heap H locs) (hM : mp_from c v = M')
    (hl : Cond.fieldLink own idx RX3 (TX3 7).2.1 (TX3 7).2.2.1 ∈ lw_tbl) (hdg : decode cc pc = .ok (.putfield idx, 3))
    (kk : ∀ (H1 : Heap) (locs1 : List Loc), va_P D vwCl (mw_W G M' Z) H1 → va_S (kp_A sz) s.heap H1 locs1 → W p l e R s m args below meth cd H1 locs1 cells slots Q (F0 m (pc + 3) ls rest)) : W p l e R s m args below meth cd H locs cells slots Q (F0 m pc ls (.long v :: .ref (bM G) :: rest)) :=
  km_put (t := .long) B hG hP hS (by decide) rfl (by decide +kernel) rfl rfl (hM ▸ rfl) hl hdg kk
theorem km_put8 {v : Int64} (B : kp_B p l s m args meth cd own cc nL ret D ty sz) (hG : mw_ok ty sz G Z) (hP : va_P D vwCl (mw_W G c Z) H) (hS : va_S (kp_A sz) s.heap H locs) (hM : mp_to c v = M')
    (hl : Cond.fieldLink own idx RX3 (TX3 8).2.1 (TX3 8).2.2.1 ∈ lw_tbl) (hdg : decode cc pc = .ok (.putfield idx, 3))
    (kk : ∀ (H1 : Heap) (locs1 : List Loc), va_P D vwCl (mw_W G M' Z) H1 → va_S (kp_A sz) s.heap H1 locs1 → W p l e R s m args below meth cd H1 locs1 cells slots Q (F0 m (pc + 3) ls rest)) : W p l e R s m args below meth cd H locs cells slots Q (F0 m pc ls (.long v :: .ref (bM G) :: rest)) :=
  km_put (t := .long) B hG hP hS (by decide) rfl (by decide +kernel) rfl rfl (hM ▸ rfl) hl hdg kk
theorem km_put9 {v : Int32} (B : kp_B p l s m args meth cd own cc nL ret D ty sz) (hG : mw_ok ty sz G Z) (hP : va_P D vwCl (mw_W G c Z) H) (hS : va_S (kp_A sz) s.heap H locs) (h01 : v = 0 ∨ v = 1) (hM : mp_isPart c (z_t v) = M')
    (hl : Cond.fieldLink own idx RX3 (TX3 9).2.1 (TX3 9).2.2.1 ∈ lw_tbl) (hdg : decode cc pc = .ok (.putfield idx, 3))
    (kk : ∀ (H1 : Heap) (locs1 : List Loc), va_P D vwCl (mw_W G M' Z) H1 → va_S (kp_A sz) s.heap H1 locs1 → W p l e R s m args below meth cd H1 locs1 cells slots Q (F0 m (pc + 3) ls rest)) : W p l e R s m args below meth cd H locs cells slots Q (F0 m pc ls (.int v :: .ref (bM G) :: rest)) :=
  km_putZ B hG hP hS (by decide) rfl (by decide +kernel) h01 (hM ▸ rfl) hl hdg kk
theorem km_put10 {v : Int64} (B : kp_B p l s m args meth cd own cc nL ret D ty sz) (hG : mw_ok ty sz G Z) (hP : va_P D vwCl (mw_W G c Z) H) (hS : va_S (kp_A sz) s.heap H locs) (hM : mp_partFrom c v = M')
    (hl : Cond.fieldLink own idx RX3 (TX3 10).2.1 (TX3 10).2.2.1 ∈ lw_tbl) (hdg : decode cc pc = .ok (.putfield idx, 3))
    (kk : ∀ (H1 : Heap) (locs1 : List Loc), va_P D vwCl (mw_W G M' Z) H1 → va_S (kp_A sz) s.heap H1 locs1 → W p l e R s m args below meth cd H1 locs1 cells slots Q (F0 m (pc + 3) ls rest)) : W p l e R s m args below meth cd H locs cells slots Q (F0 m pc ls (.long v :: .ref (bM G) :: rest)) :=
  km_put (t := .long) B hG hP hS (by decide) rfl (by decide +kernel) rfl rfl (hM ▸ rfl) hl hdg kk
theorem km_put11 {v : Int64} (B : kp_B p l s m args meth cd own cc nL ret D ty sz) (hG : mw_ok ty sz G Z) (hP : va_P D vwCl (mw_W G c Z) H) (hS : va_S (kp_A sz) s.heap H locs) (hM : mp_partTo c v = M')
    (hl : Cond.fieldLink own idx RX3 (TX3 11).2.1 (TX3 11).2.2.1 ∈ lw_tbl) (hdg : decode cc pc = .ok (.putfield idx, 3))
    (kk : ∀ (H1 : Heap) (locs1 : List Loc), va_P D vwCl (mw_W G M' Z) H1 → va_S (kp_A sz) s.heap H1 locs1 → W p l e R s m args below meth cd H1 locs1 cells slots Q (F0 m (pc + 3) ls rest)) : W p l e R s m args below meth cd H locs cells slots Q (F0 m pc ls (.long v :: .ref (bM G) :: rest)) :=
  km_put (t := .long) B hG hP hS (by decide) rfl (by decide +kernel) rfl rfl (hM ▸ rfl) hl hdg kk
theorem km_zald {i v : Int32} (B : kp_B p l s m args meth cd own cc nL ret D ty sz) (hG : mw_ok ty sz G Z) (hP : va_P D vwCl (mw_W G c Z) H) (hi : vp_in i 8) (hv : z_i (c.2.1.1 i.toNatClampNeg) = v) (hdg : decode cc pc = .ok (.baload, 1))
    (kk : W p l e R s m args below meth cd H locs cells slots Q (F0 m (pc + 1) ls (.int v :: rest))) : W p l e R s m args below meth cd H locs cells slots Q (F0 m pc ls (.int i :: .ref (bB G) :: rest)) := by
  obtain ⟨hx, hb, hml, ho, hlk, hr, hw, hE, hK, hz⟩ := B
  subst hv
  exact va_zald (D := D) hx hb hK hP 1 1 rfl hG.1 hi hdg kk
theorem km_lald {i : Int32} {v : Int64} (B : kp_B p l s m args meth cd own cc nL ret D ty sz) (hG : mw_ok ty sz G Z) (hP : va_P D vwCl (mw_W G c Z) H) (hi : vp_in i 8) (hv : c.2.1.2.1 i.toNatClampNeg = v) (hdg : decode cc pc = .ok (.laload, 1))
    (kk : W p l e R s m args below meth cd H locs cells slots Q (F0 m (pc + 1) ls (.long v :: rest))) : W p l e R s m args below meth cd H locs cells slots Q (F0 m pc ls (.int i :: .ref (bL G) :: rest)) := by
  obtain ⟨hx, hb, hml, ho, hlk, hr, hw, hE, hK, hz⟩ := B
  subst hv
  exact va_lald (D := D) hx hb hK hP 2 2 rfl hG.2.1 hi hdg kk
theorem km_hald {i : Int32} {v : Int64} (B : kp_B p l s m args meth cd own cc nL ret D ty sz) (hG : mw_ok ty sz G Z) (hP : va_P D vwCl (mw_W G c Z) H) (hi : vp_in i 8) (hv : c.2.1.2.2 i.toNatClampNeg = v) (hdg : decode cc pc = .ok (.laload, 1))
    (kk : W p l e R s m args below meth cd H locs cells slots Q (F0 m (pc + 1) ls (.long v :: rest))) : W p l e R s m args below meth cd H locs cells slots Q (F0 m pc ls (.int i :: .ref (bH G) :: rest)) := by
  obtain ⟨hx, hb, hml, ho, hlk, hr, hw, hE, hK, hz⟩ := B
  subst hv
  exact va_lald (D := D) hx hb hK hP 3 2 rfl hG.2.1 hi hdg kk
theorem km_zast {i v : Int32} (B : kp_B p l s m args meth cd own cc nL ret D ty sz) (hG : mw_ok ty sz G Z) (hP : va_P D vwCl (mw_W G c Z) H) (hS : va_S (kp_A sz) s.heap H locs) (hi : vp_in i 8) (h01 : v = 0 ∨ v = 1)
    (hM : mp_some c (va_up c.2.1.1 i.toNatClampNeg (z_t v)) = M') (hdg : decode cc pc = .ok (.bastore, 1))
    (kk : ∀ (H1 : Heap) (locs1 : List Loc), va_P D vwCl (mw_W G M' Z) H1 → va_S (kp_A sz) s.heap H1 locs1 → W p l e R s m args below meth cd H1 locs1 cells slots Q (F0 m (pc + 1) ls rest)) : W p l e R s m args below meth cd H locs cells slots Q (F0 m pc ls (.int v :: .int i :: .ref (bB G) :: rest)) := by
  obtain ⟨hx, hb, hml, ho, hlk, hr, hw, hE, hK, hz⟩ := B
  subst hM
  refine va_zast (D := D) hx hb hK hP (hG.2.2 c) hS 1 1 rfl hG.1 hi hdg (fun H1 locs1 hP1 hD1 hS1 => kk H1 locs1 ?_ hS1)
  have hnar : vp_nar .boolean v = z_i (z_t v) := by rcases h01 with rfl | rfl <;> decide
  have hf : upd (fun j => z_i (c.2.1.1 j)) i.toNatClampNeg (vp_nar .boolean v) = fun j => z_i (va_up c.2.1.1 i.toNatClampNeg (z_t v) j) := by
    funext j
    unfold upd va_up
    rw [hnar]
    split <;> rfl
  rw [hf] at hP1
  exact hP1
theorem km_last {i : Int32} {v : Int64} (B : kp_B p l s m args meth cd own cc nL ret D ty sz) (hG : mw_ok ty sz G Z) (hP : va_P D vwCl (mw_W G c Z) H) (hS : va_S (kp_A sz) s.heap H locs) (hi : vp_in i 8)
    (hM : mp_lows c (va_up c.2.1.2.1 i.toNatClampNeg v) = M') (hdg : decode cc pc = .ok (.lastore, 1))
    (kk : ∀ (H1 : Heap) (locs1 : List Loc), va_P D vwCl (mw_W G M' Z) H1 → va_S (kp_A sz) s.heap H1 locs1 → W p l e R s m args below meth cd H1 locs1 cells slots Q (F0 m (pc + 1) ls rest)) : W p l e R s m args below meth cd H locs cells slots Q (F0 m pc ls (.long v :: .int i :: .ref (bL G) :: rest)) := by
  obtain ⟨hx, hb, hml, ho, hlk, hr, hw, hE, hK, hz⟩ := B
  subst hM
  exact va_last (D := D) hx hb hK hP (hG.2.2 c) hS 2 2 rfl hG.2.1 hi hdg (fun H1 locs1 hP1 hD1 hS1 => kk H1 locs1 hP1 hS1)
theorem km_hast {i : Int32} {v : Int64} (B : kp_B p l s m args meth cd own cc nL ret D ty sz) (hG : mw_ok ty sz G Z) (hP : va_P D vwCl (mw_W G c Z) H) (hS : va_S (kp_A sz) s.heap H locs) (hi : vp_in i 8)
    (hM : mp_highs c (va_up c.2.1.2.2 i.toNatClampNeg v) = M') (hdg : decode cc pc = .ok (.lastore, 1))
    (kk : ∀ (H1 : Heap) (locs1 : List Loc), va_P D vwCl (mw_W G M' Z) H1 → va_S (kp_A sz) s.heap H1 locs1 → W p l e R s m args below meth cd H1 locs1 cells slots Q (F0 m (pc + 1) ls rest)) : W p l e R s m args below meth cd H locs cells slots Q (F0 m pc ls (.long v :: .int i :: .ref (bH G) :: rest)) := by
  obtain ⟨hx, hb, hml, ho, hlk, hr, hw, hE, hK, hz⟩ := B
  subst hM
  exact va_last (D := D) hx hb hK hP (hG.2.2 c) hS 3 2 rfl hG.2.1 hi hdg (fun H1 locs1 hP1 hD1 hS1 => kk H1 locs1 hP1 hS1)
theorem km_rc (B : kp_B p l s m args meth cd own cc nL ret D ty sz) (hP : va_P D vwCl (mw_W G c Z) H) : ∃ cell : Cell, H[bM G]? = some cell ∧ cell.vm.isStatics = false ∧ s.vm.findClass RX3 = some cell.cls := va_recv B.2.2.2.2.2.2.2.2.1 hP (ci := 3) (q0 := 0) (q := (RX3, TX3, 12)) rfl rfl
end KMR
end
section
theorem kw_244 : Cond.fieldLink RX3 27 RX3 "thrown" "I" ∈ lw_tbl := by decide +kernel
theorem kw_245 : Cond.fieldLink RX3 7 RX3 "widthE" "I" ∈ lw_tbl := by decide +kernel
theorem kw_246 : Cond.fieldLink RX3 13 RX3 "widthM" "I" ∈ lw_tbl := by decide +kernel
theorem kw_247 : Cond.constantLong RX3 30 2 ∈ lw_tbl := by decide +kernel
theorem kw_248 : Cond.code yX3_endless cX3_endless 1 (some .int) ∈ lw_tbl := by decide +kernel
theorem kw_249 : Cond.initialized yX3_endless.cls ∈ lw_tbl := by decide +kernel
theorem kt_m_endless : kp_T yX3_endless cX3_endless 1 (some .int) 0 := ⟨kw_248, kw_249, by decide +kernel, by decide +kernel⟩
theorem kw_250 : Cond.methodLink RX3 32 yX3_endless ∈ lw_tbl := by decide +kernel
theorem kw_251 : Cond.instanceMethod yX3_endless ∈ lw_tbl := by decide +kernel
theorem kw_252 : Cond.selects yX3_endless.cls yX3_endless yX3_endless ∈ lw_tbl := by decide +kernel
theorem kw_253 : Cond.constantLong RX3 36 1125899906842624 ∈ lw_tbl := by decide +kernel
theorem kw_254 : Cond.code yX3_length cX3_length 3 (some .int) ∈ lw_tbl := by decide +kernel
theorem kw_255 : Cond.initialized yX3_length.cls ∈ lw_tbl := by decide +kernel
theorem kt_m_length : kp_T yX3_length cX3_length 3 (some .int) 1 := ⟨kw_254, kw_255, by decide +kernel, by decide +kernel⟩
theorem kw_256 : Cond.methodLink RX3 38 yX3_length ∈ lw_tbl := by decide +kernel
theorem kw_257 : Cond.static yX3_length ∈ lw_tbl := by decide +kernel
theorem kw_258 : Cond.code yX3_most cX3_most 1 (some .long) ∈ lw_tbl := by decide +kernel
theorem kw_259 : Cond.initialized yX3_most.cls ∈ lw_tbl := by decide +kernel
theorem kt_m_most : kp_T yX3_most cX3_most 1 (some .long) 0 := ⟨kw_258, kw_259, by decide +kernel, by decide +kernel⟩
theorem kw_260 : Cond.methodLink RX3 42 yX3_most ∈ lw_tbl := by decide +kernel
theorem kw_261 : Cond.instanceMethod yX3_most ∈ lw_tbl := by decide +kernel
theorem kw_262 : Cond.selects yX3_most.cls yX3_most yX3_most ∈ lw_tbl := by decide +kernel
theorem kw_263 : Cond.constantLong RX3 57 (-1125899906842624) ∈ lw_tbl := by decide +kernel
theorem kw_264 : Cond.code yX3_isEnd cX3_isEnd 2 (some .boolean) ∈ lw_tbl := by decide +kernel
theorem kw_265 : Cond.initialized yX3_isEnd.cls ∈ lw_tbl := by decide +kernel
theorem kt_m_isEnd : kp_T yX3_isEnd cX3_isEnd 2 (some .boolean) 1 := ⟨kw_264, kw_265, by decide +kernel, by decide +kernel⟩
theorem kw_266 : Cond.methodLink RX3 74 yX3_isEnd ∈ lw_tbl := by decide +kernel
theorem kw_267 : Cond.static yX3_isEnd ∈ lw_tbl := by decide +kernel
theorem kw_268 : Cond.fieldLink RX3 59 RX3 "is" "Z" ∈ lw_tbl := by decide +kernel
theorem kw_269 : Cond.code yX3_rounded cX3_rounded 14 (some .long) ∈ lw_tbl := by decide +kernel
theorem kw_270 : Cond.initialized yX3_rounded.cls ∈ lw_tbl := by decide +kernel
theorem kt_m_rounded : kp_T yX3_rounded cX3_rounded 14 (some .long) 3 := ⟨kw_269, kw_270, by decide +kernel, by decide +kernel⟩
theorem kw_271 : Cond.methodLink RX3 78 yX3_rounded ∈ lw_tbl := by decide +kernel
theorem kw_272 : Cond.instanceMethod yX3_rounded ∈ lw_tbl := by decide +kernel
theorem kw_273 : Cond.selects yX3_rounded.cls yX3_rounded yX3_rounded ∈ lw_tbl := by decide +kernel
theorem kw_274 : Cond.fieldLink RX3 63 RX3 "from" "J" ∈ lw_tbl := by decide +kernel
theorem kw_275 : Cond.fieldLink RX3 67 RX3 "to" "J" ∈ lw_tbl := by decide +kernel
theorem kw_276 : Cond.code yX3_times cX3_times 4 (some .long) ∈ lw_tbl := by decide +kernel
theorem kw_277 : Cond.initialized yX3_times.cls ∈ lw_tbl := by decide +kernel
theorem kt_m_times : kp_T yX3_times cX3_times 4 (some .long) 2 := ⟨kw_276, kw_277, by decide +kernel, by decide +kernel⟩
theorem kw_278 : Cond.methodLink RX3 82 yX3_times ∈ lw_tbl := by decide +kernel
theorem kw_279 : Cond.static yX3_times ∈ lw_tbl := by decide +kernel
theorem kw_280 : Cond.code yX3_fine cX3_fine 1 (some .int) ∈ lw_tbl := by decide +kernel
theorem kw_281 : Cond.initialized yX3_fine.cls ∈ lw_tbl := by decide +kernel
theorem kt_m_fine : kp_T yX3_fine cX3_fine 1 (some .int) 0 := ⟨kw_280, kw_281, by decide +kernel, by decide +kernel⟩
theorem kw_282 : Cond.methodLink RX3 86 yX3_fine ∈ lw_tbl := by decide +kernel
theorem kw_283 : Cond.instanceMethod yX3_fine ∈ lw_tbl := by decide +kernel
theorem kw_284 : Cond.selects yX3_fine.cls yX3_fine yX3_fine ∈ lw_tbl := by decide +kernel
theorem kw_285 : Cond.code yX3_span cX3_span 7 none ∈ lw_tbl := by decide +kernel
theorem kw_286 : Cond.initialized yX3_span.cls ∈ lw_tbl := by decide +kernel
theorem kt_m_span : kp_T yX3_span cX3_span 7 none 3 := ⟨kw_285, kw_286, by decide +kernel, by decide +kernel⟩
theorem kw_287 : Cond.methodLink RX3 89 yX3_span ∈ lw_tbl := by decide +kernel
theorem kw_288 : Cond.instanceMethod yX3_span ∈ lw_tbl := by decide +kernel
theorem kw_289 : Cond.selects yX3_span.cls yX3_span yX3_span ∈ lw_tbl := by decide +kernel
theorem kw_290 : Cond.fieldLink RX3 93 RX3 "isPart" "Z" ∈ lw_tbl := by decide +kernel
theorem kw_291 : Cond.code yX3_quotient cX3_quotient 6 (some .long) ∈ lw_tbl := by decide +kernel
theorem kw_292 : Cond.initialized yX3_quotient.cls ∈ lw_tbl := by decide +kernel
theorem kt_m_quotient : kp_T yX3_quotient cX3_quotient 6 (some .long) 3 := ⟨kw_291, kw_292, by decide +kernel, by decide +kernel⟩
theorem kw_293 : Cond.methodLink RX3 96 yX3_quotient ∈ lw_tbl := by decide +kernel
theorem kw_294 : Cond.instanceMethod yX3_quotient ∈ lw_tbl := by decide +kernel
theorem kw_295 : Cond.selects yX3_quotient.cls yX3_quotient yX3_quotient ∈ lw_tbl := by decide +kernel
theorem kw_296 : Cond.fieldLink RX3 99 RX3 "partFrom" "J" ∈ lw_tbl := by decide +kernel
theorem kw_297 : Cond.fieldLink RX3 102 RX3 "partTo" "J" ∈ lw_tbl := by decide +kernel
theorem kw_298 : Cond.fieldLink RX3 16 RX3 "some" "[Z" ∈ lw_tbl := by decide +kernel
theorem kw_299 : Cond.fieldLink RX3 20 RX3 "lows" "[J" ∈ lw_tbl := by decide +kernel
theorem kw_300 : Cond.fieldLink RX3 24 RX3 "highs" "[J" ∈ lw_tbl := by decide +kernel
theorem kw_301 : Cond.code yX3_ratio cX3_ratio 9 none ∈ lw_tbl := by decide +kernel
theorem kw_302 : Cond.initialized yX3_ratio.cls ∈ lw_tbl := by decide +kernel
theorem kt_m_ratio : kp_T yX3_ratio cX3_ratio 9 none 4 := ⟨kw_301, kw_302, by decide +kernel, by decide +kernel⟩
theorem kw_303 : Cond.methodLink RX3 105 yX3_ratio ∈ lw_tbl := by decide +kernel
theorem kw_304 : Cond.instanceMethod yX3_ratio ∈ lw_tbl := by decide +kernel
theorem kw_305 : Cond.selects yX3_ratio.cls yX3_ratio yX3_ratio ∈ lw_tbl := by decide +kernel
theorem kw_306 : Cond.code yX3_root cX3_root 5 (some .long) ∈ lw_tbl := by decide +kernel
theorem kw_307 : Cond.initialized yX3_root.cls ∈ lw_tbl := by decide +kernel
theorem kt_m_root : kp_T yX3_root cX3_root 5 (some .long) 1 := ⟨kw_306, kw_307, by decide +kernel, by decide +kernel⟩
theorem kw_308 : Cond.methodLink RX3 109 yX3_root ∈ lw_tbl := by decide +kernel
theorem kw_309 : Cond.static yX3_root ∈ lw_tbl := by decide +kernel
theorem kw_310 : Cond.code yX3_more cX3_more 4 (some .long) ∈ lw_tbl := by decide +kernel
theorem kw_311 : Cond.initialized yX3_more.cls ∈ lw_tbl := by decide +kernel
theorem kt_m_more : kp_T yX3_more cX3_more 4 (some .long) 2 := ⟨kw_310, kw_311, by decide +kernel, by decide +kernel⟩
theorem kw_312 : Cond.methodLink RX3 113 yX3_more ∈ lw_tbl := by decide +kernel
theorem kw_313 : Cond.static yX3_more ∈ lw_tbl := by decide +kernel
theorem kw_314 : Cond.code yX3_isPlace cX3_isPlace 1 (some .boolean) ∈ lw_tbl := by decide +kernel
theorem kw_315 : Cond.initialized yX3_isPlace.cls ∈ lw_tbl := by decide +kernel
theorem kt_m_isPlace : kp_T yX3_isPlace cX3_isPlace 1 (some .boolean) 1 := ⟨kw_314, kw_315, by decide +kernel, by decide +kernel⟩
theorem kw_316 : Cond.methodLink RX3 46 yX3_isPlace ∈ lw_tbl := by decide +kernel
theorem kw_317 : Cond.static yX3_isPlace ∈ lw_tbl := by decide +kernel
theorem kw_318 : Cond.code yX3_kind cX3_kind 2 (some .int) ∈ lw_tbl := by decide +kernel
theorem kw_319 : Cond.initialized yX3_kind.cls ∈ lw_tbl := by decide +kernel
theorem kt_m_kind : kp_T yX3_kind cX3_kind 2 (some .int) 1 := ⟨kw_318, kw_319, by decide +kernel, by decide +kernel⟩
theorem kw_320 : Cond.methodLink RX3 70 yX3_kind ∈ lw_tbl := by decide +kernel
theorem kw_321 : Cond.instanceMethod yX3_kind ∈ lw_tbl := by decide +kernel
theorem kw_322 : Cond.selects yX3_kind.cls yX3_kind yX3_kind ∈ lw_tbl := by decide +kernel
theorem kw_323 : Cond.code yX3_plus cX3_plus 6 (some .long) ∈ lw_tbl := by decide +kernel
theorem kw_324 : Cond.initialized yX3_plus.cls ∈ lw_tbl := by decide +kernel
theorem kt_m_plus : kp_T yX3_plus cX3_plus 6 (some .long) 3 := ⟨kw_323, kw_324, by decide +kernel, by decide +kernel⟩
theorem kw_325 : Cond.methodLink RX3 116 yX3_plus ∈ lw_tbl := by decide +kernel
theorem kw_326 : Cond.static yX3_plus ∈ lw_tbl := by decide +kernel
theorem kw_327 : Cond.code yX3_product cX3_product 16 none ∈ lw_tbl := by decide +kernel
theorem kw_328 : Cond.initialized yX3_product.cls ∈ lw_tbl := by decide +kernel
theorem kt_m_product : kp_T yX3_product cX3_product 16 none 4 := ⟨kw_327, kw_328, by decide +kernel, by decide +kernel⟩
theorem kw_329 : Cond.methodLink RX3 120 yX3_product ∈ lw_tbl := by decide +kernel
theorem kw_330 : Cond.instanceMethod yX3_product ∈ lw_tbl := by decide +kernel
theorem kw_331 : Cond.selects yX3_product.cls yX3_product yX3_product ∈ lw_tbl := by decide +kernel
theorem kw_332 : Cond.code yX3_less cX3_less 4 (some .long) ∈ lw_tbl := by decide +kernel
theorem kw_333 : Cond.initialized yX3_less.cls ∈ lw_tbl := by decide +kernel
theorem kt_m_less : kp_T yX3_less cX3_less 4 (some .long) 2 := ⟨kw_332, kw_333, by decide +kernel, by decide +kernel⟩
theorem kw_334 : Cond.methodLink RX3 123 yX3_less ∈ lw_tbl := by decide +kernel
theorem kw_335 : Cond.static yX3_less ∈ lw_tbl := by decide +kernel
theorem kw_336 : Cond.code yX3_sizes cX3_sizes 5 none ∈ lw_tbl := by decide +kernel
theorem kw_337 : Cond.initialized yX3_sizes.cls ∈ lw_tbl := by decide +kernel
theorem kt_m_sizes : kp_T yX3_sizes cX3_sizes 5 none 2 := ⟨kw_336, kw_337, by decide +kernel, by decide +kernel⟩
theorem kw_338 : Cond.methodLink RX3 126 yX3_sizes ∈ lw_tbl := by decide +kernel
theorem kw_339 : Cond.instanceMethod yX3_sizes ∈ lw_tbl := by decide +kernel
theorem kw_340 : Cond.selects yX3_sizes.cls yX3_sizes yX3_sizes ∈ lw_tbl := by decide +kernel
theorem kw_341 : Cond.code yX3_roots cX3_roots 9 none ∈ lw_tbl := by decide +kernel
theorem kw_342 : Cond.initialized yX3_roots.cls ∈ lw_tbl := by decide +kernel
theorem kt_m_roots : kp_T yX3_roots cX3_roots 9 none 2 := ⟨kw_341, kw_342, by decide +kernel, by decide +kernel⟩
theorem kw_343 : Cond.methodLink RX3 130 yX3_roots ∈ lw_tbl := by decide +kernel
theorem kw_344 : Cond.instanceMethod yX3_roots ∈ lw_tbl := by decide +kernel
theorem kw_345 : Cond.selects yX3_roots.cls yX3_roots yX3_roots ∈ lw_tbl := by decide +kernel
theorem kw_346 : Cond.code yX3_isPattern cX3_isPattern 2 (some .boolean) ∈ lw_tbl := by decide +kernel
theorem kw_347 : Cond.initialized yX3_isPattern.cls ∈ lw_tbl := by decide +kernel
theorem kt_m_isPattern : kp_T yX3_isPattern cX3_isPattern 2 (some .boolean) 1 := ⟨kw_346, kw_347, by decide +kernel, by decide +kernel⟩
theorem kw_348 : Cond.methodLink RX3 50 yX3_isPattern ∈ lw_tbl := by decide +kernel
theorem kw_349 : Cond.instanceMethod yX3_isPattern ∈ lw_tbl := by decide +kernel
theorem kw_350 : Cond.selects yX3_isPattern.cls yX3_isPattern yX3_isPattern ∈ lw_tbl := by decide +kernel
theorem kw_351 : Cond.code yX3_number cX3_number 8 (some .long) ∈ lw_tbl := by decide +kernel
theorem kw_352 : Cond.initialized yX3_number.cls ∈ lw_tbl := by decide +kernel
theorem kt_m_number : kp_T yX3_number cX3_number 8 (some .long) 1 := ⟨kw_351, kw_352, by decide +kernel, by decide +kernel⟩
theorem kw_353 : Cond.methodLink RX3 53 yX3_number ∈ lw_tbl := by decide +kernel
theorem kw_354 : Cond.instanceMethod yX3_number ∈ lw_tbl := by decide +kernel
theorem kw_355 : Cond.selects yX3_number.cls yX3_number yX3_number ∈ lw_tbl := by decide +kernel
theorem kw_356 : Cond.code yX3_raise cX3_raise 2 (some .int) ∈ lw_tbl := by decide +kernel
theorem kw_357 : Cond.initialized yX3_raise.cls ∈ lw_tbl := by decide +kernel
theorem kt_m_raise : kp_T yX3_raise cX3_raise 2 (some .int) 1 := ⟨kw_356, kw_357, by decide +kernel, by decide +kernel⟩
theorem kw_358 : Cond.methodLink RX3 133 yX3_raise ∈ lw_tbl := by decide +kernel
theorem kw_359 : Cond.instanceMethod yX3_raise ∈ lw_tbl := by decide +kernel
theorem kw_360 : Cond.selects yX3_raise.cls yX3_raise yX3_raise ∈ lw_tbl := by decide +kernel
theorem kw_361 : Cond.code yX3_alone cX3_alone 5 none ∈ lw_tbl := by decide +kernel
theorem kw_362 : Cond.initialized yX3_alone.cls ∈ lw_tbl := by decide +kernel
theorem kt_m_alone : kp_T yX3_alone cX3_alone 5 none 2 := ⟨kw_361, kw_362, by decide +kernel, by decide +kernel⟩
theorem kw_363 : Cond.methodLink RX3 136 yX3_alone ∈ lw_tbl := by decide +kernel
theorem kw_364 : Cond.instanceMethod yX3_alone ∈ lw_tbl := by decide +kernel
theorem kw_365 : Cond.selects yX3_alone.cls yX3_alone yX3_alone ∈ lw_tbl := by decide +kernel
theorem kw_366 : Cond.code yX3_keep cX3_keep 2 (some .int) ∈ lw_tbl := by decide +kernel
theorem kw_367 : Cond.initialized yX3_keep.cls ∈ lw_tbl := by decide +kernel
theorem kt_m_keep : kp_T yX3_keep cX3_keep 2 (some .int) 1 := ⟨kw_366, kw_367, by decide +kernel, by decide +kernel⟩
theorem kw_368 : Cond.methodLink RX3 147 yX3_keep ∈ lw_tbl := by decide +kernel
theorem kw_369 : Cond.instanceMethod yX3_keep ∈ lw_tbl := by decide +kernel
theorem kw_370 : Cond.selects yX3_keep.cls yX3_keep yX3_keep ∈ lw_tbl := by decide +kernel
theorem kw_371 : Cond.code yX3_two cX3_two 12 none ∈ lw_tbl := by decide +kernel
theorem kw_372 : Cond.initialized yX3_two.cls ∈ lw_tbl := by decide +kernel
theorem kt_m_two : kp_T yX3_two cX3_two 12 none 3 := ⟨kw_371, kw_372, by decide +kernel, by decide +kernel⟩
theorem kw_373 : Cond.methodLink RX3 143 yX3_two ∈ lw_tbl := by decide +kernel
theorem kw_374 : Cond.instanceMethod yX3_two ∈ lw_tbl := by decide +kernel
theorem kw_375 : Cond.selects yX3_two.cls yX3_two yX3_two ∈ lw_tbl := by decide +kernel
theorem kw_376 : Cond.code yX3_divide cX3_divide 3 none ∈ lw_tbl := by decide +kernel
theorem kw_377 : Cond.initialized yX3_divide.cls ∈ lw_tbl := by decide +kernel
theorem kt_m_divide : kp_T yX3_divide cX3_divide 3 none 2 := ⟨kw_376, kw_377, by decide +kernel, by decide +kernel⟩
theorem kw_378 : Cond.methodLink RX3 140 yX3_divide ∈ lw_tbl := by decide +kernel
theorem kw_379 : Cond.instanceMethod yX3_divide ∈ lw_tbl := by decide +kernel
theorem kw_380 : Cond.selects yX3_divide.cls yX3_divide yX3_divide ∈ lw_tbl := by decide +kernel
theorem kw_381 : Cond.code yX3_pattern cX3_pattern 7 (some .int) ∈ lw_tbl := by decide +kernel
theorem kw_382 : Cond.initialized yX3_pattern.cls ∈ lw_tbl := by decide +kernel
theorem kt_m_pattern : kp_T yX3_pattern cX3_pattern 7 (some .int) 1 := ⟨kw_381, kw_382, by decide +kernel, by decide +kernel⟩
theorem kw_383 : Cond.methodLink RX3 150 yX3_pattern ∈ lw_tbl := by decide +kernel
theorem kw_384 : Cond.instanceMethod yX3_pattern ∈ lw_tbl := by decide +kernel
theorem kw_385 : Cond.selects yX3_pattern.cls yX3_pattern yX3_pattern ∈ lw_tbl := by decide +kernel
end
section
def F_m_isPlace (x : Int32) : Int32 :=
  if x < (0 : Int32) then (0 : Int32) else (if (8 : Int32) ≤ x then (0 : Int32) else (1 : Int32))
def rm_m_isPlace : Room := { frames := 0, cells := 0, slots := 0, locals := 0 }
set_option maxHeartbeats 4000000 in
set_option maxRecDepth 100000 in
theorem C_m_isPlace (l : Launch) (D : va_G) (ty : List (ClassId × FieldType)) (sz : Nat) (G : mw_G) (Z : va_W) (hG : mw_ok ty sz G Z) (c : mw_C) (x : Int32) : kp_R l yX3_isPlace cX3_isPlace 1 (some .boolean) rm_m_isPlace D ty sz [.int x] (mw_W G c Z) (some (.int (F_m_isPlace x))) := by
  refine kp_bodyR (by decide) (Nat.le_of_ble_eq_true rfl) rfl ?_
  intro p e s m args below meth cd ls B hl hP hS
  obtain ⟨hx, hb, hml, hown, hlk, hr, hw, hE, hK, hsz⟩ := id B
  have hl : lv_has ls 1 [(0, .int x)] := hl
  refine lv_iload_n hx hb dX3_isPlace_0 rfl (lv_at hl 0 rfl) ?_
  refine lv_if_lt (tgt := 14) hx hb dX3_isPlace_1 (by decide) (fun q_1 => ?_) (fun q_1 => ?_)
  · refine lv_iconst (v := (0 : Int32)) hx hb dX3_isPlace_14 (by decide) ?_
    exact kp_retzR B (by simp only [F_m_isPlace, if_pos q_1]) (Or.inl rfl) dX3_isPlace_15
  · refine lv_iload_n hx hb dX3_isPlace_4 rfl (lv_at hl 0 rfl) ?_
    refine lv_bipush (v := (8 : Int32)) hx hb dX3_isPlace_5 (by decide) ?_
    refine lv_icmp_ge (tgt := 14) hx hb dX3_isPlace_7 (by decide) (fun q_2 => ?_) (fun q_2 => ?_)
    · refine lv_iconst (v := (0 : Int32)) hx hb dX3_isPlace_14 (by decide) ?_
      exact kp_retzR B (by simp only [F_m_isPlace, if_neg q_1, if_pos q_2]) (Or.inl rfl) dX3_isPlace_15
    · refine lv_iconst (v := (1 : Int32)) hx hb dX3_isPlace_10 (by decide) ?_
      refine lv_goto (tgt := 15) hx hb dX3_isPlace_11 (by decide) ?_
      exact kp_retzR B (by simp only [F_m_isPlace, if_neg q_1, if_neg q_2]) (Or.inr rfl) dX3_isPlace_15
theorem km_87a {x : Int32} (h : (8 : Int32) ≤ x) : ¬ x ≤ (7 : Int32) := by
  intro q
  rw [Int32.le_iff_toInt_le] at h q
  exact absurd (Int.le_trans h q) (by decide)
theorem km_87b {x : Int32} (h : ¬ (8 : Int32) ≤ x) : x ≤ (7 : Int32) := by
  have h := Int32.not_le.mp h
  rw [Int32.lt_iff_toInt_lt] at h
  rw [Int32.le_iff_toInt_le]
  have h1 : x.toInt < 8 := h
  show x.toInt ≤ 7
  omega
theorem ki_gt0 {x : Int64} (q : (0 : Int64) < x) : ¬ x = 0 := fun h => by rw [h] at q; exact absurd q (by decide)
theorem km_inP {x : Int32} (q : ¬ (F_m_isPlace x) = (0 : Int32)) : vp_in x 8 := by
  unfold F_m_isPlace at q
  by_cases h1 : x < 0
  · exact absurd (if_pos h1) q
  · rw [if_neg h1] at q
    by_cases h2 : (8 : Int32) ≤ x
    · exact absurd (if_pos h2) q
    · have a1 := Int32.not_lt.mp h1
      have a2 := Int32.not_le.mp h2
      rw [Int32.le_iff_toInt_le] at a1
      rw [Int32.lt_iff_toInt_lt] at a2
      exact vp_in_iff.mpr ⟨a1, a2⟩
theorem km_inT {c : mw_C} {x v : Int32} (q : (mp_thrown c (if (F_m_isPlace x) = (0 : Int32) then (1 : Int32) else v)).1.1 ≤ (0 : Int32)) : vp_in x 8 := by
  by_cases h : (F_m_isPlace x) = (0 : Int32)
  · rw [if_pos h] at q
    exact absurd q (by show ¬ (1 : Int32) ≤ 0; decide)
  · exact km_inP h
theorem km_inite {p : Prop} [Decidable p] {a b : Int32} (ha : vp_in a 8) (hb : vp_in b 8) : vp_in (if p then a else b) 8 := by
  split
  · exact ha
  · exact hb
theorem km_sum0 {y z : Int32} (q1 : ¬ (F_m_isPlace y) = (0 : Int32)) (q2 : ¬ z < (1 : Int32)) (q3 : z ≤ ((8 : Int32) - y)) : (0 ≤ y.toInt ∧ 1 ≤ z.toInt ∧ y.toInt + z.toInt ≤ 8 ∧ y.toInt ≤ y.toInt ∧ y.toInt ≤ y.toInt + z.toInt) ∧ y.toInt + z.toInt + 1 ≤ y.toInt + ((9 : Nat) : Int) := by
  have h1 := vp_in_iff.mp (km_inP q1)
  have h2 := Int32.not_lt.mp q2
  rw [Int32.le_iff_toInt_le] at h2 q3
  have e : ((8 : Int32) - y).toInt = 8 - y.toInt := by
    rw [Int32.toInt_sub, show (8 : Int32).toInt = 8 from rfl, Int.bmod_eq_of_le (by omega) (by omega)]
  rw [e] at q3
  have h3 : (1 : Int) ≤ z.toInt := h2
  omega
theorem km_amt (s : Int64) : ∃ n, n < 64 ∧ s &&& 63 = lN n := by
  refine ⟨s.toBitVec.toNat % 64, Nat.mod_lt _ (by decide), ?_⟩
  apply Int64.toBitVec_inj.mp
  apply BitVec.eq_of_toNat_eq
  rw [Int64.toBitVec_and, BitVec.toNat_and, show (63 : Int64).toBitVec.toNat = 2 ^ 6 - 1 from rfl, Nat.and_two_pow_sub_one_eq_mod]
  show _ = (BitVec.ofNat 64 _).toNat
  rw [BitVec.toNat_ofNat, Nat.mod_eq_of_lt (a := s.toBitVec.toNat % 64) (by have := Nat.mod_lt s.toBitVec.toNat (show 0 < 64 by decide); omega)]
theorem km_shl1 (s : Int64) : ¬ (1 : Int64) <<< (s &&& 63) = 0 := by
  obtain ⟨n, hn, e⟩ := km_amt s
  rw [e]
  have h : ∀ n : Fin 64, ¬ (1 : Int64) <<< lN n.val = 0 := by decide
  exact h ⟨n, hn⟩
theorem ki_len {x : Int64} {i : Int32} {n : Nat} (h1 : 0 ≤ i.toInt) (h3 : i.toInt ≤ 63) (q : ¬ (x >>> (i.toInt64 &&& 63)) ≤ (0 : Int64)) (h2 : 64 ≤ i.toInt + ((n + 1 : Nat) : Int)) : 0 ≤ (i + 1).toInt ∧ 64 ≤ (i + 1).toInt + (n : Int) ∧ (i + 1).toInt ≤ 63 := by
  have hq : i.toInt ≠ 63 := by
    intro h
    have e : i = 63 := Int32.toInt_inj.mp h
    subst e
    apply q
    rw [Int64.le_iff_toInt_le]
    have h9 : (x >>> ((63 : Int32).toInt64 &&& 63)).toInt = x.toInt >>> 63 := by
      rw [show ((63 : Int32).toInt64 &&& 63) = (63 : Int64) from by decide]
      show (x.toBitVec.sshiftRight' ((63 : Int64).toBitVec.smod 64)).toInt = _
      rw [BitVec.toInt_sshiftRight']
      rfl
    rw [h9, Int.shiftRight_eq_div_pow]
    have hlt := x.toInt_lt
    show x.toInt / ((2 ^ 63 : Nat) : Int) ≤ 0
    have := Int.ediv_lt_of_lt_mul (a := x.toInt) (b := 1) (c := ((2 ^ 63 : Nat) : Int)) (by decide) (by omega)
    omega
  have e : (i + 1).toInt = i.toInt + 1 := by
    rw [Int32.toInt_add, show (1 : Int32).toInt = 1 from rfl, Int.bmod_eq_of_le (by omega) (by omega)]
  rw [e]
  omega
theorem ki_up4 {i : Int32} {n : Nat} (h1 : 0 ≤ i.toInt) (h3 : i.toInt ≤ 4) (q : ¬ (4 : Int32) ≤ i) (h2 : 5 ≤ i.toInt + ((n + 1 : Nat) : Int)) : 0 ≤ (i + 1).toInt ∧ 5 ≤ (i + 1).toInt + (n : Int) ∧ (i + 1).toInt ≤ 4 := by
  have hq : i.toInt < 4 := by
    have h := Int32.not_le.mp q
    rw [Int32.lt_iff_toInt_lt] at h
    exact h
  have e : (i + 1).toInt = i.toInt + 1 := by
    rw [Int32.toInt_add, show (1 : Int32).toInt = 1 from rfl, Int.bmod_eq_of_le (by omega) (by omega)]
  rw [e]
  omega
theorem kc_out7 {x : Int32} (h0 : ¬ x = 0) (h1 : ¬ x = 1) (h2 : ¬ x = 2) (h3 : ¬ x = 3) (h4 : ¬ x = 4) (h5 : ¬ x = 5) (h6 : ¬ x = 6) : x.toInt < 0 ∨ 6 < x.toInt := by
  have a0 : x.toInt ≠ 0 := fun h => h0 (Int32.toInt_inj.mp h)
  have a1 : x.toInt ≠ 1 := fun h => h1 (Int32.toInt_inj.mp h)
  have a2 : x.toInt ≠ 2 := fun h => h2 (Int32.toInt_inj.mp h)
  have a3 : x.toInt ≠ 3 := fun h => h3 (Int32.toInt_inj.mp h)
  have a4 : x.toInt ≠ 4 := fun h => h4 (Int32.toInt_inj.mp h)
  have a5 : x.toInt ≠ 5 := fun h => h5 (Int32.toInt_inj.mp h)
  have a6 : x.toInt ≠ 6 := fun h => h6 (Int32.toInt_inj.mp h)
  omega
theorem kc_out3 {x : Int32} (h0 : ¬ x = 8) (h1 : ¬ x = 9) (h2 : ¬ x = 10) : x.toInt < 8 ∨ 10 < x.toInt := by
  have a0 : x.toInt ≠ 8 := fun h => h0 (Int32.toInt_inj.mp h)
  have a1 : x.toInt ≠ 9 := fun h => h1 (Int32.toInt_inj.mp h)
  have a2 : x.toInt ≠ 10 := fun h => h2 (Int32.toInt_inj.mp h)
  omega
def F_m_thrown (c : mw_C) : Int32 :=
  c.1.1
def rm_m_thrown : Room := { frames := 0, cells := 0, slots := 0, locals := 0 }
set_option maxHeartbeats 4000000 in
set_option maxRecDepth 100000 in
theorem C_m_thrown (l : Launch) (D : va_G) (ty : List (ClassId × FieldType)) (sz : Nat) (G : mw_G) (Z : va_W) (hG : mw_ok ty sz G Z) (c : mw_C)  : kp_R l yX3_thrown cX3_thrown 1 (some .int) rm_m_thrown D ty sz [.ref (bM G)] (mw_W G c Z) (some (.int (F_m_thrown c))) := by
  refine kp_bodyR (by decide) (Nat.le_of_ble_eq_true rfl) rfl ?_
  intro p e s m args below meth cd ls B hl hP hS
  obtain ⟨hx, hb, hml, hown, hlk, hr, hw, hE, hK, hsz⟩ := id B
  have hl : lv_has ls 1 [(0, .ref (bM G))] := hl
  refine lv_aload_n hx hb dX3_thrown_0 rfl (lv_at hl 0 rfl) ?_
  refine km_get (j := 0) (v := .int c.1.1) B hP rfl (by decide) kw_244 dX3_thrown_1 ?_
  exact kp_retiR B rfl dX3_thrown_4
def F_m_raise (c : mw_C) (x : Int32) : Int32 :=
  (0 : Int32)
def S_m_raise (c : mw_C) (x : Int32) : mw_C :=
  mp_thrown c x
def rm_m_raise : Room := { frames := 0, cells := 0, slots := 0, locals := 0 }
set_option maxHeartbeats 4000000 in
set_option maxRecDepth 100000 in
theorem C_m_raise (l : Launch) (D : va_G) (ty : List (ClassId × FieldType)) (sz : Nat) (G : mw_G) (Z : va_W) (hG : mw_ok ty sz G Z) (c : mw_C) (x : Int32) : kp_M l yX3_raise cX3_raise 2 (some .int) rm_m_raise D ty sz [.ref (bM G), .int x] (mw_W G c Z) (some (.int (F_m_raise c x))) (mw_W G (S_m_raise c x) Z) := by
  refine kp_body (by decide) (Nat.le_of_ble_eq_true rfl) rfl ?_
  intro p e s m args below meth cd ls B hin hl hP hS
  obtain ⟨hx, hb, hml, hown, hlk, hr, hw, hE, hK, hsz⟩ := id B
  have hl : lv_has ls 2 [(0, .ref (bM G)), (1, .int x)] := hl
  refine lv_aload_n hx hb dX3_raise_0 rfl (lv_at hl 0 rfl) ?_
  refine lv_iload_n hx hb dX3_raise_1 rfl (lv_at hl 1 rfl) ?_
  refine km_put0 (v := x) (M' := mp_thrown c x) B hG hP hS rfl kw_244 dX3_raise_2 (fun H locs hP hS => ?_)
  refine lv_iconst (v := (0 : Int32)) hx hb dX3_raise_5 (by decide) ?_
  exact kp_reti B hP hS rfl dX3_raise_6
def F_m_fine (c : mw_C) : Int32 :=
  (((1 : Int32) <<< ((c.1.2.1 - (1 : Int32)) &&& 31)) - (2 : Int32)) + c.1.2.2
def rm_m_fine : Room := { frames := 0, cells := 0, slots := 0, locals := 0 }
set_option maxHeartbeats 4000000 in
set_option maxRecDepth 100000 in
theorem C_m_fine (l : Launch) (D : va_G) (ty : List (ClassId × FieldType)) (sz : Nat) (G : mw_G) (Z : va_W) (hG : mw_ok ty sz G Z) (c : mw_C)  : kp_R l yX3_fine cX3_fine 1 (some .int) rm_m_fine D ty sz [.ref (bM G)] (mw_W G c Z) (some (.int (F_m_fine c))) := by
  refine kp_bodyR (by decide) (Nat.le_of_ble_eq_true rfl) rfl ?_
  intro p e s m args below meth cd ls B hl hP hS
  obtain ⟨hx, hb, hml, hown, hlk, hr, hw, hE, hK, hsz⟩ := id B
  have hl : lv_has ls 1 [(0, .ref (bM G))] := hl
  refine lv_iconst (v := (1 : Int32)) hx hb dX3_fine_0 (by decide) ?_
  refine lv_aload_n hx hb dX3_fine_1 rfl (lv_at hl 0 rfl) ?_
  refine km_get (j := 1) (v := .int c.1.2.1) B hP rfl (by decide) kw_245 dX3_fine_2 ?_
  refine lv_iconst (v := (1 : Int32)) hx hb dX3_fine_5 (by decide) ?_
  refine lv_isub hx hb dX3_fine_6 ?_
  refine lv_ishl hx hb dX3_fine_7 ?_
  refine lv_iconst (v := (2 : Int32)) hx hb dX3_fine_8 (by decide) ?_
  refine lv_isub hx hb dX3_fine_9 ?_
  refine lv_aload_n hx hb dX3_fine_10 rfl (lv_at hl 0 rfl) ?_
  refine km_get (j := 2) (v := .int c.1.2.2) B hP rfl (by decide) kw_246 dX3_fine_11 ?_
  refine lv_iadd hx hb dX3_fine_14 ?_
  exact kp_retiR B rfl dX3_fine_15
def F_m_most (c : mw_C) : Int64 :=
  (((2 : Int64) <<< (c.1.2.2.toInt64 &&& 63)) - (1 : Int64)) <<< ((((1 : Int32) <<< (c.1.2.1 &&& 31)) - (3 : Int32)).toInt64 &&& 63)
def rm_m_most : Room := { frames := 0, cells := 0, slots := 0, locals := 0 }
set_option maxHeartbeats 4000000 in
set_option maxRecDepth 100000 in
theorem C_m_most (l : Launch) (D : va_G) (ty : List (ClassId × FieldType)) (sz : Nat) (G : mw_G) (Z : va_W) (hG : mw_ok ty sz G Z) (c : mw_C)  : kp_R l yX3_most cX3_most 1 (some .long) rm_m_most D ty sz [.ref (bM G)] (mw_W G c Z) (some (.long (F_m_most c))) := by
  refine kp_bodyR (by decide) (Nat.le_of_ble_eq_true rfl) rfl ?_
  intro p e s m args below meth cd ls B hl hP hS
  obtain ⟨hx, hb, hml, hown, hlk, hr, hw, hE, hK, hsz⟩ := id B
  have hl : lv_has ls 1 [(0, .ref (bM G))] := hl
  refine lv_ldc2 (v := (2 : Int64)) hx hb hown (hw _ kw_247 rfl) dX3_most_0 ?_
  refine lv_aload_n hx hb dX3_most_3 rfl (lv_at hl 0 rfl) ?_
  refine km_get (j := 2) (v := .int c.1.2.2) B hP rfl (by decide) kw_246 dX3_most_4 ?_
  refine lv_lshl (v := (2 : Int64) <<< (c.1.2.2.toInt64 &&& 63)) hx hb dX3_most_7 rfl ?_
  refine lv_lconst (v := (1 : Int64)) hx hb dX3_most_8 (by decide) ?_
  refine lv_lsub hx hb dX3_most_9 ?_
  refine lv_iconst (v := (1 : Int32)) hx hb dX3_most_10 (by decide) ?_
  refine lv_aload_n hx hb dX3_most_11 rfl (lv_at hl 0 rfl) ?_
  refine km_get (j := 1) (v := .int c.1.2.1) B hP rfl (by decide) kw_245 dX3_most_12 ?_
  refine lv_ishl hx hb dX3_most_15 ?_
  refine lv_iconst (v := (3 : Int32)) hx hb dX3_most_16 (by decide) ?_
  refine lv_isub hx hb dX3_most_17 ?_
  refine lv_lshl (v := (((2 : Int64) <<< (c.1.2.2.toInt64 &&& 63)) - (1 : Int64)) <<< ((((1 : Int32) <<< (c.1.2.1 &&& 31)) - (3 : Int32)).toInt64 &&& 63)) hx hb dX3_most_18 rfl ?_
  exact kp_retlR B rfl dX3_most_19
def F_m_endless (c : mw_C) : Int32 :=
  (((1 : Int32) <<< (c.1.2.1 &&& 31)) - (1 : Int32)) <<< (c.1.2.2 &&& 31)
def rm_m_endless : Room := { frames := 0, cells := 0, slots := 0, locals := 0 }
set_option maxHeartbeats 4000000 in
set_option maxRecDepth 100000 in
theorem C_m_endless (l : Launch) (D : va_G) (ty : List (ClassId × FieldType)) (sz : Nat) (G : mw_G) (Z : va_W) (hG : mw_ok ty sz G Z) (c : mw_C)  : kp_R l yX3_endless cX3_endless 1 (some .int) rm_m_endless D ty sz [.ref (bM G)] (mw_W G c Z) (some (.int (F_m_endless c))) := by
  refine kp_bodyR (by decide) (Nat.le_of_ble_eq_true rfl) rfl ?_
  intro p e s m args below meth cd ls B hl hP hS
  obtain ⟨hx, hb, hml, hown, hlk, hr, hw, hE, hK, hsz⟩ := id B
  have hl : lv_has ls 1 [(0, .ref (bM G))] := hl
  refine lv_iconst (v := (1 : Int32)) hx hb dX3_endless_0 (by decide) ?_
  refine lv_aload_n hx hb dX3_endless_1 rfl (lv_at hl 0 rfl) ?_
  refine km_get (j := 1) (v := .int c.1.2.1) B hP rfl (by decide) kw_245 dX3_endless_2 ?_
  refine lv_ishl hx hb dX3_endless_5 ?_
  refine lv_iconst (v := (1 : Int32)) hx hb dX3_endless_6 (by decide) ?_
  refine lv_isub hx hb dX3_endless_7 ?_
  refine lv_aload_n hx hb dX3_endless_8 rfl (lv_at hl 0 rfl) ?_
  refine km_get (j := 2) (v := .int c.1.2.2) B hP rfl (by decide) kw_246 dX3_endless_9 ?_
  refine lv_ishl hx hb dX3_endless_12 ?_
  exact kp_retiR B rfl dX3_endless_13
def F_m_isPattern (c : mw_C) (x : Int32) : Int32 :=
  if x < (0 : Int32) then (0 : Int32) else (if (x >>> ((((1 : Int32) + c.1.2.1) + c.1.2.2) &&& 31)) = (0 : Int32) then (if (F_m_endless c) < (x &&& (((1 : Int32) <<< ((c.1.2.1 + c.1.2.2) &&& 31)) - (1 : Int32))) then (0 : Int32) else (1 : Int32)) else (0 : Int32))
def rm_m_isPattern : Room := { frames := 1, cells := 0, slots := 0, locals := 20 }
set_option maxHeartbeats 4000000 in
set_option maxRecDepth 100000 in
theorem C_m_isPattern (l : Launch) (D : va_G) (ty : List (ClassId × FieldType)) (sz : Nat) (G : mw_G) (Z : va_W) (hG : mw_ok ty sz G Z) (c : mw_C) (x : Int32) : kp_R l yX3_isPattern cX3_isPattern 2 (some .boolean) rm_m_isPattern D ty sz [.ref (bM G), .int x] (mw_W G c Z) (some (.int (F_m_isPattern c x))) := by
  refine kp_bodyR (by decide) (Nat.le_of_ble_eq_true rfl) rfl ?_
  intro p e s m args below meth cd ls B hl hP hS
  obtain ⟨hx, hb, hml, hown, hlk, hr, hw, hE, hK, hsz⟩ := id B
  have hl : lv_has ls 2 [(0, .ref (bM G)), (1, .int x)] := hl
  refine lv_iload_n hx hb dX3_isPattern_0 rfl (lv_at hl 1 rfl) ?_
  refine lv_if_lt (tgt := 46) hx hb dX3_isPattern_1 (by decide) (fun q_1 => ?_) (fun q_1 => ?_)
  · refine lv_iconst (v := (0 : Int32)) hx hb dX3_isPattern_46 (by decide) ?_
    exact kp_retzR B (by simp only [F_m_isPattern, if_pos q_1]) (Or.inl rfl) dX3_isPattern_47
  · refine lv_iload_n hx hb dX3_isPattern_4 rfl (lv_at hl 1 rfl) ?_
    refine lv_iconst (v := (1 : Int32)) hx hb dX3_isPattern_5 (by decide) ?_
    refine lv_aload_n hx hb dX3_isPattern_6 rfl (lv_at hl 0 rfl) ?_
    refine km_get (j := 1) (v := .int c.1.2.1) B hP rfl (by decide) kw_245 dX3_isPattern_7 ?_
    refine lv_iadd hx hb dX3_isPattern_10 ?_
    refine lv_aload_n hx hb dX3_isPattern_11 rfl (lv_at hl 0 rfl) ?_
    refine km_get (j := 2) (v := .int c.1.2.2) B hP rfl (by decide) kw_246 dX3_isPattern_12 ?_
    refine lv_iadd hx hb dX3_isPattern_15 ?_
    refine lv_ishr hx hb dX3_isPattern_16 ?_
    refine lv_if_ne (tgt := 46) hx hb dX3_isPattern_17 (by decide) (fun q_2 => ?_) (fun q_2 => ?_)
    · refine lv_iconst (v := (0 : Int32)) hx hb dX3_isPattern_46 (by decide) ?_
      exact kp_retzR B (by simp only [F_m_isPattern, if_neg q_1, if_neg q_2]) (Or.inl rfl) dX3_isPattern_47
    · refine lv_iload_n hx hb dX3_isPattern_20 rfl (lv_at hl 1 rfl) ?_
      refine lv_iconst (v := (1 : Int32)) hx hb dX3_isPattern_21 (by decide) ?_
      refine lv_aload_n hx hb dX3_isPattern_22 rfl (lv_at hl 0 rfl) ?_
      refine km_get (j := 1) (v := .int c.1.2.1) B hP rfl (by decide) kw_245 dX3_isPattern_23 ?_
      refine lv_aload_n hx hb dX3_isPattern_26 rfl (lv_at hl 0 rfl) ?_
      refine km_get (j := 2) (v := .int c.1.2.2) B hP rfl (by decide) kw_246 dX3_isPattern_27 ?_
      refine lv_iadd hx hb dX3_isPattern_30 ?_
      refine lv_ishl hx hb dX3_isPattern_31 ?_
      refine lv_iconst (v := (1 : Int32)) hx hb dX3_isPattern_32 (by decide) ?_
      refine lv_isub hx hb dX3_isPattern_33 ?_
      refine lv_iand hx hb dX3_isPattern_34 ?_
      refine lv_aload_n hx hb dX3_isPattern_35 rfl (lv_at hl 0 rfl) ?_
      refine kp_callVR (rm := rm_m_endless) (As := []) (rest := [.int (x &&& (((1 : Int32) <<< ((c.1.2.1 + c.1.2.2) &&& 31)) - (1 : Int32)))]) (r := some (.int (F_m_endless c))) (st1 := [.int (F_m_endless c), .int (x &&& (((1 : Int32) <<< ((c.1.2.1 + c.1.2.2) &&& 31)) - (1 : Int32)))]) B (C_m_endless l D ty sz G Z hG c) kt_m_endless kw_250 kw_251 kw_252 (km_rc B hP) (by decide) ⟨rfl, rfl⟩ (by decide) rfl (Nat.le_of_ble_eq_true rfl) hl.1 hP hS dX3_isPattern_36 rfl ?_
      refine lv_icmp_gt (tgt := 46) hx hb dX3_isPattern_39 (by decide) (fun q_3 => ?_) (fun q_3 => ?_)
      · refine lv_iconst (v := (0 : Int32)) hx hb dX3_isPattern_46 (by decide) ?_
        exact kp_retzR B (by simp only [F_m_isPattern, if_neg q_1, if_pos q_2, if_pos q_3]) (Or.inl rfl) dX3_isPattern_47
      · refine lv_iconst (v := (1 : Int32)) hx hb dX3_isPattern_42 (by decide) ?_
        refine lv_goto (tgt := 47) hx hb dX3_isPattern_43 (by decide) ?_
        exact kp_retzR B (by simp only [F_m_isPattern, if_neg q_1, if_pos q_2, if_neg q_3]) (Or.inr rfl) dX3_isPattern_47
def I_m_number_1 (c : mw_C) (x : Int32) : Int32 := (x &&& (((1 : Int32) <<< ((c.1.2.1 + c.1.2.2) &&& 31)) - (1 : Int32))) >>> (c.1.2.2 &&& 31)
def A_m_number_2 (c : mw_C) (x : Int32) : Int64 := ((x &&& (((1 : Int32) <<< ((c.1.2.1 + c.1.2.2) &&& 31)) - (1 : Int32))) &&& (((1 : Int32) <<< (c.1.2.2 &&& 31)) - (1 : Int32))).toInt64
def A_m_number_3 (c : mw_C) (x : Int32) : Int64 := if (x &&& (((1 : Int32) <<< ((c.1.2.1 + c.1.2.2) &&& 31)) - (1 : Int32))) = (F_m_endless c) then mw_far else (if (I_m_number_1 c x) = (0 : Int32) then A_m_number_2 c x else ((A_m_number_2 c x) + ((1 : Int64) <<< (c.1.2.2.toInt64 &&& 63))) <<< (((I_m_number_1 c x) - (1 : Int32)).toInt64 &&& 63))
def F_m_number (c : mw_C) (x : Int32) : Int64 :=
  if (x &&& (((1 : Int32) <<< ((c.1.2.1 + c.1.2.2) &&& 31)) - (1 : Int32))) = x then A_m_number_3 c x else -(A_m_number_3 c x)
def rm_m_number : Room := { frames := 1, cells := 0, slots := 0, locals := 20 }
set_option maxHeartbeats 4000000 in
set_option maxRecDepth 100000 in
theorem C_m_number (l : Launch) (D : va_G) (ty : List (ClassId × FieldType)) (sz : Nat) (G : mw_G) (Z : va_W) (hG : mw_ok ty sz G Z) (c : mw_C) (x : Int32) : kp_R l yX3_number cX3_number 8 (some .long) rm_m_number D ty sz [.ref (bM G), .int x] (mw_W G c Z) (some (.long (F_m_number c x))) := by
  refine kp_bodyR (by decide) (Nat.le_of_ble_eq_true rfl) rfl ?_
  intro p e s m args below meth cd ls B hl hP hS
  obtain ⟨hx, hb, hml, hown, hlk, hr, hw, hE, hK, hsz⟩ := id B
  have hl : lv_has ls 8 [(0, .ref (bM G)), (1, .int x)] := hl
  refine lv_iload_n hx hb dX3_number_0 rfl (lv_at hl 1 rfl) ?_
  refine lv_iconst (v := (1 : Int32)) hx hb dX3_number_1 (by decide) ?_
  refine lv_aload_n hx hb dX3_number_2 rfl (lv_at hl 0 rfl) ?_
  refine km_get (j := 1) (v := .int c.1.2.1) B hP rfl (by decide) kw_245 dX3_number_3 ?_
  refine lv_aload_n hx hb dX3_number_6 rfl (lv_at hl 0 rfl) ?_
  refine km_get (j := 2) (v := .int c.1.2.2) B hP rfl (by decide) kw_246 dX3_number_7 ?_
  refine lv_iadd hx hb dX3_number_10 ?_
  refine lv_ishl hx hb dX3_number_11 ?_
  refine lv_iconst (v := (1 : Int32)) hx hb dX3_number_12 (by decide) ?_
  refine lv_isub hx hb dX3_number_13 ?_
  refine lv_iand hx hb dX3_number_14 ?_
  refine lv_istore_n (lv' := [(2, .int (x &&& (((1 : Int32) <<< ((c.1.2.1 + c.1.2.2) &&& 31)) - (1 : Int32)))), (0, .ref (bM G)), (1, .int x)]) hx hb dX3_number_15 rfl hl (by decide) rfl (fun ls hl => ?_)
  refine lv_iload_n hx hb dX3_number_16 rfl (lv_at hl 0 rfl) ?_
  refine lv_aload_n hx hb dX3_number_17 rfl (lv_at hl 1 rfl) ?_
  refine km_get (j := 2) (v := .int c.1.2.2) B hP rfl (by decide) kw_246 dX3_number_18 ?_
  refine lv_ishr hx hb dX3_number_21 ?_
  refine W.eq (g2 := F0 m 22 ls [.int (I_m_number_1 c x)]) rfl ?_
  refine lv_istore_n (lv' := [(3, .int (I_m_number_1 c x)), (2, .int (x &&& (((1 : Int32) <<< ((c.1.2.1 + c.1.2.2) &&& 31)) - (1 : Int32)))), (0, .ref (bM G)), (1, .int x)]) hx hb dX3_number_22 rfl hl (by decide) rfl (fun ls hl => ?_)
  refine lv_iload_n hx hb dX3_number_23 rfl (lv_at hl 1 rfl) ?_
  refine lv_iconst (v := (1 : Int32)) hx hb dX3_number_24 (by decide) ?_
  refine lv_aload_n hx hb dX3_number_25 rfl (lv_at hl 2 rfl) ?_
  refine km_get (j := 2) (v := .int c.1.2.2) B hP rfl (by decide) kw_246 dX3_number_26 ?_
  refine lv_ishl hx hb dX3_number_29 ?_
  refine lv_iconst (v := (1 : Int32)) hx hb dX3_number_30 (by decide) ?_
  refine lv_isub hx hb dX3_number_31 ?_
  refine lv_iand hx hb dX3_number_32 ?_
  refine lv_i2l (v := ((x &&& (((1 : Int32) <<< ((c.1.2.1 + c.1.2.2) &&& 31)) - (1 : Int32))) &&& (((1 : Int32) <<< (c.1.2.2 &&& 31)) - (1 : Int32))).toInt64) hx hb dX3_number_33 rfl ?_
  refine W.eq (g2 := F0 m 34 ls [.long (A_m_number_2 c x)]) rfl ?_
  refine lv_lstore (lv' := [(4, .long (A_m_number_2 c x)), (3, .int (I_m_number_1 c x)), (2, .int (x &&& (((1 : Int32) <<< ((c.1.2.1 + c.1.2.2) &&& 31)) - (1 : Int32)))), (0, .ref (bM G)), (1, .int x)]) hx hb dX3_number_34 hl (by decide) rfl (fun ls hl => ?_)
  refine lv_iload_n hx hb dX3_number_36 rfl (lv_at hl 2 rfl) ?_
  refine lv_aload_n hx hb dX3_number_37 rfl (lv_at hl 3 rfl) ?_
  refine kp_callVR (rm := rm_m_endless) (As := []) (rest := [.int (x &&& (((1 : Int32) <<< ((c.1.2.1 + c.1.2.2) &&& 31)) - (1 : Int32)))]) (r := some (.int (F_m_endless c))) (st1 := [.int (F_m_endless c), .int (x &&& (((1 : Int32) <<< ((c.1.2.1 + c.1.2.2) &&& 31)) - (1 : Int32)))]) B (C_m_endless l D ty sz G Z hG c) kt_m_endless kw_250 kw_251 kw_252 (km_rc B hP) (by decide) ⟨rfl, rfl⟩ (by decide) rfl (Nat.le_of_ble_eq_true rfl) hl.1 hP hS dX3_number_38 rfl ?_
  have hJ72 : W p l e rm_m_number s m args below meth cd s.heap [] 0 0 (MQ below (kp_QR (some (.long (F_m_number c x)))) args s 0 0 (fun _ => False)) (F0 m 72 ls [.long (if (x &&& (((1 : Int32) <<< ((c.1.2.1 + c.1.2.2) &&& 31)) - (1 : Int32))) = (F_m_endless c) then mw_far else (if (I_m_number_1 c x) = (0 : Int32) then A_m_number_2 c x else ((A_m_number_2 c x) + ((1 : Int64) <<< (c.1.2.2.toInt64 &&& 63))) <<< (((I_m_number_1 c x) - (1 : Int32)).toInt64 &&& 63)))]) := by
    refine W.eq (g2 := F0 m 72 ls [.long (A_m_number_3 c x)]) rfl ?_
    refine lv_lstore (lv' := [(6, .long (A_m_number_3 c x)), (4, .long (A_m_number_2 c x)), (3, .int (I_m_number_1 c x)), (2, .int (x &&& (((1 : Int32) <<< ((c.1.2.1 + c.1.2.2) &&& 31)) - (1 : Int32)))), (0, .ref (bM G)), (1, .int x)]) hx hb dX3_number_72 hl (by decide) rfl (fun ls hl => ?_)
    refine lv_iload_n hx hb dX3_number_74 rfl (lv_at hl 3 rfl) ?_
    refine lv_iload_n hx hb dX3_number_75 rfl (lv_at hl 5 rfl) ?_
    refine lv_icmp_ne (tgt := 84) hx hb dX3_number_76 (by decide) (fun q_1 => ?_) (fun q_1 => ?_)
    · refine lv_lload hx hb dX3_number_84 (lv_at hl 0 rfl) ?_
      refine lv_lneg hx hb dX3_number_86 ?_
      exact kp_retlR B (by simp only [F_m_number, if_neg q_1]) dX3_number_87
    · refine lv_lload hx hb dX3_number_79 (lv_at hl 0 rfl) ?_
      refine lv_goto (tgt := 87) hx hb dX3_number_81 (by decide) ?_
      exact kp_retlR B (by simp only [F_m_number, if_pos q_1]) dX3_number_87
  refine lv_icmp_ne (tgt := 50) hx hb dX3_number_41 (by decide) (fun q_2 => ?_) (fun q_2 => ?_)
  · refine lv_iload_n hx hb dX3_number_50 rfl (lv_at hl 1 rfl) ?_
    refine lv_if_ne (tgt := 59) hx hb dX3_number_51 (by decide) (fun q_3 => ?_) (fun q_3 => ?_)
    · refine lv_lload hx hb dX3_number_59 (lv_at hl 0 rfl) ?_
      refine lv_lconst (v := (1 : Int64)) hx hb dX3_number_61 (by decide) ?_
      refine lv_aload_n hx hb dX3_number_62 rfl (lv_at hl 3 rfl) ?_
      refine km_get (j := 2) (v := .int c.1.2.2) B hP rfl (by decide) kw_246 dX3_number_63 ?_
      refine lv_lshl (v := (1 : Int64) <<< (c.1.2.2.toInt64 &&& 63)) hx hb dX3_number_66 rfl ?_
      refine lv_ladd hx hb dX3_number_67 ?_
      refine lv_iload_n hx hb dX3_number_68 rfl (lv_at hl 1 rfl) ?_
      refine lv_iconst (v := (1 : Int32)) hx hb dX3_number_69 (by decide) ?_
      refine lv_isub hx hb dX3_number_70 ?_
      refine lv_lshl (v := ((A_m_number_2 c x) + ((1 : Int64) <<< (c.1.2.2.toInt64 &&& 63))) <<< (((I_m_number_1 c x) - (1 : Int32)).toInt64 &&& 63)) hx hb dX3_number_71 rfl ?_
      exact kp_jJ (by simp only [if_neg q_2, if_neg q_3]) hJ72
    · refine lv_lload hx hb dX3_number_54 (lv_at hl 0 rfl) ?_
      refine lv_goto (tgt := 72) hx hb dX3_number_56 (by decide) ?_
      exact kp_jJ (by simp only [if_neg q_2, if_pos q_3]) hJ72
  · refine lv_ldc2 (v := mw_far) hx hb hown (hw _ kw_253 rfl) dX3_number_44 ?_
    refine lv_goto (tgt := 72) hx hb dX3_number_47 (by decide) ?_
    exact kp_jJ (by simp only [if_pos q_2]) hJ72
def LF_m_length (x : Int64) : Nat → Int32 → Int32
  | 0, i => 0
  | n + 1, i => if (x >>> (i.toInt64 &&& 63)) ≤ (0 : Int64) then i else LF_m_length x n (i + (1 : Int32))
def F_m_length (x : Int64) : Int32 :=
  LF_m_length x 64 (0 : Int32)
def rm_m_length : Room := { frames := 0, cells := 0, slots := 0, locals := 0 }
set_option maxHeartbeats 4000000 in
set_option maxRecDepth 100000 in
theorem LP_m_length (l : Launch) (D : va_G) (ty : List (ClassId × FieldType)) (sz : Nat) (G : mw_G) (Z : va_W) (hG : mw_ok ty sz G Z) (c : mw_C) (x : Int64) {p : Program} {e : Env} {s : State} {m : MethodId} {args : Array Value} {below : List Frame} {meth : Method} {cd : Code} (B : kp_B p l s m args meth cd yX3_length.cls cX3_length 3 (some .int) D ty sz) (hP : va_P D vwCl (mw_W G c Z) s.heap) :
    ∀ (n : Nat) (i : Int32) (h1 : 0 ≤ i.toInt) (h2 : 64 ≤ i.toInt + n) (h3 : i.toInt ≤ 63), ∀ (ls : Array Slot), lv_has ls 3 [(0, .long x), (2, .int i)] → W p l e rm_m_length s m args below meth cd s.heap [] 0 0 (MQ below (kp_QR (some (.int (LF_m_length x n i)))) args s 0 0 (fun _ => False)) (F0 m 2 ls []) := by
  obtain ⟨hx, hb, hml, hown, hlk, hr, hw, hE, hK, hsz⟩ := id B
  intro n
  induction n with
  | zero =>
    intro i h1 h2 h3
    exact absurd h2 (by omega)
  | succ n ih =>
    intro i h1 h2 h3 ls hl
    have hS : va_S (kp_A sz) s.heap s.heap [] := va_S.rf
    refine lv_lload_n hx hb dX3_length_2 rfl (lv_at hl 0 rfl) ?_
    refine lv_iload_n hx hb dX3_length_3 rfl (lv_at hl 1 rfl) ?_
    refine lv_lshr (v := x >>> (i.toInt64 &&& 63)) hx hb dX3_length_4 rfl ?_
    refine lv_lconst (v := (0 : Int64)) hx hb dX3_length_5 (by decide) ?_
    refine kp_lle (tgt := 16) hx hb dX3_length_6 dX3_length_7 (by decide) (fun q_1 => ?_) (fun q_1 => ?_)
    · refine lv_iload_n hx hb dX3_length_16 rfl (lv_at hl 1 rfl) ?_
      exact kp_retiR B (by simp only [LF_m_length, if_pos q_1]) dX3_length_17
    · refine lv_iinc (v := i + (1 : Int32)) (lv' := [(2, .int (i + (1 : Int32))), (0, .long x)]) hx hb dX3_length_10 hl (k := 1) rfl rfl (by decide) rfl (fun ls hl => ?_)
      refine lv_goto (tgt := 2) hx hb dX3_length_13 (by decide) ?_
      rw [show LF_m_length x (n + 1) i = LF_m_length x n (i + (1 : Int32)) from by simp only [LF_m_length, if_neg q_1]]
      exact ih (i + (1 : Int32)) (ki_len h1 h3 q_1 h2).1 (ki_len h1 h3 q_1 h2).2.1 (ki_len h1 h3 q_1 h2).2.2 ls (lv_sub hl [1, 0] rfl)
set_option maxHeartbeats 4000000 in
set_option maxRecDepth 100000 in
theorem C_m_length (l : Launch) (D : va_G) (ty : List (ClassId × FieldType)) (sz : Nat) (G : mw_G) (Z : va_W) (hG : mw_ok ty sz G Z) (c : mw_C) (x : Int64) : kp_R l yX3_length cX3_length 3 (some .int) rm_m_length D ty sz [.long x] (mw_W G c Z) (some (.int (F_m_length x))) := by
  refine kp_bodyR (by decide) (Nat.le_of_ble_eq_true rfl) rfl ?_
  intro p e s m args below meth cd ls B hl hP hS
  obtain ⟨hx, hb, hml, hown, hlk, hr, hw, hE, hK, hsz⟩ := id B
  have hl : lv_has ls 3 [(0, .long x)] := hl
  refine lv_iconst (v := (0 : Int32)) hx hb dX3_length_0 (by decide) ?_
  refine lv_istore_n (lv' := [(2, .int (0 : Int32)), (0, .long x)]) hx hb dX3_length_1 rfl hl (by decide) rfl (fun ls hl => ?_)
  exact LP_m_length l D ty sz G Z hG c x B hP 64 (0 : Int32) (by decide) (by decide) (by decide) ls (lv_sub hl [1, 0] rfl)
def I_m_pattern_1 (c : mw_C) (x : Int64) : Int32 := ((((((F_m_length (if (0 : Int64) ≤ x then x else -x)) - c.1.2.2) - (1 : Int32)) + (1 : Int32)) <<< (c.1.2.2 &&& 31)) + (((if (0 : Int64) ≤ x then x else -x) >>> ((((F_m_length (if (0 : Int64) ≤ x then x else -x)) - c.1.2.2) - (1 : Int32)).toInt64 &&& 63)).toInt32)) - ((1 : Int32) <<< (c.1.2.2 &&& 31))
def I_m_pattern_2 (c : mw_C) (x : Int64) : Int32 := if (if (0 : Int64) ≤ x then x else -x) < mw_far then (if ((if (0 : Int64) ≤ x then x else -x) >>> (c.1.2.2.toInt64 &&& 63)) = (0 : Int64) then (if (0 : Int64) ≤ x then x else -x).toInt32 else I_m_pattern_1 c x) else F_m_endless c
def F_m_pattern (c : mw_C) (x : Int64) : Int32 :=
  if (0 : Int64) ≤ x then I_m_pattern_2 c x else (I_m_pattern_2 c x) + ((1 : Int32) <<< ((c.1.2.1 + c.1.2.2) &&& 31))
def rm_m_pattern : Room := { frames := 1, cells := 0, slots := 0, locals := 22 }
set_option maxHeartbeats 4000000 in
set_option maxRecDepth 100000 in
theorem C_m_pattern (l : Launch) (D : va_G) (ty : List (ClassId × FieldType)) (sz : Nat) (G : mw_G) (Z : va_W) (hG : mw_ok ty sz G Z) (c : mw_C) (x : Int64) : kp_R l yX3_pattern cX3_pattern 7 (some .int) rm_m_pattern D ty sz [.ref (bM G), .long x] (mw_W G c Z) (some (.int (F_m_pattern c x))) := by
  refine kp_bodyR (by decide) (Nat.le_of_ble_eq_true rfl) rfl ?_
  intro p e s m args below meth cd ls B hl hP hS
  obtain ⟨hx, hb, hml, hown, hlk, hr, hw, hE, hK, hsz⟩ := id B
  have hl : lv_has ls 7 [(0, .ref (bM G)), (1, .long x)] := hl
  refine lv_lload_n hx hb dX3_pattern_0 rfl (lv_at hl 1 rfl) ?_
  refine lv_lconst (v := (0 : Int64)) hx hb dX3_pattern_1 (by decide) ?_
  have hJ12 : W p l e rm_m_pattern s m args below meth cd s.heap [] 0 0 (MQ below (kp_QR (some (.int (F_m_pattern c x)))) args s 0 0 (fun _ => False)) (F0 m 12 ls [.long (if (0 : Int64) ≤ x then x else -x)]) := by
    refine lv_lstore_n (lv' := [(3, .long (if (0 : Int64) ≤ x then x else -x)), (0, .ref (bM G)), (1, .long x)]) hx hb dX3_pattern_12 rfl hl (by decide) rfl (fun ls hl => ?_)
    refine lv_lload_n hx hb dX3_pattern_13 rfl (lv_at hl 0 rfl) ?_
    refine lv_ldc2 (v := mw_far) hx hb hown (hw _ kw_253 rfl) dX3_pattern_14 ?_
    have hJ85 : ∀ ls : Array Slot, lv_has ls 7 [(0, .ref (bM G)), (1, .long x), (3, .long (if (0 : Int64) ≤ x then x else -x)), (5, .int (I_m_pattern_2 c x))] → W p l e rm_m_pattern s m args below meth cd s.heap [] 0 0 (MQ below (kp_QR (some (.int (F_m_pattern c x)))) args s 0 0 (fun _ => False)) (F0 m 85 ls []) := by
      intro ls hl
      refine lv_lload_n hx hb dX3_pattern_85 rfl (lv_at hl 1 rfl) ?_
      refine lv_lconst (v := (0 : Int64)) hx hb dX3_pattern_86 (by decide) ?_
      refine kp_lge (tgt := 108) hx hb dX3_pattern_87 dX3_pattern_88 (by decide) (fun q_1 => ?_) (fun q_1 => ?_)
      · refine lv_iload hx hb dX3_pattern_108 (lv_at hl 3 rfl) ?_
        exact kp_retiR B (by simp only [F_m_pattern, if_pos q_1]) dX3_pattern_110
      · refine lv_iload hx hb dX3_pattern_91 (lv_at hl 3 rfl) ?_
        refine lv_iconst (v := (1 : Int32)) hx hb dX3_pattern_93 (by decide) ?_
        refine lv_aload_n hx hb dX3_pattern_94 rfl (lv_at hl 0 rfl) ?_
        refine km_get (j := 1) (v := .int c.1.2.1) B hP rfl (by decide) kw_245 dX3_pattern_95 ?_
        refine lv_aload_n hx hb dX3_pattern_98 rfl (lv_at hl 0 rfl) ?_
        refine km_get (j := 2) (v := .int c.1.2.2) B hP rfl (by decide) kw_246 dX3_pattern_99 ?_
        refine lv_iadd hx hb dX3_pattern_102 ?_
        refine lv_ishl hx hb dX3_pattern_103 ?_
        refine lv_iadd hx hb dX3_pattern_104 ?_
        refine lv_goto (tgt := 110) hx hb dX3_pattern_105 (by decide) ?_
        exact kp_retiR B (by simp only [F_m_pattern, if_neg q_1]) dX3_pattern_110
    refine kp_llt (tgt := 30) hx hb dX3_pattern_17 dX3_pattern_18 (by decide) (fun q_2 => ?_) (fun q_2 => ?_)
    · refine lv_lload_n hx hb dX3_pattern_30 rfl (lv_at hl 0 rfl) ?_
      refine lv_aload_n hx hb dX3_pattern_31 rfl (lv_at hl 1 rfl) ?_
      refine km_get (j := 2) (v := .int c.1.2.2) B hP rfl (by decide) kw_246 dX3_pattern_32 ?_
      refine lv_lshr (v := (if (0 : Int64) ≤ x then x else -x) >>> (c.1.2.2.toInt64 &&& 63)) hx hb dX3_pattern_35 rfl ?_
      refine lv_lconst (v := (0 : Int64)) hx hb dX3_pattern_36 (by decide) ?_
      refine kp_lne (tgt := 48) hx hb dX3_pattern_37 dX3_pattern_38 (by decide) (fun q_3 => ?_) (fun q_3 => ?_)
      · refine lv_lload_n hx hb dX3_pattern_48 rfl (lv_at hl 0 rfl) ?_
        refine kp_callSR (rm := rm_m_length) (As := [.long (if (0 : Int64) ≤ x then x else -x)]) (rest := []) (r := some (.int (F_m_length (if (0 : Int64) ≤ x then x else -x)))) (st1 := [.int (F_m_length (if (0 : Int64) ≤ x then x else -x))]) B (C_m_length l D ty sz G Z hG c (if (0 : Int64) ≤ x then x else -x)) kt_m_length kw_256 kw_257 (by decide) ⟨rfl, rfl⟩ (by decide) rfl (Nat.le_of_ble_eq_true rfl) hl.1 hP hS dX3_pattern_49 rfl ?_
        refine lv_aload_n hx hb dX3_pattern_52 rfl (lv_at hl 1 rfl) ?_
        refine km_get (j := 2) (v := .int c.1.2.2) B hP rfl (by decide) kw_246 dX3_pattern_53 ?_
        refine lv_isub hx hb dX3_pattern_56 ?_
        refine lv_iconst (v := (1 : Int32)) hx hb dX3_pattern_57 (by decide) ?_
        refine lv_isub hx hb dX3_pattern_58 ?_
        refine lv_istore (lv' := [(6, .int (((F_m_length (if (0 : Int64) ≤ x then x else -x)) - c.1.2.2) - (1 : Int32))), (3, .long (if (0 : Int64) ≤ x then x else -x)), (0, .ref (bM G)), (1, .long x)]) hx hb dX3_pattern_59 hl (by decide) rfl (fun ls hl => ?_)
        refine lv_iload hx hb dX3_pattern_61 (lv_at hl 0 rfl) ?_
        refine lv_iconst (v := (1 : Int32)) hx hb dX3_pattern_63 (by decide) ?_
        refine lv_iadd hx hb dX3_pattern_64 ?_
        refine lv_aload_n hx hb dX3_pattern_65 rfl (lv_at hl 2 rfl) ?_
        refine km_get (j := 2) (v := .int c.1.2.2) B hP rfl (by decide) kw_246 dX3_pattern_66 ?_
        refine lv_ishl hx hb dX3_pattern_69 ?_
        refine lv_lload_n hx hb dX3_pattern_70 rfl (lv_at hl 1 rfl) ?_
        refine lv_iload hx hb dX3_pattern_71 (lv_at hl 0 rfl) ?_
        refine lv_lshr (v := (if (0 : Int64) ≤ x then x else -x) >>> ((((F_m_length (if (0 : Int64) ≤ x then x else -x)) - c.1.2.2) - (1 : Int32)).toInt64 &&& 63)) hx hb dX3_pattern_73 rfl ?_
        refine lv_l2i (v := ((if (0 : Int64) ≤ x then x else -x) >>> ((((F_m_length (if (0 : Int64) ≤ x then x else -x)) - c.1.2.2) - (1 : Int32)).toInt64 &&& 63)).toInt32) hx hb dX3_pattern_74 rfl ?_
        refine lv_iadd hx hb dX3_pattern_75 ?_
        refine lv_iconst (v := (1 : Int32)) hx hb dX3_pattern_76 (by decide) ?_
        refine lv_aload_n hx hb dX3_pattern_77 rfl (lv_at hl 2 rfl) ?_
        refine km_get (j := 2) (v := .int c.1.2.2) B hP rfl (by decide) kw_246 dX3_pattern_78 ?_
        refine lv_ishl hx hb dX3_pattern_81 ?_
        refine lv_isub hx hb dX3_pattern_82 ?_
        refine W.eq (g2 := F0 m 83 ls [.int (I_m_pattern_1 c x)]) rfl ?_
        refine lv_istore (lv' := [(5, .int (I_m_pattern_1 c x)), (6, .int (((F_m_length (if (0 : Int64) ≤ x then x else -x)) - c.1.2.2) - (1 : Int32))), (3, .long (if (0 : Int64) ≤ x then x else -x)), (0, .ref (bM G)), (1, .long x)]) hx hb dX3_pattern_83 hl (by decide) rfl (fun ls hl => ?_)
        exact hJ85 ls (kp_jl (lv_sub (l' := [(0, .ref (bM G)), (1, .long x), (3, .long (if (0 : Int64) ≤ x then x else -x)), (5, .int (I_m_pattern_1 c x))]) hl [3, 4, 2, 0] rfl) (by simp only [I_m_pattern_2, if_pos q_2, if_neg q_3]))
      · refine lv_lload_n hx hb dX3_pattern_41 rfl (lv_at hl 0 rfl) ?_
        refine lv_l2i (v := (if (0 : Int64) ≤ x then x else -x).toInt32) hx hb dX3_pattern_42 rfl ?_
        refine lv_istore (lv' := [(5, .int ((if (0 : Int64) ≤ x then x else -x).toInt32)), (3, .long (if (0 : Int64) ≤ x then x else -x)), (0, .ref (bM G)), (1, .long x)]) hx hb dX3_pattern_43 hl (by decide) rfl (fun ls hl => ?_)
        refine lv_goto (tgt := 85) hx hb dX3_pattern_45 (by decide) ?_
        exact hJ85 ls (kp_jl (lv_sub (l' := [(0, .ref (bM G)), (1, .long x), (3, .long (if (0 : Int64) ≤ x then x else -x)), (5, .int ((if (0 : Int64) ≤ x then x else -x).toInt32))]) hl [2, 3, 1, 0] rfl) (by simp only [I_m_pattern_2, if_pos q_2, if_pos q_3]))
    · refine lv_aload_n hx hb dX3_pattern_21 rfl (lv_at hl 1 rfl) ?_
      refine kp_callVR (rm := rm_m_endless) (As := []) (rest := []) (r := some (.int (F_m_endless c))) (st1 := [.int (F_m_endless c)]) B (C_m_endless l D ty sz G Z hG c) kt_m_endless kw_250 kw_251 kw_252 (km_rc B hP) (by decide) ⟨rfl, rfl⟩ (by decide) rfl (Nat.le_of_ble_eq_true rfl) hl.1 hP hS dX3_pattern_22 rfl ?_
      refine lv_istore (lv' := [(5, .int (F_m_endless c)), (3, .long (if (0 : Int64) ≤ x then x else -x)), (0, .ref (bM G)), (1, .long x)]) hx hb dX3_pattern_25 hl (by decide) rfl (fun ls hl => ?_)
      refine lv_goto (tgt := 85) hx hb dX3_pattern_27 (by decide) ?_
      exact hJ85 ls (kp_jl (lv_sub (l' := [(0, .ref (bM G)), (1, .long x), (3, .long (if (0 : Int64) ≤ x then x else -x)), (5, .int (F_m_endless c))]) hl [2, 3, 1, 0] rfl) (by simp only [I_m_pattern_2, if_neg q_2]))
  refine kp_lge (tgt := 11) hx hb dX3_pattern_2 dX3_pattern_3 (by decide) (fun q_4 => ?_) (fun q_4 => ?_)
  · refine lv_lload_n hx hb dX3_pattern_11 rfl (lv_at hl 1 rfl) ?_
    exact kp_jJ (by simp only [if_pos q_4]) hJ12
  · refine lv_lload_n hx hb dX3_pattern_6 rfl (lv_at hl 1 rfl) ?_
    refine lv_lneg hx hb dX3_pattern_7 ?_
    refine lv_goto (tgt := 12) hx hb dX3_pattern_8 (by decide) ?_
    exact kp_jJ (by simp only [if_neg q_4]) hJ12
def A_m_rounded_1 (c : mw_C) (x : Int64) (y : Int64) (z : Int32) : Int64 := if (if (0 : Int64) ≤ x then (0 : Int32) else (1 : Int32)) = (0 : Int32) then x else -x
def I_m_rounded_2 (c : mw_C) (x : Int64) (y : Int64) (z : Int32) : Int32 := if ((A_m_rounded_1 c x y z) - (A_m_rounded_1 c x y z) / y * y) = (0 : Int64) then (0 : Int32) else (1 : Int32)
def I_m_rounded_3 (c : mw_C) (x : Int64) (y : Int64) (z : Int32) : Int32 := if (F_m_length ((A_m_rounded_1 c x y z) / y)) ≤ (c.1.2.2 + (1 : Int32)) then (0 : Int32) else ((F_m_length ((A_m_rounded_1 c x y z) / y)) - c.1.2.2) - (1 : Int32)
def I_m_rounded_4 (c : mw_C) (x : Int64) (y : Int64) (z : Int32) : Int32 := if (I_m_rounded_2 c x y z) = (0 : Int32) then (if ((((A_m_rounded_1 c x y z) / y) >>> ((I_m_rounded_3 c x y z).toInt64 &&& 63)) <<< ((I_m_rounded_3 c x y z).toInt64 &&& 63)) = ((A_m_rounded_1 c x y z) / y) then (0 : Int32) else (1 : Int32)) else (1 : Int32)
def A_m_rounded_5 (c : mw_C) (x : Int64) (y : Int64) (z : Int32) : Int64 := (((A_m_rounded_1 c x y z) / y) >>> ((I_m_rounded_3 c x y z).toInt64 &&& 63)) <<< ((I_m_rounded_3 c x y z).toInt64 &&& 63)
def I_m_rounded_6 (c : mw_C) (x : Int64) (y : Int64) (z : Int32) : Int32 := if z = (if (0 : Int64) ≤ x then (0 : Int32) else (1 : Int32)) then (0 : Int32) else (1 : Int32)
def A_m_rounded_7 (c : mw_C) (x : Int64) (y : Int64) (z : Int32) : Int64 := (A_m_rounded_5 c x y z) + ((1 : Int64) <<< ((I_m_rounded_3 c x y z).toInt64 &&& 63))
def A_m_rounded_8 (c : mw_C) (x : Int64) (y : Int64) (z : Int32) : Int64 := if (I_m_rounded_6 c x y z) = (0 : Int32) then A_m_rounded_5 c x y z else (if (I_m_rounded_4 c x y z) = (0 : Int32) then A_m_rounded_5 c x y z else A_m_rounded_7 c x y z)
def A_m_rounded_9 (c : mw_C) (x : Int64) (y : Int64) (z : Int32) : Int64 := if (I_m_rounded_6 c x y z) = (0 : Int32) then F_m_most c else mw_far
def A_m_rounded_10 (c : mw_C) (x : Int64) (y : Int64) (z : Int32) : Int64 := if (A_m_rounded_8 c x y z) ≤ (F_m_most c) then A_m_rounded_8 c x y z else A_m_rounded_9 c x y z
def F_m_rounded (c : mw_C) (x : Int64) (y : Int64) (z : Int32) : Int64 :=
  if (if (0 : Int64) ≤ x then (0 : Int32) else (1 : Int32)) = (0 : Int32) then A_m_rounded_10 c x y z else -(A_m_rounded_10 c x y z)
def rm_m_rounded : Room := { frames := 1, cells := 0, slots := 0, locals := 22 }
set_option maxHeartbeats 4000000 in
set_option maxRecDepth 100000 in
theorem C_m_rounded (l : Launch) (D : va_G) (ty : List (ClassId × FieldType)) (sz : Nat) (G : mw_G) (Z : va_W) (hG : mw_ok ty sz G Z) (c : mw_C) (x : Int64) (y : Int64) (z : Int32) (hyz : ¬ y = 0) : kp_R l yX3_rounded cX3_rounded 14 (some .long) rm_m_rounded D ty sz [.ref (bM G), .long x, .long y, .int z] (mw_W G c Z) (some (.long (F_m_rounded c x y z))) := by
  refine kp_bodyR (by decide) (Nat.le_of_ble_eq_true rfl) rfl ?_
  intro p e s m args below meth cd ls B hl hP hS
  obtain ⟨hx, hb, hml, hown, hlk, hr, hw, hE, hK, hsz⟩ := id B
  have hl : lv_has ls 14 [(0, .ref (bM G)), (1, .long x), (3, .long y), (5, .int z)] := hl
  refine lv_lload_n hx hb dX3_rounded_0 rfl (lv_at hl 1 rfl) ?_
  refine lv_lconst (v := (0 : Int64)) hx hb dX3_rounded_1 (by decide) ?_
  have hJ11 : W p l e rm_m_rounded s m args below meth cd s.heap [] 0 0 (MQ below (kp_QR (some (.long (F_m_rounded c x y z)))) args s 0 0 (fun _ => False)) (F0 m 11 ls [.int (if (0 : Int64) ≤ x then (0 : Int32) else (1 : Int32))]) := by
    refine lv_istore (lv' := [(6, .int (if (0 : Int64) ≤ x then (0 : Int32) else (1 : Int32))), (0, .ref (bM G)), (1, .long x), (3, .long y), (5, .int z)]) hx hb dX3_rounded_11 hl (by decide) rfl (fun ls hl => ?_)
    refine lv_iload hx hb dX3_rounded_13 (lv_at hl 0 rfl) ?_
    have hJ24 : W p l e rm_m_rounded s m args below meth cd s.heap [] 0 0 (MQ below (kp_QR (some (.long (F_m_rounded c x y z)))) args s 0 0 (fun _ => False)) (F0 m 24 ls [.long (if (if (0 : Int64) ≤ x then (0 : Int32) else (1 : Int32)) = (0 : Int32) then x else -x)]) := by
      refine W.eq (g2 := F0 m 24 ls [.long (A_m_rounded_1 c x y z)]) rfl ?_
      refine lv_lstore (lv' := [(7, .long (A_m_rounded_1 c x y z)), (6, .int (if (0 : Int64) ≤ x then (0 : Int32) else (1 : Int32))), (0, .ref (bM G)), (1, .long x), (3, .long y), (5, .int z)]) hx hb dX3_rounded_24 hl (by decide) rfl (fun ls hl => ?_)
      refine lv_lload hx hb dX3_rounded_26 (lv_at hl 0 rfl) ?_
      refine lv_lload_n hx hb dX3_rounded_28 rfl (lv_at hl 4 rfl) ?_
      refine lv_ldiv hx hb dX3_rounded_29 hyz ?_
      refine lv_lstore (lv' := [(9, .long ((A_m_rounded_1 c x y z) / y)), (7, .long (A_m_rounded_1 c x y z)), (6, .int (if (0 : Int64) ≤ x then (0 : Int32) else (1 : Int32))), (0, .ref (bM G)), (1, .long x), (3, .long y), (5, .int z)]) hx hb dX3_rounded_30 hl (by decide) rfl (fun ls hl => ?_)
      refine lv_lload hx hb dX3_rounded_32 (lv_at hl 1 rfl) ?_
      refine lv_lload_n hx hb dX3_rounded_34 rfl (lv_at hl 5 rfl) ?_
      refine lv_lrem hx hb dX3_rounded_35 hyz ?_
      refine lv_lconst (v := (0 : Int64)) hx hb dX3_rounded_36 (by decide) ?_
      have hJ46 : W p l e rm_m_rounded s m args below meth cd s.heap [] 0 0 (MQ below (kp_QR (some (.long (F_m_rounded c x y z)))) args s 0 0 (fun _ => False)) (F0 m 46 ls [.int (if ((A_m_rounded_1 c x y z) - (A_m_rounded_1 c x y z) / y * y) = (0 : Int64) then (0 : Int32) else (1 : Int32))]) := by
        refine W.eq (g2 := F0 m 46 ls [.int (I_m_rounded_2 c x y z)]) rfl ?_
        refine lv_istore (lv' := [(11, .int (I_m_rounded_2 c x y z)), (9, .long ((A_m_rounded_1 c x y z) / y)), (7, .long (A_m_rounded_1 c x y z)), (6, .int (if (0 : Int64) ≤ x then (0 : Int32) else (1 : Int32))), (0, .ref (bM G)), (1, .long x), (3, .long y), (5, .int z)]) hx hb dX3_rounded_46 hl (by decide) rfl (fun ls hl => ?_)
        refine lv_lload hx hb dX3_rounded_48 (lv_at hl 1 rfl) ?_
        refine kp_callSR (rm := rm_m_length) (As := [.long ((A_m_rounded_1 c x y z) / y)]) (rest := []) (r := some (.int (F_m_length ((A_m_rounded_1 c x y z) / y)))) (st1 := [.int (F_m_length ((A_m_rounded_1 c x y z) / y))]) B (C_m_length l D ty sz G Z hG c ((A_m_rounded_1 c x y z) / y)) kt_m_length kw_256 kw_257 (by decide) ⟨rfl, rfl⟩ (by decide) rfl (Nat.le_of_ble_eq_true rfl) hl.1 hP hS dX3_rounded_50 rfl ?_
        refine lv_aload_n hx hb dX3_rounded_53 rfl (lv_at hl 4 rfl) ?_
        refine km_get (j := 2) (v := .int c.1.2.2) B hP rfl (by decide) kw_246 dX3_rounded_54 ?_
        refine lv_iconst (v := (1 : Int32)) hx hb dX3_rounded_57 (by decide) ?_
        refine lv_iadd hx hb dX3_rounded_58 ?_
        have hJ78 : W p l e rm_m_rounded s m args below meth cd s.heap [] 0 0 (MQ below (kp_QR (some (.long (F_m_rounded c x y z)))) args s 0 0 (fun _ => False)) (F0 m 78 ls [.int (if (F_m_length ((A_m_rounded_1 c x y z) / y)) ≤ (c.1.2.2 + (1 : Int32)) then (0 : Int32) else ((F_m_length ((A_m_rounded_1 c x y z) / y)) - c.1.2.2) - (1 : Int32))]) := by
          refine W.eq (g2 := F0 m 78 ls [.int (I_m_rounded_3 c x y z)]) rfl ?_
          refine lv_istore (lv' := [(12, .int (I_m_rounded_3 c x y z)), (11, .int (I_m_rounded_2 c x y z)), (9, .long ((A_m_rounded_1 c x y z) / y)), (7, .long (A_m_rounded_1 c x y z)), (6, .int (if (0 : Int64) ≤ x then (0 : Int32) else (1 : Int32))), (0, .ref (bM G)), (1, .long x), (3, .long y), (5, .int z)]) hx hb dX3_rounded_78 hl (by decide) rfl (fun ls hl => ?_)
          refine lv_iload hx hb dX3_rounded_80 (lv_at hl 1 rfl) ?_
          have hJ104 : W p l e rm_m_rounded s m args below meth cd s.heap [] 0 0 (MQ below (kp_QR (some (.long (F_m_rounded c x y z)))) args s 0 0 (fun _ => False)) (F0 m 104 ls [.int (if (I_m_rounded_2 c x y z) = (0 : Int32) then (if ((((A_m_rounded_1 c x y z) / y) >>> ((I_m_rounded_3 c x y z).toInt64 &&& 63)) <<< ((I_m_rounded_3 c x y z).toInt64 &&& 63)) = ((A_m_rounded_1 c x y z) / y) then (0 : Int32) else (1 : Int32)) else (1 : Int32))]) := by
            refine W.eq (g2 := F0 m 104 ls [.int (I_m_rounded_4 c x y z)]) rfl ?_
            refine lv_istore (lv' := [(11, .int (I_m_rounded_4 c x y z)), (12, .int (I_m_rounded_3 c x y z)), (9, .long ((A_m_rounded_1 c x y z) / y)), (7, .long (A_m_rounded_1 c x y z)), (6, .int (if (0 : Int64) ≤ x then (0 : Int32) else (1 : Int32))), (0, .ref (bM G)), (1, .long x), (3, .long y), (5, .int z)]) hx hb dX3_rounded_104 hl (by decide) rfl (fun ls hl => ?_)
            refine lv_lload hx hb dX3_rounded_106 (lv_at hl 2 rfl) ?_
            refine lv_iload hx hb dX3_rounded_108 (lv_at hl 1 rfl) ?_
            refine lv_lshr (v := ((A_m_rounded_1 c x y z) / y) >>> ((I_m_rounded_3 c x y z).toInt64 &&& 63)) hx hb dX3_rounded_110 rfl ?_
            refine lv_iload hx hb dX3_rounded_111 (lv_at hl 1 rfl) ?_
            refine lv_lshl (v := (((A_m_rounded_1 c x y z) / y) >>> ((I_m_rounded_3 c x y z).toInt64 &&& 63)) <<< ((I_m_rounded_3 c x y z).toInt64 &&& 63)) hx hb dX3_rounded_113 rfl ?_
            refine W.eq (g2 := F0 m 114 ls [.long (A_m_rounded_5 c x y z)]) rfl ?_
            refine lv_lstore (lv' := [(9, .long (A_m_rounded_5 c x y z)), (11, .int (I_m_rounded_4 c x y z)), (12, .int (I_m_rounded_3 c x y z)), (7, .long (A_m_rounded_1 c x y z)), (6, .int (if (0 : Int64) ≤ x then (0 : Int32) else (1 : Int32))), (0, .ref (bM G)), (1, .long x), (3, .long y), (5, .int z)]) hx hb dX3_rounded_114 hl (by decide) rfl (fun ls hl => ?_)
            refine lv_iload hx hb dX3_rounded_116 (lv_at hl 8 rfl) ?_
            refine lv_iload hx hb dX3_rounded_118 (lv_at hl 4 rfl) ?_
            have hJ128 : W p l e rm_m_rounded s m args below meth cd s.heap [] 0 0 (MQ below (kp_QR (some (.long (F_m_rounded c x y z)))) args s 0 0 (fun _ => False)) (F0 m 128 ls [.int (if z = (if (0 : Int64) ≤ x then (0 : Int32) else (1 : Int32)) then (0 : Int32) else (1 : Int32))]) := by
              refine W.eq (g2 := F0 m 128 ls [.int (I_m_rounded_6 c x y z)]) rfl ?_
              refine lv_istore (lv' := [(13, .int (I_m_rounded_6 c x y z)), (9, .long (A_m_rounded_5 c x y z)), (11, .int (I_m_rounded_4 c x y z)), (12, .int (I_m_rounded_3 c x y z)), (7, .long (A_m_rounded_1 c x y z)), (6, .int (if (0 : Int64) ≤ x then (0 : Int32) else (1 : Int32))), (0, .ref (bM G)), (1, .long x), (3, .long y), (5, .int z)]) hx hb dX3_rounded_128 hl (by decide) rfl (fun ls hl => ?_)
              refine lv_iload hx hb dX3_rounded_130 (lv_at hl 0 rfl) ?_
              have hJ149 : ∀ ls : Array Slot, lv_has ls 14 [(0, .ref (bM G)), (1, .long x), (3, .long y), (5, .int z), (6, .int (if (0 : Int64) ≤ x then (0 : Int32) else (1 : Int32))), (7, .long (A_m_rounded_1 c x y z)), (9, .long (A_m_rounded_8 c x y z)), (11, .int (I_m_rounded_4 c x y z)), (12, .int (I_m_rounded_3 c x y z)), (13, .int (I_m_rounded_6 c x y z))] → W p l e rm_m_rounded s m args below meth cd s.heap [] 0 0 (MQ below (kp_QR (some (.long (F_m_rounded c x y z)))) args s 0 0 (fun _ => False)) (F0 m 149 ls []) := by
                intro ls hl
                refine lv_lload hx hb dX3_rounded_149 (lv_at hl 6 rfl) ?_
                refine lv_aload_n hx hb dX3_rounded_151 rfl (lv_at hl 0 rfl) ?_
                refine kp_callVR (rm := rm_m_most) (As := []) (rest := [.long (A_m_rounded_8 c x y z)]) (r := some (.long (F_m_most c))) (st1 := [.long (F_m_most c), .long (A_m_rounded_8 c x y z)]) B (C_m_most l D ty sz G Z hG c) kt_m_most kw_260 kw_261 kw_262 (km_rc B hP) (by decide) ⟨rfl, rfl⟩ (by decide) rfl (Nat.le_of_ble_eq_true rfl) hl.1 hP hS dX3_rounded_152 rfl ?_
                have hJ176 : ∀ ls : Array Slot, lv_has ls 14 [(0, .ref (bM G)), (1, .long x), (3, .long y), (5, .int z), (6, .int (if (0 : Int64) ≤ x then (0 : Int32) else (1 : Int32))), (7, .long (A_m_rounded_1 c x y z)), (9, .long (A_m_rounded_10 c x y z)), (11, .int (I_m_rounded_4 c x y z)), (12, .int (I_m_rounded_3 c x y z)), (13, .int (I_m_rounded_6 c x y z))] → W p l e rm_m_rounded s m args below meth cd s.heap [] 0 0 (MQ below (kp_QR (some (.long (F_m_rounded c x y z)))) args s 0 0 (fun _ => False)) (F0 m 176 ls []) := by
                  intro ls hl
                  refine lv_iload hx hb dX3_rounded_176 (lv_at hl 4 rfl) ?_
                  refine lv_if_eq (tgt := 187) hx hb dX3_rounded_178 (by decide) (fun q_1 => ?_) (fun q_1 => ?_)
                  · refine lv_lload hx hb dX3_rounded_187 (lv_at hl 6 rfl) ?_
                    exact kp_retlR B (by simp only [F_m_rounded, if_pos q_1]) dX3_rounded_189
                  · refine lv_lload hx hb dX3_rounded_181 (lv_at hl 6 rfl) ?_
                    refine lv_lneg hx hb dX3_rounded_183 ?_
                    refine lv_goto (tgt := 189) hx hb dX3_rounded_184 (by decide) ?_
                    exact kp_retlR B (by simp only [F_m_rounded, if_neg q_1]) dX3_rounded_189
                refine kp_lle (tgt := 176) hx hb dX3_rounded_155 dX3_rounded_156 (by decide) (fun q_2 => ?_) (fun q_2 => ?_)
                · exact hJ176 ls (kp_jl (lv_sub (l' := [(0, .ref (bM G)), (1, .long x), (3, .long y), (5, .int z), (6, .int (if (0 : Int64) ≤ x then (0 : Int32) else (1 : Int32))), (7, .long (A_m_rounded_1 c x y z)), (9, .long (A_m_rounded_8 c x y z)), (11, .int (I_m_rounded_4 c x y z)), (12, .int (I_m_rounded_3 c x y z)), (13, .int (I_m_rounded_6 c x y z))]) hl [0, 1, 2, 3, 4, 5, 6, 7, 8, 9] rfl) (by simp only [A_m_rounded_10, A_m_rounded_9, if_pos q_2]))
                · refine lv_iload hx hb dX3_rounded_159 (lv_at hl 9 rfl) ?_
                  refine lv_if_eq (tgt := 170) hx hb dX3_rounded_161 (by decide) (fun q_3 => ?_) (fun q_3 => ?_)
                  · refine lv_aload_n hx hb dX3_rounded_170 rfl (lv_at hl 0 rfl) ?_
                    refine kp_callVR (rm := rm_m_most) (As := []) (rest := []) (r := some (.long (F_m_most c))) (st1 := [.long (F_m_most c)]) B (C_m_most l D ty sz G Z hG c) kt_m_most kw_260 kw_261 kw_262 (km_rc B hP) (by decide) ⟨rfl, rfl⟩ (by decide) rfl (Nat.le_of_ble_eq_true rfl) hl.1 hP hS dX3_rounded_171 rfl ?_
                    refine lv_lstore (lv' := [(9, .long (F_m_most c)), (0, .ref (bM G)), (1, .long x), (3, .long y), (5, .int z), (6, .int (if (0 : Int64) ≤ x then (0 : Int32) else (1 : Int32))), (7, .long (A_m_rounded_1 c x y z)), (11, .int (I_m_rounded_4 c x y z)), (12, .int (I_m_rounded_3 c x y z)), (13, .int (I_m_rounded_6 c x y z))]) hx hb dX3_rounded_174 hl (by decide) rfl (fun ls hl => ?_)
                    exact hJ176 ls (kp_jl (lv_sub (l' := [(0, .ref (bM G)), (1, .long x), (3, .long y), (5, .int z), (6, .int (if (0 : Int64) ≤ x then (0 : Int32) else (1 : Int32))), (7, .long (A_m_rounded_1 c x y z)), (9, .long (F_m_most c)), (11, .int (I_m_rounded_4 c x y z)), (12, .int (I_m_rounded_3 c x y z)), (13, .int (I_m_rounded_6 c x y z))]) hl [1, 2, 3, 4, 5, 6, 0, 7, 8, 9] rfl) (by simp only [A_m_rounded_10, A_m_rounded_9, if_neg q_2, if_pos q_3]))
                  · refine lv_ldc2 (v := mw_far) hx hb hown (hw _ kw_253 rfl) dX3_rounded_164 ?_
                    refine lv_goto (tgt := 174) hx hb dX3_rounded_167 (by decide) ?_
                    refine lv_lstore (lv' := [(9, .long mw_far), (0, .ref (bM G)), (1, .long x), (3, .long y), (5, .int z), (6, .int (if (0 : Int64) ≤ x then (0 : Int32) else (1 : Int32))), (7, .long (A_m_rounded_1 c x y z)), (11, .int (I_m_rounded_4 c x y z)), (12, .int (I_m_rounded_3 c x y z)), (13, .int (I_m_rounded_6 c x y z))]) hx hb dX3_rounded_174 hl (by decide) rfl (fun ls hl => ?_)
                    exact hJ176 ls (kp_jl (lv_sub (l' := [(0, .ref (bM G)), (1, .long x), (3, .long y), (5, .int z), (6, .int (if (0 : Int64) ≤ x then (0 : Int32) else (1 : Int32))), (7, .long (A_m_rounded_1 c x y z)), (9, .long mw_far), (11, .int (I_m_rounded_4 c x y z)), (12, .int (I_m_rounded_3 c x y z)), (13, .int (I_m_rounded_6 c x y z))]) hl [1, 2, 3, 4, 5, 6, 0, 7, 8, 9] rfl) (by simp only [A_m_rounded_10, A_m_rounded_9, if_neg q_2, if_neg q_3]))
              refine lv_if_eq (tgt := 149) hx hb dX3_rounded_132 (by decide) (fun q_4 => ?_) (fun q_4 => ?_)
              · exact hJ149 ls (kp_jl (lv_sub (l' := [(0, .ref (bM G)), (1, .long x), (3, .long y), (5, .int z), (6, .int (if (0 : Int64) ≤ x then (0 : Int32) else (1 : Int32))), (7, .long (A_m_rounded_1 c x y z)), (9, .long (A_m_rounded_5 c x y z)), (11, .int (I_m_rounded_4 c x y z)), (12, .int (I_m_rounded_3 c x y z)), (13, .int (I_m_rounded_6 c x y z))]) hl [6, 7, 8, 9, 5, 4, 1, 2, 3, 0] rfl) (by simp only [A_m_rounded_8, if_pos q_4]))
              · refine lv_iload hx hb dX3_rounded_135 (lv_at hl 2 rfl) ?_
                refine lv_if_eq (tgt := 149) hx hb dX3_rounded_137 (by decide) (fun q_5 => ?_) (fun q_5 => ?_)
                · exact hJ149 ls (kp_jl (lv_sub (l' := [(0, .ref (bM G)), (1, .long x), (3, .long y), (5, .int z), (6, .int (if (0 : Int64) ≤ x then (0 : Int32) else (1 : Int32))), (7, .long (A_m_rounded_1 c x y z)), (9, .long (A_m_rounded_5 c x y z)), (11, .int (I_m_rounded_4 c x y z)), (12, .int (I_m_rounded_3 c x y z)), (13, .int (I_m_rounded_6 c x y z))]) hl [6, 7, 8, 9, 5, 4, 1, 2, 3, 0] rfl) (by simp only [A_m_rounded_8, if_neg q_4, if_pos q_5]))
                · refine lv_lload hx hb dX3_rounded_140 (lv_at hl 1 rfl) ?_
                  refine lv_lconst (v := (1 : Int64)) hx hb dX3_rounded_142 (by decide) ?_
                  refine lv_iload hx hb dX3_rounded_143 (lv_at hl 3 rfl) ?_
                  refine lv_lshl (v := (1 : Int64) <<< ((I_m_rounded_3 c x y z).toInt64 &&& 63)) hx hb dX3_rounded_145 rfl ?_
                  refine lv_ladd hx hb dX3_rounded_146 ?_
                  refine W.eq (g2 := F0 m 147 ls [.long (A_m_rounded_7 c x y z)]) rfl ?_
                  refine lv_lstore (lv' := [(9, .long (A_m_rounded_7 c x y z)), (13, .int (I_m_rounded_6 c x y z)), (11, .int (I_m_rounded_4 c x y z)), (12, .int (I_m_rounded_3 c x y z)), (7, .long (A_m_rounded_1 c x y z)), (6, .int (if (0 : Int64) ≤ x then (0 : Int32) else (1 : Int32))), (0, .ref (bM G)), (1, .long x), (3, .long y), (5, .int z)]) hx hb dX3_rounded_147 hl (by decide) rfl (fun ls hl => ?_)
                  exact hJ149 ls (kp_jl (lv_sub (l' := [(0, .ref (bM G)), (1, .long x), (3, .long y), (5, .int z), (6, .int (if (0 : Int64) ≤ x then (0 : Int32) else (1 : Int32))), (7, .long (A_m_rounded_1 c x y z)), (9, .long (A_m_rounded_7 c x y z)), (11, .int (I_m_rounded_4 c x y z)), (12, .int (I_m_rounded_3 c x y z)), (13, .int (I_m_rounded_6 c x y z))]) hl [6, 7, 8, 9, 5, 4, 0, 2, 3, 1] rfl) (by simp only [A_m_rounded_8, if_neg q_4, if_neg q_5]))
            refine lv_icmp_eq (tgt := 127) hx hb dX3_rounded_120 (by decide) (fun q_6 => ?_) (fun q_6 => ?_)
            · refine lv_iconst (v := (0 : Int32)) hx hb dX3_rounded_127 (by decide) ?_
              exact kp_jI (by simp only [if_pos q_6]) hJ128
            · refine lv_iconst (v := (1 : Int32)) hx hb dX3_rounded_123 (by decide) ?_
              refine lv_goto (tgt := 128) hx hb dX3_rounded_124 (by decide) ?_
              exact kp_jI (by simp only [if_neg q_6]) hJ128
          refine lv_if_ne (tgt := 99) hx hb dX3_rounded_82 (by decide) (fun q_7 => ?_) (fun q_7 => ?_)
          · refine lv_iconst (v := (1 : Int32)) hx hb dX3_rounded_99 (by decide) ?_
            refine lv_goto (tgt := 104) hx hb dX3_rounded_100 (by decide) ?_
            exact kp_jI (by simp only [if_neg q_7]) hJ104
          · refine lv_lload hx hb dX3_rounded_85 (lv_at hl 2 rfl) ?_
            refine lv_iload hx hb dX3_rounded_87 (lv_at hl 0 rfl) ?_
            refine lv_lshr (v := ((A_m_rounded_1 c x y z) / y) >>> ((I_m_rounded_3 c x y z).toInt64 &&& 63)) hx hb dX3_rounded_89 rfl ?_
            refine lv_iload hx hb dX3_rounded_90 (lv_at hl 0 rfl) ?_
            refine lv_lshl (v := (((A_m_rounded_1 c x y z) / y) >>> ((I_m_rounded_3 c x y z).toInt64 &&& 63)) <<< ((I_m_rounded_3 c x y z).toInt64 &&& 63)) hx hb dX3_rounded_92 rfl ?_
            refine lv_lload hx hb dX3_rounded_93 (lv_at hl 2 rfl) ?_
            refine kp_leq (tgt := 103) hx hb dX3_rounded_95 dX3_rounded_96 (by decide) (fun q_8 => ?_) (fun q_8 => ?_)
            · refine lv_iconst (v := (0 : Int32)) hx hb dX3_rounded_103 (by decide) ?_
              exact kp_jI (by simp only [if_pos q_7, if_pos q_8]) hJ104
            · refine lv_iconst (v := (1 : Int32)) hx hb dX3_rounded_99 (by decide) ?_
              refine lv_goto (tgt := 104) hx hb dX3_rounded_100 (by decide) ?_
              exact kp_jI (by simp only [if_pos q_7, if_neg q_8]) hJ104
        refine lv_icmp_le (tgt := 77) hx hb dX3_rounded_59 (by decide) (fun q_9 => ?_) (fun q_9 => ?_)
        · refine lv_iconst (v := (0 : Int32)) hx hb dX3_rounded_77 (by decide) ?_
          exact kp_jI (by simp only [if_pos q_9]) hJ78
        · refine lv_lload hx hb dX3_rounded_62 (lv_at hl 1 rfl) ?_
          refine kp_callSR (rm := rm_m_length) (As := [.long ((A_m_rounded_1 c x y z) / y)]) (rest := []) (r := some (.int (F_m_length ((A_m_rounded_1 c x y z) / y)))) (st1 := [.int (F_m_length ((A_m_rounded_1 c x y z) / y))]) B (C_m_length l D ty sz G Z hG c ((A_m_rounded_1 c x y z) / y)) kt_m_length kw_256 kw_257 (by decide) ⟨rfl, rfl⟩ (by decide) rfl (Nat.le_of_ble_eq_true rfl) hl.1 hP hS dX3_rounded_64 rfl ?_
          refine lv_aload_n hx hb dX3_rounded_67 rfl (lv_at hl 4 rfl) ?_
          refine km_get (j := 2) (v := .int c.1.2.2) B hP rfl (by decide) kw_246 dX3_rounded_68 ?_
          refine lv_isub hx hb dX3_rounded_71 ?_
          refine lv_iconst (v := (1 : Int32)) hx hb dX3_rounded_72 (by decide) ?_
          refine lv_isub hx hb dX3_rounded_73 ?_
          refine lv_goto (tgt := 78) hx hb dX3_rounded_74 (by decide) ?_
          exact kp_jI (by simp only [if_neg q_9]) hJ78
      refine kp_leq (tgt := 45) hx hb dX3_rounded_37 dX3_rounded_38 (by decide) (fun q_10 => ?_) (fun q_10 => ?_)
      · refine lv_iconst (v := (0 : Int32)) hx hb dX3_rounded_45 (by decide) ?_
        exact kp_jI (by simp only [if_pos q_10]) hJ46
      · refine lv_iconst (v := (1 : Int32)) hx hb dX3_rounded_41 (by decide) ?_
        refine lv_goto (tgt := 46) hx hb dX3_rounded_42 (by decide) ?_
        exact kp_jI (by simp only [if_neg q_10]) hJ46
    refine lv_if_eq (tgt := 23) hx hb dX3_rounded_15 (by decide) (fun q_11 => ?_) (fun q_11 => ?_)
    · refine lv_lload_n hx hb dX3_rounded_23 rfl (lv_at hl 2 rfl) ?_
      exact kp_jJ (by simp only [if_pos q_11]) hJ24
    · refine lv_lload_n hx hb dX3_rounded_18 rfl (lv_at hl 2 rfl) ?_
      refine lv_lneg hx hb dX3_rounded_19 ?_
      refine lv_goto (tgt := 24) hx hb dX3_rounded_20 (by decide) ?_
      exact kp_jJ (by simp only [if_neg q_11]) hJ24
  refine kp_lge (tgt := 10) hx hb dX3_rounded_2 dX3_rounded_3 (by decide) (fun q_12 => ?_) (fun q_12 => ?_)
  · refine lv_iconst (v := (0 : Int32)) hx hb dX3_rounded_10 (by decide) ?_
    exact kp_jI (by simp only [if_pos q_12]) hJ11
  · refine lv_iconst (v := (1 : Int32)) hx hb dX3_rounded_6 (by decide) ?_
    refine lv_goto (tgt := 11) hx hb dX3_rounded_7 (by decide) ?_
    exact kp_jI (by simp only [if_neg q_12]) hJ11
def F_m_isEnd (x : Int64) : Int32 :=
  if x ≤ (-mw_far) then (0 : Int32) else (if mw_far ≤ x then (0 : Int32) else (1 : Int32))
def rm_m_isEnd : Room := { frames := 0, cells := 0, slots := 0, locals := 0 }
set_option maxHeartbeats 4000000 in
set_option maxRecDepth 100000 in
theorem C_m_isEnd (l : Launch) (D : va_G) (ty : List (ClassId × FieldType)) (sz : Nat) (G : mw_G) (Z : va_W) (hG : mw_ok ty sz G Z) (c : mw_C) (x : Int64) : kp_R l yX3_isEnd cX3_isEnd 2 (some .boolean) rm_m_isEnd D ty sz [.long x] (mw_W G c Z) (some (.int (F_m_isEnd x))) := by
  refine kp_bodyR (by decide) (Nat.le_of_ble_eq_true rfl) rfl ?_
  intro p e s m args below meth cd ls B hl hP hS
  obtain ⟨hx, hb, hml, hown, hlk, hr, hw, hE, hK, hsz⟩ := id B
  have hl : lv_has ls 2 [(0, .long x)] := hl
  refine lv_lload_n hx hb dX3_isEnd_0 rfl (lv_at hl 0 rfl) ?_
  refine lv_ldc2 (v := (-mw_far)) hx hb hown (hw _ kw_263 rfl) dX3_isEnd_1 ?_
  refine kp_lle (tgt := 20) hx hb dX3_isEnd_4 dX3_isEnd_5 (by decide) (fun q_1 => ?_) (fun q_1 => ?_)
  · refine lv_iconst (v := (0 : Int32)) hx hb dX3_isEnd_20 (by decide) ?_
    exact kp_retzR B (by simp only [F_m_isEnd, if_pos q_1]) (Or.inl rfl) dX3_isEnd_21
  · refine lv_lload_n hx hb dX3_isEnd_8 rfl (lv_at hl 0 rfl) ?_
    refine lv_ldc2 (v := mw_far) hx hb hown (hw _ kw_253 rfl) dX3_isEnd_9 ?_
    refine kp_lge (tgt := 20) hx hb dX3_isEnd_12 dX3_isEnd_13 (by decide) (fun q_2 => ?_) (fun q_2 => ?_)
    · refine lv_iconst (v := (0 : Int32)) hx hb dX3_isEnd_20 (by decide) ?_
      exact kp_retzR B (by simp only [F_m_isEnd, if_neg q_1, if_pos q_2]) (Or.inl rfl) dX3_isEnd_21
    · refine lv_iconst (v := (1 : Int32)) hx hb dX3_isEnd_16 (by decide) ?_
      refine lv_goto (tgt := 21) hx hb dX3_isEnd_17 (by decide) ?_
      exact kp_retzR B (by simp only [F_m_isEnd, if_neg q_1, if_neg q_2]) (Or.inr rfl) dX3_isEnd_21
def F_m_plus (x : Int64) (y : Int64) (z : Int64) : Int64 :=
  if (F_m_isEnd x) = (0 : Int32) then z else (if (F_m_isEnd y) = (0 : Int32) then z else x + y)
def rm_m_plus : Room := { frames := 1, cells := 0, slots := 0, locals := 21 }
set_option maxHeartbeats 4000000 in
set_option maxRecDepth 100000 in
theorem C_m_plus (l : Launch) (D : va_G) (ty : List (ClassId × FieldType)) (sz : Nat) (G : mw_G) (Z : va_W) (hG : mw_ok ty sz G Z) (c : mw_C) (x : Int64) (y : Int64) (z : Int64) : kp_R l yX3_plus cX3_plus 6 (some .long) rm_m_plus D ty sz [.long x, .long y, .long z] (mw_W G c Z) (some (.long (F_m_plus x y z))) := by
  refine kp_bodyR (by decide) (Nat.le_of_ble_eq_true rfl) rfl ?_
  intro p e s m args below meth cd ls B hl hP hS
  obtain ⟨hx, hb, hml, hown, hlk, hr, hw, hE, hK, hsz⟩ := id B
  have hl : lv_has ls 6 [(0, .long x), (2, .long y), (4, .long z)] := hl
  refine lv_lload_n hx hb dX3_plus_0 rfl (lv_at hl 0 rfl) ?_
  refine kp_callSR (rm := rm_m_isEnd) (As := [.long x]) (rest := []) (r := some (.int (F_m_isEnd x))) (st1 := [.int (F_m_isEnd x)]) B (C_m_isEnd l D ty sz G Z hG c x) kt_m_isEnd kw_266 kw_267 (by decide) ⟨rfl, rfl⟩ (by decide) rfl (Nat.le_of_ble_eq_true rfl) hl.1 hP hS dX3_plus_1 rfl ?_
  refine lv_if_eq (tgt := 20) hx hb dX3_plus_4 (by decide) (fun q_1 => ?_) (fun q_1 => ?_)
  · refine lv_lload hx hb dX3_plus_20 (lv_at hl 2 rfl) ?_
    exact kp_retlR B (by simp only [F_m_plus, if_pos q_1]) dX3_plus_22
  · refine lv_lload_n hx hb dX3_plus_7 rfl (lv_at hl 1 rfl) ?_
    refine kp_callSR (rm := rm_m_isEnd) (As := [.long y]) (rest := []) (r := some (.int (F_m_isEnd y))) (st1 := [.int (F_m_isEnd y)]) B (C_m_isEnd l D ty sz G Z hG c y) kt_m_isEnd kw_266 kw_267 (by decide) ⟨rfl, rfl⟩ (by decide) rfl (Nat.le_of_ble_eq_true rfl) hl.1 hP hS dX3_plus_8 rfl ?_
    refine lv_if_eq (tgt := 20) hx hb dX3_plus_11 (by decide) (fun q_2 => ?_) (fun q_2 => ?_)
    · refine lv_lload hx hb dX3_plus_20 (lv_at hl 2 rfl) ?_
      exact kp_retlR B (by simp only [F_m_plus, if_neg q_1, if_pos q_2]) dX3_plus_22
    · refine lv_lload_n hx hb dX3_plus_14 rfl (lv_at hl 0 rfl) ?_
      refine lv_lload_n hx hb dX3_plus_15 rfl (lv_at hl 1 rfl) ?_
      refine lv_ladd hx hb dX3_plus_16 ?_
      refine lv_goto (tgt := 22) hx hb dX3_plus_17 (by decide) ?_
      exact kp_retlR B (by simp only [F_m_plus, if_neg q_1, if_neg q_2]) dX3_plus_22
def F_m_times (x : Int64) (y : Int64) : Int64 :=
  if x = (0 : Int64) then (0 : Int64) else (if y = (0 : Int64) then (0 : Int64) else (if (F_m_isEnd x) = (0 : Int32) then (if (if (0 : Int64) ≤ x then (0 : Int32) else (1 : Int32)) = (if (0 : Int64) ≤ y then (0 : Int32) else (1 : Int32)) then mw_far else (-mw_far)) else (if (F_m_isEnd y) = (0 : Int32) then (if (if (0 : Int64) ≤ x then (0 : Int32) else (1 : Int32)) = (if (0 : Int64) ≤ y then (0 : Int32) else (1 : Int32)) then mw_far else (-mw_far)) else x * y)))
def rm_m_times : Room := { frames := 1, cells := 0, slots := 0, locals := 21 }
set_option maxHeartbeats 4000000 in
set_option maxRecDepth 100000 in
theorem C_m_times (l : Launch) (D : va_G) (ty : List (ClassId × FieldType)) (sz : Nat) (G : mw_G) (Z : va_W) (hG : mw_ok ty sz G Z) (c : mw_C) (x : Int64) (y : Int64) : kp_R l yX3_times cX3_times 4 (some .long) rm_m_times D ty sz [.long x, .long y] (mw_W G c Z) (some (.long (F_m_times x y))) := by
  refine kp_bodyR (by decide) (Nat.le_of_ble_eq_true rfl) rfl ?_
  intro p e s m args below meth cd ls B hl hP hS
  obtain ⟨hx, hb, hml, hown, hlk, hr, hw, hE, hK, hsz⟩ := id B
  have hl : lv_has ls 4 [(0, .long x), (2, .long y)] := hl
  refine lv_lload_n hx hb dX3_times_0 rfl (lv_at hl 0 rfl) ?_
  refine lv_lconst (v := (0 : Int64)) hx hb dX3_times_1 (by decide) ?_
  refine kp_leq (tgt := 12) hx hb dX3_times_2 dX3_times_3 (by decide) (fun q_1 => ?_) (fun q_1 => ?_)
  · refine lv_lconst (v := (0 : Int64)) hx hb dX3_times_12 (by decide) ?_
    exact kp_retlR B (by simp only [F_m_times, if_pos q_1]) dX3_times_13
  · refine lv_lload_n hx hb dX3_times_6 rfl (lv_at hl 1 rfl) ?_
    refine lv_lconst (v := (0 : Int64)) hx hb dX3_times_7 (by decide) ?_
    refine kp_lne (tgt := 14) hx hb dX3_times_8 dX3_times_9 (by decide) (fun q_2 => ?_) (fun q_2 => ?_)
    · refine lv_lload_n hx hb dX3_times_14 rfl (lv_at hl 0 rfl) ?_
      refine kp_callSR (rm := rm_m_isEnd) (As := [.long x]) (rest := []) (r := some (.int (F_m_isEnd x))) (st1 := [.int (F_m_isEnd x)]) B (C_m_isEnd l D ty sz G Z hG c x) kt_m_isEnd kw_266 kw_267 (by decide) ⟨rfl, rfl⟩ (by decide) rfl (Nat.le_of_ble_eq_true rfl) hl.1 hP hS dX3_times_15 rfl ?_
      refine lv_if_eq (tgt := 34) hx hb dX3_times_18 (by decide) (fun q_3 => ?_) (fun q_3 => ?_)
      · refine lv_lload_n hx hb dX3_times_34 rfl (lv_at hl 0 rfl) ?_
        refine lv_lconst (v := (0 : Int64)) hx hb dX3_times_35 (by decide) ?_
        have hJ45 : W p l e rm_m_times s m args below meth cd s.heap [] 0 0 (MQ below (kp_QR (some (.long (F_m_times x y)))) args s 0 0 (fun _ => False)) (F0 m 45 ls [.int (if (0 : Int64) ≤ x then (0 : Int32) else (1 : Int32))]) := by
          refine lv_lload_n hx hb dX3_times_45 rfl (lv_at hl 1 rfl) ?_
          refine lv_lconst (v := (0 : Int64)) hx hb dX3_times_46 (by decide) ?_
          have hJ56 : W p l e rm_m_times s m args below meth cd s.heap [] 0 0 (MQ below (kp_QR (some (.long (F_m_times x y)))) args s 0 0 (fun _ => False)) (F0 m 56 ls [.int (if (0 : Int64) ≤ y then (0 : Int32) else (1 : Int32)), .int (if (0 : Int64) ≤ x then (0 : Int32) else (1 : Int32))]) := by
            refine lv_icmp_ne (tgt := 65) hx hb dX3_times_56 (by decide) (fun q_4 => ?_) (fun q_4 => ?_)
            · refine lv_ldc2 (v := (-mw_far)) hx hb hown (hw _ kw_263 rfl) dX3_times_65 ?_
              exact kp_retlR B (by simp only [F_m_times, if_neg q_1, if_neg q_2, if_pos q_3, if_neg q_4]) dX3_times_68
            · refine lv_ldc2 (v := mw_far) hx hb hown (hw _ kw_253 rfl) dX3_times_59 ?_
              refine lv_goto (tgt := 68) hx hb dX3_times_62 (by decide) ?_
              exact kp_retlR B (by simp only [F_m_times, if_neg q_1, if_neg q_2, if_pos q_3, if_pos q_4]) dX3_times_68
          refine kp_lge (tgt := 55) hx hb dX3_times_47 dX3_times_48 (by decide) (fun q_5 => ?_) (fun q_5 => ?_)
          · refine lv_iconst (v := (0 : Int32)) hx hb dX3_times_55 (by decide) ?_
            exact kp_jI (by simp only [if_pos q_5]) hJ56
          · refine lv_iconst (v := (1 : Int32)) hx hb dX3_times_51 (by decide) ?_
            refine lv_goto (tgt := 56) hx hb dX3_times_52 (by decide) ?_
            exact kp_jI (by simp only [if_neg q_5]) hJ56
        refine kp_lge (tgt := 44) hx hb dX3_times_36 dX3_times_37 (by decide) (fun q_6 => ?_) (fun q_6 => ?_)
        · refine lv_iconst (v := (0 : Int32)) hx hb dX3_times_44 (by decide) ?_
          exact kp_jI (by simp only [if_pos q_6]) hJ45
        · refine lv_iconst (v := (1 : Int32)) hx hb dX3_times_40 (by decide) ?_
          refine lv_goto (tgt := 45) hx hb dX3_times_41 (by decide) ?_
          exact kp_jI (by simp only [if_neg q_6]) hJ45
      · refine lv_lload_n hx hb dX3_times_21 rfl (lv_at hl 1 rfl) ?_
        refine kp_callSR (rm := rm_m_isEnd) (As := [.long y]) (rest := []) (r := some (.int (F_m_isEnd y))) (st1 := [.int (F_m_isEnd y)]) B (C_m_isEnd l D ty sz G Z hG c y) kt_m_isEnd kw_266 kw_267 (by decide) ⟨rfl, rfl⟩ (by decide) rfl (Nat.le_of_ble_eq_true rfl) hl.1 hP hS dX3_times_22 rfl ?_
        refine lv_if_eq (tgt := 34) hx hb dX3_times_25 (by decide) (fun q_7 => ?_) (fun q_7 => ?_)
        · refine lv_lload_n hx hb dX3_times_34 rfl (lv_at hl 0 rfl) ?_
          refine lv_lconst (v := (0 : Int64)) hx hb dX3_times_35 (by decide) ?_
          have hJ45 : W p l e rm_m_times s m args below meth cd s.heap [] 0 0 (MQ below (kp_QR (some (.long (F_m_times x y)))) args s 0 0 (fun _ => False)) (F0 m 45 ls [.int (if (0 : Int64) ≤ x then (0 : Int32) else (1 : Int32))]) := by
            refine lv_lload_n hx hb dX3_times_45 rfl (lv_at hl 1 rfl) ?_
            refine lv_lconst (v := (0 : Int64)) hx hb dX3_times_46 (by decide) ?_
            have hJ56 : W p l e rm_m_times s m args below meth cd s.heap [] 0 0 (MQ below (kp_QR (some (.long (F_m_times x y)))) args s 0 0 (fun _ => False)) (F0 m 56 ls [.int (if (0 : Int64) ≤ y then (0 : Int32) else (1 : Int32)), .int (if (0 : Int64) ≤ x then (0 : Int32) else (1 : Int32))]) := by
              refine lv_icmp_ne (tgt := 65) hx hb dX3_times_56 (by decide) (fun q_8 => ?_) (fun q_8 => ?_)
              · refine lv_ldc2 (v := (-mw_far)) hx hb hown (hw _ kw_263 rfl) dX3_times_65 ?_
                exact kp_retlR B (by simp only [F_m_times, if_neg q_1, if_neg q_2, if_neg q_3, if_pos q_7, if_neg q_8]) dX3_times_68
              · refine lv_ldc2 (v := mw_far) hx hb hown (hw _ kw_253 rfl) dX3_times_59 ?_
                refine lv_goto (tgt := 68) hx hb dX3_times_62 (by decide) ?_
                exact kp_retlR B (by simp only [F_m_times, if_neg q_1, if_neg q_2, if_neg q_3, if_pos q_7, if_pos q_8]) dX3_times_68
            refine kp_lge (tgt := 55) hx hb dX3_times_47 dX3_times_48 (by decide) (fun q_9 => ?_) (fun q_9 => ?_)
            · refine lv_iconst (v := (0 : Int32)) hx hb dX3_times_55 (by decide) ?_
              exact kp_jI (by simp only [if_pos q_9]) hJ56
            · refine lv_iconst (v := (1 : Int32)) hx hb dX3_times_51 (by decide) ?_
              refine lv_goto (tgt := 56) hx hb dX3_times_52 (by decide) ?_
              exact kp_jI (by simp only [if_neg q_9]) hJ56
          refine kp_lge (tgt := 44) hx hb dX3_times_36 dX3_times_37 (by decide) (fun q_10 => ?_) (fun q_10 => ?_)
          · refine lv_iconst (v := (0 : Int32)) hx hb dX3_times_44 (by decide) ?_
            exact kp_jI (by simp only [if_pos q_10]) hJ45
          · refine lv_iconst (v := (1 : Int32)) hx hb dX3_times_40 (by decide) ?_
            refine lv_goto (tgt := 45) hx hb dX3_times_41 (by decide) ?_
            exact kp_jI (by simp only [if_neg q_10]) hJ45
        · refine lv_lload_n hx hb dX3_times_28 rfl (lv_at hl 0 rfl) ?_
          refine lv_lload_n hx hb dX3_times_29 rfl (lv_at hl 1 rfl) ?_
          refine lv_lmul hx hb dX3_times_30 ?_
          refine lv_goto (tgt := 68) hx hb dX3_times_31 (by decide) ?_
          exact kp_retlR B (by simp only [F_m_times, if_neg q_1, if_neg q_2, if_neg q_3, if_neg q_7]) dX3_times_68
    · refine lv_lconst (v := (0 : Int64)) hx hb dX3_times_12 (by decide) ?_
      exact kp_retlR B (by simp only [F_m_times, if_neg q_1, if_pos q_2]) dX3_times_13
def F_m_less (x : Int64) (y : Int64) : Int64 :=
  if y ≤ x then y else x
def rm_m_less : Room := { frames := 0, cells := 0, slots := 0, locals := 0 }
set_option maxHeartbeats 4000000 in
set_option maxRecDepth 100000 in
theorem C_m_less (l : Launch) (D : va_G) (ty : List (ClassId × FieldType)) (sz : Nat) (G : mw_G) (Z : va_W) (hG : mw_ok ty sz G Z) (c : mw_C) (x : Int64) (y : Int64) : kp_R l yX3_less cX3_less 4 (some .long) rm_m_less D ty sz [.long x, .long y] (mw_W G c Z) (some (.long (F_m_less x y))) := by
  refine kp_bodyR (by decide) (Nat.le_of_ble_eq_true rfl) rfl ?_
  intro p e s m args below meth cd ls B hl hP hS
  obtain ⟨hx, hb, hml, hown, hlk, hr, hw, hE, hK, hsz⟩ := id B
  have hl : lv_has ls 4 [(0, .long x), (2, .long y)] := hl
  refine lv_lload_n hx hb dX3_less_0 rfl (lv_at hl 0 rfl) ?_
  refine lv_lload_n hx hb dX3_less_1 rfl (lv_at hl 1 rfl) ?_
  refine kp_lge (tgt := 10) hx hb dX3_less_2 dX3_less_3 (by decide) (fun q_1 => ?_) (fun q_1 => ?_)
  · refine lv_lload_n hx hb dX3_less_10 rfl (lv_at hl 1 rfl) ?_
    exact kp_retlR B (by simp only [F_m_less, if_pos q_1]) dX3_less_11
  · refine lv_lload_n hx hb dX3_less_6 rfl (lv_at hl 0 rfl) ?_
    refine lv_goto (tgt := 11) hx hb dX3_less_7 (by decide) ?_
    exact kp_retlR B (by simp only [F_m_less, if_neg q_1]) dX3_less_11
def F_m_more (x : Int64) (y : Int64) : Int64 :=
  if x ≤ y then y else x
def rm_m_more : Room := { frames := 0, cells := 0, slots := 0, locals := 0 }
set_option maxHeartbeats 4000000 in
set_option maxRecDepth 100000 in
theorem C_m_more (l : Launch) (D : va_G) (ty : List (ClassId × FieldType)) (sz : Nat) (G : mw_G) (Z : va_W) (hG : mw_ok ty sz G Z) (c : mw_C) (x : Int64) (y : Int64) : kp_R l yX3_more cX3_more 4 (some .long) rm_m_more D ty sz [.long x, .long y] (mw_W G c Z) (some (.long (F_m_more x y))) := by
  refine kp_bodyR (by decide) (Nat.le_of_ble_eq_true rfl) rfl ?_
  intro p e s m args below meth cd ls B hl hP hS
  obtain ⟨hx, hb, hml, hown, hlk, hr, hw, hE, hK, hsz⟩ := id B
  have hl : lv_has ls 4 [(0, .long x), (2, .long y)] := hl
  refine lv_lload_n hx hb dX3_more_0 rfl (lv_at hl 0 rfl) ?_
  refine lv_lload_n hx hb dX3_more_1 rfl (lv_at hl 1 rfl) ?_
  refine kp_lle (tgt := 10) hx hb dX3_more_2 dX3_more_3 (by decide) (fun q_1 => ?_) (fun q_1 => ?_)
  · refine lv_lload_n hx hb dX3_more_10 rfl (lv_at hl 1 rfl) ?_
    exact kp_retlR B (by simp only [F_m_more, if_pos q_1]) dX3_more_11
  · refine lv_lload_n hx hb dX3_more_6 rfl (lv_at hl 0 rfl) ?_
    refine lv_goto (tgt := 11) hx hb dX3_more_7 (by decide) ?_
    exact kp_retlR B (by simp only [F_m_more, if_neg q_1]) dX3_more_11
end
section
def B_m_span_1 (c : mw_C) (x : Int64) (y : Int64) (z : Int64) : mw_C := mp_from (mp_is c (z_t (1 : Int32))) (if (F_m_isEnd x) = (0 : Int32) then (-mw_far) else F_m_rounded (mp_is c (z_t (1 : Int32))) x z (0 : Int32))
def B_m_span_2 (c : mw_C) (x : Int64) (y : Int64) (z : Int64) : mw_C := mp_to (B_m_span_1 c x y z) (if (F_m_isEnd y) = (0 : Int32) then mw_far else F_m_rounded (B_m_span_1 c x y z) y z (1 : Int32))
def S_m_span (c : mw_C) (x : Int64) (y : Int64) (z : Int64) : mw_C :=
  B_m_span_2 c x y z
def rm_m_span : Room := { frames := 2, cells := 0, slots := 0, locals := 55 }
set_option maxHeartbeats 4000000 in
set_option maxRecDepth 100000 in
theorem C_m_span (l : Launch) (D : va_G) (ty : List (ClassId × FieldType)) (sz : Nat) (G : mw_G) (Z : va_W) (hG : mw_ok ty sz G Z) (c : mw_C) (x : Int64) (y : Int64) (z : Int64) (hzz : ¬ z = 0) : kp_M l yX3_span cX3_span 7 none rm_m_span D ty sz [.ref (bM G), .long x, .long y, .long z] (mw_W G c Z) (none) (mw_W G (S_m_span c x y z) Z) := by
  refine kp_body (by decide) (Nat.le_of_ble_eq_true rfl) rfl ?_
  intro p e s m args below meth cd ls B hin hl hP hS
  obtain ⟨hx, hb, hml, hown, hlk, hr, hw, hE, hK, hsz⟩ := id B
  have hl : lv_has ls 7 [(0, .ref (bM G)), (1, .long x), (3, .long y), (5, .long z)] := hl
  refine lv_aload_n hx hb dX3_span_0 rfl (lv_at hl 0 rfl) ?_
  refine lv_iconst (v := (1 : Int32)) hx hb dX3_span_1 (by decide) ?_
  refine km_put6 (v := (1 : Int32)) (M' := mp_is c (z_t (1 : Int32))) B hG hP hS (Or.inr rfl) rfl kw_268 dX3_span_2 (fun H locs hP hS => ?_)
  refine lv_aload_n hx hb dX3_span_5 rfl (lv_at hl 0 rfl) ?_
  refine lv_lload_n hx hb dX3_span_6 rfl (lv_at hl 1 rfl) ?_
  refine kp_callSR (rm := rm_m_isEnd) (As := [.long x]) (rest := [.ref (bM G)]) (r := some (.int (F_m_isEnd x))) (st1 := [.int (F_m_isEnd x), .ref (bM G)]) B (C_m_isEnd l D ty sz G Z hG (mp_is c (z_t (1 : Int32))) x) kt_m_isEnd kw_266 kw_267 (by decide) ⟨rfl, rfl⟩ (by decide) rfl (Nat.le_of_ble_eq_true rfl) hl.1 hP hS dX3_span_7 rfl ?_
  have hJ27 : W p l e rm_m_span s m args below meth cd H locs 0 0 (MQ below (kp_Q D sz (none) (mw_W G (S_m_span c x y z) Z)) args s rm_m_span.cells rm_m_span.slots (kp_A sz)) (F0 m 27 ls [.long (if (F_m_isEnd x) = (0 : Int32) then (-mw_far) else F_m_rounded (mp_is c (z_t (1 : Int32))) x z (0 : Int32)), .ref (bM G)]) := by
    refine km_put7 (v := if (F_m_isEnd x) = (0 : Int32) then (-mw_far) else F_m_rounded (mp_is c (z_t (1 : Int32))) x z (0 : Int32)) (M' := B_m_span_1 c x y z) B hG hP hS rfl kw_274 dX3_span_27 (fun H locs hP hS => ?_)
    refine lv_aload_n hx hb dX3_span_30 rfl (lv_at hl 0 rfl) ?_
    refine lv_lload_n hx hb dX3_span_31 rfl (lv_at hl 2 rfl) ?_
    refine kp_callSR (rm := rm_m_isEnd) (As := [.long y]) (rest := [.ref (bM G)]) (r := some (.int (F_m_isEnd y))) (st1 := [.int (F_m_isEnd y), .ref (bM G)]) B (C_m_isEnd l D ty sz G Z hG (B_m_span_1 c x y z) y) kt_m_isEnd kw_266 kw_267 (by decide) ⟨rfl, rfl⟩ (by decide) rfl (Nat.le_of_ble_eq_true rfl) hl.1 hP hS dX3_span_32 rfl ?_
    have hJ52 : W p l e rm_m_span s m args below meth cd H locs 0 0 (MQ below (kp_Q D sz (none) (mw_W G (S_m_span c x y z) Z)) args s rm_m_span.cells rm_m_span.slots (kp_A sz)) (F0 m 52 ls [.long (if (F_m_isEnd y) = (0 : Int32) then mw_far else F_m_rounded (B_m_span_1 c x y z) y z (1 : Int32)), .ref (bM G)]) := by
      refine km_put8 (v := if (F_m_isEnd y) = (0 : Int32) then mw_far else F_m_rounded (B_m_span_1 c x y z) y z (1 : Int32)) (M' := B_m_span_2 c x y z) B hG hP hS rfl kw_275 dX3_span_52 (fun H locs hP hS => ?_)
      exact kp_retv B hP hS rfl dX3_span_55
    refine lv_if_eq (tgt := 49) hx hb dX3_span_35 (by decide) (fun q_1 => ?_) (fun q_1 => ?_)
    · refine lv_ldc2 (v := mw_far) hx hb hown (hw _ kw_253 rfl) dX3_span_49 ?_
      exact kp_jJ (by simp only [if_pos q_1]) hJ52
    · refine lv_aload_n hx hb dX3_span_38 rfl (lv_at hl 0 rfl) ?_
      refine lv_lload_n hx hb dX3_span_39 rfl (lv_at hl 2 rfl) ?_
      refine lv_lload hx hb dX3_span_40 (lv_at hl 3 rfl) ?_
      refine lv_iconst (v := (1 : Int32)) hx hb dX3_span_42 (by decide) ?_
      refine kp_callVR (rm := rm_m_rounded) (As := [.long y, .long z, .int (1 : Int32)]) (rest := [.ref (bM G)]) (r := some (.long (F_m_rounded (B_m_span_1 c x y z) y z (1 : Int32)))) (st1 := [.long (F_m_rounded (B_m_span_1 c x y z) y z (1 : Int32)), .ref (bM G)]) B (C_m_rounded l D ty sz G Z hG (B_m_span_1 c x y z) y z (1 : Int32) hzz) kt_m_rounded kw_271 kw_272 kw_273 (km_rc B hP) (by decide) ⟨rfl, rfl⟩ (by decide) rfl (Nat.le_of_ble_eq_true rfl) hl.1 hP hS dX3_span_43 rfl ?_
      refine lv_goto (tgt := 52) hx hb dX3_span_46 (by decide) ?_
      exact kp_jJ (by simp only [if_neg q_1]) hJ52
  refine lv_if_eq (tgt := 24) hx hb dX3_span_10 (by decide) (fun q_2 => ?_) (fun q_2 => ?_)
  · refine lv_ldc2 (v := (-mw_far)) hx hb hown (hw _ kw_263 rfl) dX3_span_24 ?_
    exact kp_jJ (by simp only [if_pos q_2]) hJ27
  · refine lv_aload_n hx hb dX3_span_13 rfl (lv_at hl 0 rfl) ?_
    refine lv_lload_n hx hb dX3_span_14 rfl (lv_at hl 1 rfl) ?_
    refine lv_lload hx hb dX3_span_15 (lv_at hl 3 rfl) ?_
    refine lv_iconst (v := (0 : Int32)) hx hb dX3_span_17 (by decide) ?_
    refine kp_callVR (rm := rm_m_rounded) (As := [.long x, .long z, .int (0 : Int32)]) (rest := [.ref (bM G)]) (r := some (.long (F_m_rounded (mp_is c (z_t (1 : Int32))) x z (0 : Int32)))) (st1 := [.long (F_m_rounded (mp_is c (z_t (1 : Int32))) x z (0 : Int32)), .ref (bM G)]) B (C_m_rounded l D ty sz G Z hG (mp_is c (z_t (1 : Int32))) x z (0 : Int32) hzz) kt_m_rounded kw_271 kw_272 kw_273 (km_rc B hP) (by decide) ⟨rfl, rfl⟩ (by decide) rfl (Nat.le_of_ble_eq_true rfl) hl.1 hP hS dX3_span_18 rfl ?_
    refine lv_goto (tgt := 27) hx hb dX3_span_21 (by decide) ?_
    exact kp_jJ (by simp only [if_neg q_2]) hJ27
def LS_m_product (x : Int64) (y : Int64) (z : Int64) (v : Int64) : Nat → mw_C → Int64 → Int64 → Int32 → mw_C
  | 0, c, a, b, i => c
  | n + 1, c, a, b, i => if (4 : Int32) ≤ i then S_m_span c a b ((1 : Int64) <<< ((F_m_fine c).toInt64 &&& 63)) else LS_m_product x y z v n c (if a ≤ (F_m_times (if (2 : Int32) ≤ i then y else x) (if (i - i / (2 : Int32) * (2 : Int32)) = (0 : Int32) then z else v)) then a else F_m_times (if (2 : Int32) ≤ i then y else x) (if (i - i / (2 : Int32) * (2 : Int32)) = (0 : Int32) then z else v)) (if (F_m_times (if (2 : Int32) ≤ i then y else x) (if (i - i / (2 : Int32) * (2 : Int32)) = (0 : Int32) then z else v)) ≤ b then b else F_m_times (if (2 : Int32) ≤ i then y else x) (if (i - i / (2 : Int32) * (2 : Int32)) = (0 : Int32) then z else v)) (i + (1 : Int32))
def S_m_product (c : mw_C) (x : Int64) (y : Int64) (z : Int64) (v : Int64) : mw_C :=
  LS_m_product x y z v 5 c mw_far (-mw_far) (0 : Int32)
def rm_m_product : Room := { frames := 3, cells := 0, slots := 0, locals := 81 }
set_option maxHeartbeats 4000000 in
set_option maxRecDepth 100000 in
theorem LP_m_product (l : Launch) (D : va_G) (ty : List (ClassId × FieldType)) (sz : Nat) (G : mw_G) (Z : va_W) (hG : mw_ok ty sz G Z) (x : Int64) (y : Int64) (z : Int64) (v : Int64) {p : Program} {e : Env} {s : State} {m : MethodId} {args : Array Value} {below : List Frame} {meth : Method} {cd : Code} (B : kp_B p l s m args meth cd yX3_product.cls cX3_product 16 none D ty sz) :
    ∀ (n : Nat) (c : mw_C) (a : Int64) (b : Int64) (i : Int32) (h1 : 0 ≤ i.toInt) (h2 : 5 ≤ i.toInt + n) (h3 : i.toInt ≤ 4), ∀ (H : Heap) (locs : List Loc) (ls : Array Slot), lv_has ls 16 [(0, .ref (bM G)), (1, .long x), (3, .long y), (5, .long z), (7, .long v), (9, .long a), (11, .long b), (13, .int i)] → va_P D vwCl (mw_W G c Z) H → va_S (kp_A sz) s.heap H locs → W p l e rm_m_product s m args below meth cd H locs 0 0 (MQ below (kp_Q D sz (none) (mw_W G (LS_m_product x y z v n c a b i) Z)) args s rm_m_product.cells rm_m_product.slots (kp_A sz)) (F0 m 13 ls []) := by
  obtain ⟨hx, hb, hml, hown, hlk, hr, hw, hE, hK, hsz⟩ := id B
  intro n
  induction n with
  | zero =>
    intro c a b i h1 h2 h3
    exact absurd h2 (by omega)
  | succ n ih =>
    intro c a b i h1 h2 h3 H locs ls hl hP hS
    refine lv_iload hx hb dX3_product_13 (lv_at hl 7 rfl) ?_
    refine lv_iconst (v := (4 : Int32)) hx hb dX3_product_15 (by decide) ?_
    refine lv_icmp_ge (tgt := 89) hx hb dX3_product_16 (by decide) (fun q_1 => ?_) (fun q_1 => ?_)
    · refine lv_aload_n hx hb dX3_product_89 rfl (lv_at hl 0 rfl) ?_
      refine lv_lload hx hb dX3_product_90 (lv_at hl 5 rfl) ?_
      refine lv_lload hx hb dX3_product_92 (lv_at hl 6 rfl) ?_
      refine lv_lconst (v := (1 : Int64)) hx hb dX3_product_94 (by decide) ?_
      refine lv_aload_n hx hb dX3_product_95 rfl (lv_at hl 0 rfl) ?_
      refine kp_callVR (rm := rm_m_fine) (As := []) (rest := [.long (1 : Int64), .long b, .long a, .ref (bM G)]) (r := some (.int (F_m_fine c))) (st1 := [.int (F_m_fine c), .long (1 : Int64), .long b, .long a, .ref (bM G)]) B (C_m_fine l D ty sz G Z hG c) kt_m_fine kw_282 kw_283 kw_284 (km_rc B hP) (by decide) ⟨rfl, rfl⟩ (by decide) rfl (Nat.le_of_ble_eq_true rfl) hl.1 hP hS dX3_product_96 rfl ?_
      refine lv_lshl (v := (1 : Int64) <<< ((F_m_fine c).toInt64 &&& 63)) hx hb dX3_product_99 rfl ?_
      refine kp_callV (rm := rm_m_span) (As := [.long a, .long b, .long ((1 : Int64) <<< ((F_m_fine c).toInt64 &&& 63))]) (rest := []) (r := none) (st1 := []) (ws' := mw_W G (S_m_span c a b ((1 : Int64) <<< ((F_m_fine c).toInt64 &&& 63))) Z) B (C_m_span l D ty sz G Z hG c a b ((1 : Int64) <<< ((F_m_fine c).toInt64 &&& 63)) (km_shl1 _)) kt_m_span kw_287 kw_288 kw_289 (km_rc B hP) (by decide) rfl rfl (by decide) rfl (Nat.le_of_ble_eq_true rfl) hl.1 hP hS dX3_product_100 rfl (fun H locs hP hS => ?_)
      exact kp_retv B (by simp only [LS_m_product, if_pos q_1]; exact hP) hS rfl dX3_product_103
    · refine lv_iload hx hb dX3_product_19 (lv_at hl 7 rfl) ?_
      refine lv_iconst (v := (2 : Int32)) hx hb dX3_product_21 (by decide) ?_
      have hJ30 : W p l e rm_m_product s m args below meth cd H locs 0 0 (MQ below (kp_Q D sz (none) (mw_W G (LS_m_product x y z v (n + 1) c a b i) Z)) args s rm_m_product.cells rm_m_product.slots (kp_A sz)) (F0 m 30 ls [.long (if (2 : Int32) ≤ i then y else x)]) := by
        refine lv_iload hx hb dX3_product_30 (lv_at hl 7 rfl) ?_
        refine lv_iconst (v := (2 : Int32)) hx hb dX3_product_32 (by decide) ?_
        refine lv_irem hx hb dX3_product_33 (by decide) ?_
        have hJ44 : W p l e rm_m_product s m args below meth cd H locs 0 0 (MQ below (kp_Q D sz (none) (mw_W G (LS_m_product x y z v (n + 1) c a b i) Z)) args s rm_m_product.cells rm_m_product.slots (kp_A sz)) (F0 m 44 ls [.long (if (i - i / (2 : Int32) * (2 : Int32)) = (0 : Int32) then z else v), .long (if (2 : Int32) ≤ i then y else x)]) := by
          refine kp_callSR (rm := rm_m_times) (As := [.long (if (2 : Int32) ≤ i then y else x), .long (if (i - i / (2 : Int32) * (2 : Int32)) = (0 : Int32) then z else v)]) (rest := []) (r := some (.long (F_m_times (if (2 : Int32) ≤ i then y else x) (if (i - i / (2 : Int32) * (2 : Int32)) = (0 : Int32) then z else v)))) (st1 := [.long (F_m_times (if (2 : Int32) ≤ i then y else x) (if (i - i / (2 : Int32) * (2 : Int32)) = (0 : Int32) then z else v))]) B (C_m_times l D ty sz G Z hG c (if (2 : Int32) ≤ i then y else x) (if (i - i / (2 : Int32) * (2 : Int32)) = (0 : Int32) then z else v)) kt_m_times kw_278 kw_279 (by decide) ⟨rfl, rfl⟩ (by decide) rfl (Nat.le_of_ble_eq_true rfl) hl.1 hP hS dX3_product_44 rfl ?_
          refine lv_lstore (lv' := [(14, .long (F_m_times (if (2 : Int32) ≤ i then y else x) (if (i - i / (2 : Int32) * (2 : Int32)) = (0 : Int32) then z else v))), (0, .ref (bM G)), (1, .long x), (3, .long y), (5, .long z), (7, .long v), (9, .long a), (11, .long b), (13, .int i)]) hx hb dX3_product_47 hl (by decide) rfl (fun ls hl => ?_)
          refine lv_lload hx hb dX3_product_49 (lv_at hl 0 rfl) ?_
          refine lv_lload hx hb dX3_product_51 (lv_at hl 6 rfl) ?_
          have hJ64 : W p l e rm_m_product s m args below meth cd H locs 0 0 (MQ below (kp_Q D sz (none) (mw_W G (LS_m_product x y z v (n + 1) c a b i) Z)) args s rm_m_product.cells rm_m_product.slots (kp_A sz)) (F0 m 64 ls [.long (if a ≤ (F_m_times (if (2 : Int32) ≤ i then y else x) (if (i - i / (2 : Int32) * (2 : Int32)) = (0 : Int32) then z else v)) then a else F_m_times (if (2 : Int32) ≤ i then y else x) (if (i - i / (2 : Int32) * (2 : Int32)) = (0 : Int32) then z else v))]) := by
            refine lv_lstore (lv' := [(9, .long (if a ≤ (F_m_times (if (2 : Int32) ≤ i then y else x) (if (i - i / (2 : Int32) * (2 : Int32)) = (0 : Int32) then z else v)) then a else F_m_times (if (2 : Int32) ≤ i then y else x) (if (i - i / (2 : Int32) * (2 : Int32)) = (0 : Int32) then z else v))), (14, .long (F_m_times (if (2 : Int32) ≤ i then y else x) (if (i - i / (2 : Int32) * (2 : Int32)) = (0 : Int32) then z else v))), (0, .ref (bM G)), (1, .long x), (3, .long y), (5, .long z), (7, .long v), (11, .long b), (13, .int i)]) hx hb dX3_product_64 hl (by decide) rfl (fun ls hl => ?_)
            refine lv_lload hx hb dX3_product_66 (lv_at hl 1 rfl) ?_
            refine lv_lload hx hb dX3_product_68 (lv_at hl 7 rfl) ?_
            have hJ81 : W p l e rm_m_product s m args below meth cd H locs 0 0 (MQ below (kp_Q D sz (none) (mw_W G (LS_m_product x y z v (n + 1) c a b i) Z)) args s rm_m_product.cells rm_m_product.slots (kp_A sz)) (F0 m 81 ls [.long (if (F_m_times (if (2 : Int32) ≤ i then y else x) (if (i - i / (2 : Int32) * (2 : Int32)) = (0 : Int32) then z else v)) ≤ b then b else F_m_times (if (2 : Int32) ≤ i then y else x) (if (i - i / (2 : Int32) * (2 : Int32)) = (0 : Int32) then z else v))]) := by
              refine lv_lstore (lv' := [(11, .long (if (F_m_times (if (2 : Int32) ≤ i then y else x) (if (i - i / (2 : Int32) * (2 : Int32)) = (0 : Int32) then z else v)) ≤ b then b else F_m_times (if (2 : Int32) ≤ i then y else x) (if (i - i / (2 : Int32) * (2 : Int32)) = (0 : Int32) then z else v))), (9, .long (if a ≤ (F_m_times (if (2 : Int32) ≤ i then y else x) (if (i - i / (2 : Int32) * (2 : Int32)) = (0 : Int32) then z else v)) then a else F_m_times (if (2 : Int32) ≤ i then y else x) (if (i - i / (2 : Int32) * (2 : Int32)) = (0 : Int32) then z else v))), (14, .long (F_m_times (if (2 : Int32) ≤ i then y else x) (if (i - i / (2 : Int32) * (2 : Int32)) = (0 : Int32) then z else v))), (0, .ref (bM G)), (1, .long x), (3, .long y), (5, .long z), (7, .long v), (13, .int i)]) hx hb dX3_product_81 hl (by decide) rfl (fun ls hl => ?_)
              refine lv_iinc (v := i + (1 : Int32)) (lv' := [(13, .int (i + (1 : Int32))), (11, .long (if (F_m_times (if (2 : Int32) ≤ i then y else x) (if (i - i / (2 : Int32) * (2 : Int32)) = (0 : Int32) then z else v)) ≤ b then b else F_m_times (if (2 : Int32) ≤ i then y else x) (if (i - i / (2 : Int32) * (2 : Int32)) = (0 : Int32) then z else v))), (9, .long (if a ≤ (F_m_times (if (2 : Int32) ≤ i then y else x) (if (i - i / (2 : Int32) * (2 : Int32)) = (0 : Int32) then z else v)) then a else F_m_times (if (2 : Int32) ≤ i then y else x) (if (i - i / (2 : Int32) * (2 : Int32)) = (0 : Int32) then z else v))), (14, .long (F_m_times (if (2 : Int32) ≤ i then y else x) (if (i - i / (2 : Int32) * (2 : Int32)) = (0 : Int32) then z else v))), (0, .ref (bM G)), (1, .long x), (3, .long y), (5, .long z), (7, .long v)]) hx hb dX3_product_83 hl (k := 8) rfl rfl (by decide) rfl (fun ls hl => ?_)
              refine lv_goto (tgt := 13) hx hb dX3_product_86 (by decide) ?_
              rw [show LS_m_product x y z v (n + 1) c a b i = LS_m_product x y z v n c (if a ≤ (F_m_times (if (2 : Int32) ≤ i then y else x) (if (i - i / (2 : Int32) * (2 : Int32)) = (0 : Int32) then z else v)) then a else F_m_times (if (2 : Int32) ≤ i then y else x) (if (i - i / (2 : Int32) * (2 : Int32)) = (0 : Int32) then z else v)) (if (F_m_times (if (2 : Int32) ≤ i then y else x) (if (i - i / (2 : Int32) * (2 : Int32)) = (0 : Int32) then z else v)) ≤ b then b else F_m_times (if (2 : Int32) ≤ i then y else x) (if (i - i / (2 : Int32) * (2 : Int32)) = (0 : Int32) then z else v)) (i + (1 : Int32)) from by simp only [LS_m_product, if_neg q_1]]
              exact ih c (if a ≤ (F_m_times (if (2 : Int32) ≤ i then y else x) (if (i - i / (2 : Int32) * (2 : Int32)) = (0 : Int32) then z else v)) then a else F_m_times (if (2 : Int32) ≤ i then y else x) (if (i - i / (2 : Int32) * (2 : Int32)) = (0 : Int32) then z else v)) (if (F_m_times (if (2 : Int32) ≤ i then y else x) (if (i - i / (2 : Int32) * (2 : Int32)) = (0 : Int32) then z else v)) ≤ b then b else F_m_times (if (2 : Int32) ≤ i then y else x) (if (i - i / (2 : Int32) * (2 : Int32)) = (0 : Int32) then z else v)) (i + (1 : Int32)) (ki_up4 h1 h3 q_1 h2).1 (ki_up4 h1 h3 q_1 h2).2.1 (ki_up4 h1 h3 q_1 h2).2.2 _ _ ls (lv_sub hl [4, 5, 6, 7, 8, 2, 1, 0] rfl) hP hS
            refine kp_lle (tgt := 79) hx hb dX3_product_70 dX3_product_71 (by decide) (fun q_2 => ?_) (fun q_2 => ?_)
            · refine lv_lload hx hb dX3_product_79 (lv_at hl 7 rfl) ?_
              exact kp_jJ (by simp only [if_pos q_2]) hJ81
            · refine lv_lload hx hb dX3_product_74 (lv_at hl 1 rfl) ?_
              refine lv_goto (tgt := 81) hx hb dX3_product_76 (by decide) ?_
              exact kp_jJ (by simp only [if_neg q_2]) hJ81
          refine kp_lge (tgt := 62) hx hb dX3_product_53 dX3_product_54 (by decide) (fun q_3 => ?_) (fun q_3 => ?_)
          · refine lv_lload hx hb dX3_product_62 (lv_at hl 6 rfl) ?_
            exact kp_jJ (by simp only [if_pos q_3]) hJ64
          · refine lv_lload hx hb dX3_product_57 (lv_at hl 0 rfl) ?_
            refine lv_goto (tgt := 64) hx hb dX3_product_59 (by decide) ?_
            exact kp_jJ (by simp only [if_neg q_3]) hJ64
        refine lv_if_ne (tgt := 42) hx hb dX3_product_34 (by decide) (fun q_4 => ?_) (fun q_4 => ?_)
        · refine lv_lload hx hb dX3_product_42 (lv_at hl 4 rfl) ?_
          exact kp_jJ (by simp only [if_neg q_4]) hJ44
        · refine lv_lload hx hb dX3_product_37 (lv_at hl 3 rfl) ?_
          refine lv_goto (tgt := 44) hx hb dX3_product_39 (by decide) ?_
          exact kp_jJ (by simp only [if_pos q_4]) hJ44
      refine lv_icmp_ge (tgt := 29) hx hb dX3_product_22 (by decide) (fun q_5 => ?_) (fun q_5 => ?_)
      · refine lv_lload_n hx hb dX3_product_29 rfl (lv_at hl 2 rfl) ?_
        exact kp_jJ (by simp only [if_pos q_5]) hJ30
      · refine lv_lload_n hx hb dX3_product_25 rfl (lv_at hl 1 rfl) ?_
        refine lv_goto (tgt := 30) hx hb dX3_product_26 (by decide) ?_
        exact kp_jJ (by simp only [if_neg q_5]) hJ30
set_option maxHeartbeats 4000000 in
set_option maxRecDepth 100000 in
theorem C_m_product (l : Launch) (D : va_G) (ty : List (ClassId × FieldType)) (sz : Nat) (G : mw_G) (Z : va_W) (hG : mw_ok ty sz G Z) (c : mw_C) (x : Int64) (y : Int64) (z : Int64) (v : Int64) : kp_M l yX3_product cX3_product 16 none rm_m_product D ty sz [.ref (bM G), .long x, .long y, .long z, .long v] (mw_W G c Z) (none) (mw_W G (S_m_product c x y z v) Z) := by
  refine kp_body (by decide) (Nat.le_of_ble_eq_true rfl) rfl ?_
  intro p e s m args below meth cd ls B hin hl hP hS
  obtain ⟨hx, hb, hml, hown, hlk, hr, hw, hE, hK, hsz⟩ := id B
  have hl : lv_has ls 16 [(0, .ref (bM G)), (1, .long x), (3, .long y), (5, .long z), (7, .long v)] := hl
  refine lv_ldc2 (v := mw_far) hx hb hown (hw _ kw_253 rfl) dX3_product_0 ?_
  refine lv_lstore (lv' := [(9, .long mw_far), (0, .ref (bM G)), (1, .long x), (3, .long y), (5, .long z), (7, .long v)]) hx hb dX3_product_3 hl (by decide) rfl (fun ls hl => ?_)
  refine lv_ldc2 (v := (-mw_far)) hx hb hown (hw _ kw_263 rfl) dX3_product_5 ?_
  refine lv_lstore (lv' := [(11, .long (-mw_far)), (9, .long mw_far), (0, .ref (bM G)), (1, .long x), (3, .long y), (5, .long z), (7, .long v)]) hx hb dX3_product_8 hl (by decide) rfl (fun ls hl => ?_)
  refine lv_iconst (v := (0 : Int32)) hx hb dX3_product_10 (by decide) ?_
  refine lv_istore (lv' := [(13, .int (0 : Int32)), (11, .long (-mw_far)), (9, .long mw_far), (0, .ref (bM G)), (1, .long x), (3, .long y), (5, .long z), (7, .long v)]) hx hb dX3_product_11 hl (by decide) rfl (fun ls hl => ?_)
  exact LP_m_product l D ty sz G Z hG x y z v B 5 c mw_far (-mw_far) (0 : Int32) (by decide) (by decide) (by decide) _ _ ls (lv_sub hl [3, 4, 5, 6, 7, 2, 1, 0] rfl) hP hS
def F_m_quotient (c : mw_C) (x : Int64) (y : Int64) (z : Int32) : Int64 :=
  if x = (0 : Int64) then (0 : Int64) else (if (F_m_isEnd x) = (0 : Int32) then (if (0 : Int64) ≤ x then mw_far else (-mw_far)) else (if (0 : Int64) < y then (if (F_m_isEnd y) = (0 : Int32) then (0 : Int64) else F_m_rounded c (x <<< ((F_m_fine c).toInt64 &&& 63)) y z) else (if (0 : Int64) ≤ x then mw_far else (-mw_far))))
def rm_m_quotient : Room := { frames := 2, cells := 0, slots := 0, locals := 55 }
set_option maxHeartbeats 4000000 in
set_option maxRecDepth 100000 in
theorem C_m_quotient (l : Launch) (D : va_G) (ty : List (ClassId × FieldType)) (sz : Nat) (G : mw_G) (Z : va_W) (hG : mw_ok ty sz G Z) (c : mw_C) (x : Int64) (y : Int64) (z : Int32) : kp_R l yX3_quotient cX3_quotient 6 (some .long) rm_m_quotient D ty sz [.ref (bM G), .long x, .long y, .int z] (mw_W G c Z) (some (.long (F_m_quotient c x y z))) := by
  refine kp_bodyR (by decide) (Nat.le_of_ble_eq_true rfl) rfl ?_
  intro p e s m args below meth cd ls B hl hP hS
  obtain ⟨hx, hb, hml, hown, hlk, hr, hw, hE, hK, hsz⟩ := id B
  have hl : lv_has ls 6 [(0, .ref (bM G)), (1, .long x), (3, .long y), (5, .int z)] := hl
  refine lv_lload_n hx hb dX3_quotient_0 rfl (lv_at hl 1 rfl) ?_
  refine lv_lconst (v := (0 : Int64)) hx hb dX3_quotient_1 (by decide) ?_
  refine kp_lne (tgt := 8) hx hb dX3_quotient_2 dX3_quotient_3 (by decide) (fun q_1 => ?_) (fun q_1 => ?_)
  · refine lv_lload_n hx hb dX3_quotient_8 rfl (lv_at hl 1 rfl) ?_
    refine kp_callSR (rm := rm_m_isEnd) (As := [.long x]) (rest := []) (r := some (.int (F_m_isEnd x))) (st1 := [.int (F_m_isEnd x)]) B (C_m_isEnd l D ty sz G Z hG c x) kt_m_isEnd kw_266 kw_267 (by decide) ⟨rfl, rfl⟩ (by decide) rfl (Nat.le_of_ble_eq_true rfl) hl.1 hP hS dX3_quotient_9 rfl ?_
    refine lv_if_eq (tgt := 21) hx hb dX3_quotient_12 (by decide) (fun q_2 => ?_) (fun q_2 => ?_)
    · refine lv_lload_n hx hb dX3_quotient_21 rfl (lv_at hl 1 rfl) ?_
      refine lv_lconst (v := (0 : Int64)) hx hb dX3_quotient_22 (by decide) ?_
      refine kp_lge (tgt := 33) hx hb dX3_quotient_23 dX3_quotient_24 (by decide) (fun q_3 => ?_) (fun q_3 => ?_)
      · refine lv_ldc2 (v := mw_far) hx hb hown (hw _ kw_253 rfl) dX3_quotient_33 ?_
        exact kp_retlR B (by simp only [F_m_quotient, if_neg q_1, if_pos q_2, if_pos q_3]) dX3_quotient_36
      · refine lv_ldc2 (v := (-mw_far)) hx hb hown (hw _ kw_263 rfl) dX3_quotient_27 ?_
        refine lv_goto (tgt := 36) hx hb dX3_quotient_30 (by decide) ?_
        exact kp_retlR B (by simp only [F_m_quotient, if_neg q_1, if_pos q_2, if_neg q_3]) dX3_quotient_36
    · refine lv_lload_n hx hb dX3_quotient_15 rfl (lv_at hl 2 rfl) ?_
      refine lv_lconst (v := (0 : Int64)) hx hb dX3_quotient_16 (by decide) ?_
      refine kp_lgt (tgt := 37) hx hb dX3_quotient_17 dX3_quotient_18 (by decide) (fun q_4 => ?_) (fun q_4 => ?_)
      · refine lv_lload_n hx hb dX3_quotient_37 rfl (lv_at hl 2 rfl) ?_
        refine kp_callSR (rm := rm_m_isEnd) (As := [.long y]) (rest := []) (r := some (.int (F_m_isEnd y))) (st1 := [.int (F_m_isEnd y)]) B (C_m_isEnd l D ty sz G Z hG c y) kt_m_isEnd kw_266 kw_267 (by decide) ⟨rfl, rfl⟩ (by decide) rfl (Nat.le_of_ble_eq_true rfl) hl.1 hP hS dX3_quotient_38 rfl ?_
        refine lv_if_ne (tgt := 46) hx hb dX3_quotient_41 (by decide) (fun q_5 => ?_) (fun q_5 => ?_)
        · refine lv_aload_n hx hb dX3_quotient_46 rfl (lv_at hl 0 rfl) ?_
          refine lv_lload_n hx hb dX3_quotient_47 rfl (lv_at hl 1 rfl) ?_
          refine lv_aload_n hx hb dX3_quotient_48 rfl (lv_at hl 0 rfl) ?_
          refine kp_callVR (rm := rm_m_fine) (As := []) (rest := [.long x, .ref (bM G)]) (r := some (.int (F_m_fine c))) (st1 := [.int (F_m_fine c), .long x, .ref (bM G)]) B (C_m_fine l D ty sz G Z hG c) kt_m_fine kw_282 kw_283 kw_284 (km_rc B hP) (by decide) ⟨rfl, rfl⟩ (by decide) rfl (Nat.le_of_ble_eq_true rfl) hl.1 hP hS dX3_quotient_49 rfl ?_
          refine lv_lshl (v := x <<< ((F_m_fine c).toInt64 &&& 63)) hx hb dX3_quotient_52 rfl ?_
          refine lv_lload_n hx hb dX3_quotient_53 rfl (lv_at hl 2 rfl) ?_
          refine lv_iload hx hb dX3_quotient_54 (lv_at hl 3 rfl) ?_
          refine kp_callVR (rm := rm_m_rounded) (As := [.long (x <<< ((F_m_fine c).toInt64 &&& 63)), .long y, .int z]) (rest := []) (r := some (.long (F_m_rounded c (x <<< ((F_m_fine c).toInt64 &&& 63)) y z))) (st1 := [.long (F_m_rounded c (x <<< ((F_m_fine c).toInt64 &&& 63)) y z)]) B (C_m_rounded l D ty sz G Z hG c (x <<< ((F_m_fine c).toInt64 &&& 63)) y z (ki_gt0 q_4)) kt_m_rounded kw_271 kw_272 kw_273 (km_rc B hP) (by decide) ⟨rfl, rfl⟩ (by decide) rfl (Nat.le_of_ble_eq_true rfl) hl.1 hP hS dX3_quotient_56 rfl ?_
          exact kp_retlR B (by simp only [F_m_quotient, if_neg q_1, if_neg q_2, if_pos q_4, if_neg q_5]) dX3_quotient_59
        · refine lv_lconst (v := (0 : Int64)) hx hb dX3_quotient_44 (by decide) ?_
          exact kp_retlR B (by simp only [F_m_quotient, if_neg q_1, if_neg q_2, if_pos q_4, if_pos q_5]) dX3_quotient_45
      · refine lv_lload_n hx hb dX3_quotient_21 rfl (lv_at hl 1 rfl) ?_
        refine lv_lconst (v := (0 : Int64)) hx hb dX3_quotient_22 (by decide) ?_
        refine kp_lge (tgt := 33) hx hb dX3_quotient_23 dX3_quotient_24 (by decide) (fun q_6 => ?_) (fun q_6 => ?_)
        · refine lv_ldc2 (v := mw_far) hx hb hown (hw _ kw_253 rfl) dX3_quotient_33 ?_
          exact kp_retlR B (by simp only [F_m_quotient, if_neg q_1, if_neg q_2, if_neg q_4, if_pos q_6]) dX3_quotient_36
        · refine lv_ldc2 (v := (-mw_far)) hx hb hown (hw _ kw_263 rfl) dX3_quotient_27 ?_
          refine lv_goto (tgt := 36) hx hb dX3_quotient_30 (by decide) ?_
          exact kp_retlR B (by simp only [F_m_quotient, if_neg q_1, if_neg q_2, if_neg q_4, if_neg q_6]) dX3_quotient_36
  · refine lv_lconst (v := (0 : Int64)) hx hb dX3_quotient_6 (by decide) ?_
    exact kp_retlR B (by simp only [F_m_quotient, if_pos q_1]) dX3_quotient_7
def B_m_ratio_1 (c : mw_C) (x : Int64) (y : Int64) (z : Int64) (v : Int64) : mw_C := mp_isPart c (z_t (if v ≤ (0 : Int64) then (0 : Int32) else (1 : Int32)))
def B_m_ratio_2 (c : mw_C) (x : Int64) (y : Int64) (z : Int64) (v : Int64) : mw_C := mp_partFrom (B_m_ratio_1 c x y z v) (if (0 : Int64) ≤ x then F_m_quotient (B_m_ratio_1 c x y z v) x v (0 : Int32) else F_m_quotient (B_m_ratio_1 c x y z v) x z (0 : Int32))
def B_m_ratio_3 (c : mw_C) (x : Int64) (y : Int64) (z : Int64) (v : Int64) : mw_C := mp_partTo (B_m_ratio_2 c x y z v) (if y ≤ (0 : Int64) then F_m_quotient (B_m_ratio_2 c x y z v) y v (1 : Int32) else F_m_quotient (B_m_ratio_2 c x y z v) y z (1 : Int32))
def S_m_ratio (c : mw_C) (x : Int64) (y : Int64) (z : Int64) (v : Int64) : mw_C :=
  if (z_i ((B_m_ratio_1 c x y z v).2.2.2.1)) = (0 : Int32) then B_m_ratio_1 c x y z v else B_m_ratio_3 c x y z v
def rm_m_ratio : Room := { frames := 3, cells := 0, slots := 0, locals := 80 }
set_option maxHeartbeats 4000000 in
set_option maxRecDepth 100000 in
theorem C_m_ratio (l : Launch) (D : va_G) (ty : List (ClassId × FieldType)) (sz : Nat) (G : mw_G) (Z : va_W) (hG : mw_ok ty sz G Z) (c : mw_C) (x : Int64) (y : Int64) (z : Int64) (v : Int64) : kp_M l yX3_ratio cX3_ratio 9 none rm_m_ratio D ty sz [.ref (bM G), .long x, .long y, .long z, .long v] (mw_W G c Z) (none) (mw_W G (S_m_ratio c x y z v) Z) := by
  refine kp_body (by decide) (Nat.le_of_ble_eq_true rfl) rfl ?_
  intro p e s m args below meth cd ls B hin hl hP hS
  obtain ⟨hx, hb, hml, hown, hlk, hr, hw, hE, hK, hsz⟩ := id B
  have hl : lv_has ls 9 [(0, .ref (bM G)), (1, .long x), (3, .long y), (5, .long z), (7, .long v)] := hl
  refine lv_aload_n hx hb dX3_ratio_0 rfl (lv_at hl 0 rfl) ?_
  refine lv_lload hx hb dX3_ratio_1 (lv_at hl 4 rfl) ?_
  refine lv_lconst (v := (0 : Int64)) hx hb dX3_ratio_3 (by decide) ?_
  have hJ13 : W p l e rm_m_ratio s m args below meth cd s.heap [] 0 0 (MQ below (kp_Q D sz (none) (mw_W G (S_m_ratio c x y z v) Z)) args s rm_m_ratio.cells rm_m_ratio.slots (kp_A sz)) (F0 m 13 ls [.int (if v ≤ (0 : Int64) then (0 : Int32) else (1 : Int32)), .ref (bM G)]) := by
    refine km_put9 (v := if v ≤ (0 : Int64) then (0 : Int32) else (1 : Int32)) (M' := B_m_ratio_1 c x y z v) B hG hP hS (z_ite01 (Or.inl rfl) (Or.inr rfl)) rfl kw_290 dX3_ratio_13 (fun H locs hP hS => ?_)
    refine lv_aload_n hx hb dX3_ratio_16 rfl (lv_at hl 0 rfl) ?_
    refine km_get (j := 9) (v := .int (z_i ((B_m_ratio_1 c x y z v).2.2.2.1))) B hP rfl (by decide) kw_290 dX3_ratio_17 ?_
    refine lv_if_ne (tgt := 24) hx hb dX3_ratio_20 (by decide) (fun q_1 => ?_) (fun q_1 => ?_)
    · refine lv_aload_n hx hb dX3_ratio_24 rfl (lv_at hl 0 rfl) ?_
      refine lv_lload_n hx hb dX3_ratio_25 rfl (lv_at hl 1 rfl) ?_
      refine lv_lconst (v := (0 : Int64)) hx hb dX3_ratio_26 (by decide) ?_
      have hJ50 : W p l e rm_m_ratio s m args below meth cd H locs 0 0 (MQ below (kp_Q D sz (none) (mw_W G (S_m_ratio c x y z v) Z)) args s rm_m_ratio.cells rm_m_ratio.slots (kp_A sz)) (F0 m 50 ls [.long (if (0 : Int64) ≤ x then F_m_quotient (B_m_ratio_1 c x y z v) x v (0 : Int32) else F_m_quotient (B_m_ratio_1 c x y z v) x z (0 : Int32)), .ref (bM G)]) := by
        refine km_put10 (v := if (0 : Int64) ≤ x then F_m_quotient (B_m_ratio_1 c x y z v) x v (0 : Int32) else F_m_quotient (B_m_ratio_1 c x y z v) x z (0 : Int32)) (M' := B_m_ratio_2 c x y z v) B hG hP hS rfl kw_296 dX3_ratio_50 (fun H locs hP hS => ?_)
        refine lv_aload_n hx hb dX3_ratio_53 rfl (lv_at hl 0 rfl) ?_
        refine lv_lload_n hx hb dX3_ratio_54 rfl (lv_at hl 2 rfl) ?_
        refine lv_lconst (v := (0 : Int64)) hx hb dX3_ratio_55 (by decide) ?_
        have hJ79 : W p l e rm_m_ratio s m args below meth cd H locs 0 0 (MQ below (kp_Q D sz (none) (mw_W G (S_m_ratio c x y z v) Z)) args s rm_m_ratio.cells rm_m_ratio.slots (kp_A sz)) (F0 m 79 ls [.long (if y ≤ (0 : Int64) then F_m_quotient (B_m_ratio_2 c x y z v) y v (1 : Int32) else F_m_quotient (B_m_ratio_2 c x y z v) y z (1 : Int32)), .ref (bM G)]) := by
          refine km_put11 (v := if y ≤ (0 : Int64) then F_m_quotient (B_m_ratio_2 c x y z v) y v (1 : Int32) else F_m_quotient (B_m_ratio_2 c x y z v) y z (1 : Int32)) (M' := B_m_ratio_3 c x y z v) B hG hP hS rfl kw_297 dX3_ratio_79 (fun H locs hP hS => ?_)
          exact kp_retv B (by simp only [S_m_ratio, if_neg q_1]; exact hP) hS rfl dX3_ratio_82
        refine kp_lle (tgt := 71) hx hb dX3_ratio_56 dX3_ratio_57 (by decide) (fun q_2 => ?_) (fun q_2 => ?_)
        · refine lv_aload_n hx hb dX3_ratio_71 rfl (lv_at hl 0 rfl) ?_
          refine lv_lload_n hx hb dX3_ratio_72 rfl (lv_at hl 2 rfl) ?_
          refine lv_lload hx hb dX3_ratio_73 (lv_at hl 4 rfl) ?_
          refine lv_iconst (v := (1 : Int32)) hx hb dX3_ratio_75 (by decide) ?_
          refine kp_callVR (rm := rm_m_quotient) (As := [.long y, .long v, .int (1 : Int32)]) (rest := [.ref (bM G)]) (r := some (.long (F_m_quotient (B_m_ratio_2 c x y z v) y v (1 : Int32)))) (st1 := [.long (F_m_quotient (B_m_ratio_2 c x y z v) y v (1 : Int32)), .ref (bM G)]) B (C_m_quotient l D ty sz G Z hG (B_m_ratio_2 c x y z v) y v (1 : Int32)) kt_m_quotient kw_293 kw_294 kw_295 (km_rc B hP) (by decide) ⟨rfl, rfl⟩ (by decide) rfl (Nat.le_of_ble_eq_true rfl) hl.1 hP hS dX3_ratio_76 rfl ?_
          exact kp_jJ (by simp only [if_pos q_2]) hJ79
        · refine lv_aload_n hx hb dX3_ratio_60 rfl (lv_at hl 0 rfl) ?_
          refine lv_lload_n hx hb dX3_ratio_61 rfl (lv_at hl 2 rfl) ?_
          refine lv_lload hx hb dX3_ratio_62 (lv_at hl 3 rfl) ?_
          refine lv_iconst (v := (1 : Int32)) hx hb dX3_ratio_64 (by decide) ?_
          refine kp_callVR (rm := rm_m_quotient) (As := [.long y, .long z, .int (1 : Int32)]) (rest := [.ref (bM G)]) (r := some (.long (F_m_quotient (B_m_ratio_2 c x y z v) y z (1 : Int32)))) (st1 := [.long (F_m_quotient (B_m_ratio_2 c x y z v) y z (1 : Int32)), .ref (bM G)]) B (C_m_quotient l D ty sz G Z hG (B_m_ratio_2 c x y z v) y z (1 : Int32)) kt_m_quotient kw_293 kw_294 kw_295 (km_rc B hP) (by decide) ⟨rfl, rfl⟩ (by decide) rfl (Nat.le_of_ble_eq_true rfl) hl.1 hP hS dX3_ratio_65 rfl ?_
          refine lv_goto (tgt := 79) hx hb dX3_ratio_68 (by decide) ?_
          exact kp_jJ (by simp only [if_neg q_2]) hJ79
      refine kp_lge (tgt := 42) hx hb dX3_ratio_27 dX3_ratio_28 (by decide) (fun q_3 => ?_) (fun q_3 => ?_)
      · refine lv_aload_n hx hb dX3_ratio_42 rfl (lv_at hl 0 rfl) ?_
        refine lv_lload_n hx hb dX3_ratio_43 rfl (lv_at hl 1 rfl) ?_
        refine lv_lload hx hb dX3_ratio_44 (lv_at hl 4 rfl) ?_
        refine lv_iconst (v := (0 : Int32)) hx hb dX3_ratio_46 (by decide) ?_
        refine kp_callVR (rm := rm_m_quotient) (As := [.long x, .long v, .int (0 : Int32)]) (rest := [.ref (bM G)]) (r := some (.long (F_m_quotient (B_m_ratio_1 c x y z v) x v (0 : Int32)))) (st1 := [.long (F_m_quotient (B_m_ratio_1 c x y z v) x v (0 : Int32)), .ref (bM G)]) B (C_m_quotient l D ty sz G Z hG (B_m_ratio_1 c x y z v) x v (0 : Int32)) kt_m_quotient kw_293 kw_294 kw_295 (km_rc B hP) (by decide) ⟨rfl, rfl⟩ (by decide) rfl (Nat.le_of_ble_eq_true rfl) hl.1 hP hS dX3_ratio_47 rfl ?_
        exact kp_jJ (by simp only [if_pos q_3]) hJ50
      · refine lv_aload_n hx hb dX3_ratio_31 rfl (lv_at hl 0 rfl) ?_
        refine lv_lload_n hx hb dX3_ratio_32 rfl (lv_at hl 1 rfl) ?_
        refine lv_lload hx hb dX3_ratio_33 (lv_at hl 3 rfl) ?_
        refine lv_iconst (v := (0 : Int32)) hx hb dX3_ratio_35 (by decide) ?_
        refine kp_callVR (rm := rm_m_quotient) (As := [.long x, .long z, .int (0 : Int32)]) (rest := [.ref (bM G)]) (r := some (.long (F_m_quotient (B_m_ratio_1 c x y z v) x z (0 : Int32)))) (st1 := [.long (F_m_quotient (B_m_ratio_1 c x y z v) x z (0 : Int32)), .ref (bM G)]) B (C_m_quotient l D ty sz G Z hG (B_m_ratio_1 c x y z v) x z (0 : Int32)) kt_m_quotient kw_293 kw_294 kw_295 (km_rc B hP) (by decide) ⟨rfl, rfl⟩ (by decide) rfl (Nat.le_of_ble_eq_true rfl) hl.1 hP hS dX3_ratio_36 rfl ?_
        refine lv_goto (tgt := 50) hx hb dX3_ratio_39 (by decide) ?_
        exact kp_jJ (by simp only [if_neg q_3]) hJ50
    · exact kp_retv B (by simp only [S_m_ratio, if_pos q_1]; exact hP) hS rfl dX3_ratio_23
  refine kp_lle (tgt := 12) hx hb dX3_ratio_4 dX3_ratio_5 (by decide) (fun q_4 => ?_) (fun q_4 => ?_)
  · refine lv_iconst (v := (0 : Int32)) hx hb dX3_ratio_12 (by decide) ?_
    exact kp_jI (by simp only [if_pos q_4]) hJ13
  · refine lv_iconst (v := (1 : Int32)) hx hb dX3_ratio_8 (by decide) ?_
    refine lv_goto (tgt := 13) hx hb dX3_ratio_9 (by decide) ?_
    exact kp_jI (by simp only [if_neg q_4]) hJ13
def B_m_divide_1 (c : mw_C) (x : Int32) (y : Int32) : mw_C := S_m_ratio (mp_is c (z_t (0 : Int32))) (((mp_is c (z_t (0 : Int32))).2.1.2.1) x.toNatClampNeg) (((mp_is c (z_t (0 : Int32))).2.1.2.2) x.toNatClampNeg) (((mp_is c (z_t (0 : Int32))).2.1.2.1) y.toNatClampNeg) (((mp_is c (z_t (0 : Int32))).2.1.2.2) y.toNatClampNeg)
def B_m_divide_2 (c : mw_C) (x : Int32) (y : Int32) : mw_C := mp_is (B_m_divide_1 c x y) (z_t (z_i ((B_m_divide_1 c x y).2.2.2.1)))
def B_m_divide_3 (c : mw_C) (x : Int32) (y : Int32) : mw_C := mp_from (B_m_divide_2 c x y) ((B_m_divide_2 c x y).2.2.2.2.1)
def B_m_divide_4 (c : mw_C) (x : Int32) (y : Int32) : mw_C := mp_to (B_m_divide_3 c x y) ((B_m_divide_3 c x y).2.2.2.2.2)
def B_m_divide_5 (c : mw_C) (x : Int32) (y : Int32) : mw_C := S_m_ratio (B_m_divide_4 c x y) (-(((B_m_divide_4 c x y).2.1.2.2) x.toNatClampNeg)) (-(((B_m_divide_4 c x y).2.1.2.1) x.toNatClampNeg)) (-(((B_m_divide_4 c x y).2.1.2.2) y.toNatClampNeg)) (-(((B_m_divide_4 c x y).2.1.2.1) y.toNatClampNeg))
def B_m_divide_6 (c : mw_C) (x : Int32) (y : Int32) : mw_C := mp_from (B_m_divide_5 c x y) (if (z_i ((B_m_divide_5 c x y).2.2.1.1)) = (0 : Int32) then (B_m_divide_5 c x y).2.2.2.2.1 else (if ((B_m_divide_5 c x y).2.2.2.2.1) ≤ ((B_m_divide_5 c x y).2.2.1.2.1) then (B_m_divide_5 c x y).2.2.2.2.1 else (B_m_divide_5 c x y).2.2.1.2.1))
def B_m_divide_7 (c : mw_C) (x : Int32) (y : Int32) : mw_C := mp_to (B_m_divide_6 c x y) (if (z_i ((B_m_divide_6 c x y).2.2.1.1)) = (0 : Int32) then (B_m_divide_6 c x y).2.2.2.2.2 else (if ((B_m_divide_6 c x y).2.2.1.2.2) ≤ ((B_m_divide_6 c x y).2.2.2.2.2) then (B_m_divide_6 c x y).2.2.2.2.2 else (B_m_divide_6 c x y).2.2.1.2.2))
def S_m_divide (c : mw_C) (x : Int32) (y : Int32) : mw_C :=
  if (z_i (((mp_is c (z_t (0 : Int32))).2.1.1) x.toNatClampNeg)) = (0 : Int32) then mp_is c (z_t (0 : Int32)) else (if (z_i (((mp_is c (z_t (0 : Int32))).2.1.1) y.toNatClampNeg)) = (0 : Int32) then mp_is c (z_t (0 : Int32)) else (if (z_i ((B_m_divide_5 c x y).2.2.2.1)) = (0 : Int32) then B_m_divide_5 c x y else mp_is (B_m_divide_7 c x y) (z_t (1 : Int32))))
def rm_m_divide : Room := { frames := 4, cells := 0, slots := 0, locals := 108 }
set_option maxHeartbeats 4000000 in
set_option maxRecDepth 100000 in
theorem C_m_divide (l : Launch) (D : va_G) (ty : List (ClassId × FieldType)) (sz : Nat) (G : mw_G) (Z : va_W) (hG : mw_ok ty sz G Z) (c : mw_C) (x : Int32) (y : Int32) (hx8 : vp_in x 8) (hy8 : vp_in y 8) : kp_M l yX3_divide cX3_divide 3 none rm_m_divide D ty sz [.ref (bM G), .int x, .int y] (mw_W G c Z) (none) (mw_W G (S_m_divide c x y) Z) := by
  refine kp_body (by decide) (Nat.le_of_ble_eq_true rfl) rfl ?_
  intro p e s m args below meth cd ls B hin hl hP hS
  obtain ⟨hx, hb, hml, hown, hlk, hr, hw, hE, hK, hsz⟩ := id B
  have hl : lv_has ls 3 [(0, .ref (bM G)), (1, .int x), (2, .int y)] := hl
  refine lv_aload_n hx hb dX3_divide_0 rfl (lv_at hl 0 rfl) ?_
  refine lv_iconst (v := (0 : Int32)) hx hb dX3_divide_1 (by decide) ?_
  refine km_put6 (v := (0 : Int32)) (M' := mp_is c (z_t (0 : Int32))) B hG hP hS (Or.inl rfl) rfl kw_268 dX3_divide_2 (fun H locs hP hS => ?_)
  refine lv_aload_n hx hb dX3_divide_5 rfl (lv_at hl 0 rfl) ?_
  refine km_get (j := 3) (v := .ref (bB G)) B hP rfl (by decide) kw_298 dX3_divide_6 ?_
  refine lv_iload_n hx hb dX3_divide_9 rfl (lv_at hl 1 rfl) ?_
  refine km_zald (i := x) (v := z_i (((mp_is c (z_t (0 : Int32))).2.1.1) x.toNatClampNeg)) B hG hP hx8 rfl dX3_divide_10 ?_
  refine lv_if_eq (tgt := 23) hx hb dX3_divide_11 (by decide) (fun q_1 => ?_) (fun q_1 => ?_)
  · exact kp_retv B (by simp only [S_m_divide, if_pos q_1]; exact hP) hS rfl dX3_divide_23
  · refine lv_aload_n hx hb dX3_divide_14 rfl (lv_at hl 0 rfl) ?_
    refine km_get (j := 3) (v := .ref (bB G)) B hP rfl (by decide) kw_298 dX3_divide_15 ?_
    refine lv_iload_n hx hb dX3_divide_18 rfl (lv_at hl 2 rfl) ?_
    refine km_zald (i := y) (v := z_i (((mp_is c (z_t (0 : Int32))).2.1.1) y.toNatClampNeg)) B hG hP hy8 rfl dX3_divide_19 ?_
    refine lv_if_ne (tgt := 24) hx hb dX3_divide_20 (by decide) (fun q_2 => ?_) (fun q_2 => ?_)
    · refine lv_aload_n hx hb dX3_divide_24 rfl (lv_at hl 0 rfl) ?_
      refine lv_aload_n hx hb dX3_divide_25 rfl (lv_at hl 0 rfl) ?_
      refine km_get (j := 4) (v := .ref (bL G)) B hP rfl (by decide) kw_299 dX3_divide_26 ?_
      refine lv_iload_n hx hb dX3_divide_29 rfl (lv_at hl 1 rfl) ?_
      refine km_lald (i := x) (v := ((mp_is c (z_t (0 : Int32))).2.1.2.1) x.toNatClampNeg) B hG hP hx8 rfl dX3_divide_30 ?_
      refine lv_aload_n hx hb dX3_divide_31 rfl (lv_at hl 0 rfl) ?_
      refine km_get (j := 5) (v := .ref (bH G)) B hP rfl (by decide) kw_300 dX3_divide_32 ?_
      refine lv_iload_n hx hb dX3_divide_35 rfl (lv_at hl 1 rfl) ?_
      refine km_hald (i := x) (v := ((mp_is c (z_t (0 : Int32))).2.1.2.2) x.toNatClampNeg) B hG hP hx8 rfl dX3_divide_36 ?_
      refine lv_aload_n hx hb dX3_divide_37 rfl (lv_at hl 0 rfl) ?_
      refine km_get (j := 4) (v := .ref (bL G)) B hP rfl (by decide) kw_299 dX3_divide_38 ?_
      refine lv_iload_n hx hb dX3_divide_41 rfl (lv_at hl 2 rfl) ?_
      refine km_lald (i := y) (v := ((mp_is c (z_t (0 : Int32))).2.1.2.1) y.toNatClampNeg) B hG hP hy8 rfl dX3_divide_42 ?_
      refine lv_aload_n hx hb dX3_divide_43 rfl (lv_at hl 0 rfl) ?_
      refine km_get (j := 5) (v := .ref (bH G)) B hP rfl (by decide) kw_300 dX3_divide_44 ?_
      refine lv_iload_n hx hb dX3_divide_47 rfl (lv_at hl 2 rfl) ?_
      refine km_hald (i := y) (v := ((mp_is c (z_t (0 : Int32))).2.1.2.2) y.toNatClampNeg) B hG hP hy8 rfl dX3_divide_48 ?_
      refine kp_callV (rm := rm_m_ratio) (As := [.long (((mp_is c (z_t (0 : Int32))).2.1.2.1) x.toNatClampNeg), .long (((mp_is c (z_t (0 : Int32))).2.1.2.2) x.toNatClampNeg), .long (((mp_is c (z_t (0 : Int32))).2.1.2.1) y.toNatClampNeg), .long (((mp_is c (z_t (0 : Int32))).2.1.2.2) y.toNatClampNeg)]) (rest := []) (r := none) (st1 := []) (ws' := mw_W G (S_m_ratio (mp_is c (z_t (0 : Int32))) (((mp_is c (z_t (0 : Int32))).2.1.2.1) x.toNatClampNeg) (((mp_is c (z_t (0 : Int32))).2.1.2.2) x.toNatClampNeg) (((mp_is c (z_t (0 : Int32))).2.1.2.1) y.toNatClampNeg) (((mp_is c (z_t (0 : Int32))).2.1.2.2) y.toNatClampNeg)) Z) B (C_m_ratio l D ty sz G Z hG (mp_is c (z_t (0 : Int32))) (((mp_is c (z_t (0 : Int32))).2.1.2.1) x.toNatClampNeg) (((mp_is c (z_t (0 : Int32))).2.1.2.2) x.toNatClampNeg) (((mp_is c (z_t (0 : Int32))).2.1.2.1) y.toNatClampNeg) (((mp_is c (z_t (0 : Int32))).2.1.2.2) y.toNatClampNeg)) kt_m_ratio kw_303 kw_304 kw_305 (km_rc B hP) (by decide) rfl rfl (by decide) rfl (Nat.le_of_ble_eq_true rfl) hl.1 hP hS dX3_divide_49 rfl (fun H locs hP hS => ?_)
      have hP : va_P D vwCl (mw_W G (B_m_divide_1 c x y) Z) H := hP
      refine lv_aload_n hx hb dX3_divide_52 rfl (lv_at hl 0 rfl) ?_
      refine lv_aload_n hx hb dX3_divide_53 rfl (lv_at hl 0 rfl) ?_
      refine km_get (j := 9) (v := .int (z_i ((B_m_divide_1 c x y).2.2.2.1))) B hP rfl (by decide) kw_290 dX3_divide_54 ?_
      refine km_put6 (v := z_i ((B_m_divide_1 c x y).2.2.2.1)) (M' := B_m_divide_2 c x y) B hG hP hS (z_i01 _) rfl kw_268 dX3_divide_57 (fun H locs hP hS => ?_)
      refine lv_aload_n hx hb dX3_divide_60 rfl (lv_at hl 0 rfl) ?_
      refine lv_aload_n hx hb dX3_divide_61 rfl (lv_at hl 0 rfl) ?_
      refine km_get (j := 10) (v := .long ((B_m_divide_2 c x y).2.2.2.2.1)) B hP rfl (by decide) kw_296 dX3_divide_62 ?_
      refine km_put7 (v := (B_m_divide_2 c x y).2.2.2.2.1) (M' := B_m_divide_3 c x y) B hG hP hS rfl kw_274 dX3_divide_65 (fun H locs hP hS => ?_)
      refine lv_aload_n hx hb dX3_divide_68 rfl (lv_at hl 0 rfl) ?_
      refine lv_aload_n hx hb dX3_divide_69 rfl (lv_at hl 0 rfl) ?_
      refine km_get (j := 11) (v := .long ((B_m_divide_3 c x y).2.2.2.2.2)) B hP rfl (by decide) kw_297 dX3_divide_70 ?_
      refine km_put8 (v := (B_m_divide_3 c x y).2.2.2.2.2) (M' := B_m_divide_4 c x y) B hG hP hS rfl kw_275 dX3_divide_73 (fun H locs hP hS => ?_)
      refine lv_aload_n hx hb dX3_divide_76 rfl (lv_at hl 0 rfl) ?_
      refine lv_aload_n hx hb dX3_divide_77 rfl (lv_at hl 0 rfl) ?_
      refine km_get (j := 5) (v := .ref (bH G)) B hP rfl (by decide) kw_300 dX3_divide_78 ?_
      refine lv_iload_n hx hb dX3_divide_81 rfl (lv_at hl 1 rfl) ?_
      refine km_hald (i := x) (v := ((B_m_divide_4 c x y).2.1.2.2) x.toNatClampNeg) B hG hP hx8 rfl dX3_divide_82 ?_
      refine lv_lneg hx hb dX3_divide_83 ?_
      refine lv_aload_n hx hb dX3_divide_84 rfl (lv_at hl 0 rfl) ?_
      refine km_get (j := 4) (v := .ref (bL G)) B hP rfl (by decide) kw_299 dX3_divide_85 ?_
      refine lv_iload_n hx hb dX3_divide_88 rfl (lv_at hl 1 rfl) ?_
      refine km_lald (i := x) (v := ((B_m_divide_4 c x y).2.1.2.1) x.toNatClampNeg) B hG hP hx8 rfl dX3_divide_89 ?_
      refine lv_lneg hx hb dX3_divide_90 ?_
      refine lv_aload_n hx hb dX3_divide_91 rfl (lv_at hl 0 rfl) ?_
      refine km_get (j := 5) (v := .ref (bH G)) B hP rfl (by decide) kw_300 dX3_divide_92 ?_
      refine lv_iload_n hx hb dX3_divide_95 rfl (lv_at hl 2 rfl) ?_
      refine km_hald (i := y) (v := ((B_m_divide_4 c x y).2.1.2.2) y.toNatClampNeg) B hG hP hy8 rfl dX3_divide_96 ?_
      refine lv_lneg hx hb dX3_divide_97 ?_
      refine lv_aload_n hx hb dX3_divide_98 rfl (lv_at hl 0 rfl) ?_
      refine km_get (j := 4) (v := .ref (bL G)) B hP rfl (by decide) kw_299 dX3_divide_99 ?_
      refine lv_iload_n hx hb dX3_divide_102 rfl (lv_at hl 2 rfl) ?_
      refine km_lald (i := y) (v := ((B_m_divide_4 c x y).2.1.2.1) y.toNatClampNeg) B hG hP hy8 rfl dX3_divide_103 ?_
      refine lv_lneg hx hb dX3_divide_104 ?_
      refine kp_callV (rm := rm_m_ratio) (As := [.long (-(((B_m_divide_4 c x y).2.1.2.2) x.toNatClampNeg)), .long (-(((B_m_divide_4 c x y).2.1.2.1) x.toNatClampNeg)), .long (-(((B_m_divide_4 c x y).2.1.2.2) y.toNatClampNeg)), .long (-(((B_m_divide_4 c x y).2.1.2.1) y.toNatClampNeg))]) (rest := []) (r := none) (st1 := []) (ws' := mw_W G (S_m_ratio (B_m_divide_4 c x y) (-(((B_m_divide_4 c x y).2.1.2.2) x.toNatClampNeg)) (-(((B_m_divide_4 c x y).2.1.2.1) x.toNatClampNeg)) (-(((B_m_divide_4 c x y).2.1.2.2) y.toNatClampNeg)) (-(((B_m_divide_4 c x y).2.1.2.1) y.toNatClampNeg))) Z) B (C_m_ratio l D ty sz G Z hG (B_m_divide_4 c x y) (-(((B_m_divide_4 c x y).2.1.2.2) x.toNatClampNeg)) (-(((B_m_divide_4 c x y).2.1.2.1) x.toNatClampNeg)) (-(((B_m_divide_4 c x y).2.1.2.2) y.toNatClampNeg)) (-(((B_m_divide_4 c x y).2.1.2.1) y.toNatClampNeg))) kt_m_ratio kw_303 kw_304 kw_305 (km_rc B hP) (by decide) rfl rfl (by decide) rfl (Nat.le_of_ble_eq_true rfl) hl.1 hP hS dX3_divide_105 rfl (fun H locs hP hS => ?_)
      have hP : va_P D vwCl (mw_W G (B_m_divide_5 c x y) Z) H := hP
      refine lv_aload_n hx hb dX3_divide_108 rfl (lv_at hl 0 rfl) ?_
      refine km_get (j := 9) (v := .int (z_i ((B_m_divide_5 c x y).2.2.2.1))) B hP rfl (by decide) kw_290 dX3_divide_109 ?_
      refine lv_if_ne (tgt := 116) hx hb dX3_divide_112 (by decide) (fun q_3 => ?_) (fun q_3 => ?_)
      · refine lv_aload_n hx hb dX3_divide_116 rfl (lv_at hl 0 rfl) ?_
        refine lv_aload_n hx hb dX3_divide_117 rfl (lv_at hl 0 rfl) ?_
        refine km_get (j := 6) (v := .int (z_i ((B_m_divide_5 c x y).2.2.1.1))) B hP rfl (by decide) kw_268 dX3_divide_118 ?_
        have hJ147 : W p l e rm_m_divide s m args below meth cd H locs 0 0 (MQ below (kp_Q D sz (none) (mw_W G (S_m_divide c x y) Z)) args s rm_m_divide.cells rm_m_divide.slots (kp_A sz)) (F0 m 147 ls [.long (if (z_i ((B_m_divide_5 c x y).2.2.1.1)) = (0 : Int32) then (B_m_divide_5 c x y).2.2.2.2.1 else (if ((B_m_divide_5 c x y).2.2.2.2.1) ≤ ((B_m_divide_5 c x y).2.2.1.2.1) then (B_m_divide_5 c x y).2.2.2.2.1 else (B_m_divide_5 c x y).2.2.1.2.1)), .ref (bM G)]) := by
          refine km_put7 (v := if (z_i ((B_m_divide_5 c x y).2.2.1.1)) = (0 : Int32) then (B_m_divide_5 c x y).2.2.2.2.1 else (if ((B_m_divide_5 c x y).2.2.2.2.1) ≤ ((B_m_divide_5 c x y).2.2.1.2.1) then (B_m_divide_5 c x y).2.2.2.2.1 else (B_m_divide_5 c x y).2.2.1.2.1)) (M' := B_m_divide_6 c x y) B hG hP hS rfl kw_274 dX3_divide_147 (fun H locs hP hS => ?_)
          refine lv_aload_n hx hb dX3_divide_150 rfl (lv_at hl 0 rfl) ?_
          refine lv_aload_n hx hb dX3_divide_151 rfl (lv_at hl 0 rfl) ?_
          refine km_get (j := 6) (v := .int (z_i ((B_m_divide_6 c x y).2.2.1.1))) B hP rfl (by decide) kw_268 dX3_divide_152 ?_
          have hJ181 : W p l e rm_m_divide s m args below meth cd H locs 0 0 (MQ below (kp_Q D sz (none) (mw_W G (S_m_divide c x y) Z)) args s rm_m_divide.cells rm_m_divide.slots (kp_A sz)) (F0 m 181 ls [.long (if (z_i ((B_m_divide_6 c x y).2.2.1.1)) = (0 : Int32) then (B_m_divide_6 c x y).2.2.2.2.2 else (if ((B_m_divide_6 c x y).2.2.1.2.2) ≤ ((B_m_divide_6 c x y).2.2.2.2.2) then (B_m_divide_6 c x y).2.2.2.2.2 else (B_m_divide_6 c x y).2.2.1.2.2)), .ref (bM G)]) := by
            refine km_put8 (v := if (z_i ((B_m_divide_6 c x y).2.2.1.1)) = (0 : Int32) then (B_m_divide_6 c x y).2.2.2.2.2 else (if ((B_m_divide_6 c x y).2.2.1.2.2) ≤ ((B_m_divide_6 c x y).2.2.2.2.2) then (B_m_divide_6 c x y).2.2.2.2.2 else (B_m_divide_6 c x y).2.2.1.2.2)) (M' := B_m_divide_7 c x y) B hG hP hS rfl kw_275 dX3_divide_181 (fun H locs hP hS => ?_)
            refine lv_aload_n hx hb dX3_divide_184 rfl (lv_at hl 0 rfl) ?_
            refine lv_iconst (v := (1 : Int32)) hx hb dX3_divide_185 (by decide) ?_
            refine km_put6 (v := (1 : Int32)) (M' := mp_is (B_m_divide_7 c x y) (z_t (1 : Int32))) B hG hP hS (Or.inr rfl) rfl kw_268 dX3_divide_186 (fun H locs hP hS => ?_)
            exact kp_retv B (by simp only [S_m_divide, if_neg q_1, if_neg q_2, if_neg q_3]; exact hP) hS rfl dX3_divide_189
          refine lv_if_eq (tgt := 177) hx hb dX3_divide_155 (by decide) (fun q_4 => ?_) (fun q_4 => ?_)
          · refine lv_aload_n hx hb dX3_divide_177 rfl (lv_at hl 0 rfl) ?_
            refine km_get (j := 11) (v := .long ((B_m_divide_6 c x y).2.2.2.2.2)) B hP rfl (by decide) kw_297 dX3_divide_178 ?_
            exact kp_jJ (by simp only [if_pos q_4]) hJ181
          · refine lv_aload_n hx hb dX3_divide_158 rfl (lv_at hl 0 rfl) ?_
            refine km_get (j := 8) (v := .long ((B_m_divide_6 c x y).2.2.1.2.2)) B hP rfl (by decide) kw_275 dX3_divide_159 ?_
            refine lv_aload_n hx hb dX3_divide_162 rfl (lv_at hl 0 rfl) ?_
            refine km_get (j := 11) (v := .long ((B_m_divide_6 c x y).2.2.2.2.2)) B hP rfl (by decide) kw_297 dX3_divide_163 ?_
            refine kp_lle (tgt := 177) hx hb dX3_divide_166 dX3_divide_167 (by decide) (fun q_5 => ?_) (fun q_5 => ?_)
            · refine lv_aload_n hx hb dX3_divide_177 rfl (lv_at hl 0 rfl) ?_
              refine km_get (j := 11) (v := .long ((B_m_divide_6 c x y).2.2.2.2.2)) B hP rfl (by decide) kw_297 dX3_divide_178 ?_
              exact kp_jJ (by simp only [if_neg q_4, if_pos q_5]) hJ181
            · refine lv_aload_n hx hb dX3_divide_170 rfl (lv_at hl 0 rfl) ?_
              refine km_get (j := 8) (v := .long ((B_m_divide_6 c x y).2.2.1.2.2)) B hP rfl (by decide) kw_275 dX3_divide_171 ?_
              refine lv_goto (tgt := 181) hx hb dX3_divide_174 (by decide) ?_
              exact kp_jJ (by simp only [if_neg q_4, if_neg q_5]) hJ181
        refine lv_if_eq (tgt := 143) hx hb dX3_divide_121 (by decide) (fun q_6 => ?_) (fun q_6 => ?_)
        · refine lv_aload_n hx hb dX3_divide_143 rfl (lv_at hl 0 rfl) ?_
          refine km_get (j := 10) (v := .long ((B_m_divide_5 c x y).2.2.2.2.1)) B hP rfl (by decide) kw_296 dX3_divide_144 ?_
          exact kp_jJ (by simp only [if_pos q_6]) hJ147
        · refine lv_aload_n hx hb dX3_divide_124 rfl (lv_at hl 0 rfl) ?_
          refine km_get (j := 7) (v := .long ((B_m_divide_5 c x y).2.2.1.2.1)) B hP rfl (by decide) kw_274 dX3_divide_125 ?_
          refine lv_aload_n hx hb dX3_divide_128 rfl (lv_at hl 0 rfl) ?_
          refine km_get (j := 10) (v := .long ((B_m_divide_5 c x y).2.2.2.2.1)) B hP rfl (by decide) kw_296 dX3_divide_129 ?_
          refine kp_lge (tgt := 143) hx hb dX3_divide_132 dX3_divide_133 (by decide) (fun q_7 => ?_) (fun q_7 => ?_)
          · refine lv_aload_n hx hb dX3_divide_143 rfl (lv_at hl 0 rfl) ?_
            refine km_get (j := 10) (v := .long ((B_m_divide_5 c x y).2.2.2.2.1)) B hP rfl (by decide) kw_296 dX3_divide_144 ?_
            exact kp_jJ (by simp only [if_neg q_6, if_pos q_7]) hJ147
          · refine lv_aload_n hx hb dX3_divide_136 rfl (lv_at hl 0 rfl) ?_
            refine km_get (j := 7) (v := .long ((B_m_divide_5 c x y).2.2.1.2.1)) B hP rfl (by decide) kw_274 dX3_divide_137 ?_
            refine lv_goto (tgt := 147) hx hb dX3_divide_140 (by decide) ?_
            exact kp_jJ (by simp only [if_neg q_6, if_neg q_7]) hJ147
      · exact kp_retv B (by simp only [S_m_divide, if_neg q_1, if_neg q_2, if_pos q_3]; exact hP) hS rfl dX3_divide_115
    · exact kp_retv B (by simp only [S_m_divide, if_neg q_1, if_pos q_2]; exact hP) hS rfl dX3_divide_23
def LF_m_root (x : Int64) : Nat → Int64 → Int32 → Int64
  | 0, r, i => 0
  | n + 1, r, i => if i < (0 : Int32) then r else LF_m_root x n (if x < ((r + ((1 : Int64) <<< (i.toInt64 &&& 63))) * (r + ((1 : Int64) <<< (i.toInt64 &&& 63)))) then r else r + ((1 : Int64) <<< (i.toInt64 &&& 63))) (i + (-1 : Int32))
def F_m_root (x : Int64) : Int64 :=
  LF_m_root x 26 (0 : Int64) (24 : Int32)
def rm_m_root : Room := { frames := 0, cells := 0, slots := 0, locals := 0 }
set_option maxHeartbeats 4000000 in
set_option maxRecDepth 100000 in
theorem LP_m_root (l : Launch) (D : va_G) (ty : List (ClassId × FieldType)) (sz : Nat) (G : mw_G) (Z : va_W) (hG : mw_ok ty sz G Z) (c : mw_C) (x : Int64) {p : Program} {e : Env} {s : State} {m : MethodId} {args : Array Value} {below : List Frame} {meth : Method} {cd : Code} (B : kp_B p l s m args meth cd yX3_root.cls cX3_root 5 (some .long) D ty sz) (hP : va_P D vwCl (mw_W G c Z) s.heap) :
    ∀ (n : Nat) (r : Int64) (i : Int32) (h1 : -1 ≤ i.toInt) (h2 : i.toInt + 2 ≤ n), ∀ (ls : Array Slot), lv_has ls 5 [(0, .long x), (2, .long r), (4, .int i)] → W p l e rm_m_root s m args below meth cd s.heap [] 0 0 (MQ below (kp_QR (some (.long (LF_m_root x n r i)))) args s 0 0 (fun _ => False)) (F0 m 6 ls []) := by
  obtain ⟨hx, hb, hml, hown, hlk, hr, hw, hE, hK, hsz⟩ := id B
  intro n
  induction n with
  | zero =>
    intro r i h1 h2
    exact absurd h2 (by omega)
  | succ n ih =>
    intro r i h1 h2 ls hl
    have hS : va_S (kp_A sz) s.heap s.heap [] := va_S.rf
    refine lv_iload hx hb dX3_root_6 (lv_at hl 2 rfl) ?_
    refine lv_if_lt (tgt := 42) hx hb dX3_root_8 (by decide) (fun q_1 => ?_) (fun q_1 => ?_)
    · refine lv_lload_n hx hb dX3_root_42 rfl (lv_at hl 1 rfl) ?_
      exact kp_retlR B (by simp only [LF_m_root, if_pos q_1]) dX3_root_43
    · refine lv_lload_n hx hb dX3_root_11 rfl (lv_at hl 1 rfl) ?_
      refine lv_lconst (v := (1 : Int64)) hx hb dX3_root_12 (by decide) ?_
      refine lv_iload hx hb dX3_root_13 (lv_at hl 2 rfl) ?_
      refine lv_lshl (v := (1 : Int64) <<< (i.toInt64 &&& 63)) hx hb dX3_root_15 rfl ?_
      refine lv_ladd hx hb dX3_root_16 ?_
      refine lv_lload_n hx hb dX3_root_17 rfl (lv_at hl 1 rfl) ?_
      refine lv_lconst (v := (1 : Int64)) hx hb dX3_root_18 (by decide) ?_
      refine lv_iload hx hb dX3_root_19 (lv_at hl 2 rfl) ?_
      refine lv_lshl (v := (1 : Int64) <<< (i.toInt64 &&& 63)) hx hb dX3_root_21 rfl ?_
      refine lv_ladd hx hb dX3_root_22 ?_
      refine lv_lmul hx hb dX3_root_23 ?_
      refine lv_lload_n hx hb dX3_root_24 rfl (lv_at hl 0 rfl) ?_
      have hJ36 : ∀ ls : Array Slot, lv_has ls 5 [(0, .long x), (2, .long (if x < ((r + ((1 : Int64) <<< (i.toInt64 &&& 63))) * (r + ((1 : Int64) <<< (i.toInt64 &&& 63)))) then r else r + ((1 : Int64) <<< (i.toInt64 &&& 63)))), (4, .int i)] → W p l e rm_m_root s m args below meth cd s.heap [] 0 0 (MQ below (kp_QR (some (.long (LF_m_root x (n + 1) r i)))) args s 0 0 (fun _ => False)) (F0 m 36 ls []) := by
        intro ls hl
        refine lv_iinc (v := i + (-1 : Int32)) (lv' := [(4, .int (i + (-1 : Int32))), (0, .long x), (2, .long (if x < ((r + ((1 : Int64) <<< (i.toInt64 &&& 63))) * (r + ((1 : Int64) <<< (i.toInt64 &&& 63)))) then r else r + ((1 : Int64) <<< (i.toInt64 &&& 63))))]) hx hb dX3_root_36 hl (k := 2) rfl rfl (by decide) rfl (fun ls hl => ?_)
        refine lv_goto (tgt := 6) hx hb dX3_root_39 (by decide) ?_
        rw [show LF_m_root x (n + 1) r i = LF_m_root x n (if x < ((r + ((1 : Int64) <<< (i.toInt64 &&& 63))) * (r + ((1 : Int64) <<< (i.toInt64 &&& 63)))) then r else r + ((1 : Int64) <<< (i.toInt64 &&& 63))) (i + (-1 : Int32)) from by simp only [LF_m_root, if_neg q_1]]
        exact ih (if x < ((r + ((1 : Int64) <<< (i.toInt64 &&& 63))) * (r + ((1 : Int64) <<< (i.toInt64 &&& 63)))) then r else r + ((1 : Int64) <<< (i.toInt64 &&& 63))) (i + (-1 : Int32)) (ki_dn h1 q_1 h2).1 (ki_dn h1 q_1 h2).2 ls (lv_sub hl [1, 2, 0] rfl)
      refine kp_lgt (tgt := 36) hx hb dX3_root_25 dX3_root_26 (by decide) (fun q_2 => ?_) (fun q_2 => ?_)
      · exact hJ36 ls (kp_jl (lv_sub (l' := [(0, .long x), (2, .long r), (4, .int i)]) hl [0, 1, 2] rfl) (by simp only [if_pos q_2]))
      · refine lv_lload_n hx hb dX3_root_29 rfl (lv_at hl 1 rfl) ?_
        refine lv_lconst (v := (1 : Int64)) hx hb dX3_root_30 (by decide) ?_
        refine lv_iload hx hb dX3_root_31 (lv_at hl 2 rfl) ?_
        refine lv_lshl (v := (1 : Int64) <<< (i.toInt64 &&& 63)) hx hb dX3_root_33 rfl ?_
        refine lv_ladd hx hb dX3_root_34 ?_
        refine lv_lstore_n (lv' := [(2, .long (r + ((1 : Int64) <<< (i.toInt64 &&& 63)))), (0, .long x), (4, .int i)]) hx hb dX3_root_35 rfl hl (by decide) rfl (fun ls hl => ?_)
        exact hJ36 ls (kp_jl (lv_sub (l' := [(0, .long x), (2, .long (r + ((1 : Int64) <<< (i.toInt64 &&& 63)))), (4, .int i)]) hl [1, 0, 2] rfl) (by simp only [if_neg q_2]))
set_option maxHeartbeats 4000000 in
set_option maxRecDepth 100000 in
theorem C_m_root (l : Launch) (D : va_G) (ty : List (ClassId × FieldType)) (sz : Nat) (G : mw_G) (Z : va_W) (hG : mw_ok ty sz G Z) (c : mw_C) (x : Int64) : kp_R l yX3_root cX3_root 5 (some .long) rm_m_root D ty sz [.long x] (mw_W G c Z) (some (.long (F_m_root x))) := by
  refine kp_bodyR (by decide) (Nat.le_of_ble_eq_true rfl) rfl ?_
  intro p e s m args below meth cd ls B hl hP hS
  obtain ⟨hx, hb, hml, hown, hlk, hr, hw, hE, hK, hsz⟩ := id B
  have hl : lv_has ls 5 [(0, .long x)] := hl
  refine lv_lconst (v := (0 : Int64)) hx hb dX3_root_0 (by decide) ?_
  refine lv_lstore_n (lv' := [(2, .long (0 : Int64)), (0, .long x)]) hx hb dX3_root_1 rfl hl (by decide) rfl (fun ls hl => ?_)
  refine lv_bipush (v := (24 : Int32)) hx hb dX3_root_2 (by decide) ?_
  refine lv_istore (lv' := [(4, .int (24 : Int32)), (2, .long (0 : Int64)), (0, .long x)]) hx hb dX3_root_4 hl (by decide) rfl (fun ls hl => ?_)
  exact LP_m_root l D ty sz G Z hG c x B hP 26 (0 : Int64) (24 : Int32) (by decide) (by decide) ls (lv_sub hl [2, 1, 0] rfl)
def B_m_roots_1 (c : mw_C) (x : Int64) (y : Int64) : mw_C := mp_is c (z_t (if y < (0 : Int64) then (0 : Int32) else (1 : Int32)))
def A_m_roots_2 (c : mw_C) (x : Int64) (y : Int64) : Int64 := if x ≤ (0 : Int64) then (0 : Int64) else F_m_root (x <<< ((F_m_fine (B_m_roots_1 c x y)).toInt64 &&& 63))
def B_m_roots_3 (c : mw_C) (x : Int64) (y : Int64) : mw_C := mp_from (B_m_roots_1 c x y) (F_m_rounded (B_m_roots_1 c x y) (A_m_roots_2 c x y) (1 : Int64) (0 : Int32))
def A_m_roots_4 (c : mw_C) (x : Int64) (y : Int64) : Int64 := F_m_root (y <<< ((F_m_fine (B_m_roots_3 c x y)).toInt64 &&& 63))
def B_m_roots_5 (c : mw_C) (x : Int64) (y : Int64) : mw_C := mp_to (B_m_roots_3 c x y) (F_m_rounded (B_m_roots_3 c x y) (if ((A_m_roots_4 c x y) * (A_m_roots_4 c x y)) = (y <<< ((F_m_fine (B_m_roots_3 c x y)).toInt64 &&& 63)) then (2 : Int64) * (A_m_roots_4 c x y) else ((2 : Int64) * (A_m_roots_4 c x y)) + (1 : Int64)) (2 : Int64) (1 : Int32))
def S_m_roots (c : mw_C) (x : Int64) (y : Int64) : mw_C :=
  if (z_i ((B_m_roots_1 c x y).2.2.1.1)) = (0 : Int32) then B_m_roots_1 c x y else (if (F_m_isEnd y) = (0 : Int32) then mp_to (B_m_roots_3 c x y) mw_far else B_m_roots_5 c x y)
def rm_m_roots : Room := { frames := 2, cells := 0, slots := 0, locals := 55 }
set_option maxHeartbeats 4000000 in
set_option maxRecDepth 100000 in
theorem C_m_roots (l : Launch) (D : va_G) (ty : List (ClassId × FieldType)) (sz : Nat) (G : mw_G) (Z : va_W) (hG : mw_ok ty sz G Z) (c : mw_C) (x : Int64) (y : Int64) : kp_M l yX3_roots cX3_roots 9 none rm_m_roots D ty sz [.ref (bM G), .long x, .long y] (mw_W G c Z) (none) (mw_W G (S_m_roots c x y) Z) := by
  refine kp_body (by decide) (Nat.le_of_ble_eq_true rfl) rfl ?_
  intro p e s m args below meth cd ls B hin hl hP hS
  obtain ⟨hx, hb, hml, hown, hlk, hr, hw, hE, hK, hsz⟩ := id B
  have hl : lv_has ls 9 [(0, .ref (bM G)), (1, .long x), (3, .long y)] := hl
  refine lv_aload_n hx hb dX3_roots_0 rfl (lv_at hl 0 rfl) ?_
  refine lv_lload_n hx hb dX3_roots_1 rfl (lv_at hl 2 rfl) ?_
  refine lv_lconst (v := (0 : Int64)) hx hb dX3_roots_2 (by decide) ?_
  have hJ12 : W p l e rm_m_roots s m args below meth cd s.heap [] 0 0 (MQ below (kp_Q D sz (none) (mw_W G (S_m_roots c x y) Z)) args s rm_m_roots.cells rm_m_roots.slots (kp_A sz)) (F0 m 12 ls [.int (if y < (0 : Int64) then (0 : Int32) else (1 : Int32)), .ref (bM G)]) := by
    refine km_put6 (v := if y < (0 : Int64) then (0 : Int32) else (1 : Int32)) (M' := B_m_roots_1 c x y) B hG hP hS (z_ite01 (Or.inl rfl) (Or.inr rfl)) rfl kw_268 dX3_roots_12 (fun H locs hP hS => ?_)
    refine lv_aload_n hx hb dX3_roots_15 rfl (lv_at hl 0 rfl) ?_
    refine km_get (j := 6) (v := .int (z_i ((B_m_roots_1 c x y).2.2.1.1))) B hP rfl (by decide) kw_268 dX3_roots_16 ?_
    refine lv_if_ne (tgt := 23) hx hb dX3_roots_19 (by decide) (fun q_1 => ?_) (fun q_1 => ?_)
    · refine lv_lload_n hx hb dX3_roots_23 rfl (lv_at hl 1 rfl) ?_
      refine lv_lconst (v := (0 : Int64)) hx hb dX3_roots_24 (by decide) ?_
      have hJ42 : W p l e rm_m_roots s m args below meth cd H locs 0 0 (MQ below (kp_Q D sz (none) (mw_W G (S_m_roots c x y) Z)) args s rm_m_roots.cells rm_m_roots.slots (kp_A sz)) (F0 m 42 ls [.long (if x ≤ (0 : Int64) then (0 : Int64) else F_m_root (x <<< ((F_m_fine (B_m_roots_1 c x y)).toInt64 &&& 63)))]) := by
        refine W.eq (g2 := F0 m 42 ls [.long (A_m_roots_2 c x y)]) rfl ?_
        refine lv_lstore (lv' := [(5, .long (A_m_roots_2 c x y)), (0, .ref (bM G)), (1, .long x), (3, .long y)]) hx hb dX3_roots_42 hl (by decide) rfl (fun ls hl => ?_)
        refine lv_aload_n hx hb dX3_roots_44 rfl (lv_at hl 1 rfl) ?_
        refine lv_aload_n hx hb dX3_roots_45 rfl (lv_at hl 1 rfl) ?_
        refine lv_lload hx hb dX3_roots_46 (lv_at hl 0 rfl) ?_
        refine lv_lconst (v := (1 : Int64)) hx hb dX3_roots_48 (by decide) ?_
        refine lv_iconst (v := (0 : Int32)) hx hb dX3_roots_49 (by decide) ?_
        refine kp_callVR (rm := rm_m_rounded) (As := [.long (A_m_roots_2 c x y), .long (1 : Int64), .int (0 : Int32)]) (rest := [.ref (bM G)]) (r := some (.long (F_m_rounded (B_m_roots_1 c x y) (A_m_roots_2 c x y) (1 : Int64) (0 : Int32)))) (st1 := [.long (F_m_rounded (B_m_roots_1 c x y) (A_m_roots_2 c x y) (1 : Int64) (0 : Int32)), .ref (bM G)]) B (C_m_rounded l D ty sz G Z hG (B_m_roots_1 c x y) (A_m_roots_2 c x y) (1 : Int64) (0 : Int32) (by decide)) kt_m_rounded kw_271 kw_272 kw_273 (km_rc B hP) (by decide) ⟨rfl, rfl⟩ (by decide) rfl (Nat.le_of_ble_eq_true rfl) hl.1 hP hS dX3_roots_50 rfl ?_
        refine km_put7 (v := F_m_rounded (B_m_roots_1 c x y) (A_m_roots_2 c x y) (1 : Int64) (0 : Int32)) (M' := B_m_roots_3 c x y) B hG hP hS rfl kw_274 dX3_roots_53 (fun H locs hP hS => ?_)
        refine lv_lload_n hx hb dX3_roots_56 rfl (lv_at hl 3 rfl) ?_
        refine kp_callSR (rm := rm_m_isEnd) (As := [.long y]) (rest := []) (r := some (.int (F_m_isEnd y))) (st1 := [.int (F_m_isEnd y)]) B (C_m_isEnd l D ty sz G Z hG (B_m_roots_3 c x y) y) kt_m_isEnd kw_266 kw_267 (by decide) ⟨rfl, rfl⟩ (by decide) rfl (Nat.le_of_ble_eq_true rfl) hl.1 hP hS dX3_roots_57 rfl ?_
        refine lv_if_ne (tgt := 71) hx hb dX3_roots_60 (by decide) (fun q_2 => ?_) (fun q_2 => ?_)
        · refine lv_lload_n hx hb dX3_roots_71 rfl (lv_at hl 3 rfl) ?_
          refine lv_aload_n hx hb dX3_roots_72 rfl (lv_at hl 1 rfl) ?_
          refine kp_callVR (rm := rm_m_fine) (As := []) (rest := [.long y]) (r := some (.int (F_m_fine (B_m_roots_3 c x y)))) (st1 := [.int (F_m_fine (B_m_roots_3 c x y)), .long y]) B (C_m_fine l D ty sz G Z hG (B_m_roots_3 c x y)) kt_m_fine kw_282 kw_283 kw_284 (km_rc B hP) (by decide) ⟨rfl, rfl⟩ (by decide) rfl (Nat.le_of_ble_eq_true rfl) hl.1 hP hS dX3_roots_73 rfl ?_
          refine lv_lshl (v := y <<< ((F_m_fine (B_m_roots_3 c x y)).toInt64 &&& 63)) hx hb dX3_roots_76 rfl ?_
          refine kp_callSR (rm := rm_m_root) (As := [.long (y <<< ((F_m_fine (B_m_roots_3 c x y)).toInt64 &&& 63))]) (rest := []) (r := some (.long (F_m_root (y <<< ((F_m_fine (B_m_roots_3 c x y)).toInt64 &&& 63))))) (st1 := [.long (F_m_root (y <<< ((F_m_fine (B_m_roots_3 c x y)).toInt64 &&& 63)))]) B (C_m_root l D ty sz G Z hG (B_m_roots_3 c x y) (y <<< ((F_m_fine (B_m_roots_3 c x y)).toInt64 &&& 63))) kt_m_root kw_308 kw_309 (by decide) ⟨rfl, rfl⟩ (by decide) rfl (Nat.le_of_ble_eq_true rfl) hl.1 hP hS dX3_roots_77 rfl ?_
          refine W.eq (g2 := F0 m 80 ls [.long (A_m_roots_4 c x y)]) rfl ?_
          refine lv_lstore (lv' := [(7, .long (A_m_roots_4 c x y)), (5, .long (A_m_roots_2 c x y)), (0, .ref (bM G)), (1, .long x), (3, .long y)]) hx hb dX3_roots_80 hl (by decide) rfl (fun ls hl => ?_)
          refine lv_aload_n hx hb dX3_roots_82 rfl (lv_at hl 2 rfl) ?_
          refine lv_aload_n hx hb dX3_roots_83 rfl (lv_at hl 2 rfl) ?_
          refine lv_lload hx hb dX3_roots_84 (lv_at hl 0 rfl) ?_
          refine lv_lload hx hb dX3_roots_86 (lv_at hl 0 rfl) ?_
          refine lv_lmul hx hb dX3_roots_88 ?_
          refine lv_lload_n hx hb dX3_roots_89 rfl (lv_at hl 4 rfl) ?_
          refine lv_aload_n hx hb dX3_roots_90 rfl (lv_at hl 2 rfl) ?_
          refine kp_callVR (rm := rm_m_fine) (As := []) (rest := [.long y, .long ((A_m_roots_4 c x y) * (A_m_roots_4 c x y)), .ref (bM G), .ref (bM G)]) (r := some (.int (F_m_fine (B_m_roots_3 c x y)))) (st1 := [.int (F_m_fine (B_m_roots_3 c x y)), .long y, .long ((A_m_roots_4 c x y) * (A_m_roots_4 c x y)), .ref (bM G), .ref (bM G)]) B (C_m_fine l D ty sz G Z hG (B_m_roots_3 c x y)) kt_m_fine kw_282 kw_283 kw_284 (km_rc B hP) (by decide) ⟨rfl, rfl⟩ (by decide) rfl (Nat.le_of_ble_eq_true rfl) hl.1 hP hS dX3_roots_91 rfl ?_
          refine lv_lshl (v := y <<< ((F_m_fine (B_m_roots_3 c x y)).toInt64 &&& 63)) hx hb dX3_roots_94 rfl ?_
          have hJ116 : W p l e rm_m_roots s m args below meth cd H locs 0 0 (MQ below (kp_Q D sz (none) (mw_W G (S_m_roots c x y) Z)) args s rm_m_roots.cells rm_m_roots.slots (kp_A sz)) (F0 m 116 ls [.long (if ((A_m_roots_4 c x y) * (A_m_roots_4 c x y)) = (y <<< ((F_m_fine (B_m_roots_3 c x y)).toInt64 &&& 63)) then (2 : Int64) * (A_m_roots_4 c x y) else ((2 : Int64) * (A_m_roots_4 c x y)) + (1 : Int64)), .ref (bM G), .ref (bM G)]) := by
            refine lv_ldc2 (v := (2 : Int64)) hx hb hown (hw _ kw_247 rfl) dX3_roots_116 ?_
            refine lv_iconst (v := (1 : Int32)) hx hb dX3_roots_119 (by decide) ?_
            refine kp_callVR (rm := rm_m_rounded) (As := [.long (if ((A_m_roots_4 c x y) * (A_m_roots_4 c x y)) = (y <<< ((F_m_fine (B_m_roots_3 c x y)).toInt64 &&& 63)) then (2 : Int64) * (A_m_roots_4 c x y) else ((2 : Int64) * (A_m_roots_4 c x y)) + (1 : Int64)), .long (2 : Int64), .int (1 : Int32)]) (rest := [.ref (bM G)]) (r := some (.long (F_m_rounded (B_m_roots_3 c x y) (if ((A_m_roots_4 c x y) * (A_m_roots_4 c x y)) = (y <<< ((F_m_fine (B_m_roots_3 c x y)).toInt64 &&& 63)) then (2 : Int64) * (A_m_roots_4 c x y) else ((2 : Int64) * (A_m_roots_4 c x y)) + (1 : Int64)) (2 : Int64) (1 : Int32)))) (st1 := [.long (F_m_rounded (B_m_roots_3 c x y) (if ((A_m_roots_4 c x y) * (A_m_roots_4 c x y)) = (y <<< ((F_m_fine (B_m_roots_3 c x y)).toInt64 &&& 63)) then (2 : Int64) * (A_m_roots_4 c x y) else ((2 : Int64) * (A_m_roots_4 c x y)) + (1 : Int64)) (2 : Int64) (1 : Int32)), .ref (bM G)]) B (C_m_rounded l D ty sz G Z hG (B_m_roots_3 c x y) (if ((A_m_roots_4 c x y) * (A_m_roots_4 c x y)) = (y <<< ((F_m_fine (B_m_roots_3 c x y)).toInt64 &&& 63)) then (2 : Int64) * (A_m_roots_4 c x y) else ((2 : Int64) * (A_m_roots_4 c x y)) + (1 : Int64)) (2 : Int64) (1 : Int32) (by decide)) kt_m_rounded kw_271 kw_272 kw_273 (km_rc B hP) (by decide) ⟨rfl, rfl⟩ (by decide) rfl (Nat.le_of_ble_eq_true rfl) hl.1 hP hS dX3_roots_120 rfl ?_
            refine km_put8 (v := F_m_rounded (B_m_roots_3 c x y) (if ((A_m_roots_4 c x y) * (A_m_roots_4 c x y)) = (y <<< ((F_m_fine (B_m_roots_3 c x y)).toInt64 &&& 63)) then (2 : Int64) * (A_m_roots_4 c x y) else ((2 : Int64) * (A_m_roots_4 c x y)) + (1 : Int64)) (2 : Int64) (1 : Int32)) (M' := B_m_roots_5 c x y) B hG hP hS rfl kw_275 dX3_roots_123 (fun H locs hP hS => ?_)
            exact kp_retv B (by simp only [S_m_roots, if_neg q_1, if_neg q_2]; exact hP) hS rfl dX3_roots_126
          refine kp_lne (tgt := 108) hx hb dX3_roots_95 dX3_roots_96 (by decide) (fun q_3 => ?_) (fun q_3 => ?_)
          · refine lv_ldc2 (v := (2 : Int64)) hx hb hown (hw _ kw_247 rfl) dX3_roots_108 ?_
            refine lv_lload hx hb dX3_roots_111 (lv_at hl 0 rfl) ?_
            refine lv_lmul hx hb dX3_roots_113 ?_
            refine lv_lconst (v := (1 : Int64)) hx hb dX3_roots_114 (by decide) ?_
            refine lv_ladd hx hb dX3_roots_115 ?_
            exact kp_jJ (by simp only [if_neg q_3]) hJ116
          · refine lv_ldc2 (v := (2 : Int64)) hx hb hown (hw _ kw_247 rfl) dX3_roots_99 ?_
            refine lv_lload hx hb dX3_roots_102 (lv_at hl 0 rfl) ?_
            refine lv_lmul hx hb dX3_roots_104 ?_
            refine lv_goto (tgt := 116) hx hb dX3_roots_105 (by decide) ?_
            exact kp_jJ (by simp only [if_pos q_3]) hJ116
        · refine lv_aload_n hx hb dX3_roots_63 rfl (lv_at hl 1 rfl) ?_
          refine lv_ldc2 (v := mw_far) hx hb hown (hw _ kw_253 rfl) dX3_roots_64 ?_
          refine km_put8 (v := mw_far) (M' := mp_to (B_m_roots_3 c x y) mw_far) B hG hP hS rfl kw_275 dX3_roots_67 (fun H locs hP hS => ?_)
          exact kp_retv B (by simp only [S_m_roots, if_neg q_1, if_pos q_2]; exact hP) hS rfl dX3_roots_70
      refine kp_lle (tgt := 41) hx hb dX3_roots_25 dX3_roots_26 (by decide) (fun q_4 => ?_) (fun q_4 => ?_)
      · refine lv_lconst (v := (0 : Int64)) hx hb dX3_roots_41 (by decide) ?_
        exact kp_jJ (by simp only [if_pos q_4]) hJ42
      · refine lv_lload_n hx hb dX3_roots_29 rfl (lv_at hl 1 rfl) ?_
        refine lv_aload_n hx hb dX3_roots_30 rfl (lv_at hl 0 rfl) ?_
        refine kp_callVR (rm := rm_m_fine) (As := []) (rest := [.long x]) (r := some (.int (F_m_fine (B_m_roots_1 c x y)))) (st1 := [.int (F_m_fine (B_m_roots_1 c x y)), .long x]) B (C_m_fine l D ty sz G Z hG (B_m_roots_1 c x y)) kt_m_fine kw_282 kw_283 kw_284 (km_rc B hP) (by decide) ⟨rfl, rfl⟩ (by decide) rfl (Nat.le_of_ble_eq_true rfl) hl.1 hP hS dX3_roots_31 rfl ?_
        refine lv_lshl (v := x <<< ((F_m_fine (B_m_roots_1 c x y)).toInt64 &&& 63)) hx hb dX3_roots_34 rfl ?_
        refine kp_callSR (rm := rm_m_root) (As := [.long (x <<< ((F_m_fine (B_m_roots_1 c x y)).toInt64 &&& 63))]) (rest := []) (r := some (.long (F_m_root (x <<< ((F_m_fine (B_m_roots_1 c x y)).toInt64 &&& 63))))) (st1 := [.long (F_m_root (x <<< ((F_m_fine (B_m_roots_1 c x y)).toInt64 &&& 63)))]) B (C_m_root l D ty sz G Z hG (B_m_roots_1 c x y) (x <<< ((F_m_fine (B_m_roots_1 c x y)).toInt64 &&& 63))) kt_m_root kw_308 kw_309 (by decide) ⟨rfl, rfl⟩ (by decide) rfl (Nat.le_of_ble_eq_true rfl) hl.1 hP hS dX3_roots_35 rfl ?_
        refine lv_goto (tgt := 42) hx hb dX3_roots_38 (by decide) ?_
        exact kp_jJ (by simp only [if_neg q_4]) hJ42
    · exact kp_retv B (by simp only [S_m_roots, if_pos q_1]; exact hP) hS rfl dX3_roots_22
  refine kp_llt (tgt := 11) hx hb dX3_roots_3 dX3_roots_4 (by decide) (fun q_5 => ?_) (fun q_5 => ?_)
  · refine lv_iconst (v := (0 : Int32)) hx hb dX3_roots_11 (by decide) ?_
    exact kp_jI (by simp only [if_pos q_5]) hJ12
  · refine lv_iconst (v := (1 : Int32)) hx hb dX3_roots_7 (by decide) ?_
    refine lv_goto (tgt := 12) hx hb dX3_roots_8 (by decide) ?_
    exact kp_jI (by simp only [if_neg q_5]) hJ12
def B_m_sizes_1 (c : mw_C) (x : Int64) (y : Int64) : mw_C := mp_from c (if x ≤ (0 : Int64) then (if (0 : Int64) ≤ y then (0 : Int64) else -y) else x)
def S_m_sizes (c : mw_C) (x : Int64) (y : Int64) : mw_C :=
  mp_to (B_m_sizes_1 c x y) (F_m_more (-x) y)
def rm_m_sizes : Room := { frames := 1, cells := 0, slots := 0, locals := 23 }
set_option maxHeartbeats 4000000 in
set_option maxRecDepth 100000 in
theorem C_m_sizes (l : Launch) (D : va_G) (ty : List (ClassId × FieldType)) (sz : Nat) (G : mw_G) (Z : va_W) (hG : mw_ok ty sz G Z) (c : mw_C) (x : Int64) (y : Int64) : kp_M l yX3_sizes cX3_sizes 5 none rm_m_sizes D ty sz [.ref (bM G), .long x, .long y] (mw_W G c Z) (none) (mw_W G (S_m_sizes c x y) Z) := by
  refine kp_body (by decide) (Nat.le_of_ble_eq_true rfl) rfl ?_
  intro p e s m args below meth cd ls B hin hl hP hS
  obtain ⟨hx, hb, hml, hown, hlk, hr, hw, hE, hK, hsz⟩ := id B
  have hl : lv_has ls 5 [(0, .ref (bM G)), (1, .long x), (3, .long y)] := hl
  refine lv_aload_n hx hb dX3_sizes_0 rfl (lv_at hl 0 rfl) ?_
  refine lv_lload_n hx hb dX3_sizes_1 rfl (lv_at hl 1 rfl) ?_
  refine lv_lconst (v := (0 : Int64)) hx hb dX3_sizes_2 (by decide) ?_
  have hJ23 : W p l e rm_m_sizes s m args below meth cd s.heap [] 0 0 (MQ below (kp_Q D sz (none) (mw_W G (S_m_sizes c x y) Z)) args s rm_m_sizes.cells rm_m_sizes.slots (kp_A sz)) (F0 m 23 ls [.long (if x ≤ (0 : Int64) then (if (0 : Int64) ≤ y then (0 : Int64) else -y) else x), .ref (bM G)]) := by
    refine km_put7 (v := if x ≤ (0 : Int64) then (if (0 : Int64) ≤ y then (0 : Int64) else -y) else x) (M' := B_m_sizes_1 c x y) B hG hP hS rfl kw_274 dX3_sizes_23 (fun H locs hP hS => ?_)
    refine lv_aload_n hx hb dX3_sizes_26 rfl (lv_at hl 0 rfl) ?_
    refine lv_lload_n hx hb dX3_sizes_27 rfl (lv_at hl 1 rfl) ?_
    refine lv_lneg hx hb dX3_sizes_28 ?_
    refine lv_lload_n hx hb dX3_sizes_29 rfl (lv_at hl 2 rfl) ?_
    refine kp_callSR (rm := rm_m_more) (As := [.long (-x), .long y]) (rest := [.ref (bM G)]) (r := some (.long (F_m_more (-x) y))) (st1 := [.long (F_m_more (-x) y), .ref (bM G)]) B (C_m_more l D ty sz G Z hG (B_m_sizes_1 c x y) (-x) y) kt_m_more kw_312 kw_313 (by decide) ⟨rfl, rfl⟩ (by decide) rfl (Nat.le_of_ble_eq_true rfl) hl.1 hP hS dX3_sizes_30 rfl ?_
    refine km_put8 (v := F_m_more (-x) y) (M' := mp_to (B_m_sizes_1 c x y) (F_m_more (-x) y)) B hG hP hS rfl kw_275 dX3_sizes_33 (fun H locs hP hS => ?_)
    exact kp_retv B hP hS rfl dX3_sizes_36
  refine kp_lle (tgt := 11) hx hb dX3_sizes_3 dX3_sizes_4 (by decide) (fun q_1 => ?_) (fun q_1 => ?_)
  · refine lv_lload_n hx hb dX3_sizes_11 rfl (lv_at hl 2 rfl) ?_
    refine lv_lconst (v := (0 : Int64)) hx hb dX3_sizes_12 (by decide) ?_
    refine kp_lge (tgt := 22) hx hb dX3_sizes_13 dX3_sizes_14 (by decide) (fun q_2 => ?_) (fun q_2 => ?_)
    · refine lv_lconst (v := (0 : Int64)) hx hb dX3_sizes_22 (by decide) ?_
      exact kp_jJ (by simp only [if_pos q_1, if_pos q_2]) hJ23
    · refine lv_lload_n hx hb dX3_sizes_17 rfl (lv_at hl 2 rfl) ?_
      refine lv_lneg hx hb dX3_sizes_18 ?_
      refine lv_goto (tgt := 23) hx hb dX3_sizes_19 (by decide) ?_
      exact kp_jJ (by simp only [if_pos q_1, if_neg q_2]) hJ23
  · refine lv_lload_n hx hb dX3_sizes_7 rfl (lv_at hl 1 rfl) ?_
    refine lv_goto (tgt := 23) hx hb dX3_sizes_8 (by decide) ?_
    exact kp_jJ (by simp only [if_neg q_1]) hJ23
end

section
-- ===== PART A: goes FIRST, ahead of the names: the tables' words, and 'selects' of the private methods out of them =====
/-- a private method of a class that the tables say can be made, by its rows of tables_1 -/
def lw_okq (q : MethodName × Nat) : Prop := (q.1.cls ≠ "java/lang/invoke/MethodHandle" ∧ q.1.cls ≠ "java/lang/invoke/VarHandle") ∧ Cond.instantiable q.1.cls q.2 ∈ tables_1 ∧ Cond.privateMethod q.1 ∈ tables_1 ∧ Cond.instanceMethod q.1 ∈ tables_1
theorem lw_p0 : lw_okq (⟨"BoundDesk$Span", "becomeEmpty", "()V"⟩, 2) := ⟨⟨by decide +kernel, by decide +kernel⟩, List.mem_of_getElem? (i := 36) (by decide +kernel), List.mem_of_getElem? (i := 68) (by decide +kernel), List.mem_of_getElem? (i := 69) (by decide +kernel)⟩
theorem lw_p1 : lw_okq (⟨"BoundDesk$Shape", "isPattern", "(I)Z"⟩, 2) := ⟨⟨by decide +kernel, by decide +kernel⟩, List.mem_of_getElem? (i := 20) (by decide +kernel), List.mem_of_getElem? (i := 79) (by decide +kernel), List.mem_of_getElem? (i := 80) (by decide +kernel)⟩
theorem lw_p2 : lw_okq (⟨"BoundDesk$Shape", "signBit", "()I"⟩, 2) := ⟨⟨by decide +kernel, by decide +kernel⟩, List.mem_of_getElem? (i := 20) (by decide +kernel), List.mem_of_getElem? (i := 83) (by decide +kernel), List.mem_of_getElem? (i := 84) (by decide +kernel)⟩
theorem lw_p3 : lw_okq (⟨"BoundDesk$Shape", "endlessPattern", "()I"⟩, 2) := ⟨⟨by decide +kernel, by decide +kernel⟩, List.mem_of_getElem? (i := 20) (by decide +kernel), List.mem_of_getElem? (i := 87) (by decide +kernel), List.mem_of_getElem? (i := 88) (by decide +kernel)⟩
theorem lw_p4 : lw_okq (⟨"BoundDesk$Shape", "numberOf", "(I)J"⟩, 2) := ⟨⟨by decide +kernel, by decide +kernel⟩, List.mem_of_getElem? (i := 20) (by decide +kernel), List.mem_of_getElem? (i := 91) (by decide +kernel), List.mem_of_getElem? (i := 92) (by decide +kernel)⟩
theorem lw_p5 : lw_okq (⟨"BoundDesk$Shape", "sizeOf", "(I)J"⟩, 2) := ⟨⟨by decide +kernel, by decide +kernel⟩, List.mem_of_getElem? (i := 20) (by decide +kernel), List.mem_of_getElem? (i := 95) (by decide +kernel), List.mem_of_getElem? (i := 96) (by decide +kernel)⟩
theorem lw_p6 : lw_okq (⟨"BoundDesk$Span", "become", "(JJ)V"⟩, 2) := ⟨⟨by decide +kernel, by decide +kernel⟩, List.mem_of_getElem? (i := 36) (by decide +kernel), List.mem_of_getElem? (i := 102) (by decide +kernel), List.mem_of_getElem? (i := 103) (by decide +kernel)⟩
theorem lw_p7 : lw_okq (⟨"BoundDesk$Span", "kindNumber", "()I"⟩, 2) := ⟨⟨by decide +kernel, by decide +kernel⟩, List.mem_of_getElem? (i := 36) (by decide +kernel), List.mem_of_getElem? (i := 114) (by decide +kernel), List.mem_of_getElem? (i := 115) (by decide +kernel)⟩
theorem lw_p8 : lw_okq (⟨"BoundDesk$Span", "isEmpty", "()Z"⟩, 2) := ⟨⟨by decide +kernel, by decide +kernel⟩, List.mem_of_getElem? (i := 36) (by decide +kernel), List.mem_of_getElem? (i := 118) (by decide +kernel), List.mem_of_getElem? (i := 119) (by decide +kernel)⟩
theorem lw_p9 : lw_okq (⟨"BoundDesk", "isFilled", "(I)Z"⟩, 4) := ⟨⟨by decide +kernel, by decide +kernel⟩, List.mem_of_getElem? (i := 12) (by decide +kernel), List.mem_of_getElem? (i := 128) (by decide +kernel), List.mem_of_getElem? (i := 129) (by decide +kernel)⟩
theorem lw_p10 : lw_okq (⟨"BoundDesk$Span", "holdsAllOf", "(LBoundDesk$Span;)Z"⟩, 2) := ⟨⟨by decide +kernel, by decide +kernel⟩, List.mem_of_getElem? (i := 36) (by decide +kernel), List.mem_of_getElem? (i := 133) (by decide +kernel), List.mem_of_getElem? (i := 134) (by decide +kernel)⟩
theorem lw_p11 : lw_okq (⟨"java/lang/Throwable", "fillInStackTrace", "(I)Ljava/lang/Throwable;"⟩, 6) := ⟨⟨by decide +kernel, by decide +kernel⟩, List.mem_of_getElem? (i := 189) (by decide +kernel), List.mem_of_getElem? (i := 187) (by decide +kernel), List.mem_of_getElem? (i := 188) (by decide +kernel)⟩
theorem lw_p12 : lw_okq (⟨"BoundDesk", "reckonOne", "(ILBoundDesk$Span;)V"⟩, 4) := ⟨⟨by decide +kernel, by decide +kernel⟩, List.mem_of_getElem? (i := 12) (by decide +kernel), List.mem_of_getElem? (i := 220) (by decide +kernel), List.mem_of_getElem? (i := 221) (by decide +kernel)⟩
theorem lw_p13 : lw_okq (⟨"BoundDesk", "takeSize", "(LBoundDesk$Span;)V"⟩, 4) := ⟨⟨by decide +kernel, by decide +kernel⟩, List.mem_of_getElem? (i := 12) (by decide +kernel), List.mem_of_getElem? (i := 224) (by decide +kernel), List.mem_of_getElem? (i := 225) (by decide +kernel)⟩
theorem lw_p14 : lw_okq (⟨"BoundDesk", "productNotAbove", "(JJ)J"⟩, 4) := ⟨⟨by decide +kernel, by decide +kernel⟩, List.mem_of_getElem? (i := 12) (by decide +kernel), List.mem_of_getElem? (i := 231) (by decide +kernel), List.mem_of_getElem? (i := 232) (by decide +kernel)⟩
theorem lw_p15 : lw_okq (⟨"BoundDesk$Shape", "unitBits", "()I"⟩, 2) := ⟨⟨by decide +kernel, by decide +kernel⟩, List.mem_of_getElem? (i := 20) (by decide +kernel), List.mem_of_getElem? (i := 235) (by decide +kernel), List.mem_of_getElem? (i := 236) (by decide +kernel)⟩
def lw_privs_1 : List (MethodName × Nat) := [(⟨"BoundDesk$Span", "becomeEmpty", "()V"⟩, 2), (⟨"BoundDesk$Shape", "isPattern", "(I)Z"⟩, 2), (⟨"BoundDesk$Shape", "signBit", "()I"⟩, 2), (⟨"BoundDesk$Shape", "endlessPattern", "()I"⟩, 2), (⟨"BoundDesk$Shape", "numberOf", "(I)J"⟩, 2), (⟨"BoundDesk$Shape", "sizeOf", "(I)J"⟩, 2), (⟨"BoundDesk$Span", "become", "(JJ)V"⟩, 2), (⟨"BoundDesk$Span", "kindNumber", "()I"⟩, 2), (⟨"BoundDesk$Span", "isEmpty", "()Z"⟩, 2), (⟨"BoundDesk", "isFilled", "(I)Z"⟩, 4), (⟨"BoundDesk$Span", "holdsAllOf", "(LBoundDesk$Span;)Z"⟩, 2), (⟨"java/lang/Throwable", "fillInStackTrace", "(I)Ljava/lang/Throwable;"⟩, 6), (⟨"BoundDesk", "reckonOne", "(ILBoundDesk$Span;)V"⟩, 4), (⟨"BoundDesk", "takeSize", "(LBoundDesk$Span;)V"⟩, 4), (⟨"BoundDesk", "productNotAbove", "(JJ)J"⟩, 4), (⟨"BoundDesk$Shape", "unitBits", "()I"⟩, 2)]
theorem lw_r1 : ∀ q ∈ lw_privs_1, lw_okq q := List.forall_mem_cons.mpr ⟨lw_p0, List.forall_mem_cons.mpr ⟨lw_p1, List.forall_mem_cons.mpr ⟨lw_p2, List.forall_mem_cons.mpr ⟨lw_p3, List.forall_mem_cons.mpr ⟨lw_p4, List.forall_mem_cons.mpr ⟨lw_p5, List.forall_mem_cons.mpr ⟨lw_p6, List.forall_mem_cons.mpr ⟨lw_p7, List.forall_mem_cons.mpr ⟨lw_p8, List.forall_mem_cons.mpr ⟨lw_p9, List.forall_mem_cons.mpr ⟨lw_p10, List.forall_mem_cons.mpr ⟨lw_p11, List.forall_mem_cons.mpr ⟨lw_p12, List.forall_mem_cons.mpr ⟨lw_p13, List.forall_mem_cons.mpr ⟨lw_p14, List.forall_mem_cons.mpr ⟨lw_p15, fun _ h => absurd h List.not_mem_nil⟩⟩⟩⟩⟩⟩⟩⟩⟩⟩⟩⟩⟩⟩⟩⟩
theorem lw_p16 : lw_okq (⟨"BoundDesk", "productNotBelow", "(JJ)J"⟩, 4) := ⟨⟨by decide +kernel, by decide +kernel⟩, List.mem_of_getElem? (i := 12) (by decide +kernel), List.mem_of_getElem? (i := 239) (by decide +kernel), List.mem_of_getElem? (i := 240) (by decide +kernel)⟩
theorem lw_p17 : lw_okq (⟨"BoundDesk", "takeRoot", "(LBoundDesk$Span;)V"⟩, 4) := ⟨⟨by decide +kernel, by decide +kernel⟩, List.mem_of_getElem? (i := 12) (by decide +kernel), List.mem_of_getElem? (i := 243) (by decide +kernel), List.mem_of_getElem? (i := 244) (by decide +kernel)⟩
theorem lw_p18 : lw_okq (⟨"BoundDesk", "rootNotAbove", "(J)J"⟩, 4) := ⟨⟨by decide +kernel, by decide +kernel⟩, List.mem_of_getElem? (i := 12) (by decide +kernel), List.mem_of_getElem? (i := 247) (by decide +kernel), List.mem_of_getElem? (i := 248) (by decide +kernel)⟩
theorem lw_p19 : lw_okq (⟨"BoundDesk", "rootNotBelow", "(J)J"⟩, 4) := ⟨⟨by decide +kernel, by decide +kernel⟩, List.mem_of_getElem? (i := 12) (by decide +kernel), List.mem_of_getElem? (i := 254) (by decide +kernel), List.mem_of_getElem? (i := 255) (by decide +kernel)⟩
theorem lw_p20 : lw_okq (⟨"BoundDesk", "reckonTwo", "(ILBoundDesk$Span;LBoundDesk$Span;)V"⟩, 4) := ⟨⟨by decide +kernel, by decide +kernel⟩, List.mem_of_getElem? (i := 12) (by decide +kernel), List.mem_of_getElem? (i := 258) (by decide +kernel), List.mem_of_getElem? (i := 259) (by decide +kernel)⟩
theorem lw_p21 : lw_okq (⟨"BoundDesk", "join", "(LBoundDesk$Span;LBoundDesk$Span;)V"⟩, 4) := ⟨⟨by decide +kernel, by decide +kernel⟩, List.mem_of_getElem? (i := 12) (by decide +kernel), List.mem_of_getElem? (i := 262) (by decide +kernel), List.mem_of_getElem? (i := 263) (by decide +kernel)⟩
theorem lw_p22 : lw_okq (⟨"BoundDesk", "multiply", "(LBoundDesk$Span;LBoundDesk$Span;)V"⟩, 4) := ⟨⟨by decide +kernel, by decide +kernel⟩, List.mem_of_getElem? (i := 12) (by decide +kernel), List.mem_of_getElem? (i := 272) (by decide +kernel), List.mem_of_getElem? (i := 273) (by decide +kernel)⟩
theorem lw_p23 : lw_okq (⟨"BoundDesk", "divide", "(LBoundDesk$Span;LBoundDesk$Span;)V"⟩, 4) := ⟨⟨by decide +kernel, by decide +kernel⟩, List.mem_of_getElem? (i := 12) (by decide +kernel), List.mem_of_getElem? (i := 276) (by decide +kernel), List.mem_of_getElem? (i := 277) (by decide +kernel)⟩
theorem lw_p24 : lw_okq (⟨"BoundDesk", "divideByAbove", "(LBoundDesk$Span;JJLBoundDesk$Span;)V"⟩, 4) := ⟨⟨by decide +kernel, by decide +kernel⟩, List.mem_of_getElem? (i := 12) (by decide +kernel), List.mem_of_getElem? (i := 280) (by decide +kernel), List.mem_of_getElem? (i := 281) (by decide +kernel)⟩
theorem lw_p25 : lw_okq (⟨"BoundDesk", "leastQuotient", "(JJJ)J"⟩, 4) := ⟨⟨by decide +kernel, by decide +kernel⟩, List.mem_of_getElem? (i := 12) (by decide +kernel), List.mem_of_getElem? (i := 284) (by decide +kernel), List.mem_of_getElem? (i := 285) (by decide +kernel)⟩
theorem lw_p26 : lw_okq (⟨"BoundDesk", "meet", "(LBoundDesk$Span;LBoundDesk$Span;)V"⟩, 4) := ⟨⟨by decide +kernel, by decide +kernel⟩, List.mem_of_getElem? (i := 12) (by decide +kernel), List.mem_of_getElem? (i := 291) (by decide +kernel), List.mem_of_getElem? (i := 292) (by decide +kernel)⟩
theorem lw_p27 : lw_okq (⟨"BoundDesk", "keep", "(LBoundDesk$Span;LBoundDesk$Span;)I"⟩, 4) := ⟨⟨by decide +kernel, by decide +kernel⟩, List.mem_of_getElem? (i := 12) (by decide +kernel), List.mem_of_getElem? (i := 295) (by decide +kernel), List.mem_of_getElem? (i := 296) (by decide +kernel)⟩
theorem lw_p28 : lw_okq (⟨"BoundDesk$Shape", "notAbove", "(J)J"⟩, 2) := ⟨⟨by decide +kernel, by decide +kernel⟩, List.mem_of_getElem? (i := 20) (by decide +kernel), List.mem_of_getElem? (i := 299) (by decide +kernel), List.mem_of_getElem? (i := 300) (by decide +kernel)⟩
theorem lw_p29 : lw_okq (⟨"BoundDesk$Shape", "sizeNotBelow", "(J)J"⟩, 2) := ⟨⟨by decide +kernel, by decide +kernel⟩, List.mem_of_getElem? (i := 20) (by decide +kernel), List.mem_of_getElem? (i := 303) (by decide +kernel), List.mem_of_getElem? (i := 304) (by decide +kernel)⟩
theorem lw_p30 : lw_okq (⟨"BoundDesk$Shape", "extraBits", "(J)I"⟩, 2) := ⟨⟨by decide +kernel, by decide +kernel⟩, List.mem_of_getElem? (i := 20) (by decide +kernel), List.mem_of_getElem? (i := 307) (by decide +kernel), List.mem_of_getElem? (i := 308) (by decide +kernel)⟩
theorem lw_p31 : lw_okq (⟨"BoundDesk$Shape", "sizeNotAbove", "(J)J"⟩, 2) := ⟨⟨by decide +kernel, by decide +kernel⟩, List.mem_of_getElem? (i := 20) (by decide +kernel), List.mem_of_getElem? (i := 312) (by decide +kernel), List.mem_of_getElem? (i := 313) (by decide +kernel)⟩
def lw_privs_2 : List (MethodName × Nat) := [(⟨"BoundDesk", "productNotBelow", "(JJ)J"⟩, 4), (⟨"BoundDesk", "takeRoot", "(LBoundDesk$Span;)V"⟩, 4), (⟨"BoundDesk", "rootNotAbove", "(J)J"⟩, 4), (⟨"BoundDesk", "rootNotBelow", "(J)J"⟩, 4), (⟨"BoundDesk", "reckonTwo", "(ILBoundDesk$Span;LBoundDesk$Span;)V"⟩, 4), (⟨"BoundDesk", "join", "(LBoundDesk$Span;LBoundDesk$Span;)V"⟩, 4), (⟨"BoundDesk", "multiply", "(LBoundDesk$Span;LBoundDesk$Span;)V"⟩, 4), (⟨"BoundDesk", "divide", "(LBoundDesk$Span;LBoundDesk$Span;)V"⟩, 4), (⟨"BoundDesk", "divideByAbove", "(LBoundDesk$Span;JJLBoundDesk$Span;)V"⟩, 4), (⟨"BoundDesk", "leastQuotient", "(JJJ)J"⟩, 4), (⟨"BoundDesk", "meet", "(LBoundDesk$Span;LBoundDesk$Span;)V"⟩, 4), (⟨"BoundDesk", "keep", "(LBoundDesk$Span;LBoundDesk$Span;)I"⟩, 4), (⟨"BoundDesk$Shape", "notAbove", "(J)J"⟩, 2), (⟨"BoundDesk$Shape", "sizeNotBelow", "(J)J"⟩, 2), (⟨"BoundDesk$Shape", "extraBits", "(J)I"⟩, 2), (⟨"BoundDesk$Shape", "sizeNotAbove", "(J)J"⟩, 2)]
theorem lw_r2 : ∀ q ∈ lw_privs_2, lw_okq q := List.forall_mem_cons.mpr ⟨lw_p16, List.forall_mem_cons.mpr ⟨lw_p17, List.forall_mem_cons.mpr ⟨lw_p18, List.forall_mem_cons.mpr ⟨lw_p19, List.forall_mem_cons.mpr ⟨lw_p20, List.forall_mem_cons.mpr ⟨lw_p21, List.forall_mem_cons.mpr ⟨lw_p22, List.forall_mem_cons.mpr ⟨lw_p23, List.forall_mem_cons.mpr ⟨lw_p24, List.forall_mem_cons.mpr ⟨lw_p25, List.forall_mem_cons.mpr ⟨lw_p26, List.forall_mem_cons.mpr ⟨lw_p27, List.forall_mem_cons.mpr ⟨lw_p28, List.forall_mem_cons.mpr ⟨lw_p29, List.forall_mem_cons.mpr ⟨lw_p30, List.forall_mem_cons.mpr ⟨lw_p31, fun _ h => absurd h List.not_mem_nil⟩⟩⟩⟩⟩⟩⟩⟩⟩⟩⟩⟩⟩⟩⟩⟩
theorem lw_p32 : lw_okq (⟨"BoundDesk$Shape", "notBelow", "(J)J"⟩, 2) := ⟨⟨by decide +kernel, by decide +kernel⟩, List.mem_of_getElem? (i := 20) (by decide +kernel), List.mem_of_getElem? (i := 316) (by decide +kernel), List.mem_of_getElem? (i := 317) (by decide +kernel)⟩
theorem lw_p33 : lw_okq (⟨"BoundDesk$Shape", "patternOf", "(J)I"⟩, 2) := ⟨⟨by decide +kernel, by decide +kernel⟩, List.mem_of_getElem? (i := 20) (by decide +kernel), List.mem_of_getElem? (i := 363) (by decide +kernel), List.mem_of_getElem? (i := 364) (by decide +kernel)⟩
theorem lw_p34 : lw_okq (⟨"BoundDesk$Shape", "unsignedOf", "(J)I"⟩, 2) := ⟨⟨by decide +kernel, by decide +kernel⟩, List.mem_of_getElem? (i := 20) (by decide +kernel), List.mem_of_getElem? (i := 367) (by decide +kernel), List.mem_of_getElem? (i := 368) (by decide +kernel)⟩
theorem lw_p35 : lw_okq (⟨"BoundDesk$Span", "lacksAnEnd", "()Z"⟩, 2) := ⟨⟨by decide +kernel, by decide +kernel⟩, List.mem_of_getElem? (i := 36) (by decide +kernel), List.mem_of_getElem? (i := 385) (by decide +kernel), List.mem_of_getElem? (i := 386) (by decide +kernel)⟩
theorem lw_p36 : lw_okq (⟨"BoundDesk$Shape", "patternOfHalf", "(J)I"⟩, 2) := ⟨⟨by decide +kernel, by decide +kernel⟩, List.mem_of_getElem? (i := 20) (by decide +kernel), List.mem_of_getElem? (i := 390) (by decide +kernel), List.mem_of_getElem? (i := 391) (by decide +kernel)⟩
theorem lw_p37 : lw_okq (⟨"BoundDeskModel", "isPattern", "(I)Z"⟩, 12) := ⟨⟨by decide +kernel, by decide +kernel⟩, List.mem_of_getElem? (i := 403) (by decide +kernel), List.mem_of_getElem? (i := 463) (by decide +kernel), List.mem_of_getElem? (i := 464) (by decide +kernel)⟩
theorem lw_p38 : lw_okq (⟨"BoundDeskModel", "endless", "()I"⟩, 12) := ⟨⟨by decide +kernel, by decide +kernel⟩, List.mem_of_getElem? (i := 403) (by decide +kernel), List.mem_of_getElem? (i := 467) (by decide +kernel), List.mem_of_getElem? (i := 468) (by decide +kernel)⟩
theorem lw_p39 : lw_okq (⟨"BoundDeskModel", "number", "(I)J"⟩, 12) := ⟨⟨by decide +kernel, by decide +kernel⟩, List.mem_of_getElem? (i := 403) (by decide +kernel), List.mem_of_getElem? (i := 471) (by decide +kernel), List.mem_of_getElem? (i := 472) (by decide +kernel)⟩
theorem lw_p40 : lw_okq (⟨"BoundDeskModel", "raise", "(I)I"⟩, 12) := ⟨⟨by decide +kernel, by decide +kernel⟩, List.mem_of_getElem? (i := 403) (by decide +kernel), List.mem_of_getElem? (i := 485) (by decide +kernel), List.mem_of_getElem? (i := 486) (by decide +kernel)⟩
theorem lw_p41 : lw_okq (⟨"BoundDeskModel", "alone", "(II)V"⟩, 12) := ⟨⟨by decide +kernel, by decide +kernel⟩, List.mem_of_getElem? (i := 403) (by decide +kernel), List.mem_of_getElem? (i := 489) (by decide +kernel), List.mem_of_getElem? (i := 490) (by decide +kernel)⟩
theorem lw_p42 : lw_okq (⟨"BoundDeskModel", "sizes", "(JJ)V"⟩, 12) := ⟨⟨by decide +kernel, by decide +kernel⟩, List.mem_of_getElem? (i := 403) (by decide +kernel), List.mem_of_getElem? (i := 493) (by decide +kernel), List.mem_of_getElem? (i := 494) (by decide +kernel)⟩
theorem lw_p43 : lw_okq (⟨"BoundDeskModel", "product", "(JJJJ)V"⟩, 12) := ⟨⟨by decide +kernel, by decide +kernel⟩, List.mem_of_getElem? (i := 403) (by decide +kernel), List.mem_of_getElem? (i := 500) (by decide +kernel), List.mem_of_getElem? (i := 501) (by decide +kernel)⟩
theorem lw_p44 : lw_okq (⟨"BoundDeskModel", "fine", "()I"⟩, 12) := ⟨⟨by decide +kernel, by decide +kernel⟩, List.mem_of_getElem? (i := 403) (by decide +kernel), List.mem_of_getElem? (i := 510) (by decide +kernel), List.mem_of_getElem? (i := 511) (by decide +kernel)⟩
theorem lw_p45 : lw_okq (⟨"BoundDeskModel", "span", "(JJJ)V"⟩, 12) := ⟨⟨by decide +kernel, by decide +kernel⟩, List.mem_of_getElem? (i := 403) (by decide +kernel), List.mem_of_getElem? (i := 514) (by decide +kernel), List.mem_of_getElem? (i := 515) (by decide +kernel)⟩
theorem lw_p46 : lw_okq (⟨"BoundDeskModel", "rounded", "(JJZ)J"⟩, 12) := ⟨⟨by decide +kernel, by decide +kernel⟩, List.mem_of_getElem? (i := 403) (by decide +kernel), List.mem_of_getElem? (i := 518) (by decide +kernel), List.mem_of_getElem? (i := 519) (by decide +kernel)⟩
theorem lw_p47 : lw_okq (⟨"BoundDeskModel", "most", "()J"⟩, 12) := ⟨⟨by decide +kernel, by decide +kernel⟩, List.mem_of_getElem? (i := 403) (by decide +kernel), List.mem_of_getElem? (i := 525) (by decide +kernel), List.mem_of_getElem? (i := 526) (by decide +kernel)⟩
def lw_privs_3 : List (MethodName × Nat) := [(⟨"BoundDesk$Shape", "notBelow", "(J)J"⟩, 2), (⟨"BoundDesk$Shape", "patternOf", "(J)I"⟩, 2), (⟨"BoundDesk$Shape", "unsignedOf", "(J)I"⟩, 2), (⟨"BoundDesk$Span", "lacksAnEnd", "()Z"⟩, 2), (⟨"BoundDesk$Shape", "patternOfHalf", "(J)I"⟩, 2), (⟨"BoundDeskModel", "isPattern", "(I)Z"⟩, 12), (⟨"BoundDeskModel", "endless", "()I"⟩, 12), (⟨"BoundDeskModel", "number", "(I)J"⟩, 12), (⟨"BoundDeskModel", "raise", "(I)I"⟩, 12), (⟨"BoundDeskModel", "alone", "(II)V"⟩, 12), (⟨"BoundDeskModel", "sizes", "(JJ)V"⟩, 12), (⟨"BoundDeskModel", "product", "(JJJJ)V"⟩, 12), (⟨"BoundDeskModel", "fine", "()I"⟩, 12), (⟨"BoundDeskModel", "span", "(JJJ)V"⟩, 12), (⟨"BoundDeskModel", "rounded", "(JJZ)J"⟩, 12), (⟨"BoundDeskModel", "most", "()J"⟩, 12)]
theorem lw_r3 : ∀ q ∈ lw_privs_3, lw_okq q := List.forall_mem_cons.mpr ⟨lw_p32, List.forall_mem_cons.mpr ⟨lw_p33, List.forall_mem_cons.mpr ⟨lw_p34, List.forall_mem_cons.mpr ⟨lw_p35, List.forall_mem_cons.mpr ⟨lw_p36, List.forall_mem_cons.mpr ⟨lw_p37, List.forall_mem_cons.mpr ⟨lw_p38, List.forall_mem_cons.mpr ⟨lw_p39, List.forall_mem_cons.mpr ⟨lw_p40, List.forall_mem_cons.mpr ⟨lw_p41, List.forall_mem_cons.mpr ⟨lw_p42, List.forall_mem_cons.mpr ⟨lw_p43, List.forall_mem_cons.mpr ⟨lw_p44, List.forall_mem_cons.mpr ⟨lw_p45, List.forall_mem_cons.mpr ⟨lw_p46, List.forall_mem_cons.mpr ⟨lw_p47, fun _ h => absurd h List.not_mem_nil⟩⟩⟩⟩⟩⟩⟩⟩⟩⟩⟩⟩⟩⟩⟩⟩
theorem lw_p48 : lw_okq (⟨"BoundDeskModel", "roots", "(JJ)V"⟩, 12) := ⟨⟨by decide +kernel, by decide +kernel⟩, List.mem_of_getElem? (i := 403) (by decide +kernel), List.mem_of_getElem? (i := 530) (by decide +kernel), List.mem_of_getElem? (i := 531) (by decide +kernel)⟩
theorem lw_p49 : lw_okq (⟨"BoundDeskModel", "divide", "(II)V"⟩, 12) := ⟨⟨by decide +kernel, by decide +kernel⟩, List.mem_of_getElem? (i := 403) (by decide +kernel), List.mem_of_getElem? (i := 537) (by decide +kernel), List.mem_of_getElem? (i := 538) (by decide +kernel)⟩
theorem lw_p50 : lw_okq (⟨"BoundDeskModel", "ratio", "(JJJJ)V"⟩, 12) := ⟨⟨by decide +kernel, by decide +kernel⟩, List.mem_of_getElem? (i := 403) (by decide +kernel), List.mem_of_getElem? (i := 541) (by decide +kernel), List.mem_of_getElem? (i := 542) (by decide +kernel)⟩
theorem lw_p51 : lw_okq (⟨"BoundDeskModel", "quotient", "(JJZ)J"⟩, 12) := ⟨⟨by decide +kernel, by decide +kernel⟩, List.mem_of_getElem? (i := 403) (by decide +kernel), List.mem_of_getElem? (i := 545) (by decide +kernel), List.mem_of_getElem? (i := 546) (by decide +kernel)⟩
theorem lw_p52 : lw_okq (⟨"BoundDeskModel", "two", "(III)V"⟩, 12) := ⟨⟨by decide +kernel, by decide +kernel⟩, List.mem_of_getElem? (i := 403) (by decide +kernel), List.mem_of_getElem? (i := 549) (by decide +kernel), List.mem_of_getElem? (i := 550) (by decide +kernel)⟩
theorem lw_p53 : lw_okq (⟨"BoundDeskModel", "keep", "(I)I"⟩, 12) := ⟨⟨by decide +kernel, by decide +kernel⟩, List.mem_of_getElem? (i := 403) (by decide +kernel), List.mem_of_getElem? (i := 559) (by decide +kernel), List.mem_of_getElem? (i := 560) (by decide +kernel)⟩
theorem lw_p54 : lw_okq (⟨"BoundDeskModel", "pattern", "(J)I"⟩, 12) := ⟨⟨by decide +kernel, by decide +kernel⟩, List.mem_of_getElem? (i := 403) (by decide +kernel), List.mem_of_getElem? (i := 580) (by decide +kernel), List.mem_of_getElem? (i := 581) (by decide +kernel)⟩
def lw_privs_4 : List (MethodName × Nat) := [(⟨"BoundDeskModel", "roots", "(JJ)V"⟩, 12), (⟨"BoundDeskModel", "divide", "(II)V"⟩, 12), (⟨"BoundDeskModel", "ratio", "(JJJJ)V"⟩, 12), (⟨"BoundDeskModel", "quotient", "(JJZ)J"⟩, 12), (⟨"BoundDeskModel", "two", "(III)V"⟩, 12), (⟨"BoundDeskModel", "keep", "(I)I"⟩, 12), (⟨"BoundDeskModel", "pattern", "(J)I"⟩, 12)]
theorem lw_r4 : ∀ q ∈ lw_privs_4, lw_okq q := List.forall_mem_cons.mpr ⟨lw_p48, List.forall_mem_cons.mpr ⟨lw_p49, List.forall_mem_cons.mpr ⟨lw_p50, List.forall_mem_cons.mpr ⟨lw_p51, List.forall_mem_cons.mpr ⟨lw_p52, List.forall_mem_cons.mpr ⟨lw_p53, List.forall_mem_cons.mpr ⟨lw_p54, fun _ h => absurd h List.not_mem_nil⟩⟩⟩⟩⟩⟩⟩
def lw_privs : List (MethodName × Nat) := lw_privs_1 ++ (lw_privs_2 ++ (lw_privs_3 ++ (lw_privs_4)))
def lw_tbl : List Cond := k2_sels lw_privs ++ tables_1
theorem lw_privs_ok : ∀ q ∈ lw_privs, lw_okq q := by
  show ∀ q ∈ lw_privs_1 ++ (lw_privs_2 ++ (lw_privs_3 ++ (lw_privs_4))), lw_okq q
  exact List.forall_mem_append.mpr ⟨lw_r1, List.forall_mem_append.mpr ⟨lw_r2, List.forall_mem_append.mpr ⟨lw_r3, lw_r4⟩⟩⟩
end
section
def RX0 : String := "BoundDesk$Shape"
def TX0 : u_T := fun k => match k with
  | 0 => ("BoundDesk$Shape", "exponentBits", "I", false)
  | _ => ("BoundDesk$Shape", "fractionBits", "I", false)
def tyX0 : Nat → FieldType := fun k => match k with
  | 0 => .int
  | _ => .int
theorem nmX0 : ∀ a, a < 2 → ∀ b, b < 2 → a ≠ b → (TX0 a).2.1 ≠ (TX0 b).2.1 := by decide +kernel
theorem tyX0_ok : ∀ k, k < 2 → parseFieldDescriptor (TX0 k).2.2.1 = some (tyX0 k) := by decide +kernel
def RX1 : String := "BoundDesk$Span"
def TX1 : u_T := fun k => match k with
  | 0 => ("BoundDesk$Span", "least", "J", false)
  | _ => ("BoundDesk$Span", "most", "J", false)
def tyX1 : Nat → FieldType := fun k => match k with
  | 0 => .long
  | _ => .long
theorem nmX1 : ∀ a, a < 2 → ∀ b, b < 2 → a ≠ b → (TX1 a).2.1 ≠ (TX1 b).2.1 := by decide +kernel
theorem tyX1_ok : ∀ k, k < 2 → parseFieldDescriptor (TX1 k).2.2.1 = some (tyX1 k) := by decide +kernel
def RX2 : String := "BoundDesk"
def TX2 : u_T := fun k => match k with
  | 0 => ("BoundDesk", "shape", "LBoundDesk$Shape;", true)
  | 1 => ("BoundDesk", "places", "[LBoundDesk$Span;", true)
  | 2 => ("BoundDesk", "made", "LBoundDesk$Span;", true)
  | _ => ("BoundDesk", "second", "LBoundDesk$Span;", true)
def tyX2 : Nat → FieldType := fun k => match k with
  | 0 => .object "BoundDesk$Shape"
  | 1 => .array (.object "BoundDesk$Span")
  | 2 => .object "BoundDesk$Span"
  | _ => .object "BoundDesk$Span"
theorem nmX2 : ∀ a, a < 4 → ∀ b, b < 4 → a ≠ b → (TX2 a).2.1 ≠ (TX2 b).2.1 := by decide +kernel
theorem tyX2_ok : ∀ k, k < 4 → parseFieldDescriptor (TX2 k).2.2.1 = some (tyX2 k) := by decide +kernel
def RX3 : String := "BoundDeskModel"
def TX3 : u_T := fun k => match k with
  | 0 => ("BoundDeskModel", "thrown", "I", false)
  | 1 => ("BoundDeskModel", "widthE", "I", false)
  | 2 => ("BoundDeskModel", "widthM", "I", false)
  | 3 => ("BoundDeskModel", "some", "[Z", true)
  | 4 => ("BoundDeskModel", "lows", "[J", true)
  | 5 => ("BoundDeskModel", "highs", "[J", true)
  | 6 => ("BoundDeskModel", "is", "Z", false)
  | 7 => ("BoundDeskModel", "from", "J", false)
  | 8 => ("BoundDeskModel", "to", "J", false)
  | 9 => ("BoundDeskModel", "isPart", "Z", false)
  | 10 => ("BoundDeskModel", "partFrom", "J", false)
  | _ => ("BoundDeskModel", "partTo", "J", false)
def tyX3 : Nat → FieldType := fun k => match k with
  | 0 => .int
  | 1 => .int
  | 2 => .int
  | 3 => .array .boolean
  | 4 => .array .long
  | 5 => .array .long
  | 6 => .boolean
  | 7 => .long
  | 8 => .long
  | 9 => .boolean
  | 10 => .long
  | _ => .long
theorem nmX3 : ∀ a, a < 12 → ∀ b, b < 12 → a ≠ b → (TX3 a).2.1 ≠ (TX3 b).2.1 := by decide +kernel
theorem tyX3_ok : ∀ k, k < 12 → parseFieldDescriptor (TX3 k).2.2.1 = some (tyX3 k) := by decide +kernel
def RL : String := "BoundDeskLaw"
def RJM : String := "java/lang/Math"
abbrev vwCl : List vw_C := [(RX0, TX0, 2), (RX1, TX1, 2), (RX2, TX2, 4), (RX3, TX3, 12)]
abbrev cX0_init : ByteArray := prog_2_method_1_code
def yX0_init : MethodName := ⟨RX0, "<init>", "(II)V"⟩
abbrev cX0_unitBits : ByteArray := prog_2_method_2_code
def yX0_unitBits : MethodName := ⟨RX0, "unitBits", "()I"⟩
abbrev cX0_signBit : ByteArray := prog_2_method_3_code
def yX0_signBit : MethodName := ⟨RX0, "signBit", "()I"⟩
abbrev cX0_endlessPattern : ByteArray := prog_2_method_4_code
def yX0_endlessPattern : MethodName := ⟨RX0, "endlessPattern", "()I"⟩
abbrev cX0_isPattern : ByteArray := prog_2_method_5_code
def yX0_isPattern : MethodName := ⟨RX0, "isPattern", "(I)Z"⟩
abbrev cX0_numberOf : ByteArray := prog_2_method_6_code
def yX0_numberOf : MethodName := ⟨RX0, "numberOf", "(I)J"⟩
abbrev cX0_sizeOf : ByteArray := prog_2_method_7_code
def yX0_sizeOf : MethodName := ⟨RX0, "sizeOf", "(I)J"⟩
abbrev cX0_patternOf : ByteArray := prog_2_method_8_code
def yX0_patternOf : MethodName := ⟨RX0, "patternOf", "(J)I"⟩
abbrev cX0_unsignedOf : ByteArray := prog_2_method_9_code
def yX0_unsignedOf : MethodName := ⟨RX0, "unsignedOf", "(J)I"⟩
abbrev cX0_extraBits : ByteArray := prog_2_method_10_code
def yX0_extraBits : MethodName := ⟨RX0, "extraBits", "(J)I"⟩
abbrev cX0_notAbove : ByteArray := prog_2_method_11_code
def yX0_notAbove : MethodName := ⟨RX0, "notAbove", "(J)J"⟩
abbrev cX0_notBelow : ByteArray := prog_2_method_12_code
def yX0_notBelow : MethodName := ⟨RX0, "notBelow", "(J)J"⟩
abbrev cX0_sizeNotAbove : ByteArray := prog_2_method_13_code
def yX0_sizeNotAbove : MethodName := ⟨RX0, "sizeNotAbove", "(J)J"⟩
abbrev cX0_sizeNotBelow : ByteArray := prog_2_method_14_code
def yX0_sizeNotBelow : MethodName := ⟨RX0, "sizeNotBelow", "(J)J"⟩
abbrev cX0_patternOfHalf : ByteArray := prog_2_method_15_code
def yX0_patternOfHalf : MethodName := ⟨RX0, "patternOfHalf", "(J)I"⟩
abbrev cX1_init : ByteArray := prog_3_method_1_code
def yX1_init : MethodName := ⟨RX1, "<init>", "()V"⟩
abbrev cX1_become : ByteArray := prog_3_method_2_code
def yX1_become : MethodName := ⟨RX1, "become", "(JJ)V"⟩
abbrev cX1_becomeEmpty : ByteArray := prog_3_method_3_code
def yX1_becomeEmpty : MethodName := ⟨RX1, "becomeEmpty", "()V"⟩
abbrev cX1_isEmpty : ByteArray := prog_3_method_4_code
def yX1_isEmpty : MethodName := ⟨RX1, "isEmpty", "()Z"⟩
abbrev cX1_lacksAnEnd : ByteArray := prog_3_method_5_code
def yX1_lacksAnEnd : MethodName := ⟨RX1, "lacksAnEnd", "()Z"⟩
abbrev cX1_holdsAllOf : ByteArray := prog_3_method_6_code
def yX1_holdsAllOf : MethodName := ⟨RX1, "holdsAllOf", "(LBoundDesk$Span;)Z"⟩
abbrev cX1_kindNumber : ByteArray := prog_3_method_7_code
def yX1_kindNumber : MethodName := ⟨RX1, "kindNumber", "()I"⟩
abbrev cX2_init : ByteArray := prog_1_method_1_code
def yX2_init : MethodName := ⟨RX2, "<init>", "()V"⟩
abbrev cX2_format : ByteArray := prog_1_method_2_code
def yX2_format : MethodName := ⟨RX2, "format", "(II)Z"⟩
abbrev cX2_set : ByteArray := prog_1_method_3_code
def yX2_set : MethodName := ⟨RX2, "set", "(III)Z"⟩
abbrev cX2_clear : ByteArray := prog_1_method_4_code
def yX2_clear : MethodName := ⟨RX2, "clear", "(I)Z"⟩
abbrev cX2_does : ByteArray := prog_1_method_5_code
def yX2_does : MethodName := ⟨RX2, "does", "(IIII)I"⟩
abbrev cX2_part : ByteArray := prog_1_method_6_code
def yX2_part : MethodName := ⟨RX2, "part", "(III)I"⟩
abbrev cX2_sum : ByteArray := prog_1_method_7_code
def yX2_sum : MethodName := ⟨RX2, "sum", "(III)I"⟩
abbrev cX2_kind : ByteArray := prog_1_method_8_code
def yX2_kind : MethodName := ⟨RX2, "kind", "(I)I"⟩
abbrev cX2_low : ByteArray := prog_1_method_9_code
def yX2_low : MethodName := ⟨RX2, "low", "(I)I"⟩
abbrev cX2_high : ByteArray := prog_1_method_10_code
def yX2_high : MethodName := ⟨RX2, "high", "(I)I"⟩
abbrev cX2_middle : ByteArray := prog_1_method_11_code
def yX2_middle : MethodName := ⟨RX2, "middle", "(I)I"⟩
abbrev cX2_width : ByteArray := prog_1_method_12_code
def yX2_width : MethodName := ⟨RX2, "width", "(I)I"⟩
abbrev cX2_compare : ByteArray := prog_1_method_13_code
def yX2_compare : MethodName := ⟨RX2, "compare", "(II)I"⟩
abbrev cX2_has : ByteArray := prog_1_method_14_code
def yX2_has : MethodName := ⟨RX2, "has", "(II)Z"⟩
abbrev cX2_isPlace : ByteArray := prog_1_method_15_code
def yX2_isPlace : MethodName := ⟨RX2, "isPlace", "(I)Z"⟩
abbrev cX2_isFilled : ByteArray := prog_1_method_16_code
def yX2_isFilled : MethodName := ⟨RX2, "isFilled", "(I)Z"⟩
abbrev cX2_keep : ByteArray := prog_1_method_17_code
def yX2_keep : MethodName := ⟨RX2, "keep", "(LBoundDesk$Span;LBoundDesk$Span;)I"⟩
abbrev cX2_reckonTwo : ByteArray := prog_1_method_18_code
def yX2_reckonTwo : MethodName := ⟨RX2, "reckonTwo", "(ILBoundDesk$Span;LBoundDesk$Span;)V"⟩
abbrev cX2_reckonOne : ByteArray := prog_1_method_19_code
def yX2_reckonOne : MethodName := ⟨RX2, "reckonOne", "(ILBoundDesk$Span;)V"⟩
abbrev cX2_join : ByteArray := prog_1_method_20_code
def yX2_join : MethodName := ⟨RX2, "join", "(LBoundDesk$Span;LBoundDesk$Span;)V"⟩
abbrev cX2_meet : ByteArray := prog_1_method_21_code
def yX2_meet : MethodName := ⟨RX2, "meet", "(LBoundDesk$Span;LBoundDesk$Span;)V"⟩
abbrev cX2_add : ByteArray := prog_1_method_22_code
def yX2_add : MethodName := ⟨RX2, "add", "(LBoundDesk$Span;LBoundDesk$Span;)V"⟩
abbrev cX2_multiply : ByteArray := prog_1_method_23_code
def yX2_multiply : MethodName := ⟨RX2, "multiply", "(LBoundDesk$Span;LBoundDesk$Span;)V"⟩
abbrev cX2_divide : ByteArray := prog_1_method_24_code
def yX2_divide : MethodName := ⟨RX2, "divide", "(LBoundDesk$Span;LBoundDesk$Span;)V"⟩
abbrev cX2_divideByAbove : ByteArray := prog_1_method_25_code
def yX2_divideByAbove : MethodName := ⟨RX2, "divideByAbove", "(LBoundDesk$Span;JJLBoundDesk$Span;)V"⟩
abbrev cX2_leastQuotient : ByteArray := prog_1_method_26_code
def yX2_leastQuotient : MethodName := ⟨RX2, "leastQuotient", "(JJJ)J"⟩
abbrev cX2_takeSize : ByteArray := prog_1_method_27_code
def yX2_takeSize : MethodName := ⟨RX2, "takeSize", "(LBoundDesk$Span;)V"⟩
abbrev cX2_takeRoot : ByteArray := prog_1_method_28_code
def yX2_takeRoot : MethodName := ⟨RX2, "takeRoot", "(LBoundDesk$Span;)V"⟩
abbrev cX2_rootNotAbove : ByteArray := prog_1_method_29_code
def yX2_rootNotAbove : MethodName := ⟨RX2, "rootNotAbove", "(J)J"⟩
abbrev cX2_rootNotBelow : ByteArray := prog_1_method_30_code
def yX2_rootNotBelow : MethodName := ⟨RX2, "rootNotBelow", "(J)J"⟩
abbrev cX2_wholeRoot : ByteArray := prog_1_method_31_code
def yX2_wholeRoot : MethodName := ⟨RX2, "wholeRoot", "(J)J"⟩
abbrev cX2_isEndless : ByteArray := prog_1_method_32_code
def yX2_isEndless : MethodName := ⟨RX2, "isEndless", "(J)Z"⟩
abbrev cX2_plus : ByteArray := prog_1_method_33_code
def yX2_plus : MethodName := ⟨RX2, "plus", "(JJ)J"⟩
abbrev cX2_productNotAbove : ByteArray := prog_1_method_34_code
def yX2_productNotAbove : MethodName := ⟨RX2, "productNotAbove", "(JJ)J"⟩
abbrev cX2_productNotBelow : ByteArray := prog_1_method_35_code
def yX2_productNotBelow : MethodName := ⟨RX2, "productNotBelow", "(JJ)J"⟩
abbrev cX3_init : ByteArray := prog_5_method_1_code
def yX3_init : MethodName := ⟨RX3, "<init>", "()V"⟩
abbrev cX3_thrown : ByteArray := prog_5_method_2_code
def yX3_thrown : MethodName := ⟨RX3, "thrown", "()I"⟩
abbrev cX3_raise : ByteArray := prog_5_method_3_code
def yX3_raise : MethodName := ⟨RX3, "raise", "(I)I"⟩
abbrev cX3_isPlace : ByteArray := prog_5_method_4_code
def yX3_isPlace : MethodName := ⟨RX3, "isPlace", "(I)Z"⟩
abbrev cX3_format : ByteArray := prog_5_method_5_code
def yX3_format : MethodName := ⟨RX3, "format", "(II)Z"⟩
abbrev cX3_fine : ByteArray := prog_5_method_6_code
def yX3_fine : MethodName := ⟨RX3, "fine", "()I"⟩
abbrev cX3_most : ByteArray := prog_5_method_7_code
def yX3_most : MethodName := ⟨RX3, "most", "()J"⟩
abbrev cX3_endless : ByteArray := prog_5_method_8_code
def yX3_endless : MethodName := ⟨RX3, "endless", "()I"⟩
abbrev cX3_isPattern : ByteArray := prog_5_method_9_code
def yX3_isPattern : MethodName := ⟨RX3, "isPattern", "(I)Z"⟩
abbrev cX3_number : ByteArray := prog_5_method_10_code
def yX3_number : MethodName := ⟨RX3, "number", "(I)J"⟩
abbrev cX3_length : ByteArray := prog_5_method_11_code
def yX3_length : MethodName := ⟨RX3, "length", "(J)I"⟩
abbrev cX3_pattern : ByteArray := prog_5_method_12_code
def yX3_pattern : MethodName := ⟨RX3, "pattern", "(J)I"⟩
abbrev cX3_rounded : ByteArray := prog_5_method_13_code
def yX3_rounded : MethodName := ⟨RX3, "rounded", "(JJZ)J"⟩
abbrev cX3_set : ByteArray := prog_5_method_14_code
def yX3_set : MethodName := ⟨RX3, "set", "(III)Z"⟩
abbrev cX3_clear : ByteArray := prog_5_method_15_code
def yX3_clear : MethodName := ⟨RX3, "clear", "(I)Z"⟩
abbrev cX3_keep : ByteArray := prog_5_method_16_code
def yX3_keep : MethodName := ⟨RX3, "keep", "(I)I"⟩
abbrev cX3_isEnd : ByteArray := prog_5_method_17_code
def yX3_isEnd : MethodName := ⟨RX3, "isEnd", "(J)Z"⟩
abbrev cX3_span : ByteArray := prog_5_method_18_code
def yX3_span : MethodName := ⟨RX3, "span", "(JJJ)V"⟩
abbrev cX3_plus : ByteArray := prog_5_method_19_code
def yX3_plus : MethodName := ⟨RX3, "plus", "(JJJ)J"⟩
abbrev cX3_times : ByteArray := prog_5_method_20_code
def yX3_times : MethodName := ⟨RX3, "times", "(JJ)J"⟩
abbrev cX3_product : ByteArray := prog_5_method_21_code
def yX3_product : MethodName := ⟨RX3, "product", "(JJJJ)V"⟩
abbrev cX3_ratio : ByteArray := prog_5_method_22_code
def yX3_ratio : MethodName := ⟨RX3, "ratio", "(JJJJ)V"⟩
abbrev cX3_quotient : ByteArray := prog_5_method_23_code
def yX3_quotient : MethodName := ⟨RX3, "quotient", "(JJZ)J"⟩
abbrev cX3_divide : ByteArray := prog_5_method_24_code
def yX3_divide : MethodName := ⟨RX3, "divide", "(II)V"⟩
abbrev cX3_less : ByteArray := prog_5_method_25_code
def yX3_less : MethodName := ⟨RX3, "less", "(JJ)J"⟩
abbrev cX3_more : ByteArray := prog_5_method_26_code
def yX3_more : MethodName := ⟨RX3, "more", "(JJ)J"⟩
abbrev cX3_root : ByteArray := prog_5_method_27_code
def yX3_root : MethodName := ⟨RX3, "root", "(J)J"⟩
abbrev cX3_roots : ByteArray := prog_5_method_28_code
def yX3_roots : MethodName := ⟨RX3, "roots", "(JJ)V"⟩
abbrev cX3_sizes : ByteArray := prog_5_method_29_code
def yX3_sizes : MethodName := ⟨RX3, "sizes", "(JJ)V"⟩
abbrev cX3_two : ByteArray := prog_5_method_30_code
def yX3_two : MethodName := ⟨RX3, "two", "(III)V"⟩
abbrev cX3_alone : ByteArray := prog_5_method_31_code
def yX3_alone : MethodName := ⟨RX3, "alone", "(II)V"⟩
abbrev cX3_does : ByteArray := prog_5_method_32_code
def yX3_does : MethodName := ⟨RX3, "does", "(IIII)I"⟩
abbrev cX3_part : ByteArray := prog_5_method_33_code
def yX3_part : MethodName := ⟨RX3, "part", "(III)I"⟩
abbrev cX3_sum : ByteArray := prog_5_method_34_code
def yX3_sum : MethodName := ⟨RX3, "sum", "(III)I"⟩
abbrev cX3_kind : ByteArray := prog_5_method_35_code
def yX3_kind : MethodName := ⟨RX3, "kind", "(I)I"⟩
abbrev cX3_low : ByteArray := prog_5_method_36_code
def yX3_low : MethodName := ⟨RX3, "low", "(I)I"⟩
abbrev cX3_high : ByteArray := prog_5_method_37_code
def yX3_high : MethodName := ⟨RX3, "high", "(I)I"⟩
abbrev cX3_middle : ByteArray := prog_5_method_38_code
def yX3_middle : MethodName := ⟨RX3, "middle", "(I)I"⟩
abbrev cX3_width : ByteArray := prog_5_method_39_code
def yX3_width : MethodName := ⟨RX3, "width", "(I)I"⟩
abbrev cX3_compare : ByteArray := prog_5_method_40_code
def yX3_compare : MethodName := ⟨RX3, "compare", "(II)I"⟩
abbrev cX3_has : ByteArray := prog_5_method_41_code
def yX3_has : MethodName := ⟨RX3, "has", "(II)Z"⟩
abbrev cL_does : ByteArray := method_3_code
def yL_does : MethodName := ⟨RL, "does", "(LBoundDesk;IIII[J)I"⟩
abbrev cL_part : ByteArray := method_4_code
def yL_part : MethodName := ⟨RL, "part", "(LBoundDesk;III[J)I"⟩
abbrev cL_sum : ByteArray := method_5_code
def yL_sum : MethodName := ⟨RL, "sum", "(LBoundDesk;III[J)I"⟩
abbrev cL_low : ByteArray := method_6_code
def yL_low : MethodName := ⟨RL, "low", "(LBoundDesk;I[J)I"⟩
abbrev cL_high : ByteArray := method_7_code
def yL_high : MethodName := ⟨RL, "high", "(LBoundDesk;I[J)I"⟩
abbrev cL_middle : ByteArray := method_8_code
def yL_middle : MethodName := ⟨RL, "middle", "(LBoundDesk;I[J)I"⟩
abbrev cL_width : ByteArray := method_9_code
def yL_width : MethodName := ⟨RL, "width", "(LBoundDesk;I[J)I"⟩
abbrev cL_law : ByteArray := code
def yL_law : MethodName := ⟨RL, "law", "([I)Z"⟩
abbrev cJM_floorDiv : ByteArray := prog_8_method_49_code
def yJM_floorDiv : MethodName := ⟨RJM, "floorDiv", "(JJ)J"⟩
end
section
-- MY OWN ROWS OVER THE KIT: one global list of words, worlds as lists, contracts that say the answer and the new world
def kp_nest : Cond → Bool
  | .fieldLinkNest _ _ _ _ _ _ => true
  | .methodLinkNest _ _ _ _ => true
  | .stringRef _ _ _ => true
  | .castable _ _ => true
  | .declares _ => true
  | .arrayOver (.object _) => true
  | _ => false
theorem kp_str {o t : String} {k : Nat} {A A' : Array Value} {u U : State} (hv : U.vm = u.vm) (h : (Cond.stringRef o k t).before A u = true) : (Cond.stringRef o k t).before A' U = true := by
  simp only [Cond.before, Cond.holds, Cond.value, State.names, State.poolOf?, State.resolvedAt?, hv] at h ⊢
  exact h
def kp_w (w : Cond) : Bool := goodWord w || kp_nest w
theorem kp_at {args a' : Array Value} {s U : State} (hW : s.WarmedH U.vm) {w : Cond} (hk : kp_w w = true) (h : w.before args s = true) : w.before a' U = true := by
  by_cases g : goodWord w = true
  · exact word_at hW (good_of_word g) h
  · have hn : kp_nest w = true := by
      unfold kp_w at hk
      rw [Bool.or_eq_true] at hk
      exact hk.resolve_left g
    unfold kp_nest at hn
    split at hn
    · exact va_Nw.use rfl (va_Nw.warmF hW (va_Nw.of rfl h))
    · exact va_Nw.use rfl (va_Nw.warmM hW (va_Nw.of rfl h))
    · exact kp_str (u := s.setVm U.vm) rfl (Cond.stringRef_warmed (args := args) hW h)
    · exact va_Nw.use rfl (va_Nw.warmC hW (va_Nw.of rfl h))
    · exact va_Nw.use rfl (va_Nw.warmD hW (va_Nw.of rfl h))
    · exact va_AO.use (va_AO.moved hW.alike (va_AO.of h))
    · exact absurd hn (by decide)
/-- every lasting word of the tables holds here -/
def kp_E (U : State) : Prop := ∀ w ∈ lw_tbl, kp_w w = true → w.before #[] U = true
theorem kp_E.warm {s U : State} (h : kp_E s) (hW : s.WarmedH U.vm) : kp_E U := fun w hw hk => kp_at hW hk (h w hw hk)
theorem kp_E.use {s : State} {args : Array Value} (h : kp_E s) : ∀ w ∈ lw_tbl, kp_w w = true → w.before args s = true := fun w hw hk => kp_at (State.WarmedH.refl s) hk (h w hw hk)
theorem kp_E.of {s : State} {args : Array Value} (h : ∀ w ∈ lw_tbl, w.before args s = true) : kp_E s := fun w hw hk => kp_at (State.WarmedH.refl s) hk (h w hw)
/-- the start of a contract: words, classes, the cells ws, nothing of ours below sz -/
def kp_P (D : va_G) (ty : List (ClassId × FieldType)) (sz : Nat) (ws : va_W) (U : State) : Prop := kp_E U ∧ va_K D vwCl ty U ∧ va_P D vwCl ws U.heap ∧ sz ≤ U.heap.size
theorem kp_P.blind {D : va_G} {ty : List (ClassId × FieldType)} {sz : Nat} {ws : va_W} {av : List Value} : FrameBlind (va_Pc av (kp_P D ty sz ws)) := by
  intro a U g mk h
  obtain ⟨h0, h1, h2, h3, h4⟩ := h
  exact ⟨h0, h1.warm (U := U.calling g mk a) (State.WarmedH.refl U), va_K.moved (u := U) (U := U.calling g mk a) (Vm.Alike.refl U.vm) h2, h3, h4⟩
theorem kp_P.at {D : va_G} {ty : List (ClassId × FieldType)} {sz : Nat} {ws : va_W} {s : State} {H : Heap} (hE : kp_E s) (hK : va_K D vwCl ty s) (hP : va_P D vwCl ws H) (hz : sz ≤ H.size) {av : List Value} : ∀ U : State, U.heap = H → s.WarmedH U.vm → va_Pc av (kp_P D ty sz ws) av.toArray U :=
  fun U hU hW => ⟨rfl, hE.warm hW, va_K.moved hW.alike hK, by rw [hU]; exact hP, by rw [hU]; exact hz⟩
abbrev kp_A (sz : Nat) : Nat → Prop := fun q => sz ≤ q
/-- the end of a contract: the answer r, the cells ws' -/
def kp_Q (D : va_G) (sz : Nat) (r : Option Value) (ws' : va_W) : Array Value → State → Outcome → State → Prop := fun _ st oc t => oc = .returned r ∧ va_P D vwCl ws' t.heap ∧ va_F (kp_A sz) st t
/-- A CONTRACT: with the arguments av and the cells ws the method y answers r and leaves the cells ws'; nothing below sz is written; mc cells of ms slots are made -/
def kp_M (l : Launch) (y : MethodName) (cc : ByteArray) (nL : Nat) (ret : Option FieldType) (rm : Room) (D : va_G) (ty : List (ClassId × FieldType)) (sz : Nat) (av : List Value) (ws : va_W) (r : Option Value) (ws' : va_W) : Prop :=
  Met l y [Cond.code y cc nL ret] rm (va_Pc av (kp_P D ty sz ws)) (kp_Q D sz r ws') rm.cells rm.slots (kp_A sz)
/-- A CONTRACT OF A READER: it answers r, and the heap is as it was -/
def kp_QR (r : Option Value) : Array Value → State → Outcome → State → Prop := fun _ st oc t => oc = .returned r ∧ t.heap = st.heap
def kp_R (l : Launch) (y : MethodName) (cc : ByteArray) (nL : Nat) (ret : Option FieldType) (rm : Room) (D : va_G) (ty : List (ClassId × FieldType)) (sz : Nat) (av : List Value) (ws : va_W) (r : Option Value) : Prop :=
  Met l y [Cond.code y cc nL ret] rm (va_Pc av (kp_P D ty sz ws)) (kp_QR r) 0 0 (fun _ => False)
/-- what a body knows of itself -/
def kp_B (p : Program) (l : Launch) (s : State) (m : MethodId) (args : Array Value) (meth : Method) (c : Code) (own : String) (cc : ByteArray) (nL : Nat) (ret : Option FieldType) (D : va_G) (ty : List (ClassId × FieldType)) (sz : Nat) : Prop :=
  p.tables.exec = Jvm.exec ∧ c.code = cc ∧ c.maxLocals = nL ∧ s.vm.findClass own = some m.cls ∧ meth.locks = false ∧ meth.sig.returnType = ret ∧ (∀ w ∈ lw_tbl, kp_w w = true → w.before args s = true) ∧ kp_E s ∧ va_K D vwCl ty s ∧ sz ≤ s.heap.size
theorem kp_body {l : Launch} {y : MethodName} {cc : ByteArray} {nL : Nat} {ret : Option FieldType} {rm : Room} {D : va_G} {ty : List (ClassId × FieldType)} {sz : Nat} {av : List Value} {ws : va_W} {r : Option Value} {ws' : va_W}
    (hy : plainName y.cls = true) (hn : (lg_sl av).length ≤ nL) {lv : List (Nat × Value)} (hlv : lv_args 0 av = lv)
    (body : ∀ (p : Program) (e : Env) (s : State) (m : MethodId) (args : Array Value) (below : List Frame) (meth : Method) (c : Code) (ls : Array Slot), kp_B p l s m args meth c y.cls cc nL ret D ty sz → (y.name = "<init>" → meth.name = "<init>") → lv_has ls nL lv → va_P D vwCl ws s.heap → va_S (kp_A sz) s.heap s.heap [] →
      W p l e rm s m args below meth c s.heap [] 0 0 (MQ below (kp_Q D sz r ws') args s rm.cells rm.slots (kp_A sz)) (F0 m 0 ls [])) :
    kp_M l y cc nL ret rm D ty sz av ws r ws' := by
  refine Met.ofW (cc := cc) (maxL := nL) (ret := ret) hy rfl ?_
  intro p e s m args below meth c s₁ B hml hv
  obtain ⟨rfl, hE, hK, hP, hz⟩ := hv
  have hl := lv_entry av (n := nL) hn
  rw [lg_entry_eq]
  generalize (lg_sl av ++ List.replicate (nL - (lg_sl av).length) Slot.unset).toArray = ls at hl ⊢
  rw [hlv] at hl
  exact body p e s m av.toArray below meth c ls ⟨B.exec, B.bytes, hml, findClass_of_methodNamed B.named, B.notSynchronized, B.returns, hE.use, hE, hK, hz⟩ (fun h => (name_of_methodNamed B.named B.method).1.trans h) hl hP va_S.rf
def z_min (x y : Int64) : Int64 := if y < x then y else x
def z_max (x y : Int64) : Int64 := if y < x then x else y
theorem kp_bodyR {l : Launch} {y : MethodName} {cc : ByteArray} {nL : Nat} {ret : Option FieldType} {rm : Room} {D : va_G} {ty : List (ClassId × FieldType)} {sz : Nat} {av : List Value} {ws : va_W} {r : Option Value}
    (hy : plainName y.cls = true) (hn : (lg_sl av).length ≤ nL) {lv : List (Nat × Value)} (hlv : lv_args 0 av = lv)
    (body : ∀ (p : Program) (e : Env) (s : State) (m : MethodId) (args : Array Value) (below : List Frame) (meth : Method) (c : Code) (ls : Array Slot), kp_B p l s m args meth c y.cls cc nL ret D ty sz → lv_has ls nL lv → va_P D vwCl ws s.heap → va_S (kp_A sz) s.heap s.heap [] →
      W p l e rm s m args below meth c s.heap [] 0 0 (MQ below (kp_QR r) args s 0 0 (fun _ => False)) (F0 m 0 ls [])) :
    kp_R l y cc nL ret rm D ty sz av ws r := by
  refine Met.ofW (cc := cc) (maxL := nL) (ret := ret) hy rfl ?_
  intro p e s m args below meth c s₁ B hml hv
  obtain ⟨rfl, hE, hK, hP, hz⟩ := hv
  have hl := lv_entry av (n := nL) hn
  rw [lg_entry_eq]
  generalize (lg_sl av ++ List.replicate (nL - (lg_sl av).length) Slot.unset).toArray = ls at hl ⊢
  rw [hlv] at hl
  exact body p e s m av.toArray below meth c ls ⟨B.exec, B.bytes, hml, findClass_of_methodNamed B.named, B.notSynchronized, B.returns, hE.use, hE, hK, hz⟩ hl hP va_S.rf
theorem kp_bodyRF {l : Launch} {y : MethodName} {cc : ByteArray} {nL : Nat} {ret : Option FieldType} {rm : Room} {D : va_G} {ty : List (ClassId × FieldType)} {sz : Nat} {av : List Value} {ws : va_W} {r : Option Value}
    (hy : plainFor y = true) (hn : (lg_sl av).length ≤ nL) {lv : List (Nat × Value)} (hlv : lv_args 0 av = lv)
    (body : ∀ (p : Program) (e : Env) (s : State) (m : MethodId) (args : Array Value) (below : List Frame) (meth : Method) (c : Code) (ls : Array Slot), kp_B p l s m args meth c y.cls cc nL ret D ty sz → lv_has ls nL lv → va_P D vwCl ws s.heap → va_S (kp_A sz) s.heap s.heap [] →
      W p l e rm s m args below meth c s.heap [] 0 0 (MQ below (kp_QR r) args s 0 0 (fun _ => False)) (F0 m 0 ls [])) :
    kp_R l y cc nL ret rm D ty sz av ws r := by
  refine va_MetF (cc := cc) (maxL := nL) (ret := ret) hy rfl ?_
  intro p e s m args below meth c s₁ B hml hv
  obtain ⟨rfl, hE, hK, hP, hz⟩ := hv
  have hl := lv_entry av (n := nL) hn
  rw [lg_entry_eq]
  generalize (lg_sl av ++ List.replicate (nL - (lg_sl av).length) Slot.unset).toArray = ls at hl ⊢
  rw [hlv] at hl
  exact body p e s m av.toArray below meth c ls ⟨B.exec, B.bytes, hml, findClass_of_methodNamed B.named, B.notSynchronized, B.returns, hE.use, hE, hK, hz⟩ hl hP va_S.rf
section KPR
variable {p : Program} {l : Launch} {e : Env} {R : Room} {s : State} {m : MethodId} {args : Array Value} {below : List Frame} {meth : Method} {c : Code} {H : Heap} {locs : List Loc} {cells slots : Nat} {Q : State → Prop}
variable {own : String} {cc : ByteArray} {nL : Nat} {ret : Option FieldType} {D : va_G} {ty : List (ClassId × FieldType)} {sz pc : Nat} {ls : Array Slot} {rest : List Value} {ws ws' : va_W} {r : Option Value}
theorem kp_hz (B : kp_B p l s m args meth c own cc nL ret D ty sz) (hS : va_S (kp_A sz) s.heap H locs) : sz ≤ H.size := Nat.le_trans B.2.2.2.2.2.2.2.2.2 hS.1
-- ends
theorem kp_reti {v : Int32} (B : kp_B p l s m args meth c own cc nL (some .int) D ty sz) (hP : va_P D vwCl ws' H) (hS : va_S (kp_A sz) s.heap H locs) (hv : r = some (.int v)) (hdg : decode cc pc = .ok (.ireturn, 1)) :
    W p l e R s m args below meth c H locs cells slots (MQ below (kp_Q D sz r ws') args s cells slots (kp_A sz)) (F0 m pc ls [.int v]) := by
  obtain ⟨hx, hb, hml, ho, hlk, hr, hw, hE, hK, hz⟩ := B
  exact W.iret (v := v) hx hb hr (fun t ht hW => ⟨by rw [hv], by rw [ht]; exact hP, hS.F ht⟩) hS.2.2 hdg hlk
theorem kp_retz {v : Int32} (B : kp_B p l s m args meth c own cc nL (some .boolean) D ty sz) (hP : va_P D vwCl ws' H) (hS : va_S (kp_A sz) s.heap H locs) (hv : r = some (.int v)) (h01 : v = 0 ∨ v = 1) (hdg : decode cc pc = .ok (.ireturn, 1)) :
    W p l e R s m args below meth c H locs cells slots (MQ below (kp_Q D sz r ws') args s cells slots (kp_A sz)) (F0 m pc ls [.int v]) := by
  obtain ⟨hx, hb, hml, ho, hlk, hr, hw, hE, hK, hz⟩ := B
  exact W.zret (v := v) hx hb hr (by rcases h01 with h | h <;> subst h <;> rfl) (fun t ht hW => ⟨by rw [hv], by rw [ht]; exact hP, hS.F ht⟩) hS.2.2 hdg hlk
theorem kp_retl {v : Int64} (B : kp_B p l s m args meth c own cc nL (some .long) D ty sz) (hP : va_P D vwCl ws' H) (hS : va_S (kp_A sz) s.heap H locs) (hv : r = some (.long v)) (hdg : decode cc pc = .ok (.lreturn, 1)) :
    W p l e R s m args below meth c H locs cells slots (MQ below (kp_Q D sz r ws') args s cells slots (kp_A sz)) (F0 m pc ls [.long v]) := by
  obtain ⟨hx, hb, hml, ho, hlk, hr, hw, hE, hK, hz⟩ := B
  exact W.lret (v := v) hx hb hr (fun t ht hW => ⟨by rw [hv], by rw [ht]; exact hP, hS.F ht⟩) hS.2.2 hdg hlk
theorem kp_retv (B : kp_B p l s m args meth c own cc nL none D ty sz) (hP : va_P D vwCl ws' H) (hS : va_S (kp_A sz) s.heap H locs) (hv : r = none) (hdg : decode cc pc = .ok (.return_, 1)) :
    W p l e R s m args below meth c H locs cells slots (MQ below (kp_Q D sz r ws') args s cells slots (kp_A sz)) (F0 m pc ls []) := by
  obtain ⟨hx, hb, hml, ho, hlk, hr, hw, hE, hK, hz⟩ := B
  exact W.vret hx hb hr (fun t ht hW => ⟨by rw [hv], by rw [ht]; exact hP, hS.F ht⟩) hS.2.2 hdg hlk
theorem kp_retiR {v : Int32} (B : kp_B p l s m args meth c own cc nL (some .int) D ty sz) (hv : r = some (.int v)) (hdg : decode cc pc = .ok (.ireturn, 1)) :
    W p l e R s m args below meth c s.heap [] cells slots (MQ below (kp_QR r) args s cells slots (fun _ => False)) (F0 m pc ls [.int v]) := by
  obtain ⟨hx, hb, hml, ho, hlk, hr, hw, hE, hK, hz⟩ := B
  exact W.iret (v := v) hx hb hr (fun t ht hW => ⟨by rw [hv], ht⟩) (fun _ h => nomatch h) hdg hlk
theorem kp_retzR {v : Int32} (B : kp_B p l s m args meth c own cc nL (some .boolean) D ty sz) (hv : r = some (.int v)) (h01 : v = 0 ∨ v = 1) (hdg : decode cc pc = .ok (.ireturn, 1)) :
    W p l e R s m args below meth c s.heap [] cells slots (MQ below (kp_QR r) args s cells slots (fun _ => False)) (F0 m pc ls [.int v]) := by
  obtain ⟨hx, hb, hml, ho, hlk, hr, hw, hE, hK, hz⟩ := B
  exact W.zret (v := v) hx hb hr (by rcases h01 with h | h <;> subst h <;> rfl) (fun t ht hW => ⟨by rw [hv], ht⟩) (fun _ h => nomatch h) hdg hlk
theorem kp_retlR {v : Int64} (B : kp_B p l s m args meth c own cc nL (some .long) D ty sz) (hv : r = some (.long v)) (hdg : decode cc pc = .ok (.lreturn, 1)) :
    W p l e R s m args below meth c s.heap [] cells slots (MQ below (kp_QR r) args s cells slots (fun _ => False)) (F0 m pc ls [.long v]) := by
  obtain ⟨hx, hb, hml, ho, hlk, hr, hw, hE, hK, hz⟩ := B
  exact W.lret (v := v) hx hb hr (fun t ht hW => ⟨by rw [hv], ht⟩) (fun _ h => nomatch h) hdg hlk
-- comparisons of longs: lcmp and the branch behind it
theorem kp_llt (hx : p.tables.exec = Jvm.exec) (hb : c.code = cc) {x y : Int64} {off : Int} {tgt : Nat} (d1 : decode cc pc = .ok (.lcmp, 1)) (d2 : decode cc (pc + 1) = .ok (.ifCond .lt off, 3)) (ht : ((pc + 1 : Nat) : Int) + off = (tgt : Int))
    (kt : x < y → W p l e R s m args below meth c H locs cells slots Q (F0 m tgt ls rest)) (kf : ¬ x < y → W p l e R s m args below meth c H locs cells slots Q (F0 m (pc + 4) ls rest)) : W p l e R s m args below meth c H locs cells slots Q (F0 m pc ls (.long y :: .long x :: rest)) := by
  refine W.lcmp hx hb d1 ?_
  refine lv_if_lt (tgt := tgt) hx hb d2 ht (fun h => kt ?_) (fun h => kf ?_)
  · rcases Int64.lt_or_le x y with q | q
    · exact q
    · exact absurd ((lg_cmp_ge x y).mpr q) (Int32.not_le.mpr h)
  · intro q
    exact h (Int32.not_le.mp (fun z => Int64.not_le.mpr q ((lg_cmp_ge x y).mp z)))
theorem kp_lge (hx : p.tables.exec = Jvm.exec) (hb : c.code = cc) {x y : Int64} {off : Int} {tgt : Nat} (d1 : decode cc pc = .ok (.lcmp, 1)) (d2 : decode cc (pc + 1) = .ok (.ifCond .ge off, 3)) (ht : ((pc + 1 : Nat) : Int) + off = (tgt : Int))
    (kt : y ≤ x → W p l e R s m args below meth c H locs cells slots Q (F0 m tgt ls rest)) (kf : ¬ y ≤ x → W p l e R s m args below meth c H locs cells slots Q (F0 m (pc + 4) ls rest)) : W p l e R s m args below meth c H locs cells slots Q (F0 m pc ls (.long y :: .long x :: rest)) := by
  refine W.lcmp hx hb d1 ?_
  exact lv_if_ge (tgt := tgt) hx hb d2 ht (fun h => kt ((lg_cmp_ge x y).mp h)) (fun h => kf (fun q => h ((lg_cmp_ge x y).mpr q)))
theorem kp_lle (hx : p.tables.exec = Jvm.exec) (hb : c.code = cc) {x y : Int64} {off : Int} {tgt : Nat} (d1 : decode cc pc = .ok (.lcmp, 1)) (d2 : decode cc (pc + 1) = .ok (.ifCond .le off, 3)) (ht : ((pc + 1 : Nat) : Int) + off = (tgt : Int))
    (kt : x ≤ y → W p l e R s m args below meth c H locs cells slots Q (F0 m tgt ls rest)) (kf : ¬ x ≤ y → W p l e R s m args below meth c H locs cells slots Q (F0 m (pc + 4) ls rest)) : W p l e R s m args below meth c H locs cells slots Q (F0 m pc ls (.long y :: .long x :: rest)) := by
  refine W.lcmp hx hb d1 ?_
  exact lv_if_le (tgt := tgt) hx hb d2 ht (fun h => kt ((lg_cmp_le x y).mp h)) (fun h => kf (fun q => h ((lg_cmp_le x y).mpr q)))
theorem kp_lgt (hx : p.tables.exec = Jvm.exec) (hb : c.code = cc) {x y : Int64} {off : Int} {tgt : Nat} (d1 : decode cc pc = .ok (.lcmp, 1)) (d2 : decode cc (pc + 1) = .ok (.ifCond .gt off, 3)) (ht : ((pc + 1 : Nat) : Int) + off = (tgt : Int))
    (kt : y < x → W p l e R s m args below meth c H locs cells slots Q (F0 m tgt ls rest)) (kf : ¬ y < x → W p l e R s m args below meth c H locs cells slots Q (F0 m (pc + 4) ls rest)) : W p l e R s m args below meth c H locs cells slots Q (F0 m pc ls (.long y :: .long x :: rest)) := by
  refine W.lcmp hx hb d1 ?_
  refine lv_if_gt (tgt := tgt) hx hb d2 ht (fun h => kt ?_) (fun h => kf ?_)
  · rcases Int64.lt_or_le y x with q | q
    · exact q
    · exact absurd ((lg_cmp_le x y).mpr q) (Int32.not_le.mpr h)
  · intro q
    exact h (Int32.not_le.mp (fun z => Int64.not_le.mpr q ((lg_cmp_le x y).mp z)))
theorem kp_cmp0 (x y : Int64) : lg_cmp x y = 0 ↔ x = y := by
  constructor
  · intro h
    have h1 := (lg_cmp_ge x y).mp (by rw [h]; decide)
    have h2 := (lg_cmp_le x y).mp (by rw [h]; decide)
    exact Int64.le_antisymm h2 h1
  · intro h
    subst h
    simp [lg_cmp]
theorem kp_leq (hx : p.tables.exec = Jvm.exec) (hb : c.code = cc) {x y : Int64} {off : Int} {tgt : Nat} (d1 : decode cc pc = .ok (.lcmp, 1)) (d2 : decode cc (pc + 1) = .ok (.ifCond .eq off, 3)) (ht : ((pc + 1 : Nat) : Int) + off = (tgt : Int))
    (kt : x = y → W p l e R s m args below meth c H locs cells slots Q (F0 m tgt ls rest)) (kf : ¬ x = y → W p l e R s m args below meth c H locs cells slots Q (F0 m (pc + 4) ls rest)) : W p l e R s m args below meth c H locs cells slots Q (F0 m pc ls (.long y :: .long x :: rest)) := by
  refine W.lcmp hx hb d1 ?_
  exact lv_if_eq (tgt := tgt) hx hb d2 ht (fun h => kt ((kp_cmp0 x y).mp h)) (fun h => kf (fun q => h ((kp_cmp0 x y).mpr q)))
theorem kp_lne (hx : p.tables.exec = Jvm.exec) (hb : c.code = cc) {x y : Int64} {off : Int} {tgt : Nat} (d1 : decode cc pc = .ok (.lcmp, 1)) (d2 : decode cc (pc + 1) = .ok (.ifCond .ne off, 3)) (ht : ((pc + 1 : Nat) : Int) + off = (tgt : Int))
    (kt : ¬ x = y → W p l e R s m args below meth c H locs cells slots Q (F0 m tgt ls rest)) (kf : x = y → W p l e R s m args below meth c H locs cells slots Q (F0 m (pc + 4) ls rest)) : W p l e R s m args below meth c H locs cells slots Q (F0 m pc ls (.long y :: .long x :: rest)) := by
  refine W.lcmp hx hb d1 ?_
  exact lv_if_ne (tgt := tgt) hx hb d2 ht (fun h => kt (fun q => h ((kp_cmp0 x y).mpr q))) (fun h => kf ((kp_cmp0 x y).mp h))
theorem kp_jI {a b : Int32} (h : a = b) (k : W p l e R s m args below meth c H locs cells slots Q (F0 m pc ls (.int b :: rest))) : W p l e R s m args below meth c H locs cells slots Q (F0 m pc ls (.int a :: rest)) := h ▸ k
theorem kp_jJ {a b : Int64} (h : a = b) (k : W p l e R s m args below meth c H locs cells slots Q (F0 m pc ls (.long b :: rest))) : W p l e R s m args below meth c H locs cells slots Q (F0 m pc ls (.long a :: rest)) := h ▸ k
theorem kp_jl {nL : Nat} {lv lv' : List (Nat × Value)} (h : lv_has ls nL lv) (e : lv = lv') : lv_has ls nL lv' := e ▸ h
-- calls
variable {y : MethodName} {bytes : ByteArray} {maxL index : Nat} {rt : Option FieldType} {rm : Room} {b : Addr} {As st0 : List Value} {host : String}
/-- what the tables say of a call's target -/
def kp_T (y : MethodName) (bytes : ByteArray) (maxL : Nat) (rt : Option FieldType) (n : Nat) : Prop := Cond.code y bytes maxL rt ∈ lw_tbl ∧ Cond.initialized y.cls ∈ lw_tbl ∧ (y.cls ≠ "java/lang/invoke/MethodHandle" ∧ y.cls ≠ "java/lang/invoke/VarHandle") ∧ (parseMethodDescriptor y.desc).map (fun d => d.parameters.length) = some n
theorem kp_go (hr : va_Run p l e R s m args below meth c H locs cells slots rm.cells rm.slots (F0 m pc ls st0) rest (kp_Q D sz r ws' As.toArray) (kp_A sz)) (hS : va_S (kp_A sz) s.heap H locs)
    (kk : ∀ (H1 : Heap) (locs1 : List Loc), va_P D vwCl ws' H1 → va_S (kp_A sz) s.heap H1 locs1 → W p l e R s m args below meth c H1 locs1 (cells + rm.cells) (slots + rm.slots) Q (F0 m (pc + 3) ls (r.toList ++ rest))) : W p l e R s m args below meth c H locs cells slots Q (F0 m pc ls st0) := by
  intro T hT X
  obtain ⟨v, st₀, t, T', L, h0, X', hL, e1, e2, ⟨hv, hp, hz, hk⟩, st⟩ := hr T hT X
  cases hv
  rw [h0] at hz hk
  obtain ⟨t2, a1, b1⟩ := kk T'.heap (locs ++ L) (by rw [e1]; exact hp)
    ⟨Nat.le_trans hS.1 (by rw [e1]; exact hz), fun q h1 h2 => by rw [e1, hk q (Nat.lt_of_lt_of_le h1 hS.1) h2]; exact hS.2.1 q h1 h2, fun q hq => by
      rcases List.mem_append.mp hq with h | h
      · exact hS.2.2 q h
      · exact hL q h⟩ T' rfl X'
  exact ⟨t2, st t2 a1, b1⟩
theorem kp_code1 (hw : ∀ w ∈ lw_tbl, kp_w w = true → w.before args s = true) (h : Cond.code y bytes maxL rt ∈ lw_tbl) : ∀ w ∈ [Cond.code y bytes maxL rt], ∀ (a' : Array Value) (U : State), s.WarmedH U.vm → w.before a' U = true := by
  intro w hm a' U hW
  rw [List.mem_singleton.mp hm]
  exact kp_at hW rfl (hw _ h rfl)
theorem kp_goR (hr : va_Run p l e R s m args below meth c H locs cells slots 0 0 (F0 m pc ls st0) rest (kp_QR r As.toArray) (fun _ => False))
    (kk : W p l e R s m args below meth c H locs cells slots Q (F0 m (pc + 3) ls (r.toList ++ rest))) : W p l e R s m args below meth c H locs cells slots Q (F0 m pc ls st0) := by
  intro T hT X
  obtain ⟨v, st₀, t, T', L, h0, X', hL, e1, e2, ⟨hv, hh⟩, st⟩ := hr T hT X
  cases hv
  have hn : L = [] := by
    cases L with
    | nil => rfl
    | cons a L => exact absurd (hL a List.mem_cons_self) (fun h => h)
  subst hn
  rw [List.append_nil] at X'
  obtain ⟨t2, a1, b1⟩ := kk T' (by rw [e1, hh, h0]) X'
  exact ⟨t2, st t2 a1, b1⟩
/-- a virtual call of a method of its own class -/
theorem kp_callV (B : kp_B p l s m args meth c own cc nL ret D ty sz) (hM : kp_M l y bytes maxL rt rm D ty sz (.ref b :: As) ws r ws') (hT : kp_T y bytes maxL rt As.length)
    (hl : Cond.methodLink own index y ∈ lw_tbl) (hi : Cond.instanceMethod y ∈ lw_tbl) (hs : Cond.selects y.cls y y ∈ lw_tbl) (hrc : ∃ cell : Cell, H[b]? = some cell ∧ cell.vm.isStatics = false ∧ s.vm.findClass y.cls = some cell.cls)
    (hR : rm.frames + 1 ≤ R.frames ∧ 8 + (maxL + 11) + rm.locals ≤ R.locals) {cells1 slots1 : Nat} (hc1 : cells + rm.cells = cells1) (hs1 : slots + rm.slots = slots1) (hC : cells1 ≤ R.cells ∧ slots1 ≤ R.slots) (hst : st0 = As.reverse ++ .ref b :: rest) (hrt : (rest.map fun v => v.category).sum ≤ 8) (hls : ls.size = nL)
    (hP : va_P D vwCl ws H) (hS : va_S (kp_A sz) s.heap H locs) (hdg : decode cc pc = .ok (.invokevirtual index, 3))
    {st1 : List Value} (hst1 : r.toList ++ rest = st1) (kk : ∀ (H1 : Heap) (locs1 : List Loc), va_P D vwCl ws' H1 → va_S (kp_A sz) s.heap H1 locs1 → W p l e R s m args below meth c H1 locs1 cells1 slots1 Q (F0 m (pc + 3) ls st1)) : W p l e R s m args below meth c H locs cells slots Q (F0 m pc ls st0) := by
  subst hst1; subst hc1; subst hs1
  have hz := kp_hz B hS
  obtain ⟨hx, hb, hml, ho, hlk, hr, hw, hE, hK, -⟩ := B
  obtain ⟨t1, t2, t3, t4⟩ := hT
  exact kp_go (rm := rm) (As := .ref b :: As) (va_runV (Ts := []) (C := y.cls) (bytes := bytes) (maxL := maxL) (ret := rt) (n := As.length) (As := As) (rest := rest) (b := b) ⟨hx, hb, hml, ho, fun _ h => nomatch h⟩ hM
    ⟨⟨rfl, rfl, hR.1, hR.2, kp_code1 hw t1, List.mem_singleton.mpr rfl, hw _ t1 rfl, hw _ t2 rfl, t3, fun sig h => by rw [h] at t4; exact (Option.some.inj t4).symm, hw _ hl rfl⟩, hw _ hi rfl, hw _ hs rfl⟩
    ⟨kp_P.blind, hrc, kp_P.at hE hK hP hz⟩ rfl rfl hls hst (lv_room hrt) hdg hC) hS kk
/-- a virtual call of a private method of a nest mate -/
theorem kp_callN (B : kp_B p l s m args meth c own cc nL ret D ty sz) (hM : kp_M l y bytes maxL rt rm D ty sz (.ref b :: As) ws r ws') (hT : kp_T y bytes maxL rt As.length)
    (hl : Cond.methodLinkNest own index y host ∈ lw_tbl) (hi : Cond.instanceMethod y ∈ lw_tbl) (hs : Cond.selects y.cls y y ∈ lw_tbl) (hrc : ∃ cell : Cell, H[b]? = some cell ∧ cell.vm.isStatics = false ∧ s.vm.findClass y.cls = some cell.cls)
    (hR : rm.frames + 1 ≤ R.frames ∧ 8 + (maxL + 11) + rm.locals ≤ R.locals) {cells1 slots1 : Nat} (hc1 : cells + rm.cells = cells1) (hs1 : slots + rm.slots = slots1) (hC : cells1 ≤ R.cells ∧ slots1 ≤ R.slots) (hst : st0 = As.reverse ++ .ref b :: rest) (hrt : (rest.map fun v => v.category).sum ≤ 8) (hls : ls.size = nL)
    (hP : va_P D vwCl ws H) (hS : va_S (kp_A sz) s.heap H locs) (hdg : decode cc pc = .ok (.invokevirtual index, 3))
    {st1 : List Value} (hst1 : r.toList ++ rest = st1) (kk : ∀ (H1 : Heap) (locs1 : List Loc), va_P D vwCl ws' H1 → va_S (kp_A sz) s.heap H1 locs1 → W p l e R s m args below meth c H1 locs1 cells1 slots1 Q (F0 m (pc + 3) ls st1)) : W p l e R s m args below meth c H locs cells slots Q (F0 m pc ls st0) := by
  subst hst1; subst hc1; subst hs1
  have hz := kp_hz B hS
  obtain ⟨hx, hb, hml, ho, hlk, hr, hw, hE, hK, -⟩ := B
  obtain ⟨t1, t2, t3, t4⟩ := hT
  exact kp_go (rm := rm) (As := .ref b :: As) (va_runVN (Ts := []) (C := y.cls) (bytes := bytes) (maxL := maxL) (ret := rt) (n := As.length) (As := As) (rest := rest) (b := b) (host := host) ⟨hx, hb, hml, ho, fun _ h => nomatch h⟩ hM
    ⟨⟨⟨rfl, rfl, hR.1, hR.2, kp_code1 hw t1, List.mem_singleton.mpr rfl⟩, hw _ t1 rfl, hw _ t2 rfl, t3, fun sig h => by rw [h] at t4; exact (Option.some.inj t4).symm, hw _ hl rfl⟩, hw _ hi rfl, hw _ hs rfl⟩
    ⟨kp_P.blind, hrc, kp_P.at hE hK hP hz⟩ rfl rfl hls hst (lv_room hrt) hdg hC) hS kk
/-- a static call of a method of its own class -/
theorem kp_callS (B : kp_B p l s m args meth c own cc nL ret D ty sz) (hM : kp_M l y bytes maxL rt rm D ty sz As ws r ws') (hT : kp_T y bytes maxL rt As.length)
    (hl : Cond.methodLink own index y ∈ lw_tbl) (hi : Cond.static y ∈ lw_tbl)
    (hR : rm.frames + 1 ≤ R.frames ∧ 8 + (maxL + 11) + rm.locals ≤ R.locals) {cells1 slots1 : Nat} (hc1 : cells + rm.cells = cells1) (hs1 : slots + rm.slots = slots1) (hC : cells1 ≤ R.cells ∧ slots1 ≤ R.slots) (hst : st0 = As.reverse ++ rest) (hrt : (rest.map fun v => v.category).sum ≤ 8) (hls : ls.size = nL)
    (hP : va_P D vwCl ws H) (hS : va_S (kp_A sz) s.heap H locs) (hdg : decode cc pc = .ok (.invokestatic index, 3))
    {st1 : List Value} (hst1 : r.toList ++ rest = st1) (kk : ∀ (H1 : Heap) (locs1 : List Loc), va_P D vwCl ws' H1 → va_S (kp_A sz) s.heap H1 locs1 → W p l e R s m args below meth c H1 locs1 cells1 slots1 Q (F0 m (pc + 3) ls st1)) : W p l e R s m args below meth c H locs cells slots Q (F0 m pc ls st0) := by
  subst hst1; subst hc1; subst hs1
  have hz := kp_hz B hS
  obtain ⟨hx, hb, hml, ho, hlk, hr, hw, hE, hK, -⟩ := B
  obtain ⟨t1, t2, t3, t4⟩ := hT
  exact kp_go (rm := rm) (As := As) (va_runS (Ts := []) (bytes := bytes) (maxL := maxL) (ret := rt) (n := As.length) (As := As) (rest := rest) ⟨hx, hb, hml, ho, fun _ h => nomatch h⟩ hM
    ⟨⟨rfl, rfl, hR.1, hR.2, kp_code1 hw t1, List.mem_singleton.mpr rfl, hw _ t1 rfl, hw _ t2 rfl, t3, fun sig h => by rw [h] at t4; exact (Option.some.inj t4).symm, hw _ hl rfl⟩, hw _ hi rfl⟩
    ⟨kp_P.blind, kp_P.at hE hK hP hz⟩ rfl rfl hls hst (lv_room hrt) hdg hC) hS kk
/-- of a reader: a virtual call of a method of its own class -/
theorem kp_callVR (B : kp_B p l s m args meth c own cc nL ret D ty sz) (hM : kp_R l y bytes maxL rt rm D ty sz (.ref b :: As) ws r) (hT : kp_T y bytes maxL rt As.length)
    (hl : Cond.methodLink own index y ∈ lw_tbl) (hi : Cond.instanceMethod y ∈ lw_tbl) (hs : Cond.selects y.cls y y ∈ lw_tbl) (hrc : ∃ cell : Cell, H[b]? = some cell ∧ cell.vm.isStatics = false ∧ s.vm.findClass y.cls = some cell.cls)
    (hR : rm.frames + 1 ≤ R.frames ∧ 8 + (maxL + 11) + rm.locals ≤ R.locals) (h0 : rm.cells = 0 ∧ rm.slots = 0) (hC : cells ≤ R.cells ∧ slots ≤ R.slots) (hst : st0 = As.reverse ++ .ref b :: rest) (hrt : (rest.map fun v => v.category).sum ≤ 8) (hls : ls.size = nL)
    (hP : va_P D vwCl ws H) (hS : va_S (kp_A sz) s.heap H locs) (hdg : decode cc pc = .ok (.invokevirtual index, 3))
    {st1 : List Value} (hst1 : r.toList ++ rest = st1) (kk : W p l e R s m args below meth c H locs cells slots Q (F0 m (pc + 3) ls st1)) : W p l e R s m args below meth c H locs cells slots Q (F0 m pc ls st0) := by
  subst hst1
  have hz := kp_hz B hS
  obtain ⟨hx, hb, hml, ho, hlk, hr, hw, hE, hK, -⟩ := B
  obtain ⟨t1, t2, t3, t4⟩ := hT
  exact kp_goR (As := .ref b :: As) (va_runV (Ts := []) (C := y.cls) (bytes := bytes) (maxL := maxL) (ret := rt) (n := As.length) (As := As) (rest := rest) (b := b) ⟨hx, hb, hml, ho, fun _ h => nomatch h⟩ hM
    ⟨⟨h0.1, h0.2, hR.1, hR.2, kp_code1 hw t1, List.mem_singleton.mpr rfl, hw _ t1 rfl, hw _ t2 rfl, t3, fun sig h => by rw [h] at t4; exact (Option.some.inj t4).symm, hw _ hl rfl⟩, hw _ hi rfl, hw _ hs rfl⟩
    ⟨kp_P.blind, hrc, kp_P.at hE hK hP hz⟩ rfl rfl hls hst (lv_room hrt) hdg hC) kk
/-- of a reader: a virtual call of a private method of a nest mate -/
theorem kp_callNR (B : kp_B p l s m args meth c own cc nL ret D ty sz) (hM : kp_R l y bytes maxL rt rm D ty sz (.ref b :: As) ws r) (hT : kp_T y bytes maxL rt As.length)
    (hl : Cond.methodLinkNest own index y host ∈ lw_tbl) (hi : Cond.instanceMethod y ∈ lw_tbl) (hs : Cond.selects y.cls y y ∈ lw_tbl) (hrc : ∃ cell : Cell, H[b]? = some cell ∧ cell.vm.isStatics = false ∧ s.vm.findClass y.cls = some cell.cls)
    (hR : rm.frames + 1 ≤ R.frames ∧ 8 + (maxL + 11) + rm.locals ≤ R.locals) (h0 : rm.cells = 0 ∧ rm.slots = 0) (hC : cells ≤ R.cells ∧ slots ≤ R.slots) (hst : st0 = As.reverse ++ .ref b :: rest) (hrt : (rest.map fun v => v.category).sum ≤ 8) (hls : ls.size = nL)
    (hP : va_P D vwCl ws H) (hS : va_S (kp_A sz) s.heap H locs) (hdg : decode cc pc = .ok (.invokevirtual index, 3))
    {st1 : List Value} (hst1 : r.toList ++ rest = st1) (kk : W p l e R s m args below meth c H locs cells slots Q (F0 m (pc + 3) ls st1)) : W p l e R s m args below meth c H locs cells slots Q (F0 m pc ls st0) := by
  subst hst1
  have hz := kp_hz B hS
  obtain ⟨hx, hb, hml, ho, hlk, hr, hw, hE, hK, -⟩ := B
  obtain ⟨t1, t2, t3, t4⟩ := hT
  exact kp_goR (As := .ref b :: As) (va_runVN (Ts := []) (C := y.cls) (bytes := bytes) (maxL := maxL) (ret := rt) (n := As.length) (As := As) (rest := rest) (b := b) (host := host) ⟨hx, hb, hml, ho, fun _ h => nomatch h⟩ hM
    ⟨⟨⟨h0.1, h0.2, hR.1, hR.2, kp_code1 hw t1, List.mem_singleton.mpr rfl⟩, hw _ t1 rfl, hw _ t2 rfl, t3, fun sig h => by rw [h] at t4; exact (Option.some.inj t4).symm, hw _ hl rfl⟩, hw _ hi rfl, hw _ hs rfl⟩
    ⟨kp_P.blind, hrc, kp_P.at hE hK hP hz⟩ rfl rfl hls hst (lv_room hrt) hdg hC) kk
/-- of a reader: a static call of a method of its own class -/
theorem kp_callSR (B : kp_B p l s m args meth c own cc nL ret D ty sz) (hM : kp_R l y bytes maxL rt rm D ty sz As ws r) (hT : kp_T y bytes maxL rt As.length)
    (hl : Cond.methodLink own index y ∈ lw_tbl) (hi : Cond.static y ∈ lw_tbl)
    (hR : rm.frames + 1 ≤ R.frames ∧ 8 + (maxL + 11) + rm.locals ≤ R.locals) (h0 : rm.cells = 0 ∧ rm.slots = 0) (hC : cells ≤ R.cells ∧ slots ≤ R.slots) (hst : st0 = As.reverse ++ rest) (hrt : (rest.map fun v => v.category).sum ≤ 8) (hls : ls.size = nL)
    (hP : va_P D vwCl ws H) (hS : va_S (kp_A sz) s.heap H locs) (hdg : decode cc pc = .ok (.invokestatic index, 3))
    {st1 : List Value} (hst1 : r.toList ++ rest = st1) (kk : W p l e R s m args below meth c H locs cells slots Q (F0 m (pc + 3) ls st1)) : W p l e R s m args below meth c H locs cells slots Q (F0 m pc ls st0) := by
  subst hst1
  have hz := kp_hz B hS
  obtain ⟨hx, hb, hml, ho, hlk, hr, hw, hE, hK, -⟩ := B
  obtain ⟨t1, t2, t3, t4⟩ := hT
  exact kp_goR (As := As) (va_runS (Ts := []) (bytes := bytes) (maxL := maxL) (ret := rt) (n := As.length) (As := As) (rest := rest) ⟨hx, hb, hml, ho, fun _ h => nomatch h⟩ hM
    ⟨⟨h0.1, h0.2, hR.1, hR.2, kp_code1 hw t1, List.mem_singleton.mpr rfl, hw _ t1 rfl, hw _ t2 rfl, t3, fun sig h => by rw [h] at t4; exact (Option.some.inj t4).symm, hw _ hl rfl⟩, hw _ hi rfl⟩
    ⟨kp_P.blind, kp_P.at hE hK hP hz⟩ rfl rfl hls hst (lv_room hrt) hdg hC) kk
/-- a private constructor of a nest mate -/
theorem kp_callI (B : kp_B p l s m args meth c own cc nL ret D ty sz) (hM : kp_M l y bytes maxL none rm D ty sz (.ref b :: As) ws r ws') (hT : kp_T y bytes maxL none As.length) (hn : y.name = "<init>")
    (hl : Cond.methodLinkNest own index y host ∈ lw_tbl) (hi : Cond.instanceMethod y ∈ lw_tbl)
    (hR : rm.frames + 1 ≤ R.frames ∧ 8 + (maxL + 11) + rm.locals ≤ R.locals) {cells1 slots1 : Nat} (hc1 : cells + rm.cells = cells1) (hs1 : slots + rm.slots = slots1) (hC : cells1 ≤ R.cells ∧ slots1 ≤ R.slots) (hst : st0 = As.reverse ++ .ref b :: rest) (hrt : (rest.map fun v => v.category).sum ≤ 8) (hls : ls.size = nL)
    (hP : va_P D vwCl ws H) (hS : va_S (kp_A sz) s.heap H locs) (hdg : decode cc pc = .ok (.invokespecial index, 3))
    {st1 : List Value} (hst1 : r.toList ++ rest = st1) (kk : ∀ (H1 : Heap) (locs1 : List Loc), va_P D vwCl ws' H1 → va_S (kp_A sz) s.heap H1 locs1 → W p l e R s m args below meth c H1 locs1 cells1 slots1 Q (F0 m (pc + 3) ls st1)) : W p l e R s m args below meth c H locs cells slots Q (F0 m pc ls st0) := by
  subst hst1; subst hc1; subst hs1
  have hz := kp_hz B hS
  obtain ⟨hx, hb, hml, ho, hlk, hr, hw, hE, hK, -⟩ := B
  obtain ⟨t1, t2, t3, t4⟩ := hT
  exact kp_go (rm := rm) (As := .ref b :: As) (va_runIN (Ts := []) (bytes := bytes) (maxL := maxL) (n := As.length) (As := As) (rest := rest) (b := b) (host := host) ⟨hx, hb, hml, ho, fun _ h => nomatch h⟩ hM
    ⟨⟨⟨rfl, rfl, hR.1, hR.2, kp_code1 hw t1, List.mem_singleton.mpr rfl⟩, hw _ t1 rfl, hw _ t2 rfl, t3, fun sig h => by rw [h] at t4; exact (Option.some.inj t4).symm, hw _ hl rfl⟩, hn, hw _ hi rfl⟩
    ⟨kp_P.blind, kp_P.at hE hK hP hz⟩ rfl rfl hls hst (lv_room hrt) hdg hC) hS kk
/-- Math.min, Math.max of two longs -/
theorem kp_min {x y : Int64} (B : kp_B p l s m args meth c own cc nL ret D ty sz) (hls : ls.size = nL) (k1 : Cond.methodLink own index Lib.MathLoose.min_long.x ∈ lw_tbl) (k2 : Cond.static Lib.MathLoose.min_long.x ∈ lw_tbl) (k3 : Cond.initialized "java/lang/Math" ∈ lw_tbl) (k4 : Cond.code Lib.MathLoose.min_long.x Lib.MathLoose.min_long.code 4 (some .long) ∈ lw_tbl)
    (hframes : 1 ≤ R.frames) (hlocals : (rest.map fun v => v.category).sum + 15 ≤ R.locals) (hc : cells ≤ R.cells) (hs : slots ≤ R.slots) (hdg : decode cc pc = .ok (.invokestatic index, 3))
    (kk : W p l e R s m args below meth c H locs cells slots Q (F0 m (pc + 3) ls (.long (z_min x y) :: rest))) : W p l e R s m args below meth c H locs cells slots Q (F0 m pc ls (.long y :: .long x :: rest)) := by
  obtain ⟨hx, hb, hml, ho, hlk, hr, hw, hE, hK, hz⟩ := B
  exact va_mmin_long hx hb (hml.trans hls.symm) ho (hw _ k1 rfl) (hw _ k2 rfl) (hw _ k3 rfl) (hw _ k4 rfl) hframes hlocals hc hs hdg kk
theorem kp_max {x y : Int64} (B : kp_B p l s m args meth c own cc nL ret D ty sz) (hls : ls.size = nL) (k1 : Cond.methodLink own index Lib.MathLoose.max_long.x ∈ lw_tbl) (k2 : Cond.static Lib.MathLoose.max_long.x ∈ lw_tbl) (k3 : Cond.initialized "java/lang/Math" ∈ lw_tbl) (k4 : Cond.code Lib.MathLoose.max_long.x Lib.MathLoose.max_long.code 4 (some .long) ∈ lw_tbl)
    (hframes : 1 ≤ R.frames) (hlocals : (rest.map fun v => v.category).sum + 15 ≤ R.locals) (hc : cells ≤ R.cells) (hs : slots ≤ R.slots) (hdg : decode cc pc = .ok (.invokestatic index, 3))
    (kk : W p l e R s m args below meth c H locs cells slots Q (F0 m (pc + 3) ls (.long (z_max x y) :: rest))) : W p l e R s m args below meth c H locs cells slots Q (F0 m pc ls (.long y :: .long x :: rest)) := by
  obtain ⟨hx, hb, hml, ho, hlk, hr, hw, hE, hK, hz⟩ := B
  exact va_mmax_long hx hb (hml.trans hls.symm) ho (hw _ k1 rfl) (hw _ k2 rfl) (hw _ k3 rfl) (hw _ k4 rfl) hframes hlocals hc hs hdg kk
end KPR
end
section
-- METHODS THAT THROW, AND THE CATCHING OF IT (launches without stack traces)
/-- what a throw needs of the heap: Throwable's two statics -/
def kx_ws : List Cond := [.isRef (.static Bundle.tN "UNASSIGNED_STACK" Bundle.steD), .isRef (.static Bundle.tN "SUPPRESSED_SENTINEL" Bundle.listD), .laysStatic Bundle.tN "UNASSIGNED_STACK" Bundle.steD, .laysStatic Bundle.tN "SUPPRESSED_SENTINEL" Bundle.listD]
def kx_H (U : State) : Prop := ∀ (A : Array Value), ∀ w ∈ kx_ws, w.before A U = true
theorem kx_one {s U : State} {A B : Array Value} {C n d : String} (hl : (Cond.laysStatic C n d).before A s = true) (hr : (Cond.isRef (.static C n d)).before A s = true) (hvm : s.vm.Alike U.vm) (hq : ∀ q, q < s.heap.size → U.heap[q]? = s.heap[q]?) :
    (Cond.laysStatic C n d).before B U = true ∧ (Cond.isRef (.static C n d)).before B U = true := by
  obtain ⟨c, k, i, f, a, cell, h1, h2, h3, h4, h5, h6, h7, h8, h9⟩ := Cond.laysStatic_spec hl
  obtain ⟨k', hi', he⟩ := State.fieldFound?_setVm hvm h2
  have h5' : U.heap[a]? = some cell := by rw [hq a (Array.getElem?_eq_some_iff.mp h5).1]; exact h5
  have h4' : k'.statics = some a := by rw [he]; exact h4
  have h9' : k'.staticTypes[f.slot]? = some f.type := by rw [he]; exact h9
  have hi2 : U.fieldFound? C n d = some (c, k', i, f) := hi'
  refine ⟨?_, ?_⟩
  · show (Cond.laysStatic C n d).holds B U none U [] = true
    exact Cond.laysStatic_of (by rw [hvm.findClass]; exact h1) hi2 h3 h4' h5' h6 h7 h8 h9'
  · have e1 : (Term.static C n d).eval A s none [] s = cell.slots[f.slot]? := by simp [Term.eval, State.fieldNamed?, h2, h3, h4, h5, h6]
    have e2 : (Term.static C n d).eval B U none [] U = cell.slots[f.slot]? := by simp [Term.eval, State.fieldNamed?, hi2, h3, h4', h5', h6]
    simp only [Cond.before, Cond.holds, Cond.value, e1] at hr
    simp only [Cond.before, Cond.holds, Cond.value, e2]
    exact hr
theorem kx_H.of {s U : State} {A : Array Value} (h : ∀ w ∈ kx_ws, w.before A s = true) (hvm : s.vm.Alike U.vm) (hq : ∀ q, q < s.heap.size → U.heap[q]? = s.heap[q]?) : kx_H U := by
  intro B w hw
  have a1 := kx_one (B := B) (h _ (List.mem_of_getElem? (i := 2) rfl)) (h _ (List.mem_of_getElem? (i := 0) rfl)) hvm hq
  have a2 := kx_one (B := B) (h _ (List.mem_of_getElem? (i := 3) rfl)) (h _ (List.mem_of_getElem? (i := 1) rfl)) hvm hq
  simp only [kx_ws, List.mem_cons, List.not_mem_nil, or_false] at hw
  rcases hw with rfl | rfl | rfl | rfl
  · exact a1.2
  · exact a2.2
  · exact a1.1
  · exact a2.1
theorem kx_H.at {s U : State} (h : kx_H s) (hvm : s.vm.Alike U.vm) (hq : U.heap = s.heap) : kx_H U := kx_H.of (A := #[]) (h #[]) hvm (fun q _ => by rw [hq])
/-- the end of a method that may throw: f says which -/
def kx_Q (D : va_G) (sz : Nat) (f : Option Value) (ws' : va_W) (E : String) : Array Value → State → Outcome → State → Prop := fun _ st oc t =>
  (∃ v : Value, f = some v ∧ oc = .returned (some v) ∧ va_P D vwCl ws' t.heap ∧ va_F (kp_A sz) st t ∧ ∃ L, FrameEnd st oc t L 1 6 ∧ ∀ q ∈ L, kp_A sz q.base) ∨
  (∃ (q : Addr) (ce : Cell), f = none ∧ oc = .threw q ∧ t.heap[q]? = some ce ∧ ce.vm = .none ∧ st.vm.findClass E = some ce.cls ∧ st.WarmedH t.vm ∧ st.sameButNew ({ t with vm := st.vm } : State) [] 1 6)
def kx_P (D : va_G) (ty : List (ClassId × FieldType)) (sz : Nat) (ws : va_W) (U : State) : Prop := kp_P D ty sz ws U ∧ kx_H U
def kx_M (l : Launch) (y : MethodName) (cc : ByteArray) (nL : Nat) (ret : Option FieldType) (rm : Room) (D : va_G) (ty : List (ClassId × FieldType)) (sz : Nat) (av : List Value) (ws : va_W) (f : Option Value) (ws' : va_W) (E : String) : Prop :=
  MetFree l y (headSpec [Cond.code y cc nL ret] rm) (va_Pc av (kx_P D ty sz ws)) (fun _ _ _ _ _ => True) (kx_Q D sz f ws' E)
def kx_MQ (below : List Frame) (Qx : Array Value → State → Outcome → State → Prop) (args : Array Value) (s : State) : State → Prop := fun t => ∃ o, t.status = .running ∧ Ended t below o ∧ Qx args s o t
theorem kx_body {l : Launch} {y : MethodName} {cc : ByteArray} {nL : Nat} {ret : Option FieldType} {rm : Room} {D : va_G} {ty : List (ClassId × FieldType)} {sz : Nat} {av : List Value} {ws : va_W} {f : Option Value} {ws' : va_W} {E : String}
    (hy : plainName y.cls = true) (hn : (lg_sl av).length ≤ nL) {lv : List (Nat × Value)} (hlv : lv_args 0 av = lv)
    (body : ∀ (p : Program) (e : Env) (s : State) (m : MethodId) (args : Array Value) (below : List Frame) (meth : Method) (c : Code) (ls : Array Slot), kp_B p l s m args meth c y.cls cc nL ret D ty sz → (∀ x ∈ c.exceptionTable.toList, False) → kx_H s → lv_has ls nL lv → va_P D vwCl ws s.heap → va_S (kp_A sz) s.heap s.heap [] →
      W p l e rm s m args below meth c s.heap [] 0 0 (kx_MQ below (kx_Q D sz f ws' E) args s) (F0 m 0 ls [])) :
    kx_M l y cc nL ret rm D ty sz av ws f ws' E := by
  refine MetFree.of_bodyS (code := cc) (maxLocals := nL) (ret := ret) hy ?_ ?_
  · intro args s m h hn
    obtain ⟨meth, c, h1, h2, h3, h4, h5, h6, -, -⟩ := Cond.code_spec hn (atoms_spec (ws := [Cond.code y cc nL ret]) h _ List.mem_cons_self)
    exact ⟨meth, c, h1, h2, h3, h4, h5, h6⟩
  · intro p e s m args below meth c s₁ B hml hv _
    obtain ⟨rfl, ⟨hE, hK, hP, hz⟩, hH⟩ := hv
    have hh0 : s₁.heap = s.heap := by rw [B.state]; rfl
    have hexc : ∀ x ∈ c.exceptionTable.toList, False := by
      have h7 := B.noHandlers (atoms_spec (ws := [Cond.code y cc nL ret]) B.pre _ List.mem_cons_self)
      intro x hx
      rw [Array.isEmpty_iff.mp h7] at hx
      cases hx
    have hl := lv_entry av (n := nL) hn
    have K : W p l e rm s m av.toArray below meth c s.heap [] 0 0 (kx_MQ below (kx_Q D sz f ws' E) av.toArray s) (entryFrame m av.toArray nL) := by
      rw [lg_entry_eq]
      generalize (lg_sl av ++ List.replicate (nL - (lg_sl av).length) Slot.unset).toArray = ls at hl ⊢
      rw [hlv] at hl
      exact body p e s m av.toArray below meth c ls ⟨B.exec, B.bytes, hml, findClass_of_methodNamed B.named, B.notSynchronized, B.returns, hE.use, hE, hK, hz⟩ hexc hH hl hP va_S.rf
    obtain ⟨t, a1, o, b1, b2, b3⟩ := K s₁ hh0 (Stand.of_body B)
    exact ⟨t, o, a1, b1, b2, b3⟩
-- NoSuchElementException: the words of its constructor's chain, and the chain walked
def kx_N : String := "java/util/NoSuchElementException"
def kx_R : String := "java/lang/RuntimeException"
abbrev kx_b13 : ByteArray := prog_12_method_4_code
def kx_atN : List Cond :=
  Bundle.throwableAtoms ++ Bundle.throwableSAtoms ++ Bundle.passSAtoms kx_N kx_R 13 kx_b13 ++ Bundle.chainSAtoms kx_R ["java/lang/Exception"] ++
  [.instantiable kx_N 6, .castable kx_N kx_N, .selects kx_N Bundle.tFill0 Bundle.tFill0, .selects kx_N Bundle.tFill Bundle.tFill,
   .lays kx_N Bundle.tN "cause" "Ljava/lang/Throwable;", .lays kx_N Bundle.tN "stackTrace" Bundle.steD, .lays kx_N Bundle.tN "suppressedExceptions" Bundle.listD, .lays kx_N Bundle.tN "detailMessage" "Ljava/lang/String;",
   .isRef (.static Bundle.tN "UNASSIGNED_STACK" Bundle.steD), .isRef (.static Bundle.tN "SUPPRESSED_SENTINEL" Bundle.listD),
   .fieldLink Bundle.tN 198 Bundle.tN "backtrace" "Ljava/lang/Object;", .lays Bundle.tN Bundle.tN "backtrace" "Ljava/lang/Object;", .lays kx_N Bundle.tN "backtrace" "Ljava/lang/Object;"]
theorem kx_atN_in : ∀ w ∈ kx_atN, w ∈ kx_ws ∨ (w ∈ lw_tbl ∧ kp_w w = true) := by decide +kernel
theorem kx_d13_0 : decode kx_b13 0 = .ok (.aload_n 0, 1) := by decide +kernel
theorem kx_d13_1 : decode kx_b13 1 = .ok (.aload_n 1, 1) := by decide +kernel
theorem kx_d13_2 : decode kx_b13 2 = .ok (.invokespecial 13, 3) := by decide +kernel
theorem kx_d13_5 : decode kx_b13 5 = .ok (.return_, 1) := by decide +kernel
set_option maxHeartbeats 4000000 in
theorem kx_ctorN {p : Program} {l : Launch} {e : Env} {R : Room} {s : State} {m₀ : MethodId} {args : Array Value} {below : List Frame} {meth : Method} {c : Code} {V : State} {cells slots : Nat}
    (X : Stand p l e R s m₀ args below meth c V [] cells slots) (hexec : p.tables.exec = Jvm.exec) (htr : e.platform.stackTraces = false) {own : String} {ic : Nat}
    (hown : s.vm.findClass own = some m₀.cls) (hlink0 : (Cond.methodLink own ic (Bundle.initS kx_N)).before args s = true)
    (h : ∀ a ∈ kx_atN, a.before args s = true)
    {a : Addr} {cX : ClassId} {kX : Class} (hfoundX : s.vm.findClass kx_N = some cX) (hkX : s.vm.classes[cX]? = some kX) (hcell : V.heap[a]? = some (freshCell cX kX)) (hnew : s.heap.size ≤ a)
    {msg : Value} (hmsg : msg.isRef = true)
    {g : JFrame} (hg : g.method = m₀) (hsize : g.locals.size = c.maxLocals) (hlocked : g.locked = none) (hentered : g.entered = []) (hstack : g.stack = msg :: .ref a :: .ref a :: [])
    (hd6 : decode c.code g.pc = .ok (.invokespecial ic, 3)) (hd9 : decode c.code (g.pc + 3) = .ok (.athrow, 1)) (hout : ∀ x ∈ c.exceptionTable.toList, covers x (g.pc + 3) = false)
    (hRframes : 5 < R.frames) (hRlocals : 2 * g.monitorRoom + ((Value.ref a :: []).map fun v => v.category).sum + (13 * 3 + 42) ≤ R.locals) (hlocks : meth.locks = false) :
    ∃ U : State, Steps p.tables e below (V.setTop g) U ∧ U.status = .running ∧ Ended U below (.threw a) ∧ s.WarmedH U.vm ∧ s.sameButNew ({ U with vm := s.vm } : State) [] cells slots ∧
      ∃ ce, U.heap[a]? = some ce ∧ ce.vm = .none ∧ s.vm.findClass kx_N = some ce.cls := by
  have howns : e.platform.frameOwnsMonitors = true := by rw [X.admits.platform]
  have hfin : e.platform.finalization = false := by rw [X.admits.platform]
  have hpl : e.platform.magicAccessors = ({} : Platform).magicAccessors := by rw [X.admits.platform]
  have a' : ∀ x, x ∈ kx_atN → x.holds args s none s [] = true := fun x hx => h x hx
  obtain ⟨T, Z0, L, -, Y⟩ := ThrowableC.of_atoms (args := args) howns hfin hpl (fun x hx => h x (by simp [kx_atN, hx]))
  obtain ⟨Z, M, LZ, LM, hnZ⟩ := Init0T.ofS_atoms (args := args) hpl L Y (fun x hx => h x (by simp [kx_atN, hx]))
  obtain ⟨P0, L0, hP0m, hP0s⟩ := PassC.ofS_atoms (args := args) (s := s) hpl (X := kx_N) (Y := kx_R) (by decide +kernel) (by decide +kernel) kx_d13_0 kx_d13_1 kx_d13_2 kx_d13_5 (fun x hx => h x (by simp [kx_atN, hx]))
  obtain ⟨P1, Ps, hlen, L1, hL, hP1m, hlink1, hlink⟩ := Bundle.chainS (args := args) hpl hnZ ["java/lang/Exception"] kx_R (by decide +kernel) (by decide +kernel) (fun x hx => h x (by simp [kx_atN, hx]))
  have hsup0 : P0.sup = P1.m := Option.some.inj (hP0s.symm.trans hP1m)
  have hfound : s.vm.findClass kx_N = some P0.m.cls := findClass_of_methodNamed hP0m
  cases Option.some.inj (hfoundX.symm.trans hfound)
  obtain ⟨c1, kX', hc1, hk, hord, -, -, hn6⟩ := Cond.instantiable_spec (a' (.instantiable kx_N 6) (by simp [kx_atN]))
  cases Option.some.inj (hc1.symm.trans hfound)
  cases Option.some.inj (hkX.symm.trans hk)
  have hsel0 : selectMethod e.platform s.vm P0.m.cls T.fill0 = .method T.fill0 := by
    obtain ⟨c2, r2, m2, q1, q2, q3, q4, -⟩ := Cond.selects_spec (a' (.selects kx_N Bundle.tFill0 Bundle.tFill0) (by simp [kx_atN]))
    cases Option.some.inj (q1.symm.trans hfound)
    cases Option.some.inj (q2.symm.trans (State.methodFound?_of_named Y.fill0 (by decide)))
    cases Option.some.inj (q3.symm.trans Y.fill0)
    rw [Launch.admits_selectMethod X.admits]; exact q4
  have hselF : selectMethod e.platform s.vm P0.m.cls T.fill = .method T.fill := by
    obtain ⟨c2, r2, m2, q1, q2, q3, q4, -⟩ := Cond.selects_spec (a' (.selects kx_N Bundle.tFill Bundle.tFill) (by simp [kx_atN]))
    cases Option.some.inj (q1.symm.trans hfound)
    cases Option.some.inj (q2.symm.trans (State.methodFound?_of_named Y.fill (by decide)))
    cases Option.some.inj (q3.symm.trans Y.fill)
    rw [Launch.admits_selectMethod X.admits]; exact q4
  obtain ⟨cellS0, hcS0, hiss⟩ := Y.statics
  obtain ⟨u0, hu0⟩ := Cond.staticRefV Y.unassigned L.unassignedStatic L.statics hcS0 hiss (a' (.isRef (.static Bundle.tN "UNASSIGNED_STACK" Bundle.steD)) (by simp [kx_atN]))
  obtain ⟨sen, hsen⟩ := Cond.staticRefV Y.sentinel L.sentinelStatic L.statics hcS0 hiss (a' (.isRef (.static Bundle.tN "SUPPRESSED_SENTINEL" Bundle.listD)) (by simp [kx_atN]))
  obtain ⟨ci198, i198, fB, hk198, hg198, ha198, hsB, -, hnB, htB, hffB⟩ := Cond.ownField (t := .object "java/lang/Object") Y.found L.cls (by decide +kernel) (a' (.fieldLink Bundle.tN 198 Bundle.tN "backtrace" "Ljava/lang/Object;") (by simp [kx_atN])) (a' (.lays Bundle.tN Bundle.tN "backtrace" "Ljava/lang/Object;") (by simp [kx_atN])) e.platform hpl
  obtain ⟨cellS, hcS', heS, -, hkeep⟩ := X.same.2.2.2.2.2 T.aS cellS0 hcS0
  have hcellS : V.heap[T.aS]? = some cellS := hcS'
  have hout' : ∀ i, (⟨T.aS, i⟩ : Loc) ∉ ([] : List Loc) := fun i hmem => nomatch hmem
  have hknownS : cellS.vm ≠ .unknown := by
    rw [heS]; intro hu
    rw [show cellS0.vm = .unknown from hu] at hiss
    cases hiss
  have hneS : T.aS ≠ a := Nat.ne_of_lt (Nat.lt_of_lt_of_le (Array.getElem?_eq_some_iff.mp hcS0).1 hnew)
  obtain ⟨iM, hffM⟩ := Y.msg
  obtain ⟨tyC, dC, hdC, hdnC⟩ := Cond.laysAt hfound hk Y.cause (a' (.lays kx_N Bundle.tN "cause" "Ljava/lang/Throwable;") (by simp [kx_atN]))
  obtain ⟨tyS, dS, hdS, hdnS⟩ := Cond.laysAt hfound hk Y.stack (a' (.lays kx_N Bundle.tN "stackTrace" Bundle.steD) (by simp [kx_atN]))
  obtain ⟨tyP, dP, hdP, hdnP⟩ := Cond.laysAt hfound hk Y.supp (a' (.lays kx_N Bundle.tN "suppressedExceptions" Bundle.listD) (by simp [kx_atN]))
  obtain ⟨tyM, dM, hdM, hdnM⟩ := Cond.laysAt hfound hk hffM (a' (.lays kx_N Bundle.tN "detailMessage" "Ljava/lang/String;") (by simp [kx_atN]))
  obtain ⟨tyB, dB, hdB, hdnB⟩ := Cond.laysAt hfound hk hffB (a' (.lays kx_N Bundle.tN "backtrace" "Ljava/lang/Object;") (by simp [kx_atN]))
  have bC := Cond.laysApart hdB hdC hdnB hdnC (by rw [hnB, Y.causeName]; decide)
  have bS := Cond.laysApart hdB hdS hdnB hdnS (by rw [hnB, Y.stackName]; decide)
  have bP := Cond.laysApart hdB hdP hdnB hdnP (by rw [hnB, Y.suppName]; decide)
  have hskip : SkipFacts T e.platform s (fun u => u) u0 ((preparedCellV T.toThrowableT (freshCell P0.m.cls kX) a u0 sen).withEntry V.cur) :=
    ⟨{ ci198 := ci198, i198 := i198, fBack := fB }, ⟨hk198, hg198, ha198, hsB⟩, by
      have := fresh_default (c := P0.m.cls) tyB
      rw [htB] at this
      simpa [preparedCellV, Cell.setSlot, Cell.withEntry, Array.getElem?_setIfInBounds, bC, bS, bP, bC.symm, bS.symm, bP.symm, defaultValue] using this, fun _ _ => rfl⟩
  obtain ⟨tm, methC, cdC, kC, vm₁, hnC, -, -, -, -, -, -, -, hW₁, st1⟩ := Steps.initColdS (tb := p.tables) (e := e) (below := below) (s := s) (U := V) X.here hexec X.warmed hpl hown (t := Bundle.initS kx_N) rfl rfl (by decide +kernel)
    hlink0 (h (.instanceMethod (Bundle.initS kx_N)) (by simp [kx_atN, Bundle.passSAtoms])) (bytes := kx_b13) (maxL := 2) (h (.code (Bundle.initS kx_N) kx_b13 2 none) (by simp [kx_atN, Bundle.passSAtoms]))
    (f := g) hg (a := a) (msg := msg) (rest := .ref a :: []) hstack hd6
  cases Option.some.inj (hnC.symm.trans hP0m)
  have X₁ := X.noted hW₁
  obtain ⟨vm₂, X₂, st2⟩ := X₁.ctorMessageOffV hexec (g := { g with stack := .ref a :: [] }) hg hsize T L Z LZ M LM (P0 :: P1 :: Ps)
    (fun P hP => by
      rcases List.mem_cons.mp hP with rfl | hP
      · exact L0
      · rcases List.mem_cons.mp hP with rfl | hP
        · exact L1
        · exact hL P hP) ⟨hsup0, hlink1, hlink⟩ (u0 := u0) (sen := sen) (self := a) hmsg (cell := freshCell P0.m.cls kX) (cellS := cellS)
    hcell (fun _ => by simp) (by simp) rfl rfl hsel0 hselF hcellS hneS hknownS (by rw [hkeep _ (hout' _)]; exact hu0) (by rw [hkeep _ (hout' _)]; exact hsen)
    (Takes.of_laid hk hord tyC (by rw [Y.causeType]; rfl)) (Takes.of_laid hk hord tyS (by rw [Y.stackType]; exact fits_refV_array _ u0)) (Takes.of_laid hk hord tyP (by rw [Y.suppType]; exact fits_refV_object _ sen))
    (Takes.of_laid hk hord tyM (by rw [Y.msgType]; exact fits_refV_object _ ⟨msg, hmsg⟩)) Y.objLocals hskip htr [] hd6
    (by simp only [List.length_cons, hlen]; exact hRframes) (by simp only [List.length_cons, hlen]; exact hRlocals)
  obtain ⟨hwalk, hrun, hended, hWU, hsame⟩ := X₂.athrowLeaves hexec (g := { g with stack := .ref a :: [], pc := g.pc + 3 }) hg hlocked hentered hout (a := a) (rest := []) rfl hd9
  have hlt : a < ((V.setVm vm₁).setVm vm₂).heap.size := (Array.getElem?_eq_some_iff.mp hcell).1
  have hU := heapAt_setCell_self (s := (V.setVm vm₁).setVm vm₂) (plainBareV T.toThrowableT (freshCell P0.m.cls kX) a u0 sen msg) hlt
  refine ⟨_, st1 _ (fun acts => ?_), hrun, hended, hWU, hsame.weaken (fun y hy hlt' => ?_) (Nat.le_refl _) (Nat.le_refl _), _, hU, rfl, hfound⟩
  · rw [doInvoke_state]
    exact st2 _ hwalk
  · exfalso
    have hb : y.base = a := by
      simp only [List.nil_append, List.mem_cons, List.not_mem_nil, or_false] at hy
      rcases hy with rfl | rfl | rfl | rfl | rfl <;> rfl
    rw [hb] at hlt'
    exact Nat.not_lt.mpr hnew hlt'
section KXR
variable {p : Program} {l : Launch} {e : Env} {R : Room} {s : State} {m : MethodId} {args : Array Value} {below : List Frame} {meth : Method} {c : Code} {H : Heap} {locs : List Loc} {cells slots : Nat} {Q : State → Prop}
variable {own : String} {cc : ByteArray} {nL : Nat} {ret : Option FieldType} {D : va_G} {ty : List (ClassId × FieldType)} {sz pc : Nat} {ls : Array Slot} {rest : List Value} {ws ws' : va_W} {f : Option Value} {E : String}
theorem kx_reti {v : Int32} (B : kp_B p l s m args meth c own cc nL (some .int) D ty sz) (hP : va_P D vwCl ws' H) (hS : va_S (kp_A sz) s.heap H locs) (hf : f = some (.int v)) (hdg : decode cc pc = .ok (.ireturn, 1)) :
    W p l e R s m args below meth c H locs 0 0 (kx_MQ below (kx_Q D sz f ws' E) args s) (F0 m pc ls [.int v]) := by
  obtain ⟨hx, hb, hml, ho, hlk, hr, hw, hE, hK, hz⟩ := B
  intro T hT X
  obtain ⟨t, a1, o, b1, b2, b3, L, b4, b5⟩ := W.iret (Qc := fun _ st oc t => oc = .returned (some (.int v)) ∧ va_P D vwCl ws' t.heap ∧ va_F (kp_A sz) st t) (free := kp_A sz) (v := v) hx hb hr (fun t ht hW => ⟨rfl, by rw [ht]; exact hP, hS.F ht⟩) hS.2.2 hdg hlk T hT X
  exact ⟨t, a1, o, b1, b2, Or.inl ⟨.int v, hf, b3.1, b3.2.1, b3.2.2, L, ⟨b4.1, b4.2.1, b4.2.2.mono (by omega) (by omega)⟩, b5⟩⟩
/-- throw new E("text") -/
theorem kx_throw {cls text : String} {names : List String} {ik is ic : Nat} (B : kp_B p l s m args meth c own cc nL ret D ty sz) (htr : l.stackTraces = false) (hexc : ∀ x ∈ c.exceptionTable.toList, False) (hH : kx_H s)
    (hcls : Bundle.fit cls = true) (hnames : ∀ n ∈ names, Bundle.fit n = true) (hat : ∀ w ∈ Bundle.ownAtoms own ic cls names, w ∈ kx_ws ∨ (w ∈ lw_tbl ∧ kp_w w = true))
    (k1 : Cond.classLink own ik cls ∈ lw_tbl) (k2 : Cond.initialized cls ∈ lw_tbl) (k3 : Cond.stringRef own is text ∈ lw_tbl) (hls : ls.size = nL)
    (d0 : decode cc pc = .ok (.new ik, 3)) (d3 : decode cc (pc + 3) = .ok (.dup, 1)) (d4 : decode cc (pc + 4) = .ok (.ldc is, 2)) (d6 : decode cc (pc + 6) = .ok (.invokespecial ic, 3)) (d9 : decode cc (pc + 9) = .ok (.athrow, 1))
    (hRf : names.length + 3 < R.frames) (hRl : 13 * (names.length + 1) + 43 ≤ R.locals) (hRc : 1 ≤ R.cells) (hRs : 6 ≤ R.slots) (hf : f = none) :
    W p l e R s m args below meth c s.heap [] 0 0 (kx_MQ below (kx_Q D sz f ws' cls) args s) (F0 m pc ls []) := by
  obtain ⟨hx, hb, hml, ho, hlk, hr, hw, hE, hK, hz⟩ := B
  intro T hT X
  have htr' : e.platform.stackTraces = false := (show e.platform.stackTraces = l.stackTraces by rw [X.admits.platform]).trans htr
  have h : ∀ w ∈ Bundle.ownAtoms own ic cls names, w.before args s = true := fun w hm => (hat w hm).elim (fun q => hH args w q) (fun q => hw w q.1 q.2)
  have hins : (Cond.instantiable cls 6).before args s = true := h _ (by simp [Bundle.ownAtoms])
  have hstr := hw _ k3 rfl
  obtain ⟨_, _, _, sa, -, -, -, -, -, hev⟩ := Cond.stringRef_spec ho hstr
  obtain ⟨vm₁, cX, kX, hfX, hkX, -, -, X₁, st1⟩ := X.newCold hx (own := own) (C := cls) (index := ik) (n := 6) ho (hw _ k1 rfl) hins (hw _ k2 rfl) (g := F0 m pc ls []) rfl (by rw [hb]; exact d0) (by omega) (by omega)
  generalize hT1 : (T.setVm vm₁).pushCell { cls := cX, slots := kX.instanceTypes.map defaultValue, vm := .none } = T1 at X₁ st1
  have hcat : (Value.ref T.heap.size).category = 1 := rfl
  have hcellA : T1.heap[T.heap.size]? = some (freshCell cX kX) := by rw [← hT1]; exact State.heap_pushCell_size _ _
  have d3' : decode c.code (pc + 3) = .ok (.dup, 1) := by rw [hb]; exact d3
  have d4' : decode c.code (pc + 4) = .ok (.ldc is, 2) := by rw [hb]; exact d4
  obtain ⟨U, hsteps, hrun, hend, hW, hsame, ce, hce, hO⟩ := X₁.ctorThrowS hx htr' (own := own) (cls := cls) (names := names) (ic := ic) ho hcls hnames h (fun x hx => nomatch hx) hfX hkX hcellA (by rw [hT]; exact Nat.le_refl _) (msg := .ref sa) rfl
    (g := { method := m, pc := pc + 6, locals := ls, stack := .ref sa :: .ref T.heap.size :: .ref T.heap.size :: [], locked := none }) rfl (hls.trans hml.symm) rfl rfl (rest := []) rfl
    (by rw [hb]; exact d6) (by rw [hb]; exact d9) (fun x hx => (hexc x hx).elim) hRf (by simp only [List.map_cons, List.sum_cons, List.map_nil, List.sum_nil, hcat]; omega) hlk
  refine ⟨U, ?_, .threw T.heap.size, hrun, hend, Or.inr ⟨T.heap.size, ce, hf, rfl, hce, hO.vm, hO.cls, hW, hsame.mono (by omega) (by omega)⟩⟩
  refine st1 _ ?_
  show Steps p.tables e below (T1.setTop { method := m, pc := pc + 3, locals := ls, stack := .ref T.heap.size :: [], locked := none }) _
  jvm_step X₁.here [X₁.here.top, hx, d3', Value.category]
  exact X₁.ldcString hx (own := own) (text := text) (index := is) (a := sa) ho hstr hev
    (g := { method := m, pc := pc + 4, locals := ls, stack := .ref T.heap.size :: .ref T.heap.size :: [], locked := none }) rfl d4' _ hsteps
/-- throw new NoSuchElementException("text"): its constructor's link to the one above is at another place than the others' -/
theorem kx_throwN {text : String} {ik is ic : Nat} (B : kp_B p l s m args meth c own cc nL ret D ty sz) (htr : l.stackTraces = false) (hexc : ∀ x ∈ c.exceptionTable.toList, False) (hH : kx_H s)
    (k0 : Cond.methodLink own ic (Bundle.initS kx_N) ∈ lw_tbl)
    (k1 : Cond.classLink own ik kx_N ∈ lw_tbl) (k2 : Cond.initialized kx_N ∈ lw_tbl) (k3 : Cond.stringRef own is text ∈ lw_tbl) (hls : ls.size = nL)
    (d0 : decode cc pc = .ok (.new ik, 3)) (d3 : decode cc (pc + 3) = .ok (.dup, 1)) (d4 : decode cc (pc + 4) = .ok (.ldc is, 2)) (d6 : decode cc (pc + 6) = .ok (.invokespecial ic, 3)) (d9 : decode cc (pc + 9) = .ok (.athrow, 1))
    (hRf : 5 < R.frames) (hRl : 82 ≤ R.locals) (hRc : 1 ≤ R.cells) (hRs : 6 ≤ R.slots) (hf : f = none) :
    W p l e R s m args below meth c s.heap [] 0 0 (kx_MQ below (kx_Q D sz f ws' kx_N) args s) (F0 m pc ls []) := by
  obtain ⟨hx, hb, hml, ho, hlk, hr, hw, hE, hK, hz⟩ := B
  intro T hT X
  have htr' : e.platform.stackTraces = false := (show e.platform.stackTraces = l.stackTraces by rw [X.admits.platform]).trans htr
  have h : ∀ w ∈ kx_atN, w.before args s = true := fun w hm => (kx_atN_in w hm).elim (fun q => hH args w q) (fun q => hw w q.1 q.2)
  have hins : (Cond.instantiable kx_N 6).before args s = true := h _ (by simp [kx_atN])
  have hstr := hw _ k3 rfl
  obtain ⟨_, _, _, sa, -, -, -, -, -, hev⟩ := Cond.stringRef_spec ho hstr
  obtain ⟨vm₁, cX, kX, hfX, hkX, -, -, X₁, st1⟩ := X.newCold hx (own := own) (C := kx_N) (index := ik) (n := 6) ho (hw _ k1 rfl) hins (hw _ k2 rfl) (g := F0 m pc ls []) rfl (by rw [hb]; exact d0) (by omega) (by omega)
  generalize hT1 : (T.setVm vm₁).pushCell { cls := cX, slots := kX.instanceTypes.map defaultValue, vm := .none } = T1 at X₁ st1
  have hcat : (Value.ref T.heap.size).category = 1 := rfl
  have hcellA : T1.heap[T.heap.size]? = some (freshCell cX kX) := by rw [← hT1]; exact State.heap_pushCell_size _ _
  have d3' : decode c.code (pc + 3) = .ok (.dup, 1) := by rw [hb]; exact d3
  have d4' : decode c.code (pc + 4) = .ok (.ldc is, 2) := by rw [hb]; exact d4
  obtain ⟨U, hsteps, hrun, hend, hW, hsame, ce, hce, hcv, hcl⟩ := kx_ctorN X₁ hx htr' ho (hw _ k0 rfl) h hfX hkX hcellA (by rw [hT]; exact Nat.le_refl _) (msg := .ref sa) rfl
    (g := { method := m, pc := pc + 6, locals := ls, stack := .ref sa :: .ref T.heap.size :: .ref T.heap.size :: [], locked := none }) rfl (hls.trans hml.symm) rfl rfl rfl
    (by rw [hb]; exact d6) (by rw [hb]; exact d9) (fun x hx => (hexc x hx).elim) hRf (by simp only [List.map_cons, List.sum_cons, List.map_nil, List.sum_nil, hcat]; omega) hlk
  refine ⟨U, ?_, .threw T.heap.size, hrun, hend, Or.inr ⟨T.heap.size, ce, hf, rfl, hce, hcv, hcl, hW, hsame.mono (by omega) (by omega)⟩⟩
  refine st1 _ ?_
  show Steps p.tables e below (T1.setTop { method := m, pc := pc + 3, locals := ls, stack := .ref T.heap.size :: [], locked := none }) _
  jvm_step X₁.here [X₁.here.top, hx, d3', Value.category]
  exact X₁.ldcString hx (own := own) (text := text) (index := is) (a := sa) ho hstr hev
    (g := { method := m, pc := pc + 4, locals := ls, stack := .ref T.heap.size :: .ref T.heap.size :: [], locked := none }) rfl d4' _ hsteps
/-- what was there before a throw is there behind it -/
theorem kx_kept {st t : State} {k n : Nat} (h : st.sameButNew ({ t with vm := st.vm } : State) [] k n) : st.heap.size ≤ t.heap.size ∧ ∀ q : Nat, q < st.heap.size → t.heap[q]? = st.heap[q]? := by
  obtain ⟨-, h2, -, -, -, h6⟩ := h
  refine ⟨h2, fun q hq => ?_⟩
  obtain ⟨c9, e1, e2, e3, e4⟩ := h6 q _ (Array.getElem?_eq_getElem hq)
  have hs : c9.slots = (st.heap[q]).slots := Array.ext_getElem? fun i => e4 i (fun hm => nomatch hm)
  have h9 : c9 = st.heap[q] := by
    rw [hs] at e2
    exact e2
  have e5 : t.heap[q]? = some c9 := e1
  rw [e5, h9, Array.getElem?_eq_getElem hq]
/-- an exception q flies over the frame g -/
def kx_W (p : Program) (l : Launch) (e : Env) (R : Room) (s : State) (m : MethodId) (args : Array Value) (below : List Frame) (meth : Method) (c : Code) (H : Heap) (locs : List Loc) (cells slots : Nat) (Q : State → Prop) (g : JFrame) (q : Addr) : Prop :=
  ∀ T : State, T.heap = H → Stand p l e R s m args below meth c T locs cells slots → ∃ t, Steps p.tables e below ((T.setTop g).pushFrame (.throwing q)) t ∧ Q t
variable {y : MethodName} {bytes : ByteArray} {maxL index : Nat} {rt : Option FieldType} {rm : Room} {b : Addr} {As st0 : List Value}
/-- a virtual call of a method that may throw -/
theorem kx_callV (B : kp_B p l s m args meth c own cc nL ret D ty sz) (hM : kx_M l y bytes maxL rt rm D ty sz (.ref b :: As) ws f ws' E) (hT : kp_T y bytes maxL rt As.length)
    (hl : Cond.methodLink own index y ∈ lw_tbl) (hi : Cond.instanceMethod y ∈ lw_tbl) (hs : Cond.selects y.cls y y ∈ lw_tbl) (hrc : ∃ cell : Cell, H[b]? = some cell ∧ cell.vm.isStatics = false ∧ s.vm.findClass y.cls = some cell.cls)
    (hR : rm.frames + 1 ≤ R.frames ∧ 8 + (maxL + 11) + rm.locals ≤ R.locals) (h16 : rm.cells = 1 ∧ rm.slots = 6) (hC : cells + 1 ≤ R.cells ∧ slots + 6 ≤ R.slots) (hst : st0 = As.reverse ++ .ref b :: rest) (hrt : (rest.map fun v => v.category).sum ≤ 8) (hls : ls.size = nL)
    (hP : va_P D vwCl ws H) (hS : va_S (kp_A sz) s.heap H locs) (hX : ∀ U : State, U.heap = H → s.vm.Alike U.vm → kx_H U) (hdg : decode cc pc = .ok (.invokevirtual index, 3))
    (kr : ∀ (v : Value) (H1 : Heap) (locs1 : List Loc), f = some v → va_P D vwCl ws' H1 → va_S (kp_A sz) s.heap H1 locs1 → W p l e R s m args below meth c H1 locs1 (cells + 1) (slots + 6) Q (F0 m (pc + 3) ls (v :: rest)))
    (kt : ∀ (q : Addr) (ce : Cell) (H1 : Heap), f = none → H1[q]? = some ce → ce.vm = .none → s.vm.findClass E = some ce.cls → va_P D vwCl ws H1 → va_S (kp_A sz) s.heap H1 locs → kx_W p l e R s m args below meth c H1 locs (cells + 1) (slots + 6) Q (F0 m pc ls rest) q) :
    W p l e R s m args below meth c H locs cells slots Q (F0 m pc ls st0) := by
  have hz := kp_hz B hS
  obtain ⟨hx, hb, hml, ho, hlk, hr, hw, hE, hK, -⟩ := B
  obtain ⟨t1, t2, t3, t4⟩ := hT
  obtain ⟨cellB, hcB, hoB, hclB⟩ := hrc
  intro T hTH X
  subst hst
  obtain ⟨mk, methM, hnamed, hmethM, hstM, habM⟩ := Cond.instanceMethod_spec (hw _ hi rfl)
  obtain ⟨methM', cM, hmethM', hcM, -, hlM, -, -, -, hsigM⟩ := Cond.code_spec hnamed (hw _ t1 rfl)
  cases hmethM.symm.trans hmethM'
  obtain ⟨c2, r2, m2, q1, q2, q3, q4, kP, hkP, hkPi⟩ := Cond.selects_spec (hw _ hs rfl)
  cases hclB.symm.trans q1
  cases (State.methodFound?_of_named hnamed t3).symm.trans q2
  cases hnamed.symm.trans q3
  have hselP : selectMethod e.platform s.vm cellB.cls mk = .method mk := by rw [Launch.admits_selectMethod X.admits]; exact q4
  obtain ⟨vm₁, X₁, hstep₁⟩ := X.invokevirtual hx ho (hw _ hl rfl) hnamed hmethM hstM hkP hkPi t3 (a := b) (cell := cellB) (by rw [hTH]; exact hcB)
    (fun z h => by rw [h] at hoB; cases hoB) hselP hmethM habM hkP hkPi (g := F0 m pc ls (As.reverse ++ .ref b :: rest)) rfl (argsL := As) (rest := rest) (by rw [hsigM] at t4; exact (Option.some.inj t4).symm) rfl (by rw [hb]; exact hdg)
  have hn1 : (T.setVm vm₁).methodNamed? y = some mk := X₁.named hnamed
  obtain ⟨methY, cY, hmY, hcY, -, hlY, -, -, -, -⟩ := Cond.code_spec hn1 (kp_at (a' := #[]) X₁.warmed rfl (hw _ t1 rfl))
  obtain ⟨kY, hkY, -⟩ := className_of_methodNamed hn1
  have hinitY : kY.init = .initialized := Cond.initialized_spec (findClass_of_methodNamed hn1) hkY (kp_at (a' := #[]) X₁.warmed rfl (hw _ t2 rfl))
  have hg0 : (2 * (F0 m pc ls rest).monitorRoom + ((F0 m pc ls rest).stack.map fun v => v.category).sum ≤ 8) := lv_room hrt
  have happ : (headSpec [Cond.code y bytes maxL rt] rm).appliesLoose y e.platform ((T.setVm vm₁).calling (F0 m pc ls rest) mk (Value.ref b :: As).toArray) = true :=
    Spec.appliesLoose_calling (g := F0 m pc ls rest) X₁.here (by rw [hb]; exact hdg) hn1 hkY hinitY
      (X₁.room_calling (g := F0 m pc ls rest) (R' := (headSpec [Cond.code y bytes maxL rt] rm).room) (hls.trans hml.symm) hmY hcY hR.1 (by rw [hlY]; have := hR.2; show _ + rm.locals ≤ _; omega) (by show cells + rm.cells ≤ _; omega) (by show slots + rm.slots ≤ _; omega))
      (atoms_intro fun w hm => by rw [List.mem_singleton.mp hm]; exact kp_at X₁.warmed rfl (hw _ t1 rfl))
  have hPc : va_Pc (Value.ref b :: As) (kx_P D ty sz ws) (Value.ref b :: As).toArray ((T.setVm vm₁).calling (F0 m pc ls rest) mk (Value.ref b :: As).toArray) := by
    have h1 := kp_P.at (av := Value.ref b :: As) hE hK hP hz ((T.setVm vm₁).calling (F0 m pc ls rest) mk (Value.ref b :: As).toArray) hTH X₁.warmed
    exact ⟨rfl, h1.2, hX _ hTH X₁.warmed.alike⟩
  obtain ⟨mid, hmid⟩ := X₁.here.above
  have hfr : ((T.setVm vm₁).setTop (F0 m pc ls rest)).frames = (.java (F0 m pc ls rest) :: mid) ++ below := by rw [State.frames_setTop' _ X₁.here.top, hmid]; rfl
  obtain ⟨o, s₂, hsteps, -, hend, hq⟩ := Steps.callFree hM p X.admits X.cas X.clock (acts := []) hfr happ hPc trivial
  rw [State.frames_setTop' _ X₁.here.top, X₁.tail] at hend
  have hst0 : (((T.setVm vm₁).setTop (F0 m pc ls rest)).pushFrame (.invoking mk (Value.ref b :: As).toArray)).heap = H := hTH
  rcases hq with ⟨v, hfv, rfl, hp, hF, L, hFE, hL⟩ | ⟨q, ce, hfn, rfl, hce, hcv, hcl, hW2, hsm⟩
  · obtain ⟨T', X', hW', hsame', ht⟩ := X₁.outOf (g := F0 m pc ls rest) rfl (by rw [hb]; exact hdg) hend hFE.2.1 hFE.2.2
    have hheap : T'.heap = s₂.heap := by rw [ht]; rfl
    obtain ⟨hz1, hk1⟩ := hF
    rw [hst0] at hz1 hk1
    obtain ⟨t9, a1, b1⟩ := kr v T'.heap (locs ++ L) hfv (by rw [hheap]; exact hp)
      ⟨Nat.le_trans hS.1 (by rw [hheap]; exact hz1), fun q h1 h2 => by rw [hheap, hk1 q (Nat.lt_of_lt_of_le h1 hS.1) h2]; exact hS.2.1 q h1 h2, fun q hq => by
        rcases List.mem_append.mp hq with h | h
        · exact hS.2.2 q h
        · exact hL q h⟩ T' rfl X'
    refine ⟨t9, hstep₁ _ fun acts => ?_, b1⟩
    rw [doInvoke_state]
    refine hsteps.trans ?_
    rw [ht]
    exact a1
  · obtain ⟨T', X', hW', hsame', ht⟩ := X₁.outOfThrown (g := F0 m pc ls rest) rfl hend hW2 hsm
    have hheap : T'.heap = s₂.heap := by rw [ht]; exact (Stand.throwing_heap T' _ q).symm
    obtain ⟨hz1, hk1⟩ := kx_kept hsm
    rw [hst0] at hz1 hk1
    rw [List.append_nil] at X'
    obtain ⟨t9, a1, b1⟩ := kt q ce T'.heap hfn (by rw [hheap]; exact hce) hcv (by rw [← X₁.warmed.alike.findClass]; exact hcl) (hP.kept (fun k z hk => by rw [hheap]; exact hk1 z.1 (hP k z hk).lt))
      ⟨Nat.le_trans hS.1 (by rw [hheap]; exact hz1), fun q h1 h2 => by rw [hheap, hk1 q (Nat.lt_of_lt_of_le h1 hS.1)]; exact hS.2.1 q h1 h2, hS.2.2⟩ T' rfl X'
    refine ⟨t9, hstep₁ _ fun acts => ?_, b1⟩
    rw [doInvoke_state]
    refine hsteps.trans ?_
    rw [ht]
    exact a1
/-- caught by the one row of this method's table -/
theorem kx_catch {x : ExceptionTableEntry} {q : Addr} {ce : Cell} (B : kp_B p l s m args meth c own cc nL ret D ty sz) (htab : c.exceptionTable.toList = [x]) (hcov : covers x pc = true) (h0 : x.catchType ≠ 0)
    (hl : Cond.classLink own x.catchType E ∈ lw_tbl) (hca : Cond.castable E E ∈ lw_tbl) (hcell : H[q]? = some ce) (hv : ce.vm = .none) (hcl : s.vm.findClass E = some ce.cls)
    (kk : W p l e R s m args below meth c H locs cells slots Q (F0 m x.handlerPc ls [.ref q])) : kx_W p l e R s m args below meth c H locs cells slots Q (F0 m pc ls rest) q := by
  obtain ⟨hx, hb, hml, ho, hlk, hr, hw, hE, hK, hz⟩ := B
  intro T hT X
  have hpl : e.platform.magicAccessors = ({} : Platform).magicAccessors := by rw [X.admits.platform]
  obtain ⟨c3, c4, hc3, hc4, hasg⟩ := Cond.castable_spec (hw _ hca rfl)
  cases Option.some.inj (hc3.symm.trans hcl)
  cases Option.some.inj (hc4.symm.trans hcl)
  obtain ⟨c5, hc5, hcl5⟩ := Cond.classLink_spec ho (hw _ hl rfl) e.platform hpl
  cases Option.some.inj (hc5.symm.trans hcl)
  obtain ⟨dk, _, _, kt, hd, _, _, _, _, hkt, _, hopen⟩ := hcl5.here
  have hW' : s.WarmedH (T.vm.noted m.cls x.catchType (.cls ce.cls)) := X.warmed.noted hd hopen (State.rightAt_cls hcl5)
  have X' := X.noted hW'
  obtain ⟨t, a1, b1⟩ := kk (T.setVm (T.vm.noted m.cls x.catchType (.cls ce.cls))) hT X'
  refine ⟨t, ?_, b1⟩
  have hL : T.vm.ClassLinks e.platform m.cls x.catchType ce.cls := X.warmed.classLinks hcl5
  obtain ⟨ha, ht⟩ := (resolveClass_links e.toSetting hL).op (op := VmOp.resolveClass m.cls x.catchType) rfl
  obtain ⟨kt', hkt', -⟩ := hW'.alike.2.2 _ _ hkt
  have hfit : (T.vm.noted m.cls x.catchType (.cls ce.cls)).assignable ce.cls ce.cls = true := by rw [hW'.alike.assignable]; exact hasg
  have hcov' := hcov
  simp only [covers] at hcov'
  have hfind : ∀ (Q : Handler → Pre) (E : CtlPost) (d : Bool) (acts : List Action), wp (findHandler (F0 m pc ls rest) q) Q E e d acts ((T.setTop (F0 m pc ls rest)).pushFrame (.throwing q)) ↔ Q (.found x.handlerPc) d acts (((T.setTop (F0 m pc ls rest)).pushFrame (.throwing q)).setVm (T.vm.noted m.cls x.catchType (.cls ce.cls))) := by
    intro Q E d acts
    have hvm9 : ((T.setTop (F0 m pc ls rest)).pushFrame (.throwing q)).vm = T.vm := Stand.throwing_vm T _ q
    have hhp9 : ((T.setTop (F0 m pc ls rest)).pushFrame (.throwing q)).heap[q]? = some ce := by rw [Stand.throwing_heap, hT]; exact hcell
    have hob9 : ∀ k, ce.vm ≠ .statics k := fun k h => by rw [hv] at h; cases h
    rw [W.findHandler_eq (meth := meth) (code := c) (by rw [hvm9]; exact X.method') X.code, htab]
    generalize (T.setTop (F0 m pc ls rest)).pushFrame (.throwing q) = S at hvm9 hhp9 ⊢
    rw [← hvm9] at ha ht hkt' hfit ⊢
    simp [findHandler.go, hcov', h0, ha, ht, hhp9, hob9, hkt', hfit, VmOp.dirties, VmOp.acts]
  obtain ⟨hgo, hwi⟩ := X.here.throwing (g := F0 m pc ls rest) q
  refine Steps.head hgo hwi ?_
  have hstep : (stepThrowing e ((T.setTop (F0 m pc ls rest)).pushFrame (.throwing q)) q (.java (F0 m pc ls rest) :: T.frames.tail)).Is ((((T.setTop (F0 m pc ls rest)).pushFrame (.throwing q)).setVm (T.vm.noted m.cls x.catchType (.cls ce.cls))).setFrames (.java { F0 m pc ls rest with pc := x.handlerPc, stack := [.ref q] } :: T.frames.tail)) [] := by
    simp only [stepThrowing, searchFrame, vmDo]
    generalize hr9 : Sem.go _ e false [] ((T.setTop (F0 m pc ls rest)).pushFrame (.throwing q)) = res
    obtain ⟨as, rfl, ha9⟩ := Sem.eq_ok_of hr9 (a := Handler.found x.handlerPc) (s' := ((T.setTop (F0 m pc ls rest)).pushFrame (.throwing q)).setVm (T.vm.noted m.cls x.catchType (.cls ce.cls))) (acts' := []) (by simp [hfind _ _ _ _])
    exact ⟨rfl, ha9⟩
  rw [stepThread_throwing (frames_entered X.here.top _), hstep.1]
  obtain ⟨g₀, hg⟩ := Option.isSome_iff_exists.mp X.here.top
  obtain ⟨r, hr⟩ := State.topJava?_eq_some.mp hg
  have hr' : (T.setVm (T.vm.noted m.cls x.catchType (.cls ce.cls))).frames = .java g₀ :: r := hr
  rw [State.setTop_of_frames _ hr'] at a1
  have hsv : ∀ (u : State) (vm' : Vm) (F G : List Frame), ((u.setFrames F).setVm vm').setFrames G = (u.setVm vm').setFrames G := by
    intro u vm' F G
    have h1 : (u.setFrames F).setVm vm' = (u.setVm vm').setFrames F := rfl
    rw [h1, State.setFrames_setFrames]
  rw [hr, List.tail_cons, State.pushFrame, hsv, State.setTop_of_frames _ hr, hsv]
  exact a1
end KXR
end

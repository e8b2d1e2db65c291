-- ===== PART A: goes FIRST, ahead of the names: the tables' words, and 'selects' of the private methods out of them =====
/-- a private method of a class that the tables say can be made, by its rows of tables_1 -/
def lw_okq (q : MethodName × Nat) : Prop := (q.1.cls ≠ "java/lang/invoke/MethodHandle" ∧ q.1.cls ≠ "java/lang/invoke/VarHandle") ∧ Cond.instantiable q.1.cls q.2 ∈ tables_1 ∧ Cond.privateMethod q.1 ∈ tables_1 ∧ Cond.instanceMethod q.1 ∈ tables_1
theorem lw_p0 : lw_okq (⟨"QuakeLists$Quakes", "isFull", "()Z"⟩, 9) := ⟨⟨by decide +kernel, by decide +kernel⟩, List.mem_of_getElem? (i := 22) (by decide +kernel), List.mem_of_getElem? (i := 310) (by decide +kernel), List.mem_of_getElem? (i := 311) (by decide +kernel)⟩
theorem lw_p1 : lw_okq (⟨"QuakeLists$Quakes", "add", "(IIIIII)I"⟩, 9) := ⟨⟨by decide +kernel, by decide +kernel⟩, List.mem_of_getElem? (i := 22) (by decide +kernel), List.mem_of_getElem? (i := 314) (by decide +kernel), List.mem_of_getElem? (i := 315) (by decide +kernel)⟩
theorem lw_p2 : lw_okq (⟨"QuakeLists$Quakes", "putInOrder", "(I)V"⟩, 9) := ⟨⟨by decide +kernel, by decide +kernel⟩, List.mem_of_getElem? (i := 22) (by decide +kernel), List.mem_of_getElem? (i := 318) (by decide +kernel), List.mem_of_getElem? (i := 319) (by decide +kernel)⟩
theorem lw_p3 : lw_okq (⟨"QuakeLists$Quakes", "has", "(I)Z"⟩, 9) := ⟨⟨by decide +kernel, by decide +kernel⟩, List.mem_of_getElem? (i := 22) (by decide +kernel), List.mem_of_getElem? (i := 326) (by decide +kernel), List.mem_of_getElem? (i := 327) (by decide +kernel)⟩
theorem lw_p4 : lw_okq (⟨"QuakeLists$Quakes", "placeOf", "(I)I"⟩, 9) := ⟨⟨by decide +kernel, by decide +kernel⟩, List.mem_of_getElem? (i := 22) (by decide +kernel), List.mem_of_getElem? (i := 341) (by decide +kernel), List.mem_of_getElem? (i := 342) (by decide +kernel)⟩
theorem lw_p5 : lw_okq (⟨"QuakeLists$Quakes", "howManyIn", "(I)I"⟩, 9) := ⟨⟨by decide +kernel, by decide +kernel⟩, List.mem_of_getElem? (i := 22) (by decide +kernel), List.mem_of_getElem? (i := 357) (by decide +kernel), List.mem_of_getElem? (i := 358) (by decide +kernel)⟩
theorem lw_p6 : lw_okq (⟨"QuakeLists$Joining", "pairUp", "(LQuakeLists$Quakes;IIIII)V"⟩, 14) := ⟨⟨by decide +kernel, by decide +kernel⟩, List.mem_of_getElem? (i := 91) (by decide +kernel), List.mem_of_getElem? (i := 361) (by decide +kernel), List.mem_of_getElem? (i := 362) (by decide +kernel)⟩
theorem lw_p7 : lw_okq (⟨"QuakeLists$Joining", "fillCosts", "(LQuakeLists$Quakes;III)V"⟩, 14) := ⟨⟨by decide +kernel, by decide +kernel⟩, List.mem_of_getElem? (i := 91) (by decide +kernel), List.mem_of_getElem? (i := 368) (by decide +kernel), List.mem_of_getElem? (i := 369) (by decide +kernel)⟩
theorem lw_p8 : lw_okq (⟨"QuakeLists$Joining", "clearPrices", "()V"⟩, 14) := ⟨⟨by decide +kernel, by decide +kernel⟩, List.mem_of_getElem? (i := 91) (by decide +kernel), List.mem_of_getElem? (i := 402) (by decide +kernel), List.mem_of_getElem? (i := 403) (by decide +kernel)⟩
theorem lw_p9 : lw_okq (⟨"QuakeLists$Joining", "placeRow", "(I)V"⟩, 14) := ⟨⟨by decide +kernel, by decide +kernel⟩, List.mem_of_getElem? (i := 91) (by decide +kernel), List.mem_of_getElem? (i := 406) (by decide +kernel), List.mem_of_getElem? (i := 407) (by decide +kernel)⟩
theorem lw_p10 : lw_okq (⟨"QuakeLists$Joining", "loosen", "(I)V"⟩, 14) := ⟨⟨by decide +kernel, by decide +kernel⟩, List.mem_of_getElem? (i := 91) (by decide +kernel), List.mem_of_getElem? (i := 411) (by decide +kernel), List.mem_of_getElem? (i := 412) (by decide +kernel)⟩
theorem lw_p11 : lw_okq (⟨"QuakeLists$Joining", "nearest", "()I"⟩, 14) := ⟨⟨by decide +kernel, by decide +kernel⟩, List.mem_of_getElem? (i := 91) (by decide +kernel), List.mem_of_getElem? (i := 415) (by decide +kernel), List.mem_of_getElem? (i := 416) (by decide +kernel)⟩
theorem lw_p12 : lw_okq (⟨"QuakeLists$Joining", "reprice", "(J)V"⟩, 14) := ⟨⟨by decide +kernel, by decide +kernel⟩, List.mem_of_getElem? (i := 91) (by decide +kernel), List.mem_of_getElem? (i := 419) (by decide +kernel), List.mem_of_getElem? (i := 420) (by decide +kernel)⟩
theorem lw_p13 : lw_okq (⟨"QuakeLists$Joining", "sumUp", "(LQuakeLists$Quakes;)V"⟩, 14) := ⟨⟨by decide +kernel, by decide +kernel⟩, List.mem_of_getElem? (i := 91) (by decide +kernel), List.mem_of_getElem? (i := 423) (by decide +kernel), List.mem_of_getElem? (i := 424) (by decide +kernel)⟩
theorem lw_p14 : lw_okq (⟨"QuakeLists$Joining", "partnerOf", "(I)I"⟩, 14) := ⟨⟨by decide +kernel, by decide +kernel⟩, List.mem_of_getElem? (i := 91) (by decide +kernel), List.mem_of_getElem? (i := 427) (by decide +kernel), List.mem_of_getElem? (i := 428) (by decide +kernel)⟩
theorem lw_p15 : lw_okq (⟨"QuakeLists$Counts", "howMany", "(LQuakeLists$Quakes;III)I"⟩, 1) := ⟨⟨by decide +kernel, by decide +kernel⟩, List.mem_of_getElem? (i := 145) (by decide +kernel), List.mem_of_getElem? (i := 438) (by decide +kernel), List.mem_of_getElem? (i := 439) (by decide +kernel)⟩
def lw_privs_1 : List (MethodName × Nat) := [(⟨"QuakeLists$Quakes", "isFull", "()Z"⟩, 9), (⟨"QuakeLists$Quakes", "add", "(IIIIII)I"⟩, 9), (⟨"QuakeLists$Quakes", "putInOrder", "(I)V"⟩, 9), (⟨"QuakeLists$Quakes", "has", "(I)Z"⟩, 9), (⟨"QuakeLists$Quakes", "placeOf", "(I)I"⟩, 9), (⟨"QuakeLists$Quakes", "howManyIn", "(I)I"⟩, 9), (⟨"QuakeLists$Joining", "pairUp", "(LQuakeLists$Quakes;IIIII)V"⟩, 14), (⟨"QuakeLists$Joining", "fillCosts", "(LQuakeLists$Quakes;III)V"⟩, 14), (⟨"QuakeLists$Joining", "clearPrices", "()V"⟩, 14), (⟨"QuakeLists$Joining", "placeRow", "(I)V"⟩, 14), (⟨"QuakeLists$Joining", "loosen", "(I)V"⟩, 14), (⟨"QuakeLists$Joining", "nearest", "()I"⟩, 14), (⟨"QuakeLists$Joining", "reprice", "(J)V"⟩, 14), (⟨"QuakeLists$Joining", "sumUp", "(LQuakeLists$Quakes;)V"⟩, 14), (⟨"QuakeLists$Joining", "partnerOf", "(I)I"⟩, 14), (⟨"QuakeLists$Counts", "howMany", "(LQuakeLists$Quakes;III)I"⟩, 1)]
theorem lw_r1 : ∀ q ∈ lw_privs_1, lw_okq q := List.forall_mem_cons.mpr ⟨lw_p0, List.forall_mem_cons.mpr ⟨lw_p1, List.forall_mem_cons.mpr ⟨lw_p2, List.forall_mem_cons.mpr ⟨lw_p3, List.forall_mem_cons.mpr ⟨lw_p4, List.forall_mem_cons.mpr ⟨lw_p5, List.forall_mem_cons.mpr ⟨lw_p6, List.forall_mem_cons.mpr ⟨lw_p7, List.forall_mem_cons.mpr ⟨lw_p8, List.forall_mem_cons.mpr ⟨lw_p9, List.forall_mem_cons.mpr ⟨lw_p10, List.forall_mem_cons.mpr ⟨lw_p11, List.forall_mem_cons.mpr ⟨lw_p12, List.forall_mem_cons.mpr ⟨lw_p13, List.forall_mem_cons.mpr ⟨lw_p14, List.forall_mem_cons.mpr ⟨lw_p15, fun _ h => absurd h List.not_mem_nil⟩⟩⟩⟩⟩⟩⟩⟩⟩⟩⟩⟩⟩⟩⟩⟩
theorem lw_p16 : lw_okq (⟨"QuakeLists$Quakes", "isCounted", "(III)Z"⟩, 9) := ⟨⟨by decide +kernel, by decide +kernel⟩, List.mem_of_getElem? (i := 22) (by decide +kernel), List.mem_of_getElem? (i := 442) (by decide +kernel), List.mem_of_getElem? (i := 443) (by decide +kernel)⟩
theorem lw_p17 : lw_okq (⟨"QuakeLists$Counts", "commonest", "(LQuakeLists$Quakes;II)I"⟩, 1) := ⟨⟨by decide +kernel, by decide +kernel⟩, List.mem_of_getElem? (i := 145) (by decide +kernel), List.mem_of_getElem? (i := 450) (by decide +kernel), List.mem_of_getElem? (i := 451) (by decide +kernel)⟩
theorem lw_p18 : lw_okq (⟨"QuakeLists$Counts", "sumAbove", "(LQuakeLists$Quakes;III)I"⟩, 1) := ⟨⟨by decide +kernel, by decide +kernel⟩, List.mem_of_getElem? (i := 145) (by decide +kernel), List.mem_of_getElem? (i := 464) (by decide +kernel), List.mem_of_getElem? (i := 465) (by decide +kernel)⟩
theorem lw_p19 : lw_okq (⟨"QuakeLists$Mothers", "stepsOf", "(I)[I"⟩, 5) := ⟨⟨by decide +kernel, by decide +kernel⟩, List.mem_of_getElem? (i := 155) (by decide +kernel), List.mem_of_getElem? (i := 501) (by decide +kernel), List.mem_of_getElem? (i := 502) (by decide +kernel)⟩
theorem lw_p20 : lw_okq (⟨"QuakeLists$Mothers", "weightIfAhead", "(LQuakeLists$Quakes;III)I"⟩, 5) := ⟨⟨by decide +kernel, by decide +kernel⟩, List.mem_of_getElem? (i := 155) (by decide +kernel), List.mem_of_getElem? (i := 510) (by decide +kernel), List.mem_of_getElem? (i := 511) (by decide +kernel)⟩
theorem lw_p21 : lw_okq (⟨"QuakeLists$Mothers", "weight", "(LQuakeLists$Quakes;II)I"⟩, 5) := ⟨⟨by decide +kernel, by decide +kernel⟩, List.mem_of_getElem? (i := 155) (by decide +kernel), List.mem_of_getElem? (i := 516) (by decide +kernel), List.mem_of_getElem? (i := 517) (by decide +kernel)⟩
theorem lw_p22 : lw_okq (⟨"QuakeLists$Mothers", "weightAt", "(LQuakeLists$Quakes;IIII)I"⟩, 5) := ⟨⟨by decide +kernel, by decide +kernel⟩, List.mem_of_getElem? (i := 155) (by decide +kernel), List.mem_of_getElem? (i := 520) (by decide +kernel), List.mem_of_getElem? (i := 521) (by decide +kernel)⟩
theorem lw_p23 : lw_okq (⟨"QuakeLists$Mothers", "allWeights", "(LQuakeLists$Quakes;III)I"⟩, 5) := ⟨⟨by decide +kernel, by decide +kernel⟩, List.mem_of_getElem? (i := 155) (by decide +kernel), List.mem_of_getElem? (i := 531) (by decide +kernel), List.mem_of_getElem? (i := 532) (by decide +kernel)⟩
theorem lw_p24 : lw_okq (⟨"QuakeLists", "refusalOfDaughter", "(IIZ)I"⟩, 10) := ⟨⟨by decide +kernel, by decide +kernel⟩, List.mem_of_getElem? (i := 14) (by decide +kernel), List.mem_of_getElem? (i := 539) (by decide +kernel), List.mem_of_getElem? (i := 540) (by decide +kernel)⟩
theorem lw_p25 : lw_okq (⟨"QuakeLists$Mothers", "likeliest", "(LQuakeLists$Quakes;III)I"⟩, 5) := ⟨⟨by decide +kernel, by decide +kernel⟩, List.mem_of_getElem? (i := 155) (by decide +kernel), List.mem_of_getElem? (i := 543) (by decide +kernel), List.mem_of_getElem? (i := 544) (by decide +kernel)⟩
theorem lw_p26 : lw_okq (⟨"QuakeLists$Mothers", "trace", "(LQuakeLists$Quakes;II)V"⟩, 5) := ⟨⟨by decide +kernel, by decide +kernel⟩, List.mem_of_getElem? (i := 155) (by decide +kernel), List.mem_of_getElem? (i := 551) (by decide +kernel), List.mem_of_getElem? (i := 552) (by decide +kernel)⟩
theorem lw_p27 : lw_okq (⟨"QuakeLists$Mothers", "sizeOfFamily", "(LQuakeLists$Quakes;I)I"⟩, 5) := ⟨⟨by decide +kernel, by decide +kernel⟩, List.mem_of_getElem? (i := 155) (by decide +kernel), List.mem_of_getElem? (i := 556) (by decide +kernel), List.mem_of_getElem? (i := 557) (by decide +kernel)⟩
theorem lw_p28 : lw_okq (⟨"QuakeLists$Mothers", "deepestOfFamily", "(LQuakeLists$Quakes;I)I"⟩, 5) := ⟨⟨by decide +kernel, by decide +kernel⟩, List.mem_of_getElem? (i := 155) (by decide +kernel), List.mem_of_getElem? (i := 560) (by decide +kernel), List.mem_of_getElem? (i := 561) (by decide +kernel)⟩
theorem lw_p29 : lw_okq (⟨"QuakeLists$Mothers", "howManyFirst", "(LQuakeLists$Quakes;)I"⟩, 5) := ⟨⟨by decide +kernel, by decide +kernel⟩, List.mem_of_getElem? (i := 155) (by decide +kernel), List.mem_of_getElem? (i := 569) (by decide +kernel), List.mem_of_getElem? (i := 570) (by decide +kernel)⟩
theorem lw_p30 : lw_okq (⟨"QuakeLists$Mothers", "firstAt", "(LQuakeLists$Quakes;I)I"⟩, 5) := ⟨⟨by decide +kernel, by decide +kernel⟩, List.mem_of_getElem? (i := 155) (by decide +kernel), List.mem_of_getElem? (i := 573) (by decide +kernel), List.mem_of_getElem? (i := 574) (by decide +kernel)⟩
theorem lw_p31 : lw_okq (⟨"QuakeLists$Mothers", "drawn", "(LQuakeLists$Quakes;IIII)I"⟩, 5) := ⟨⟨by decide +kernel, by decide +kernel⟩, List.mem_of_getElem? (i := 155) (by decide +kernel), List.mem_of_getElem? (i := 582) (by decide +kernel), List.mem_of_getElem? (i := 583) (by decide +kernel)⟩
def lw_privs_2 : List (MethodName × Nat) := [(⟨"QuakeLists$Quakes", "isCounted", "(III)Z"⟩, 9), (⟨"QuakeLists$Counts", "commonest", "(LQuakeLists$Quakes;II)I"⟩, 1), (⟨"QuakeLists$Counts", "sumAbove", "(LQuakeLists$Quakes;III)I"⟩, 1), (⟨"QuakeLists$Mothers", "stepsOf", "(I)[I"⟩, 5), (⟨"QuakeLists$Mothers", "weightIfAhead", "(LQuakeLists$Quakes;III)I"⟩, 5), (⟨"QuakeLists$Mothers", "weight", "(LQuakeLists$Quakes;II)I"⟩, 5), (⟨"QuakeLists$Mothers", "weightAt", "(LQuakeLists$Quakes;IIII)I"⟩, 5), (⟨"QuakeLists$Mothers", "allWeights", "(LQuakeLists$Quakes;III)I"⟩, 5), (⟨"QuakeLists", "refusalOfDaughter", "(IIZ)I"⟩, 10), (⟨"QuakeLists$Mothers", "likeliest", "(LQuakeLists$Quakes;III)I"⟩, 5), (⟨"QuakeLists$Mothers", "trace", "(LQuakeLists$Quakes;II)V"⟩, 5), (⟨"QuakeLists$Mothers", "sizeOfFamily", "(LQuakeLists$Quakes;I)I"⟩, 5), (⟨"QuakeLists$Mothers", "deepestOfFamily", "(LQuakeLists$Quakes;I)I"⟩, 5), (⟨"QuakeLists$Mothers", "howManyFirst", "(LQuakeLists$Quakes;)I"⟩, 5), (⟨"QuakeLists$Mothers", "firstAt", "(LQuakeLists$Quakes;I)I"⟩, 5), (⟨"QuakeLists$Mothers", "drawn", "(LQuakeLists$Quakes;IIII)I"⟩, 5)]
theorem lw_r2 : ∀ q ∈ lw_privs_2, lw_okq q := List.forall_mem_cons.mpr ⟨lw_p16, List.forall_mem_cons.mpr ⟨lw_p17, List.forall_mem_cons.mpr ⟨lw_p18, List.forall_mem_cons.mpr ⟨lw_p19, List.forall_mem_cons.mpr ⟨lw_p20, List.forall_mem_cons.mpr ⟨lw_p21, List.forall_mem_cons.mpr ⟨lw_p22, List.forall_mem_cons.mpr ⟨lw_p23, List.forall_mem_cons.mpr ⟨lw_p24, List.forall_mem_cons.mpr ⟨lw_p25, List.forall_mem_cons.mpr ⟨lw_p26, List.forall_mem_cons.mpr ⟨lw_p27, List.forall_mem_cons.mpr ⟨lw_p28, List.forall_mem_cons.mpr ⟨lw_p29, List.forall_mem_cons.mpr ⟨lw_p30, List.forall_mem_cons.mpr ⟨lw_p31, fun _ h => absurd h List.not_mem_nil⟩⟩⟩⟩⟩⟩⟩⟩⟩⟩⟩⟩⟩⟩⟩⟩
theorem lw_p32 : lw_okq (⟨"QuakeLists$Mothers", "weightOn", "(LQuakeLists$Quakes;IIII)I"⟩, 5) := ⟨⟨by decide +kernel, by decide +kernel⟩, List.mem_of_getElem? (i := 155) (by decide +kernel), List.mem_of_getElem? (i := 594) (by decide +kernel), List.mem_of_getElem? (i := 595) (by decide +kernel)⟩
theorem lw_p33 : lw_okq (⟨"QuakeLists$Signs", "isFull", "()Z"⟩, 2) := ⟨⟨by decide +kernel, by decide +kernel⟩, List.mem_of_getElem? (i := 179) (by decide +kernel), List.mem_of_getElem? (i := 602) (by decide +kernel), List.mem_of_getElem? (i := 603) (by decide +kernel)⟩
theorem lw_p34 : lw_okq (⟨"QuakeLists$Signs", "add", "(I)I"⟩, 2) := ⟨⟨by decide +kernel, by decide +kernel⟩, List.mem_of_getElem? (i := 179) (by decide +kernel), List.mem_of_getElem? (i := 606) (by decide +kernel), List.mem_of_getElem? (i := 607) (by decide +kernel)⟩
theorem lw_p35 : lw_okq (⟨"QuakeLists$Signs", "faultyPlace", "()I"⟩, 2) := ⟨⟨by decide +kernel, by decide +kernel⟩, List.mem_of_getElem? (i := 179) (by decide +kernel), List.mem_of_getElem? (i := 618) (by decide +kernel), List.mem_of_getElem? (i := 619) (by decide +kernel)⟩
theorem lw_p36 : lw_okq (⟨"QuakeLists$Signs", "read", "()LQuakeLists$Forecast;"⟩, 2) := ⟨⟨by decide +kernel, by decide +kernel⟩, List.mem_of_getElem? (i := 179) (by decide +kernel), List.mem_of_getElem? (i := 631) (by decide +kernel), List.mem_of_getElem? (i := 632) (by decide +kernel)⟩
theorem lw_p37 : lw_okq (⟨"QuakeLists$Forecast", "take", "(II)V"⟩, 6) := ⟨⟨by decide +kernel, by decide +kernel⟩, List.mem_of_getElem? (i := 635) (by decide +kernel), List.mem_of_getElem? (i := 664) (by decide +kernel), List.mem_of_getElem? (i := 665) (by decide +kernel)⟩
theorem lw_p38 : lw_okq (⟨"QuakeLists", "forecastOf", "(I)LQuakeLists$Forecast;"⟩, 10) := ⟨⟨by decide +kernel, by decide +kernel⟩, List.mem_of_getElem? (i := 14) (by decide +kernel), List.mem_of_getElem? (i := 672) (by decide +kernel), List.mem_of_getElem? (i := 673) (by decide +kernel)⟩
theorem lw_p39 : lw_okq (⟨"QuakeLists$Forecast", "toldFor", "(LQuakeLists$Quakes;I)I"⟩, 6) := ⟨⟨by decide +kernel, by decide +kernel⟩, List.mem_of_getElem? (i := 635) (by decide +kernel), List.mem_of_getElem? (i := 676) (by decide +kernel), List.mem_of_getElem? (i := 677) (by decide +kernel)⟩
theorem lw_p40 : lw_okq (⟨"QuakeLists$Forecast", "howManyAhead", "(LQuakeLists$Quakes;II)I"⟩, 6) := ⟨⟨by decide +kernel, by decide +kernel⟩, List.mem_of_getElem? (i := 635) (by decide +kernel), List.mem_of_getElem? (i := 680) (by decide +kernel), List.mem_of_getElem? (i := 681) (by decide +kernel)⟩
theorem lw_p41 : lw_okq (⟨"QuakeLists$Quakes", "isGreat", "(II)Z"⟩, 9) := ⟨⟨by decide +kernel, by decide +kernel⟩, List.mem_of_getElem? (i := 22) (by decide +kernel), List.mem_of_getElem? (i := 684) (by decide +kernel), List.mem_of_getElem? (i := 685) (by decide +kernel)⟩
theorem lw_p42 : lw_okq (⟨"QuakeLists", "scoreOfMix", "(IIIIII)J"⟩, 10) := ⟨⟨by decide +kernel, by decide +kernel⟩, List.mem_of_getElem? (i := 14) (by decide +kernel), List.mem_of_getElem? (i := 693) (by decide +kernel), List.mem_of_getElem? (i := 694) (by decide +kernel)⟩
theorem lw_p43 : lw_okq (⟨"QuakeLists$Scores", "work", "(LQuakeLists$Quakes;LQuakeLists$Forecast;LQuakeLists$Forecast;III)V"⟩, 2) := ⟨⟨by decide +kernel, by decide +kernel⟩, List.mem_of_getElem? (i := 195) (by decide +kernel), List.mem_of_getElem? (i := 700) (by decide +kernel), List.mem_of_getElem? (i := 701) (by decide +kernel)⟩
theorem lw_p44 : lw_okq (⟨"QuakeLists$Scores", "markStrikes", "(LQuakeLists$Quakes;III)V"⟩, 2) := ⟨⟨by decide +kernel, by decide +kernel⟩, List.mem_of_getElem? (i := 195) (by decide +kernel), List.mem_of_getElem? (i := 704) (by decide +kernel), List.mem_of_getElem? (i := 705) (by decide +kernel)⟩
theorem lw_p45 : lw_okq (⟨"QuakeLists$Scores", "mark", "(III)V"⟩, 2) := ⟨⟨by decide +kernel, by decide +kernel⟩, List.mem_of_getElem? (i := 195) (by decide +kernel), List.mem_of_getElem? (i := 709) (by decide +kernel), List.mem_of_getElem? (i := 710) (by decide +kernel)⟩
theorem lw_p46 : lw_okq (⟨"QuakeLists$Scores", "markRules", "(LQuakeLists$Quakes;LQuakeLists$Forecast;II)V"⟩, 2) := ⟨⟨by decide +kernel, by decide +kernel⟩, List.mem_of_getElem? (i := 195) (by decide +kernel), List.mem_of_getElem? (i := 713) (by decide +kernel), List.mem_of_getElem? (i := 714) (by decide +kernel)⟩
theorem lw_p47 : lw_okq (⟨"QuakeLists$Scores", "addStretch", "(LQuakeLists$Quakes;LQuakeLists$Forecast;LQuakeLists$Forecast;III)V"⟩, 2) := ⟨⟨by decide +kernel, by decide +kernel⟩, List.mem_of_getElem? (i := 195) (by decide +kernel), List.mem_of_getElem? (i := 717) (by decide +kernel), List.mem_of_getElem? (i := 718) (by decide +kernel)⟩
def lw_privs_3 : List (MethodName × Nat) := [(⟨"QuakeLists$Mothers", "weightOn", "(LQuakeLists$Quakes;IIII)I"⟩, 5), (⟨"QuakeLists$Signs", "isFull", "()Z"⟩, 2), (⟨"QuakeLists$Signs", "add", "(I)I"⟩, 2), (⟨"QuakeLists$Signs", "faultyPlace", "()I"⟩, 2), (⟨"QuakeLists$Signs", "read", "()LQuakeLists$Forecast;"⟩, 2), (⟨"QuakeLists$Forecast", "take", "(II)V"⟩, 6), (⟨"QuakeLists", "forecastOf", "(I)LQuakeLists$Forecast;"⟩, 10), (⟨"QuakeLists$Forecast", "toldFor", "(LQuakeLists$Quakes;I)I"⟩, 6), (⟨"QuakeLists$Forecast", "howManyAhead", "(LQuakeLists$Quakes;II)I"⟩, 6), (⟨"QuakeLists$Quakes", "isGreat", "(II)Z"⟩, 9), (⟨"QuakeLists", "scoreOfMix", "(IIIIII)J"⟩, 10), (⟨"QuakeLists$Scores", "work", "(LQuakeLists$Quakes;LQuakeLists$Forecast;LQuakeLists$Forecast;III)V"⟩, 2), (⟨"QuakeLists$Scores", "markStrikes", "(LQuakeLists$Quakes;III)V"⟩, 2), (⟨"QuakeLists$Scores", "mark", "(III)V"⟩, 2), (⟨"QuakeLists$Scores", "markRules", "(LQuakeLists$Quakes;LQuakeLists$Forecast;II)V"⟩, 2), (⟨"QuakeLists$Scores", "addStretch", "(LQuakeLists$Quakes;LQuakeLists$Forecast;LQuakeLists$Forecast;III)V"⟩, 2)]
theorem lw_r3 : ∀ q ∈ lw_privs_3, lw_okq q := List.forall_mem_cons.mpr ⟨lw_p32, List.forall_mem_cons.mpr ⟨lw_p33, List.forall_mem_cons.mpr ⟨lw_p34, List.forall_mem_cons.mpr ⟨lw_p35, List.forall_mem_cons.mpr ⟨lw_p36, List.forall_mem_cons.mpr ⟨lw_p37, List.forall_mem_cons.mpr ⟨lw_p38, List.forall_mem_cons.mpr ⟨lw_p39, List.forall_mem_cons.mpr ⟨lw_p40, List.forall_mem_cons.mpr ⟨lw_p41, List.forall_mem_cons.mpr ⟨lw_p42, List.forall_mem_cons.mpr ⟨lw_p43, List.forall_mem_cons.mpr ⟨lw_p44, List.forall_mem_cons.mpr ⟨lw_p45, List.forall_mem_cons.mpr ⟨lw_p46, List.forall_mem_cons.mpr ⟨lw_p47, fun _ h => absurd h List.not_mem_nil⟩⟩⟩⟩⟩⟩⟩⟩⟩⟩⟩⟩⟩⟩⟩⟩
theorem lw_p48 : lw_okq (⟨"QuakeLists$Quakes", "strikes", "(II)Z"⟩, 9) := ⟨⟨by decide +kernel, by decide +kernel⟩, List.mem_of_getElem? (i := 22) (by decide +kernel), List.mem_of_getElem? (i := 722) (by decide +kernel), List.mem_of_getElem? (i := 723) (by decide +kernel)⟩
theorem lw_p49 : lw_okq (⟨"QuakeLists$Scores", "leastMix", "()I"⟩, 2) := ⟨⟨by decide +kernel, by decide +kernel⟩, List.mem_of_getElem? (i := 195) (by decide +kernel), List.mem_of_getElem? (i := 736) (by decide +kernel), List.mem_of_getElem? (i := 737) (by decide +kernel)⟩
theorem lw_p50 : lw_okq (⟨"QuakeLists$Ground", "build", "(IIIII)I"⟩, 13) := ⟨⟨by decide +kernel, by decide +kernel⟩, List.mem_of_getElem? (i := 209) (by decide +kernel), List.mem_of_getElem? (i := 744) (by decide +kernel), List.mem_of_getElem? (i := 745) (by decide +kernel)⟩
theorem lw_p51 : lw_okq (⟨"QuakeLists$Ground", "lossByQuake", "(LQuakeLists$Quakes;II)I"⟩, 13) := ⟨⟨by decide +kernel, by decide +kernel⟩, List.mem_of_getElem? (i := 209) (by decide +kernel), List.mem_of_getElem? (i := 756) (by decide +kernel), List.mem_of_getElem? (i := 757) (by decide +kernel)⟩
theorem lw_p52 : lw_okq (⟨"QuakeLists$Ground", "lossInAll", "(IIIII)I"⟩, 13) := ⟨⟨by decide +kernel, by decide +kernel⟩, List.mem_of_getElem? (i := 209) (by decide +kernel), List.mem_of_getElem? (i := 760) (by decide +kernel), List.mem_of_getElem? (i := 761) (by decide +kernel)⟩
theorem lw_p53 : lw_okq (⟨"QuakeLists$Ground", "lossOfHouse", "(IIIIII)I"⟩, 13) := ⟨⟨by decide +kernel, by decide +kernel⟩, List.mem_of_getElem? (i := 209) (by decide +kernel), List.mem_of_getElem? (i := 764) (by decide +kernel), List.mem_of_getElem? (i := 765) (by decide +kernel)⟩
theorem lw_p54 : lw_okq (⟨"QuakeLists$Ground", "worstQuake", "(LQuakeLists$Quakes;II)I"⟩, 13) := ⟨⟨by decide +kernel, by decide +kernel⟩, List.mem_of_getElem? (i := 209) (by decide +kernel), List.mem_of_getElem? (i := 774) (by decide +kernel), List.mem_of_getElem? (i := 775) (by decide +kernel)⟩
theorem lw_p55 : lw_okq (⟨"QuakeLists$Ground", "enact", "(IIII)I"⟩, 13) := ⟨⟨by decide +kernel, by decide +kernel⟩, List.mem_of_getElem? (i := 209) (by decide +kernel), List.mem_of_getElem? (i := 784) (by decide +kernel), List.mem_of_getElem? (i := 785) (by decide +kernel)⟩
theorem lw_p56 : lw_okq (⟨"QuakeLists$Ground", "howOftenAbove", "(II)I"⟩, 13) := ⟨⟨by decide +kernel, by decide +kernel⟩, List.mem_of_getElem? (i := 209) (by decide +kernel), List.mem_of_getElem? (i := 792) (by decide +kernel), List.mem_of_getElem? (i := 793) (by decide +kernel)⟩
theorem lw_p57 : lw_okq (⟨"QuakeLists$Ground", "lossByLaw", "(III)I"⟩, 13) := ⟨⟨by decide +kernel, by decide +kernel⟩, List.mem_of_getElem? (i := 209) (by decide +kernel), List.mem_of_getElem? (i := 796) (by decide +kernel), List.mem_of_getElem? (i := 797) (by decide +kernel)⟩
theorem lw_p58 : lw_okq (⟨"QuakeLists$Ground", "meanLoss", "(II)J"⟩, 13) := ⟨⟨by decide +kernel, by decide +kernel⟩, List.mem_of_getElem? (i := 209) (by decide +kernel), List.mem_of_getElem? (i := 804) (by decide +kernel), List.mem_of_getElem? (i := 805) (by decide +kernel)⟩
theorem lw_p59 : lw_okq (⟨"QuakeLists$Ground", "bestHouses", "(II)I"⟩, 13) := ⟨⟨by decide +kernel, by decide +kernel⟩, List.mem_of_getElem? (i := 209) (by decide +kernel), List.mem_of_getElem? (i := 812) (by decide +kernel), List.mem_of_getElem? (i := 813) (by decide +kernel)⟩
theorem lw_p60 : lw_okq (⟨"QuakeLists$Ground", "gainOf", "(II)J"⟩, 13) := ⟨⟨by decide +kernel, by decide +kernel⟩, List.mem_of_getElem? (i := 209) (by decide +kernel), List.mem_of_getElem? (i := 817) (by decide +kernel), List.mem_of_getElem? (i := 818) (by decide +kernel)⟩
theorem lw_p61 : lw_okq (⟨"QuakeLists$Ground", "offer", "(IJI)V"⟩, 13) := ⟨⟨by decide +kernel, by decide +kernel⟩, List.mem_of_getElem? (i := 209) (by decide +kernel), List.mem_of_getElem? (i := 822) (by decide +kernel), List.mem_of_getElem? (i := 823) (by decide +kernel)⟩
theorem lw_p62 : lw_okq (⟨"QuakeLists$Quakes", "howManyBlasts", "()I"⟩, 9) := ⟨⟨by decide +kernel, by decide +kernel⟩, List.mem_of_getElem? (i := 22) (by decide +kernel), List.mem_of_getElem? (i := 836) (by decide +kernel), List.mem_of_getElem? (i := 837) (by decide +kernel)⟩
theorem lw_p63 : lw_okq (⟨"QuakeListsModel", "isQuake", "(I)Z"⟩, 34) := ⟨⟨by decide +kernel, by decide +kernel⟩, List.mem_of_getElem? (i := 840) (by decide +kernel), List.mem_of_getElem? (i := 977) (by decide +kernel), List.mem_of_getElem? (i := 978) (by decide +kernel)⟩
def lw_privs_4 : List (MethodName × Nat) := [(⟨"QuakeLists$Quakes", "strikes", "(II)Z"⟩, 9), (⟨"QuakeLists$Scores", "leastMix", "()I"⟩, 2), (⟨"QuakeLists$Ground", "build", "(IIIII)I"⟩, 13), (⟨"QuakeLists$Ground", "lossByQuake", "(LQuakeLists$Quakes;II)I"⟩, 13), (⟨"QuakeLists$Ground", "lossInAll", "(IIIII)I"⟩, 13), (⟨"QuakeLists$Ground", "lossOfHouse", "(IIIIII)I"⟩, 13), (⟨"QuakeLists$Ground", "worstQuake", "(LQuakeLists$Quakes;II)I"⟩, 13), (⟨"QuakeLists$Ground", "enact", "(IIII)I"⟩, 13), (⟨"QuakeLists$Ground", "howOftenAbove", "(II)I"⟩, 13), (⟨"QuakeLists$Ground", "lossByLaw", "(III)I"⟩, 13), (⟨"QuakeLists$Ground", "meanLoss", "(II)J"⟩, 13), (⟨"QuakeLists$Ground", "bestHouses", "(II)I"⟩, 13), (⟨"QuakeLists$Ground", "gainOf", "(II)J"⟩, 13), (⟨"QuakeLists$Ground", "offer", "(IJI)V"⟩, 13), (⟨"QuakeLists$Quakes", "howManyBlasts", "()I"⟩, 9), (⟨"QuakeListsModel", "isQuake", "(I)Z"⟩, 34)]
theorem lw_r4 : ∀ q ∈ lw_privs_4, lw_okq q := List.forall_mem_cons.mpr ⟨lw_p48, List.forall_mem_cons.mpr ⟨lw_p49, List.forall_mem_cons.mpr ⟨lw_p50, List.forall_mem_cons.mpr ⟨lw_p51, List.forall_mem_cons.mpr ⟨lw_p52, List.forall_mem_cons.mpr ⟨lw_p53, List.forall_mem_cons.mpr ⟨lw_p54, List.forall_mem_cons.mpr ⟨lw_p55, List.forall_mem_cons.mpr ⟨lw_p56, List.forall_mem_cons.mpr ⟨lw_p57, List.forall_mem_cons.mpr ⟨lw_p58, List.forall_mem_cons.mpr ⟨lw_p59, List.forall_mem_cons.mpr ⟨lw_p60, List.forall_mem_cons.mpr ⟨lw_p61, List.forall_mem_cons.mpr ⟨lw_p62, List.forall_mem_cons.mpr ⟨lw_p63, fun _ h => absurd h List.not_mem_nil⟩⟩⟩⟩⟩⟩⟩⟩⟩⟩⟩⟩⟩⟩⟩⟩
theorem lw_p64 : lw_okq (⟨"QuakeListsModel", "placeOf", "(I)I"⟩, 34) := ⟨⟨by decide +kernel, by decide +kernel⟩, List.mem_of_getElem? (i := 840) (by decide +kernel), List.mem_of_getElem? (i := 989) (by decide +kernel), List.mem_of_getElem? (i := 990) (by decide +kernel)⟩
theorem lw_p65 : lw_okq (⟨"QuakeListsModel", "listed", "(IZ)I"⟩, 34) := ⟨⟨by decide +kernel, by decide +kernel⟩, List.mem_of_getElem? (i := 840) (by decide +kernel), List.mem_of_getElem? (i := 1006) (by decide +kernel), List.mem_of_getElem? (i := 1007) (by decide +kernel)⟩
theorem lw_p66 : lw_okq (⟨"QuakeListsModel", "findJoins", "()V"⟩, 34) := ⟨⟨by decide +kernel, by decide +kernel⟩, List.mem_of_getElem? (i := 840) (by decide +kernel), List.mem_of_getElem? (i := 1010) (by decide +kernel), List.mem_of_getElem? (i := 1011) (by decide +kernel)⟩
theorem lw_p67 : lw_okq (⟨"QuakeListsModel", "joinBy", "(III)I"⟩, 34) := ⟨⟨by decide +kernel, by decide +kernel⟩, List.mem_of_getElem? (i := 840) (by decide +kernel), List.mem_of_getElem? (i := 1014) (by decide +kernel), List.mem_of_getElem? (i := 1015) (by decide +kernel)⟩
theorem lw_p68 : lw_okq (⟨"QuakeListsModel", "missOf", "(II)I"⟩, 34) := ⟨⟨by decide +kernel, by decide +kernel⟩, List.mem_of_getElem? (i := 840) (by decide +kernel), List.mem_of_getElem? (i := 1018) (by decide +kernel), List.mem_of_getElem? (i := 1019) (by decide +kernel)⟩
theorem lw_p69 : lw_okq (⟨"QuakeListsModel", "countOf", "(III)I"⟩, 34) := ⟨⟨by decide +kernel, by decide +kernel⟩, List.mem_of_getElem? (i := 840) (by decide +kernel), List.mem_of_getElem? (i := 1036) (by decide +kernel), List.mem_of_getElem? (i := 1037) (by decide +kernel)⟩
theorem lw_p70 : lw_okq (⟨"QuakeListsModel", "isCounted", "(III)Z"⟩, 34) := ⟨⟨by decide +kernel, by decide +kernel⟩, List.mem_of_getElem? (i := 840) (by decide +kernel), List.mem_of_getElem? (i := 1040) (by decide +kernel), List.mem_of_getElem? (i := 1041) (by decide +kernel)⟩
theorem lw_p71 : lw_okq (⟨"QuakeListsModel", "mayBear", "(III)Z"⟩, 34) := ⟨⟨by decide +kernel, by decide +kernel⟩, List.mem_of_getElem? (i := 840) (by decide +kernel), List.mem_of_getElem? (i := 1087) (by decide +kernel), List.mem_of_getElem? (i := 1088) (by decide +kernel)⟩
theorem lw_p72 : lw_okq (⟨"QuakeListsModel", "isAhead", "(II)Z"⟩, 34) := ⟨⟨by decide +kernel, by decide +kernel⟩, List.mem_of_getElem? (i := 840) (by decide +kernel), List.mem_of_getElem? (i := 1091) (by decide +kernel), List.mem_of_getElem? (i := 1092) (by decide +kernel)⟩
theorem lw_p73 : lw_okq (⟨"QuakeListsModel", "weightOf", "(II)I"⟩, 34) := ⟨⟨by decide +kernel, by decide +kernel⟩, List.mem_of_getElem? (i := 840) (by decide +kernel), List.mem_of_getElem? (i := 1095) (by decide +kernel), List.mem_of_getElem? (i := 1096) (by decide +kernel)⟩
theorem lw_p74 : lw_okq (⟨"QuakeListsModel", "weigh", "(IIII)I"⟩, 34) := ⟨⟨by decide +kernel, by decide +kernel⟩, List.mem_of_getElem? (i := 840) (by decide +kernel), List.mem_of_getElem? (i := 1099) (by decide +kernel), List.mem_of_getElem? (i := 1100) (by decide +kernel)⟩
theorem lw_p75 : lw_okq (⟨"QuakeListsModel", "allWeights", "(II)J"⟩, 34) := ⟨⟨by decide +kernel, by decide +kernel⟩, List.mem_of_getElem? (i := 840) (by decide +kernel), List.mem_of_getElem? (i := 1106) (by decide +kernel), List.mem_of_getElem? (i := 1107) (by decide +kernel)⟩
theorem lw_p76 : lw_okq (⟨"QuakeListsModel", "whyNot", "(II)I"⟩, 34) := ⟨⟨by decide +kernel, by decide +kernel⟩, List.mem_of_getElem? (i := 840) (by decide +kernel), List.mem_of_getElem? (i := 1114) (by decide +kernel), List.mem_of_getElem? (i := 1115) (by decide +kernel)⟩
theorem lw_p77 : lw_okq (⟨"QuakeListsModel", "motherOf", "(II)I"⟩, 34) := ⟨⟨by decide +kernel, by decide +kernel⟩, List.mem_of_getElem? (i := 840) (by decide +kernel), List.mem_of_getElem? (i := 1118) (by decide +kernel), List.mem_of_getElem? (i := 1119) (by decide +kernel)⟩
theorem lw_p78 : lw_okq (⟨"QuakeListsModel", "firstOf", "(II)I"⟩, 34) := ⟨⟨by decide +kernel, by decide +kernel⟩, List.mem_of_getElem? (i := 840) (by decide +kernel), List.mem_of_getElem? (i := 1127) (by decide +kernel), List.mem_of_getElem? (i := 1128) (by decide +kernel)⟩
theorem lw_p79 : lw_okq (⟨"QuakeListsModel", "depthOf", "(II)I"⟩, 34) := ⟨⟨by decide +kernel, by decide +kernel⟩, List.mem_of_getElem? (i := 840) (by decide +kernel), List.mem_of_getElem? (i := 1131) (by decide +kernel), List.mem_of_getElem? (i := 1132) (by decide +kernel)⟩
def lw_privs_5 : List (MethodName × Nat) := [(⟨"QuakeListsModel", "placeOf", "(I)I"⟩, 34), (⟨"QuakeListsModel", "listed", "(IZ)I"⟩, 34), (⟨"QuakeListsModel", "findJoins", "()V"⟩, 34), (⟨"QuakeListsModel", "joinBy", "(III)I"⟩, 34), (⟨"QuakeListsModel", "missOf", "(II)I"⟩, 34), (⟨"QuakeListsModel", "countOf", "(III)I"⟩, 34), (⟨"QuakeListsModel", "isCounted", "(III)Z"⟩, 34), (⟨"QuakeListsModel", "mayBear", "(III)Z"⟩, 34), (⟨"QuakeListsModel", "isAhead", "(II)Z"⟩, 34), (⟨"QuakeListsModel", "weightOf", "(II)I"⟩, 34), (⟨"QuakeListsModel", "weigh", "(IIII)I"⟩, 34), (⟨"QuakeListsModel", "allWeights", "(II)J"⟩, 34), (⟨"QuakeListsModel", "whyNot", "(II)I"⟩, 34), (⟨"QuakeListsModel", "motherOf", "(II)I"⟩, 34), (⟨"QuakeListsModel", "firstOf", "(II)I"⟩, 34), (⟨"QuakeListsModel", "depthOf", "(II)I"⟩, 34)]
theorem lw_r5 : ∀ q ∈ lw_privs_5, lw_okq q := List.forall_mem_cons.mpr ⟨lw_p64, List.forall_mem_cons.mpr ⟨lw_p65, List.forall_mem_cons.mpr ⟨lw_p66, List.forall_mem_cons.mpr ⟨lw_p67, List.forall_mem_cons.mpr ⟨lw_p68, List.forall_mem_cons.mpr ⟨lw_p69, List.forall_mem_cons.mpr ⟨lw_p70, List.forall_mem_cons.mpr ⟨lw_p71, List.forall_mem_cons.mpr ⟨lw_p72, List.forall_mem_cons.mpr ⟨lw_p73, List.forall_mem_cons.mpr ⟨lw_p74, List.forall_mem_cons.mpr ⟨lw_p75, List.forall_mem_cons.mpr ⟨lw_p76, List.forall_mem_cons.mpr ⟨lw_p77, List.forall_mem_cons.mpr ⟨lw_p78, List.forall_mem_cons.mpr ⟨lw_p79, fun _ h => absurd h List.not_mem_nil⟩⟩⟩⟩⟩⟩⟩⟩⟩⟩⟩⟩⟩⟩⟩⟩
theorem lw_p80 : lw_okq (⟨"QuakeListsModel", "drawnFor", "(IJI)I"⟩, 34) := ⟨⟨by decide +kernel, by decide +kernel⟩, List.mem_of_getElem? (i := 840) (by decide +kernel), List.mem_of_getElem? (i := 1146) (by decide +kernel), List.mem_of_getElem? (i := 1147) (by decide +kernel)⟩
theorem lw_p81 : lw_okq (⟨"QuakeListsModel", "isForecast", "(I)Z"⟩, 34) := ⟨⟨by decide +kernel, by decide +kernel⟩, List.mem_of_getElem? (i := 840) (by decide +kernel), List.mem_of_getElem? (i := 1185) (by decide +kernel), List.mem_of_getElem? (i := 1186) (by decide +kernel)⟩
theorem lw_p82 : lw_okq (⟨"QuakeListsModel", "toldFor", "(II)I"⟩, 34) := ⟨⟨by decide +kernel, by decide +kernel⟩, List.mem_of_getElem? (i := 840) (by decide +kernel), List.mem_of_getElem? (i := 1189) (by decide +kernel), List.mem_of_getElem? (i := 1190) (by decide +kernel)⟩
theorem lw_p83 : lw_okq (⟨"QuakeListsModel", "manyAhead", "(III)I"⟩, 34) := ⟨⟨by decide +kernel, by decide +kernel⟩, List.mem_of_getElem? (i := 840) (by decide +kernel), List.mem_of_getElem? (i := 1193) (by decide +kernel), List.mem_of_getElem? (i := 1194) (by decide +kernel)⟩
theorem lw_p84 : lw_okq (⟨"QuakeListsModel", "scoreOf", "(IIIIII)J"⟩, 34) := ⟨⟨by decide +kernel, by decide +kernel⟩, List.mem_of_getElem? (i := 840) (by decide +kernel), List.mem_of_getElem? (i := 1204) (by decide +kernel), List.mem_of_getElem? (i := 1205) (by decide +kernel)⟩
theorem lw_p85 : lw_okq (⟨"QuakeListsModel", "hasQuake", "(II)Z"⟩, 34) := ⟨⟨by decide +kernel, by decide +kernel⟩, List.mem_of_getElem? (i := 840) (by decide +kernel), List.mem_of_getElem? (i := 1208) (by decide +kernel), List.mem_of_getElem? (i := 1209) (by decide +kernel)⟩
theorem lw_p86 : lw_okq (⟨"QuakeListsModel", "lossOf", "(I)I"⟩, 34) := ⟨⟨by decide +kernel, by decide +kernel⟩, List.mem_of_getElem? (i := 840) (by decide +kernel), List.mem_of_getElem? (i := 1235) (by decide +kernel), List.mem_of_getElem? (i := 1236) (by decide +kernel)⟩
theorem lw_p87 : lw_okq (⟨"QuakeListsModel", "lossBy", "(IIII)I"⟩, 34) := ⟨⟨by decide +kernel, by decide +kernel⟩, List.mem_of_getElem? (i := 840) (by decide +kernel), List.mem_of_getElem? (i := 1239) (by decide +kernel), List.mem_of_getElem? (i := 1240) (by decide +kernel)⟩
theorem lw_p88 : lw_okq (⟨"QuakeListsModel", "lawLoss", "(II)I"⟩, 34) := ⟨⟨by decide +kernel, by decide +kernel⟩, List.mem_of_getElem? (i := 840) (by decide +kernel), List.mem_of_getElem? (i := 1255) (by decide +kernel), List.mem_of_getElem? (i := 1256) (by decide +kernel)⟩
theorem lw_p89 : lw_okq (⟨"QuakeListsModel", "meanOf", "(I)J"⟩, 34) := ⟨⟨by decide +kernel, by decide +kernel⟩, List.mem_of_getElem? (i := 840) (by decide +kernel), List.mem_of_getElem? (i := 1263) (by decide +kernel), List.mem_of_getElem? (i := 1264) (by decide +kernel)⟩
theorem lw_p90 : lw_okq (⟨"QuakeListsModel", "priceOf", "(I)I"⟩, 34) := ⟨⟨by decide +kernel, by decide +kernel⟩, List.mem_of_getElem? (i := 840) (by decide +kernel), List.mem_of_getElem? (i := 1272) (by decide +kernel), List.mem_of_getElem? (i := 1273) (by decide +kernel)⟩
def lw_privs_6 : List (MethodName × Nat) := [(⟨"QuakeListsModel", "drawnFor", "(IJI)I"⟩, 34), (⟨"QuakeListsModel", "isForecast", "(I)Z"⟩, 34), (⟨"QuakeListsModel", "toldFor", "(II)I"⟩, 34), (⟨"QuakeListsModel", "manyAhead", "(III)I"⟩, 34), (⟨"QuakeListsModel", "scoreOf", "(IIIIII)J"⟩, 34), (⟨"QuakeListsModel", "hasQuake", "(II)Z"⟩, 34), (⟨"QuakeListsModel", "lossOf", "(I)I"⟩, 34), (⟨"QuakeListsModel", "lossBy", "(IIII)I"⟩, 34), (⟨"QuakeListsModel", "lawLoss", "(II)I"⟩, 34), (⟨"QuakeListsModel", "meanOf", "(I)J"⟩, 34), (⟨"QuakeListsModel", "priceOf", "(I)I"⟩, 34)]
theorem lw_r6 : ∀ q ∈ lw_privs_6, lw_okq q := List.forall_mem_cons.mpr ⟨lw_p80, List.forall_mem_cons.mpr ⟨lw_p81, List.forall_mem_cons.mpr ⟨lw_p82, List.forall_mem_cons.mpr ⟨lw_p83, List.forall_mem_cons.mpr ⟨lw_p84, List.forall_mem_cons.mpr ⟨lw_p85, List.forall_mem_cons.mpr ⟨lw_p86, List.forall_mem_cons.mpr ⟨lw_p87, List.forall_mem_cons.mpr ⟨lw_p88, List.forall_mem_cons.mpr ⟨lw_p89, List.forall_mem_cons.mpr ⟨lw_p90, fun _ h => absurd h List.not_mem_nil⟩⟩⟩⟩⟩⟩⟩⟩⟩⟩⟩
def lw_privs : List (MethodName × Nat) := lw_privs_1 ++ (lw_privs_2 ++ (lw_privs_3 ++ (lw_privs_4 ++ (lw_privs_5 ++ (lw_privs_6)))))
def lw_tbl : List Cond := k2_sels lw_privs ++ tables_1
theorem lw_privs_ok : ∀ q ∈ lw_privs, lw_okq q := by
  show ∀ q ∈ lw_privs_1 ++ (lw_privs_2 ++ (lw_privs_3 ++ (lw_privs_4 ++ (lw_privs_5 ++ (lw_privs_6))))), lw_okq q
  exact List.forall_mem_append.mpr ⟨lw_r1, List.forall_mem_append.mpr ⟨lw_r2, List.forall_mem_append.mpr ⟨lw_r3, List.forall_mem_append.mpr ⟨lw_r4, List.forall_mem_append.mpr ⟨lw_r5, lw_r6⟩⟩⟩⟩⟩
-- ===== end of PART A; then your names; then what follows =====
def RX0 : String := "QuakeLists$Counts"
def TX0 : u_T := fun k => match k with
  | _ => ("QuakeLists$Counts", "tally", "[I", true)
def tyX0 : Nat → FieldType := fun k => match k with
  | _ => .array .int
abbrev wsX00 : List Cond := u_ws RX0 TX0 1
theorem nmX0 : ∀ a, a < 1 → ∀ b, b < 1 → a ≠ b → (TX0 a).2.1 ≠ (TX0 b).2.1 := by decide +kernel
theorem tyX0_ok : ∀ k, k < 1 → parseFieldDescriptor (TX0 k).2.2.1 = some (tyX0 k) := by decide +kernel
abbrev cX0_init : ByteArray := prog_2_method_1_code
def yX0_init : MethodName := ⟨RX0, "<init>", "()V"⟩
abbrev cX0_howMany : ByteArray := prog_2_method_2_code
def yX0_howMany : MethodName := ⟨RX0, "howMany", "(LQuakeLists$Quakes;III)I"⟩
abbrev cX0_sumAbove : ByteArray := prog_2_method_3_code
def yX0_sumAbove : MethodName := ⟨RX0, "sumAbove", "(LQuakeLists$Quakes;III)I"⟩
abbrev cX0_commonest : ByteArray := prog_2_method_4_code
def yX0_commonest : MethodName := ⟨RX0, "commonest", "(LQuakeLists$Quakes;II)I"⟩
def RX1 : String := "QuakeLists$Forecast"
def TX1 : u_T := fun k => match k with
  | 0 => ("QuakeLists$Forecast", "rules", "I", false)
  | 1 => ("QuakeLists$Forecast", "last", "I", false)
  | 2 => ("QuakeLists$Forecast", "days", "[I", true)
  | 3 => ("QuakeLists$Forecast", "least", "[I", true)
  | 4 => ("QuakeLists$Forecast", "more", "[I", true)
  | _ => ("QuakeLists$Forecast", "chance", "[I", true)
def tyX1 : Nat → FieldType := fun k => match k with
  | 0 => .int
  | 1 => .int
  | 2 => .array .int
  | 3 => .array .int
  | 4 => .array .int
  | _ => .array .int
abbrev wsX10 : List Cond := u_ws RX1 TX1 6
theorem nmX1 : ∀ a, a < 6 → ∀ b, b < 6 → a ≠ b → (TX1 a).2.1 ≠ (TX1 b).2.1 := by decide +kernel
theorem tyX1_ok : ∀ k, k < 6 → parseFieldDescriptor (TX1 k).2.2.1 = some (tyX1 k) := by decide +kernel
abbrev cX1_init : ByteArray := prog_3_method_1_code
def yX1_init : MethodName := ⟨RX1, "<init>", "()V"⟩
abbrev cX1_take : ByteArray := prog_3_method_2_code
def yX1_take : MethodName := ⟨RX1, "take", "(II)V"⟩
abbrev cX1_toldFor : ByteArray := prog_3_method_3_code
def yX1_toldFor : MethodName := ⟨RX1, "toldFor", "(LQuakeLists$Quakes;I)I"⟩
abbrev cX1_howManyAhead : ByteArray := prog_3_method_4_code
def yX1_howManyAhead : MethodName := ⟨RX1, "howManyAhead", "(LQuakeLists$Quakes;II)I"⟩
def RX2 : String := "QuakeLists$Ground"
def TX2 : u_T := fun k => match k with
  | 0 => ("QuakeLists$Ground", "houses", "I", false)
  | 1 => ("QuakeLists$Ground", "houseX", "[I", true)
  | 2 => ("QuakeLists$Ground", "houseY", "[I", true)
  | 3 => ("QuakeLists$Ground", "kind", "[I", true)
  | 4 => ("QuakeLists$Ground", "worth", "[I", true)
  | 5 => ("QuakeLists$Ground", "price", "[I", true)
  | 6 => ("QuakeLists$Ground", "damages", "[[I", true)
  | 7 => ("QuakeLists$Ground", "laws", "I", false)
  | 8 => ("QuakeLists$Ground", "lawX", "[I", true)
  | 9 => ("QuakeLists$Ground", "lawY", "[I", true)
  | 10 => ("QuakeLists$Ground", "lawGreatness", "[I", true)
  | 11 => ("QuakeLists$Ground", "lawOften", "[I", true)
  | _ => ("QuakeLists$Ground", "gainFor", "[J", true)
def tyX2 : Nat → FieldType := fun k => match k with
  | 0 => .int
  | 1 => .array .int
  | 2 => .array .int
  | 3 => .array .int
  | 4 => .array .int
  | 5 => .array .int
  | 6 => .array (.array .int)
  | 7 => .int
  | 8 => .array .int
  | 9 => .array .int
  | 10 => .array .int
  | 11 => .array .int
  | _ => .array .long
abbrev wsX20 : List Cond := u_ws RX2 TX2 13
theorem nmX2 : ∀ a, a < 13 → ∀ b, b < 13 → a ≠ b → (TX2 a).2.1 ≠ (TX2 b).2.1 := by decide +kernel
theorem tyX2_ok : ∀ k, k < 13 → parseFieldDescriptor (TX2 k).2.2.1 = some (tyX2 k) := by decide +kernel
abbrev cX2_init : ByteArray := prog_4_method_1_code
def yX2_init : MethodName := ⟨RX2, "<init>", "()V"⟩
abbrev cX2_build : ByteArray := prog_4_method_2_code
def yX2_build : MethodName := ⟨RX2, "build", "(IIIII)I"⟩
abbrev cX2_enact : ByteArray := prog_4_method_3_code
def yX2_enact : MethodName := ⟨RX2, "enact", "(IIII)I"⟩
abbrev cX2_lossOfHouse : ByteArray := prog_4_method_4_code
def yX2_lossOfHouse : MethodName := ⟨RX2, "lossOfHouse", "(IIIIII)I"⟩
abbrev cX2_lossInAll : ByteArray := prog_4_method_5_code
def yX2_lossInAll : MethodName := ⟨RX2, "lossInAll", "(IIIII)I"⟩
abbrev cX2_lossByQuake : ByteArray := prog_4_method_6_code
def yX2_lossByQuake : MethodName := ⟨RX2, "lossByQuake", "(LQuakeLists$Quakes;II)I"⟩
abbrev cX2_lossByLaw : ByteArray := prog_4_method_7_code
def yX2_lossByLaw : MethodName := ⟨RX2, "lossByLaw", "(III)I"⟩
abbrev cX2_worstQuake : ByteArray := prog_4_method_8_code
def yX2_worstQuake : MethodName := ⟨RX2, "worstQuake", "(LQuakeLists$Quakes;II)I"⟩
abbrev cX2_howOftenAbove : ByteArray := prog_4_method_9_code
def yX2_howOftenAbove : MethodName := ⟨RX2, "howOftenAbove", "(II)I"⟩
abbrev cX2_meanLoss : ByteArray := prog_4_method_10_code
def yX2_meanLoss : MethodName := ⟨RX2, "meanLoss", "(II)J"⟩
abbrev cX2_gainOf : ByteArray := prog_4_method_11_code
def yX2_gainOf : MethodName := ⟨RX2, "gainOf", "(II)J"⟩
abbrev cX2_bestHouses : ByteArray := prog_4_method_12_code
def yX2_bestHouses : MethodName := ⟨RX2, "bestHouses", "(II)I"⟩
abbrev cX2_offer : ByteArray := prog_4_method_13_code
def yX2_offer : MethodName := ⟨RX2, "offer", "(IJI)V"⟩
def RX3 : String := "QuakeLists$Joining"
def TX3 : u_T := fun k => match k with
  | 0 => ("QuakeLists$Joining", "pairs", "I", false)
  | 1 => ("QuakeLists$Joining", "missInAll", "I", false)
  | 2 => ("QuakeLists$Joining", "rows", "I", false)
  | 3 => ("QuakeLists$Joining", "partners", "I", false)
  | 4 => ("QuakeLists$Joining", "columns", "I", false)
  | 5 => ("QuakeLists$Joining", "ofA", "[I", true)
  | 6 => ("QuakeLists$Joining", "ofB", "[I", true)
  | 7 => ("QuakeLists$Joining", "cost", "[[J", true)
  | 8 => ("QuakeLists$Joining", "rowPrice", "[J", true)
  | 9 => ("QuakeLists$Joining", "columnPrice", "[J", true)
  | 10 => ("QuakeLists$Joining", "slack", "[J", true)
  | 11 => ("QuakeLists$Joining", "rowOf", "[I", true)
  | 12 => ("QuakeLists$Joining", "before", "[I", true)
  | _ => ("QuakeLists$Joining", "reached", "[Z", true)
def tyX3 : Nat → FieldType := fun k => match k with
  | 0 => .int
  | 1 => .int
  | 2 => .int
  | 3 => .int
  | 4 => .int
  | 5 => .array .int
  | 6 => .array .int
  | 7 => .array (.array .long)
  | 8 => .array .long
  | 9 => .array .long
  | 10 => .array .long
  | 11 => .array .int
  | 12 => .array .int
  | _ => .array .boolean
abbrev wsX30 : List Cond := u_ws RX3 TX3 14
theorem nmX3 : ∀ a, a < 14 → ∀ b, b < 14 → a ≠ b → (TX3 a).2.1 ≠ (TX3 b).2.1 := by decide +kernel
theorem tyX3_ok : ∀ k, k < 14 → parseFieldDescriptor (TX3 k).2.2.1 = some (tyX3 k) := by decide +kernel
abbrev cX3_init : ByteArray := prog_5_method_1_code
def yX3_init : MethodName := ⟨RX3, "<init>", "()V"⟩
abbrev cX3_pairUp : ByteArray := prog_5_method_2_code
def yX3_pairUp : MethodName := ⟨RX3, "pairUp", "(LQuakeLists$Quakes;IIIII)V"⟩
abbrev cX3_partnerOf : ByteArray := prog_5_method_3_code
def yX3_partnerOf : MethodName := ⟨RX3, "partnerOf", "(I)I"⟩
abbrev cX3_gather : ByteArray := prog_5_method_4_code
def yX3_gather : MethodName := ⟨RX3, "gather", "(LQuakeLists$Quakes;I[I)I"⟩
abbrev cX3_fillCosts : ByteArray := prog_5_method_5_code
def yX3_fillCosts : MethodName := ⟨RX3, "fillCosts", "(LQuakeLists$Quakes;III)V"⟩
abbrev cX3_maySame : ByteArray := prog_5_method_6_code
def yX3_maySame : MethodName := ⟨RX3, "maySame", "(LQuakeLists$Quakes;IIIII)Z"⟩
abbrev cX3_missOf : ByteArray := prog_5_method_7_code
def yX3_missOf : MethodName := ⟨RX3, "missOf", "(LQuakeLists$Quakes;II)I"⟩
abbrev cX3_daysApart : ByteArray := prog_5_method_8_code
def yX3_daysApart : MethodName := ⟨RX3, "daysApart", "(LQuakeLists$Quakes;II)I"⟩
abbrev cX3_cellsApart : ByteArray := prog_5_method_9_code
def yX3_cellsApart : MethodName := ⟨RX3, "cellsApart", "(LQuakeLists$Quakes;II)I"⟩
abbrev cX3_tenthsApart : ByteArray := prog_5_method_10_code
def yX3_tenthsApart : MethodName := ⟨RX3, "tenthsApart", "(LQuakeLists$Quakes;II)I"⟩
abbrev cX3_clearPrices : ByteArray := prog_5_method_11_code
def yX3_clearPrices : MethodName := ⟨RX3, "clearPrices", "()V"⟩
abbrev cX3_placeRow : ByteArray := prog_5_method_12_code
def yX3_placeRow : MethodName := ⟨RX3, "placeRow", "(I)V"⟩
abbrev cX3_loosen : ByteArray := prog_5_method_13_code
def yX3_loosen : MethodName := ⟨RX3, "loosen", "(I)V"⟩
abbrev cX3_nearest : ByteArray := prog_5_method_14_code
def yX3_nearest : MethodName := ⟨RX3, "nearest", "()I"⟩
abbrev cX3_reprice : ByteArray := prog_5_method_15_code
def yX3_reprice : MethodName := ⟨RX3, "reprice", "(J)V"⟩
abbrev cX3_sumUp : ByteArray := prog_5_method_16_code
def yX3_sumUp : MethodName := ⟨RX3, "sumUp", "(LQuakeLists$Quakes;)V"⟩
def RX4 : String := "QuakeLists$Mothers"
def TX4 : u_T := fun k => match k with
  | 0 => ("QuakeLists$Mothers", "produce", "[I", true)
  | 1 => ("QuakeLists$Mothers", "fade", "[I", true)
  | 2 => ("QuakeLists$Mothers", "spread", "[I", true)
  | 3 => ("QuakeLists$Mothers", "firstOf", "[I", true)
  | _ => ("QuakeLists$Mothers", "depthOf", "[I", true)
def tyX4 : Nat → FieldType := fun k => match k with
  | 0 => .array .int
  | 1 => .array .int
  | 2 => .array .int
  | 3 => .array .int
  | _ => .array .int
abbrev wsX40 : List Cond := u_ws RX4 TX4 5
theorem nmX4 : ∀ a, a < 5 → ∀ b, b < 5 → a ≠ b → (TX4 a).2.1 ≠ (TX4 b).2.1 := by decide +kernel
theorem tyX4_ok : ∀ k, k < 5 → parseFieldDescriptor (TX4 k).2.2.1 = some (tyX4 k) := by decide +kernel
abbrev cX4_init : ByteArray := prog_6_method_1_code
def yX4_init : MethodName := ⟨RX4, "<init>", "()V"⟩
abbrev cX4_stepsOf : ByteArray := prog_6_method_2_code
def yX4_stepsOf : MethodName := ⟨RX4, "stepsOf", "(I)[I"⟩
abbrev cX4_fadeStep : ByteArray := prog_6_method_3_code
def yX4_fadeStep : MethodName := ⟨RX4, "fadeStep", "(I)I"⟩
abbrev cX4_weightAt : ByteArray := prog_6_method_4_code
def yX4_weightAt : MethodName := ⟨RX4, "weightAt", "(LQuakeLists$Quakes;IIII)I"⟩
abbrev cX4_weight : ByteArray := prog_6_method_5_code
def yX4_weight : MethodName := ⟨RX4, "weight", "(LQuakeLists$Quakes;II)I"⟩
abbrev cX4_weightIfAhead : ByteArray := prog_6_method_6_code
def yX4_weightIfAhead : MethodName := ⟨RX4, "weightIfAhead", "(LQuakeLists$Quakes;III)I"⟩
abbrev cX4_allWeights : ByteArray := prog_6_method_7_code
def yX4_allWeights : MethodName := ⟨RX4, "allWeights", "(LQuakeLists$Quakes;III)I"⟩
abbrev cX4_weightOn : ByteArray := prog_6_method_8_code
def yX4_weightOn : MethodName := ⟨RX4, "weightOn", "(LQuakeLists$Quakes;IIII)I"⟩
abbrev cX4_likeliest : ByteArray := prog_6_method_9_code
def yX4_likeliest : MethodName := ⟨RX4, "likeliest", "(LQuakeLists$Quakes;III)I"⟩
abbrev cX4_trace : ByteArray := prog_6_method_10_code
def yX4_trace : MethodName := ⟨RX4, "trace", "(LQuakeLists$Quakes;II)V"⟩
abbrev cX4_sizeOfFamily : ByteArray := prog_6_method_11_code
def yX4_sizeOfFamily : MethodName := ⟨RX4, "sizeOfFamily", "(LQuakeLists$Quakes;I)I"⟩
abbrev cX4_deepestOfFamily : ByteArray := prog_6_method_12_code
def yX4_deepestOfFamily : MethodName := ⟨RX4, "deepestOfFamily", "(LQuakeLists$Quakes;I)I"⟩
abbrev cX4_howManyFirst : ByteArray := prog_6_method_13_code
def yX4_howManyFirst : MethodName := ⟨RX4, "howManyFirst", "(LQuakeLists$Quakes;)I"⟩
abbrev cX4_firstAt : ByteArray := prog_6_method_14_code
def yX4_firstAt : MethodName := ⟨RX4, "firstAt", "(LQuakeLists$Quakes;I)I"⟩
abbrev cX4_drawn : ByteArray := prog_6_method_15_code
def yX4_drawn : MethodName := ⟨RX4, "drawn", "(LQuakeLists$Quakes;IIII)I"⟩
def RX5 : String := "QuakeLists$Odds"
def TX5 : u_T := fun k => match k with
  | _ => ("", "", "", false)
def tyX5 : Nat → FieldType := fun k => match k with
  | _ => .int
abbrev wsX50 : List Cond := u_ws RX5 TX5 0
theorem nmX5 : ∀ a, a < 0 → ∀ b, b < 0 → a ≠ b → (TX5 a).2.1 ≠ (TX5 b).2.1 := by decide +kernel
theorem tyX5_ok : ∀ k, k < 0 → parseFieldDescriptor (TX5 k).2.2.1 = some (tyX5 k) := by decide +kernel
abbrev cX5_partOf : ByteArray := prog_7_method_2_code
def yX5_partOf : MethodName := ⟨RX5, "partOf", "(JJI)J"⟩
abbrev cX5_greatestDivisor : ByteArray := prog_7_method_3_code
def yX5_greatestDivisor : MethodName := ⟨RX5, "greatestDivisor", "(JJ)J"⟩
abbrev cX5_choose : ByteArray := prog_7_method_4_code
def yX5_choose : MethodName := ⟨RX5, "choose", "(II)J"⟩
abbrev cX5_power : ByteArray := prog_7_method_5_code
def yX5_power : MethodName := ⟨RX5, "power", "(II)J"⟩
abbrev cX5_waysToDeal : ByteArray := prog_7_method_6_code
def yX5_waysToDeal : MethodName := ⟨RX5, "waysToDeal", "(IIII)J"⟩
abbrev cX5_waysForFew : ByteArray := prog_7_method_7_code
def yX5_waysForFew : MethodName := ⟨RX5, "waysForFew", "(IIII)J"⟩
def RX6 : String := "QuakeLists$Quakes"
def TX6 : u_T := fun k => match k with
  | 0 => ("QuakeLists$Quakes", "count", "I", false)
  | 1 => ("QuakeLists$Quakes", "list", "[I", true)
  | 2 => ("QuakeLists$Quakes", "day", "[I", true)
  | 3 => ("QuakeLists$Quakes", "x", "[I", true)
  | 4 => ("QuakeLists$Quakes", "y", "[I", true)
  | 5 => ("QuakeLists$Quakes", "greatness", "[I", true)
  | 6 => ("QuakeLists$Quakes", "toldOn", "[I", true)
  | 7 => ("QuakeLists$Quakes", "isBlast", "[Z", true)
  | _ => ("QuakeLists$Quakes", "order", "[I", true)
def tyX6 : Nat → FieldType := fun k => match k with
  | 0 => .int
  | 1 => .array .int
  | 2 => .array .int
  | 3 => .array .int
  | 4 => .array .int
  | 5 => .array .int
  | 6 => .array .int
  | 7 => .array .boolean
  | _ => .array .int
abbrev wsX60 : List Cond := u_ws RX6 TX6 9
theorem nmX6 : ∀ a, a < 9 → ∀ b, b < 9 → a ≠ b → (TX6 a).2.1 ≠ (TX6 b).2.1 := by decide +kernel
theorem tyX6_ok : ∀ k, k < 9 → parseFieldDescriptor (TX6 k).2.2.1 = some (tyX6 k) := by decide +kernel
abbrev cX6_init : ByteArray := prog_8_method_1_code
def yX6_init : MethodName := ⟨RX6, "<init>", "()V"⟩
abbrev cX6_isFull : ByteArray := prog_8_method_2_code
def yX6_isFull : MethodName := ⟨RX6, "isFull", "()Z"⟩
abbrev cX6_has : ByteArray := prog_8_method_3_code
def yX6_has : MethodName := ⟨RX6, "has", "(I)Z"⟩
abbrev cX6_add : ByteArray := prog_8_method_4_code
def yX6_add : MethodName := ⟨RX6, "add", "(IIIIII)I"⟩
abbrev cX6_putInOrder : ByteArray := prog_8_method_5_code
def yX6_putInOrder : MethodName := ⟨RX6, "putInOrder", "(I)V"⟩
abbrev cX6_placeOf : ByteArray := prog_8_method_6_code
def yX6_placeOf : MethodName := ⟨RX6, "placeOf", "(I)I"⟩
abbrev cX6_isCounted : ByteArray := prog_8_method_7_code
def yX6_isCounted : MethodName := ⟨RX6, "isCounted", "(III)Z"⟩
abbrev cX6_isGreat : ByteArray := prog_8_method_8_code
def yX6_isGreat : MethodName := ⟨RX6, "isGreat", "(II)Z"⟩
abbrev cX6_strikes : ByteArray := prog_8_method_9_code
def yX6_strikes : MethodName := ⟨RX6, "strikes", "(II)Z"⟩
abbrev cX6_howManyIn : ByteArray := prog_8_method_10_code
def yX6_howManyIn : MethodName := ⟨RX6, "howManyIn", "(I)I"⟩
abbrev cX6_howManyBlasts : ByteArray := prog_8_method_11_code
def yX6_howManyBlasts : MethodName := ⟨RX6, "howManyBlasts", "()I"⟩
def RX7 : String := "QuakeLists$Scores"
def TX7 : u_T := fun k => match k with
  | 0 => ("QuakeLists$Scores", "turns", "[Z", true)
  | _ => ("QuakeLists$Scores", "sums", "[J", true)
def tyX7 : Nat → FieldType := fun k => match k with
  | 0 => .array .boolean
  | _ => .array .long
abbrev wsX70 : List Cond := u_ws RX7 TX7 2
theorem nmX7 : ∀ a, a < 2 → ∀ b, b < 2 → a ≠ b → (TX7 a).2.1 ≠ (TX7 b).2.1 := by decide +kernel
theorem tyX7_ok : ∀ k, k < 2 → parseFieldDescriptor (TX7 k).2.2.1 = some (tyX7 k) := by decide +kernel
abbrev cX7_init : ByteArray := prog_9_method_1_code
def yX7_init : MethodName := ⟨RX7, "<init>", "()V"⟩
abbrev cX7_work : ByteArray := prog_9_method_2_code
def yX7_work : MethodName := ⟨RX7, "work", "(LQuakeLists$Quakes;LQuakeLists$Forecast;LQuakeLists$Forecast;III)V"⟩
abbrev cX7_leastMix : ByteArray := prog_9_method_3_code
def yX7_leastMix : MethodName := ⟨RX7, "leastMix", "()I"⟩
abbrev cX7_mark : ByteArray := prog_9_method_4_code
def yX7_mark : MethodName := ⟨RX7, "mark", "(III)V"⟩
abbrev cX7_markStrikes : ByteArray := prog_9_method_5_code
def yX7_markStrikes : MethodName := ⟨RX7, "markStrikes", "(LQuakeLists$Quakes;III)V"⟩
abbrev cX7_markRules : ByteArray := prog_9_method_6_code
def yX7_markRules : MethodName := ⟨RX7, "markRules", "(LQuakeLists$Quakes;LQuakeLists$Forecast;II)V"⟩
abbrev cX7_addStretch : ByteArray := prog_9_method_7_code
def yX7_addStretch : MethodName := ⟨RX7, "addStretch", "(LQuakeLists$Quakes;LQuakeLists$Forecast;LQuakeLists$Forecast;III)V"⟩
def RX8 : String := "QuakeLists$Signs"
def TX8 : u_T := fun k => match k with
  | 0 => ("QuakeLists$Signs", "count", "I", false)
  | _ => ("QuakeLists$Signs", "sign", "[I", true)
def tyX8 : Nat → FieldType := fun k => match k with
  | 0 => .int
  | _ => .array .int
abbrev wsX80 : List Cond := u_ws RX8 TX8 2
theorem nmX8 : ∀ a, a < 2 → ∀ b, b < 2 → a ≠ b → (TX8 a).2.1 ≠ (TX8 b).2.1 := by decide +kernel
theorem tyX8_ok : ∀ k, k < 2 → parseFieldDescriptor (TX8 k).2.2.1 = some (tyX8 k) := by decide +kernel
abbrev cX8_init : ByteArray := prog_10_method_1_code
def yX8_init : MethodName := ⟨RX8, "<init>", "()V"⟩
abbrev cX8_isFull : ByteArray := prog_10_method_2_code
def yX8_isFull : MethodName := ⟨RX8, "isFull", "()Z"⟩
abbrev cX8_add : ByteArray := prog_10_method_3_code
def yX8_add : MethodName := ⟨RX8, "add", "(I)I"⟩
abbrev cX8_isDigit : ByteArray := prog_10_method_4_code
def yX8_isDigit : MethodName := ⟨RX8, "isDigit", "(I)Z"⟩
abbrev cX8_faultyPlace : ByteArray := prog_10_method_5_code
def yX8_faultyPlace : MethodName := ⟨RX8, "faultyPlace", "()I"⟩
abbrev cX8_read : ByteArray := prog_10_method_6_code
def yX8_read : MethodName := ⟨RX8, "read", "()LQuakeLists$Forecast;"⟩
def RX9 : String := "QuakeLists"
def TX9 : u_T := fun k => match k with
  | 0 => ("QuakeLists", "settings", "[I", true)
  | 1 => ("QuakeLists", "quakes", "LQuakeLists$Quakes;", true)
  | 2 => ("QuakeLists", "joining", "LQuakeLists$Joining;", true)
  | 3 => ("QuakeLists", "counts", "LQuakeLists$Counts;", true)
  | 4 => ("QuakeLists", "mothers", "LQuakeLists$Mothers;", true)
  | 5 => ("QuakeLists", "signs", "LQuakeLists$Signs;", true)
  | 6 => ("QuakeLists", "forecasts", "[LQuakeLists$Forecast;", true)
  | 7 => ("QuakeLists", "forecastCount", "I", false)
  | 8 => ("QuakeLists", "scores", "LQuakeLists$Scores;", true)
  | _ => ("QuakeLists", "ground", "LQuakeLists$Ground;", true)
def tyX9 : Nat → FieldType := fun k => match k with
  | 0 => .array .int
  | 1 => .object "QuakeLists$Quakes"
  | 2 => .object "QuakeLists$Joining"
  | 3 => .object "QuakeLists$Counts"
  | 4 => .object "QuakeLists$Mothers"
  | 5 => .object "QuakeLists$Signs"
  | 6 => .array (.object "QuakeLists$Forecast")
  | 7 => .int
  | 8 => .object "QuakeLists$Scores"
  | _ => .object "QuakeLists$Ground"
abbrev wsX90 : List Cond := u_ws RX9 TX9 10
theorem nmX9 : ∀ a, a < 10 → ∀ b, b < 10 → a ≠ b → (TX9 a).2.1 ≠ (TX9 b).2.1 := by decide +kernel
theorem tyX9_ok : ∀ k, k < 10 → parseFieldDescriptor (TX9 k).2.2.1 = some (tyX9 k) := by decide +kernel
abbrev cX9_init : ByteArray := prog_1_method_1_code
def yX9_init : MethodName := ⟨RX9, "<init>", "()V"⟩
abbrev cX9_quake : ByteArray := prog_1_method_2_code
def yX9_quake : MethodName := ⟨RX9, "quake", "(IIIIII)I"⟩
abbrev cX9_blast : ByteArray := prog_1_method_3_code
def yX9_blast : MethodName := ⟨RX9, "blast", "(IZ)I"⟩
abbrev cX9_mend : ByteArray := prog_1_method_4_code
def yX9_mend : MethodName := ⟨RX9, "mend", "(II)I"⟩
abbrev cX9_about : ByteArray := prog_1_method_5_code
def yX9_about : MethodName := ⟨RX9, "about", "(II)I"⟩
abbrev cX9_set : ByteArray := prog_1_method_6_code
def yX9_set : MethodName := ⟨RX9, "set", "(II)I"⟩
abbrev cX9_join : ByteArray := prog_1_method_7_code
def yX9_join : MethodName := ⟨RX9, "join", "(III)I"⟩
abbrev cX9_often : ByteArray := prog_1_method_8_code
def yX9_often : MethodName := ⟨RX9, "often", "(III)I"⟩
abbrev cX9_whole : ByteArray := prog_1_method_9_code
def yX9_whole : MethodName := ⟨RX9, "whole", "(II)I"⟩
abbrev cX9_slope : ByteArray := prog_1_method_10_code
def yX9_slope : MethodName := ⟨RX9, "slope", "(IIII)J"⟩
abbrev cX9_alike : ByteArray := prog_1_method_11_code
def yX9_alike : MethodName := ⟨RX9, "alike", "(IIII)J"⟩
abbrev cX9_few : ByteArray := prog_1_method_12_code
def yX9_few : MethodName := ⟨RX9, "few", "(IIIII)J"⟩
abbrev cX9_step : ByteArray := prog_1_method_13_code
def yX9_step : MethodName := ⟨RX9, "step", "(III)I"⟩
abbrev cX9_share : ByteArray := prog_1_method_14_code
def yX9_share : MethodName := ⟨RX9, "share", "(IIII)J"⟩
abbrev cX9_mother : ByteArray := prog_1_method_15_code
def yX9_mother : MethodName := ⟨RX9, "mother", "(II)I"⟩
abbrev cX9_family : ByteArray := prog_1_method_16_code
def yX9_family : MethodName := ⟨RX9, "family", "(III)I"⟩
abbrev cX9_families : ByteArray := prog_1_method_17_code
def yX9_families : MethodName := ⟨RX9, "families", "(II)I"⟩
abbrev cX9_draw : ByteArray := prog_1_method_18_code
def yX9_draw : MethodName := ⟨RX9, "draw", "(III)I"⟩
abbrev cX9_rate : ByteArray := prog_1_method_19_code
def yX9_rate : MethodName := ⟨RX9, "rate", "(IIII)I"⟩
abbrev cX9_say : ByteArray := prog_1_method_20_code
def yX9_say : MethodName := ⟨RX9, "say", "(I)I"⟩
abbrev cX9_wipe : ByteArray := prog_1_method_21_code
def yX9_wipe : MethodName := ⟨RX9, "wipe", "()I"⟩
abbrev cX9_fault : ByteArray := prog_1_method_22_code
def yX9_fault : MethodName := ⟨RX9, "fault", "()I"⟩
abbrev cX9_forecast : ByteArray := prog_1_method_23_code
def yX9_forecast : MethodName := ⟨RX9, "forecast", "()I"⟩
abbrev cX9_tells : ByteArray := prog_1_method_24_code
def yX9_tells : MethodName := ⟨RX9, "tells", "(II)I"⟩
abbrev cX9_score : ByteArray := prog_1_method_25_code
def yX9_score : MethodName := ⟨RX9, "score", "(IIII)J"⟩
abbrev cX9_mixed : ByteArray := prog_1_method_26_code
def yX9_mixed : MethodName := ⟨RX9, "mixed", "(IIIIII)J"⟩
abbrev cX9_best : ByteArray := prog_1_method_27_code
def yX9_best : MethodName := ⟨RX9, "best", "(IIIII)I"⟩
abbrev cX9_house : ByteArray := prog_1_method_28_code
def yX9_house : MethodName := ⟨RX9, "house", "(IIIII)I"⟩
abbrev cX9_damage : ByteArray := prog_1_method_29_code
def yX9_damage : MethodName := ⟨RX9, "damage", "(III)I"⟩
abbrev cX9_loss : ByteArray := prog_1_method_30_code
def yX9_loss : MethodName := ⟨RX9, "loss", "(I)I"⟩
abbrev cX9_worst : ByteArray := prog_1_method_31_code
def yX9_worst : MethodName := ⟨RX9, "worst", "(II)I"⟩
abbrev cX9_law : ByteArray := prog_1_method_32_code
def yX9_law : MethodName := ⟨RX9, "law", "(IIII)I"⟩
abbrev cX9_curve : ByteArray := prog_1_method_33_code
def yX9_curve : MethodName := ⟨RX9, "curve", "(I)I"⟩
abbrev cX9_mean : ByteArray := prog_1_method_34_code
def yX9_mean : MethodName := ⟨RX9, "mean", "(I)J"⟩
abbrev cX9_strengthen : ByteArray := prog_1_method_35_code
def yX9_strengthen : MethodName := ⟨RX9, "strengthen", "(I)I"⟩
abbrev cX9_told : ByteArray := prog_1_method_36_code
def yX9_told : MethodName := ⟨RX9, "told", "(I)I"⟩
abbrev cX9_within : ByteArray := prog_1_method_37_code
def yX9_within : MethodName := ⟨RX9, "within", "(III)Z"⟩
abbrev cX9_isList : ByteArray := prog_1_method_38_code
def yX9_isList : MethodName := ⟨RX9, "isList", "(I)Z"⟩
abbrev cX9_isListOrAll : ByteArray := prog_1_method_39_code
def yX9_isListOrAll : MethodName := ⟨RX9, "isListOrAll", "(I)Z"⟩
abbrev cX9_isDay : ByteArray := prog_1_method_40_code
def yX9_isDay : MethodName := ⟨RX9, "isDay", "(I)Z"⟩
abbrev cX9_isStretch : ByteArray := prog_1_method_41_code
def yX9_isStretch : MethodName := ⟨RX9, "isStretch", "(II)Z"⟩
abbrev cX9_isCell : ByteArray := prog_1_method_42_code
def yX9_isCell : MethodName := ⟨RX9, "isCell", "(II)Z"⟩
abbrev cX9_isGreatness : ByteArray := prog_1_method_43_code
def yX9_isGreatness : MethodName := ⟨RX9, "isGreatness", "(I)Z"⟩
abbrev cX9_isPart : ByteArray := prog_1_method_44_code
def yX9_isPart : MethodName := ⟨RX9, "isPart", "(I)Z"⟩
abbrev cX9_asNumber : ByteArray := prog_1_method_45_code
def yX9_asNumber : MethodName := ⟨RX9, "asNumber", "(Z)I"⟩
abbrev cX9_howFar : ByteArray := prog_1_method_46_code
def yX9_howFar : MethodName := ⟨RX9, "howFar", "(IIII)I"⟩
abbrev cX9_refusalOfDaughter : ByteArray := prog_1_method_47_code
def yX9_refusalOfDaughter : MethodName := ⟨RX9, "refusalOfDaughter", "(IIZ)I"⟩
abbrev cX9_forecastOf : ByteArray := prog_1_method_48_code
def yX9_forecastOf : MethodName := ⟨RX9, "forecastOf", "(I)LQuakeLists$Forecast;"⟩
abbrev cX9_scoreOfMix : ByteArray := prog_1_method_49_code
def yX9_scoreOfMix : MethodName := ⟨RX9, "scoreOfMix", "(IIIIII)J"⟩
def RX10 : String := "QuakeListsModel"
def TX10 : u_T := fun k => match k with
  | 0 => ("QuakeListsModel", "listOf", "[I", true)
  | 1 => ("QuakeListsModel", "dayOf", "[I", true)
  | 2 => ("QuakeListsModel", "placeX", "[I", true)
  | 3 => ("QuakeListsModel", "placeY", "[I", true)
  | 4 => ("QuakeListsModel", "great", "[I", true)
  | 5 => ("QuakeListsModel", "toldOn", "[I", true)
  | 6 => ("QuakeListsModel", "isBlast", "[Z", true)
  | 7 => ("QuakeListsModel", "quakes", "I", false)
  | 8 => ("QuakeListsModel", "numbers", "[I", true)
  | 9 => ("QuakeListsModel", "row", "[I", true)
  | 10 => ("QuakeListsModel", "ofA", "[I", true)
  | 11 => ("QuakeListsModel", "ofB", "[I", true)
  | 12 => ("QuakeListsModel", "manyA", "I", false)
  | 13 => ("QuakeListsModel", "manyB", "I", false)
  | 14 => ("QuakeListsModel", "bestJoin", "[I", true)
  | 15 => ("QuakeListsModel", "produce", "[I", true)
  | 16 => ("QuakeListsModel", "fade", "[I", true)
  | 17 => ("QuakeListsModel", "spread", "[I", true)
  | 18 => ("QuakeListsModel", "signs", "[I", true)
  | 19 => ("QuakeListsModel", "signMany", "[I", true)
  | 20 => ("QuakeListsModel", "forecasts", "I", false)
  | 21 => ("QuakeListsModel", "ruleIs", "[I", true)
  | 22 => ("QuakeListsModel", "houseX", "[I", true)
  | 23 => ("QuakeListsModel", "houseY", "[I", true)
  | 24 => ("QuakeListsModel", "kinds", "[I", true)
  | 25 => ("QuakeListsModel", "worths", "[I", true)
  | 26 => ("QuakeListsModel", "prices", "[I", true)
  | 27 => ("QuakeListsModel", "houses", "I", false)
  | 28 => ("QuakeListsModel", "damages", "[I", true)
  | 29 => ("QuakeListsModel", "lawX", "[I", true)
  | 30 => ("QuakeListsModel", "lawY", "[I", true)
  | 31 => ("QuakeListsModel", "lawGreat", "[I", true)
  | 32 => ("QuakeListsModel", "lawOften", "[I", true)
  | _ => ("QuakeListsModel", "laws", "I", false)
def tyX10 : Nat → FieldType := fun k => match k with
  | 0 => .array .int
  | 1 => .array .int
  | 2 => .array .int
  | 3 => .array .int
  | 4 => .array .int
  | 5 => .array .int
  | 6 => .array .boolean
  | 7 => .int
  | 8 => .array .int
  | 9 => .array .int
  | 10 => .array .int
  | 11 => .array .int
  | 12 => .int
  | 13 => .int
  | 14 => .array .int
  | 15 => .array .int
  | 16 => .array .int
  | 17 => .array .int
  | 18 => .array .int
  | 19 => .array .int
  | 20 => .int
  | 21 => .array .int
  | 22 => .array .int
  | 23 => .array .int
  | 24 => .array .int
  | 25 => .array .int
  | 26 => .array .int
  | 27 => .int
  | 28 => .array .int
  | 29 => .array .int
  | 30 => .array .int
  | 31 => .array .int
  | 32 => .array .int
  | _ => .int
abbrev wsX100 : List Cond := u_ws RX10 TX10 34
theorem nmX10 : ∀ a, a < 34 → ∀ b, b < 34 → a ≠ b → (TX10 a).2.1 ≠ (TX10 b).2.1 := by decide +kernel
theorem tyX10_ok : ∀ k, k < 34 → parseFieldDescriptor (TX10 k).2.2.1 = some (tyX10 k) := by decide +kernel
abbrev cX10_init : ByteArray := prog_12_method_1_code
def yX10_init : MethodName := ⟨RX10, "<init>", "()V"⟩
abbrev cX10_in : ByteArray := prog_12_method_3_code
def yX10_in : MethodName := ⟨RX10, "in", "(JJJ)Z"⟩
abbrev cX10_size : ByteArray := prog_12_method_4_code
def yX10_size : MethodName := ⟨RX10, "size", "(I)I"⟩
abbrev cX10_lowest : ByteArray := prog_12_method_5_code
def yX10_lowest : MethodName := ⟨RX10, "lowest", "(JJI)J"⟩
abbrev cX10_isQuake : ByteArray := prog_12_method_6_code
def yX10_isQuake : MethodName := ⟨RX10, "isQuake", "(I)Z"⟩
abbrev cX10_isCell : ByteArray := prog_12_method_7_code
def yX10_isCell : MethodName := ⟨RX10, "isCell", "(II)Z"⟩
abbrev cX10_isDay : ByteArray := prog_12_method_8_code
def yX10_isDay : MethodName := ⟨RX10, "isDay", "(I)Z"⟩
abbrev cX10_isGreat : ByteArray := prog_12_method_9_code
def yX10_isGreat : MethodName := ⟨RX10, "isGreat", "(I)Z"⟩
abbrev cX10_isList : ByteArray := prog_12_method_10_code
def yX10_isList : MethodName := ⟨RX10, "isList", "(I)Z"⟩
abbrev cX10_quake : ByteArray := prog_12_method_11_code
def yX10_quake : MethodName := ⟨RX10, "quake", "(IIIIII)I"⟩
abbrev cX10_blast : ByteArray := prog_12_method_12_code
def yX10_blast : MethodName := ⟨RX10, "blast", "(IZ)I"⟩
abbrev cX10_mend : ByteArray := prog_12_method_13_code
def yX10_mend : MethodName := ⟨RX10, "mend", "(II)I"⟩
abbrev cX10_placeOf : ByteArray := prog_12_method_14_code
def yX10_placeOf : MethodName := ⟨RX10, "placeOf", "(I)I"⟩
abbrev cX10_about : ByteArray := prog_12_method_15_code
def yX10_about : MethodName := ⟨RX10, "about", "(II)I"⟩
abbrev cX10_mostOf : ByteArray := prog_12_method_16_code
def yX10_mostOf : MethodName := ⟨RX10, "mostOf", "(I)I"⟩
abbrev cX10_set : ByteArray := prog_12_method_17_code
def yX10_set : MethodName := ⟨RX10, "set", "(II)I"⟩
abbrev cX10_far : ByteArray := prog_12_method_18_code
def yX10_far : MethodName := ⟨RX10, "far", "(IIII)I"⟩
abbrev cX10_listed : ByteArray := prog_12_method_19_code
def yX10_listed : MethodName := ⟨RX10, "listed", "(IZ)I"⟩
abbrev cX10_missOf : ByteArray := prog_12_method_20_code
def yX10_missOf : MethodName := ⟨RX10, "missOf", "(II)I"⟩
abbrev cX10_joinBy : ByteArray := prog_12_method_21_code
def yX10_joinBy : MethodName := ⟨RX10, "joinBy", "(III)I"⟩
abbrev cX10_findJoins : ByteArray := prog_12_method_22_code
def yX10_findJoins : MethodName := ⟨RX10, "findJoins", "()V"⟩
abbrev cX10_join : ByteArray := prog_12_method_23_code
def yX10_join : MethodName := ⟨RX10, "join", "(III)I"⟩
abbrev cX10_isCounted : ByteArray := prog_12_method_24_code
def yX10_isCounted : MethodName := ⟨RX10, "isCounted", "(III)Z"⟩
abbrev cX10_countOf : ByteArray := prog_12_method_25_code
def yX10_countOf : MethodName := ⟨RX10, "countOf", "(III)I"⟩
abbrev cX10_mayList : ByteArray := prog_12_method_26_code
def yX10_mayList : MethodName := ⟨RX10, "mayList", "(I)Z"⟩
abbrev cX10_often : ByteArray := prog_12_method_27_code
def yX10_often : MethodName := ⟨RX10, "often", "(III)I"⟩
abbrev cX10_whole : ByteArray := prog_12_method_28_code
def yX10_whole : MethodName := ⟨RX10, "whole", "(II)I"⟩
abbrev cX10_isPart : ByteArray := prog_12_method_29_code
def yX10_isPart : MethodName := ⟨RX10, "isPart", "(I)Z"⟩
abbrev cX10_slope : ByteArray := prog_12_method_30_code
def yX10_slope : MethodName := ⟨RX10, "slope", "(IIII)J"⟩
abbrev cX10_choose : ByteArray := prog_12_method_31_code
def yX10_choose : MethodName := ⟨RX10, "choose", "(II)J"⟩
abbrev cX10_alike : ByteArray := prog_12_method_32_code
def yX10_alike : MethodName := ⟨RX10, "alike", "(IIII)J"⟩
abbrev cX10_power : ByteArray := prog_12_method_33_code
def yX10_power : MethodName := ⟨RX10, "power", "(JI)J"⟩
abbrev cX10_few : ByteArray := prog_12_method_34_code
def yX10_few : MethodName := ⟨RX10, "few", "(IIIII)J"⟩
abbrev cX10_step : ByteArray := prog_12_method_35_code
def yX10_step : MethodName := ⟨RX10, "step", "(III)I"⟩
abbrev cX10_dayStep : ByteArray := prog_12_method_36_code
def yX10_dayStep : MethodName := ⟨RX10, "dayStep", "(I)I"⟩
abbrev cX10_weigh : ByteArray := prog_12_method_37_code
def yX10_weigh : MethodName := ⟨RX10, "weigh", "(IIII)I"⟩
abbrev cX10_weightOf : ByteArray := prog_12_method_38_code
def yX10_weightOf : MethodName := ⟨RX10, "weightOf", "(II)I"⟩
abbrev cX10_isAhead : ByteArray := prog_12_method_39_code
def yX10_isAhead : MethodName := ⟨RX10, "isAhead", "(II)Z"⟩
abbrev cX10_mayBear : ByteArray := prog_12_method_40_code
def yX10_mayBear : MethodName := ⟨RX10, "mayBear", "(III)Z"⟩
abbrev cX10_allWeights : ByteArray := prog_12_method_41_code
def yX10_allWeights : MethodName := ⟨RX10, "allWeights", "(II)J"⟩
abbrev cX10_share : ByteArray := prog_12_method_42_code
def yX10_share : MethodName := ⟨RX10, "share", "(IIII)J"⟩
abbrev cX10_motherOf : ByteArray := prog_12_method_43_code
def yX10_motherOf : MethodName := ⟨RX10, "motherOf", "(II)I"⟩
abbrev cX10_whyNot : ByteArray := prog_12_method_44_code
def yX10_whyNot : MethodName := ⟨RX10, "whyNot", "(II)I"⟩
abbrev cX10_mother : ByteArray := prog_12_method_45_code
def yX10_mother : MethodName := ⟨RX10, "mother", "(II)I"⟩
abbrev cX10_firstOf : ByteArray := prog_12_method_46_code
def yX10_firstOf : MethodName := ⟨RX10, "firstOf", "(II)I"⟩
abbrev cX10_depthOf : ByteArray := prog_12_method_47_code
def yX10_depthOf : MethodName := ⟨RX10, "depthOf", "(II)I"⟩
abbrev cX10_family : ByteArray := prog_12_method_48_code
def yX10_family : MethodName := ⟨RX10, "family", "(III)I"⟩
abbrev cX10_families : ByteArray := prog_12_method_49_code
def yX10_families : MethodName := ⟨RX10, "families", "(II)I"⟩
abbrev cX10_drawnFor : ByteArray := prog_12_method_50_code
def yX10_drawnFor : MethodName := ⟨RX10, "drawnFor", "(IJI)I"⟩
abbrev cX10_draw : ByteArray := prog_12_method_51_code
def yX10_draw : MethodName := ⟨RX10, "draw", "(III)I"⟩
abbrev cX10_rate : ByteArray := prog_12_method_52_code
def yX10_rate : MethodName := ⟨RX10, "rate", "(IIII)I"⟩
abbrev cX10_say : ByteArray := prog_12_method_53_code
def yX10_say : MethodName := ⟨RX10, "say", "(I)I"⟩
abbrev cX10_wipe : ByteArray := prog_12_method_54_code
def yX10_wipe : MethodName := ⟨RX10, "wipe", "()I"⟩
abbrev cX10_isDigit : ByteArray := prog_12_method_55_code
def yX10_isDigit : MethodName := ⟨RX10, "isDigit", "(I)Z"⟩
abbrev cX10_markOf : ByteArray := prog_12_method_56_code
def yX10_markOf : MethodName := ⟨RX10, "markOf", "(I)I"⟩
abbrev cX10_fault : ByteArray := prog_12_method_57_code
def yX10_fault : MethodName := ⟨RX10, "fault", "()I"⟩
abbrev cX10_forecast : ByteArray := prog_12_method_58_code
def yX10_forecast : MethodName := ⟨RX10, "forecast", "()I"⟩
abbrev cX10_isForecast : ByteArray := prog_12_method_59_code
def yX10_isForecast : MethodName := ⟨RX10, "isForecast", "(I)Z"⟩
abbrev cX10_manyAhead : ByteArray := prog_12_method_60_code
def yX10_manyAhead : MethodName := ⟨RX10, "manyAhead", "(III)I"⟩
abbrev cX10_toldFor : ByteArray := prog_12_method_61_code
def yX10_toldFor : MethodName := ⟨RX10, "toldFor", "(II)I"⟩
abbrev cX10_tells : ByteArray := prog_12_method_62_code
def yX10_tells : MethodName := ⟨RX10, "tells", "(II)I"⟩
abbrev cX10_hasQuake : ByteArray := prog_12_method_63_code
def yX10_hasQuake : MethodName := ⟨RX10, "hasQuake", "(II)Z"⟩
abbrev cX10_scoreOf : ByteArray := prog_12_method_64_code
def yX10_scoreOf : MethodName := ⟨RX10, "scoreOf", "(IIIIII)J"⟩
abbrev cX10_areDays : ByteArray := prog_12_method_65_code
def yX10_areDays : MethodName := ⟨RX10, "areDays", "(III)Z"⟩
abbrev cX10_score : ByteArray := prog_12_method_66_code
def yX10_score : MethodName := ⟨RX10, "score", "(IIII)J"⟩
abbrev cX10_mixed : ByteArray := prog_12_method_67_code
def yX10_mixed : MethodName := ⟨RX10, "mixed", "(IIIIII)J"⟩
abbrev cX10_best : ByteArray := prog_12_method_68_code
def yX10_best : MethodName := ⟨RX10, "best", "(IIIII)I"⟩
abbrev cX10_house : ByteArray := prog_12_method_69_code
def yX10_house : MethodName := ⟨RX10, "house", "(IIIII)I"⟩
abbrev cX10_damage : ByteArray := prog_12_method_70_code
def yX10_damage : MethodName := ⟨RX10, "damage", "(III)I"⟩
abbrev cX10_lossBy : ByteArray := prog_12_method_71_code
def yX10_lossBy : MethodName := ⟨RX10, "lossBy", "(IIII)I"⟩
abbrev cX10_lossOf : ByteArray := prog_12_method_72_code
def yX10_lossOf : MethodName := ⟨RX10, "lossOf", "(I)I"⟩
abbrev cX10_loss : ByteArray := prog_12_method_73_code
def yX10_loss : MethodName := ⟨RX10, "loss", "(I)I"⟩
abbrev cX10_worst : ByteArray := prog_12_method_74_code
def yX10_worst : MethodName := ⟨RX10, "worst", "(II)I"⟩
abbrev cX10_law : ByteArray := prog_12_method_75_code
def yX10_law : MethodName := ⟨RX10, "law", "(IIII)I"⟩
abbrev cX10_lawLoss : ByteArray := prog_12_method_76_code
def yX10_lawLoss : MethodName := ⟨RX10, "lawLoss", "(II)I"⟩
abbrev cX10_curve : ByteArray := prog_12_method_77_code
def yX10_curve : MethodName := ⟨RX10, "curve", "(I)I"⟩
abbrev cX10_meanOf : ByteArray := prog_12_method_78_code
def yX10_meanOf : MethodName := ⟨RX10, "meanOf", "(I)J"⟩
abbrev cX10_mean : ByteArray := prog_12_method_79_code
def yX10_mean : MethodName := ⟨RX10, "mean", "(I)J"⟩
abbrev cX10_priceOf : ByteArray := prog_12_method_80_code
def yX10_priceOf : MethodName := ⟨RX10, "priceOf", "(I)I"⟩
abbrev cX10_strengthen : ByteArray := prog_12_method_81_code
def yX10_strengthen : MethodName := ⟨RX10, "strengthen", "(I)I"⟩
abbrev cX10_told : ByteArray := prog_12_method_82_code
def yX10_told : MethodName := ⟨RX10, "told", "(I)I"⟩
def RJ9 : String := "java/lang/Math"
def TJ9 : u_T := fun k => match k with
  | _ => ("", "", "", false)
def tyJ9 : Nat → FieldType := fun k => match k with
  | _ => .int
abbrev wsJ90 : List Cond := u_ws RJ9 TJ9 0
theorem nmJ9 : ∀ a, a < 0 → ∀ b, b < 0 → a ≠ b → (TJ9 a).2.1 ≠ (TJ9 b).2.1 := by decide +kernel
theorem tyJ9_ok : ∀ k, k < 0 → parseFieldDescriptor (TJ9 k).2.2.1 = some (tyJ9 k) := by decide +kernel
abbrev cJ9_floorMod_f86c9 : ByteArray := prog_13_method_52_code
def yJ9_floorMod_f86c9 : MethodName := ⟨RJ9, "floorMod", "(JJ)J"⟩
abbrev cJ9_abs_0f7a4 : ByteArray := prog_13_method_59_code
def yJ9_abs_0f7a4 : MethodName := ⟨RJ9, "abs", "(I)I"⟩
abbrev cJ9_max_7cf53 : ByteArray := prog_13_method_65_code
def yJ9_max_7cf53 : MethodName := ⟨RJ9, "max", "(II)I"⟩
abbrev cJ9_max_f86c9 : ByteArray := prog_13_method_66_code
def yJ9_max_f86c9 : MethodName := ⟨RJ9, "max", "(JJ)J"⟩
abbrev cJ9_min_7cf53 : ByteArray := prog_13_method_69_code
def yJ9_min_7cf53 : MethodName := ⟨RJ9, "min", "(II)I"⟩
def RL : String := "QuakeListsLaw"
abbrev cL_law : ByteArray := code
def yL_law : MethodName := ⟨RL, "law", "([I)Z"⟩
abbrev vwCl : List vw_C := [(RX0, TX0, 1), (RX1, TX1, 6), (RX2, TX2, 13), (RX3, TX3, 14), (RX4, TX4, 5), (RX6, TX6, 9), (RX7, TX7, 2), (RX8, TX8, 2), (RX9, TX9, 10), (RX10, TX10, 34)]
abbrev Dn (cc : ByteArray) (pc : Nat) (i : Instr) (n pc' : Nat) : Prop := decode cc pc = .ok (i, n) ∧ pc + n = pc'
abbrev Db (cc : ByteArray) (pc : Nat) (i : Instr) (off : Int) (pc' tgt : Nat) : Prop := decode cc pc = .ok (i, 3) ∧ pc + 3 = pc' ∧ (pc : Int) + off = (tgt : Int)

section
-- ===== PART A: goes FIRST, ahead of the names: the tables' words, and 'selects' of the private methods out of them =====
/-- a private method of a class that the tables say can be made, by its rows of tables_1 -/
def lw_okq (q : MethodName × Nat) : Prop := (q.1.cls ≠ "java/lang/invoke/MethodHandle" ∧ q.1.cls ≠ "java/lang/invoke/VarHandle") ∧ Cond.instantiable q.1.cls q.2 ∈ tables_1 ∧ Cond.privateMethod q.1 ∈ tables_1 ∧ Cond.instanceMethod q.1 ∈ tables_1
theorem lw_p0 : lw_okq (⟨"QuakeLists$Quakes", "isFull", "()Z"⟩, 9) := ⟨⟨by decide +kernel, by decide +kernel⟩, List.mem_of_getElem? (i := 22) (by decide +kernel), List.mem_of_getElem? (i := 310) (by decide +kernel), List.mem_of_getElem? (i := 311) (by decide +kernel)⟩
theorem lw_p1 : lw_okq (⟨"QuakeLists$Quakes", "add", "(IIIIII)I"⟩, 9) := ⟨⟨by decide +kernel, by decide +kernel⟩, List.mem_of_getElem? (i := 22) (by decide +kernel), List.mem_of_getElem? (i := 314) (by decide +kernel), List.mem_of_getElem? (i := 315) (by decide +kernel)⟩
theorem lw_p2 : lw_okq (⟨"QuakeLists$Quakes", "putInOrder", "(I)V"⟩, 9) := ⟨⟨by decide +kernel, by decide +kernel⟩, List.mem_of_getElem? (i := 22) (by decide +kernel), List.mem_of_getElem? (i := 318) (by decide +kernel), List.mem_of_getElem? (i := 319) (by decide +kernel)⟩
theorem lw_p3 : lw_okq (⟨"QuakeLists$Quakes", "has", "(I)Z"⟩, 9) := ⟨⟨by decide +kernel, by decide +kernel⟩, List.mem_of_getElem? (i := 22) (by decide +kernel), List.mem_of_getElem? (i := 326) (by decide +kernel), List.mem_of_getElem? (i := 327) (by decide +kernel)⟩
theorem lw_p4 : lw_okq (⟨"QuakeLists$Quakes", "placeOf", "(I)I"⟩, 9) := ⟨⟨by decide +kernel, by decide +kernel⟩, List.mem_of_getElem? (i := 22) (by decide +kernel), List.mem_of_getElem? (i := 341) (by decide +kernel), List.mem_of_getElem? (i := 342) (by decide +kernel)⟩
theorem lw_p5 : lw_okq (⟨"QuakeLists$Quakes", "howManyIn", "(I)I"⟩, 9) := ⟨⟨by decide +kernel, by decide +kernel⟩, List.mem_of_getElem? (i := 22) (by decide +kernel), List.mem_of_getElem? (i := 357) (by decide +kernel), List.mem_of_getElem? (i := 358) (by decide +kernel)⟩
theorem lw_p6 : lw_okq (⟨"QuakeLists$Joining", "pairUp", "(LQuakeLists$Quakes;IIIII)V"⟩, 14) := ⟨⟨by decide +kernel, by decide +kernel⟩, List.mem_of_getElem? (i := 91) (by decide +kernel), List.mem_of_getElem? (i := 361) (by decide +kernel), List.mem_of_getElem? (i := 362) (by decide +kernel)⟩
theorem lw_p7 : lw_okq (⟨"QuakeLists$Joining", "fillCosts", "(LQuakeLists$Quakes;III)V"⟩, 14) := ⟨⟨by decide +kernel, by decide +kernel⟩, List.mem_of_getElem? (i := 91) (by decide +kernel), List.mem_of_getElem? (i := 368) (by decide +kernel), List.mem_of_getElem? (i := 369) (by decide +kernel)⟩
theorem lw_p8 : lw_okq (⟨"QuakeLists$Joining", "clearPrices", "()V"⟩, 14) := ⟨⟨by decide +kernel, by decide +kernel⟩, List.mem_of_getElem? (i := 91) (by decide +kernel), List.mem_of_getElem? (i := 402) (by decide +kernel), List.mem_of_getElem? (i := 403) (by decide +kernel)⟩
theorem lw_p9 : lw_okq (⟨"QuakeLists$Joining", "placeRow", "(I)V"⟩, 14) := ⟨⟨by decide +kernel, by decide +kernel⟩, List.mem_of_getElem? (i := 91) (by decide +kernel), List.mem_of_getElem? (i := 406) (by decide +kernel), List.mem_of_getElem? (i := 407) (by decide +kernel)⟩
theorem lw_p10 : lw_okq (⟨"QuakeLists$Joining", "loosen", "(I)V"⟩, 14) := ⟨⟨by decide +kernel, by decide +kernel⟩, List.mem_of_getElem? (i := 91) (by decide +kernel), List.mem_of_getElem? (i := 411) (by decide +kernel), List.mem_of_getElem? (i := 412) (by decide +kernel)⟩
theorem lw_p11 : lw_okq (⟨"QuakeLists$Joining", "nearest", "()I"⟩, 14) := ⟨⟨by decide +kernel, by decide +kernel⟩, List.mem_of_getElem? (i := 91) (by decide +kernel), List.mem_of_getElem? (i := 415) (by decide +kernel), List.mem_of_getElem? (i := 416) (by decide +kernel)⟩
theorem lw_p12 : lw_okq (⟨"QuakeLists$Joining", "reprice", "(J)V"⟩, 14) := ⟨⟨by decide +kernel, by decide +kernel⟩, List.mem_of_getElem? (i := 91) (by decide +kernel), List.mem_of_getElem? (i := 419) (by decide +kernel), List.mem_of_getElem? (i := 420) (by decide +kernel)⟩
theorem lw_p13 : lw_okq (⟨"QuakeLists$Joining", "sumUp", "(LQuakeLists$Quakes;)V"⟩, 14) := ⟨⟨by decide +kernel, by decide +kernel⟩, List.mem_of_getElem? (i := 91) (by decide +kernel), List.mem_of_getElem? (i := 423) (by decide +kernel), List.mem_of_getElem? (i := 424) (by decide +kernel)⟩
theorem lw_p14 : lw_okq (⟨"QuakeLists$Joining", "partnerOf", "(I)I"⟩, 14) := ⟨⟨by decide +kernel, by decide +kernel⟩, List.mem_of_getElem? (i := 91) (by decide +kernel), List.mem_of_getElem? (i := 427) (by decide +kernel), List.mem_of_getElem? (i := 428) (by decide +kernel)⟩
theorem lw_p15 : lw_okq (⟨"QuakeLists$Counts", "howMany", "(LQuakeLists$Quakes;III)I"⟩, 1) := ⟨⟨by decide +kernel, by decide +kernel⟩, List.mem_of_getElem? (i := 145) (by decide +kernel), List.mem_of_getElem? (i := 438) (by decide +kernel), List.mem_of_getElem? (i := 439) (by decide +kernel)⟩
def lw_privs_1 : List (MethodName × Nat) := [(⟨"QuakeLists$Quakes", "isFull", "()Z"⟩, 9), (⟨"QuakeLists$Quakes", "add", "(IIIIII)I"⟩, 9), (⟨"QuakeLists$Quakes", "putInOrder", "(I)V"⟩, 9), (⟨"QuakeLists$Quakes", "has", "(I)Z"⟩, 9), (⟨"QuakeLists$Quakes", "placeOf", "(I)I"⟩, 9), (⟨"QuakeLists$Quakes", "howManyIn", "(I)I"⟩, 9), (⟨"QuakeLists$Joining", "pairUp", "(LQuakeLists$Quakes;IIIII)V"⟩, 14), (⟨"QuakeLists$Joining", "fillCosts", "(LQuakeLists$Quakes;III)V"⟩, 14), (⟨"QuakeLists$Joining", "clearPrices", "()V"⟩, 14), (⟨"QuakeLists$Joining", "placeRow", "(I)V"⟩, 14), (⟨"QuakeLists$Joining", "loosen", "(I)V"⟩, 14), (⟨"QuakeLists$Joining", "nearest", "()I"⟩, 14), (⟨"QuakeLists$Joining", "reprice", "(J)V"⟩, 14), (⟨"QuakeLists$Joining", "sumUp", "(LQuakeLists$Quakes;)V"⟩, 14), (⟨"QuakeLists$Joining", "partnerOf", "(I)I"⟩, 14), (⟨"QuakeLists$Counts", "howMany", "(LQuakeLists$Quakes;III)I"⟩, 1)]
theorem lw_r1 : ∀ q ∈ lw_privs_1, lw_okq q := List.forall_mem_cons.mpr ⟨lw_p0, List.forall_mem_cons.mpr ⟨lw_p1, List.forall_mem_cons.mpr ⟨lw_p2, List.forall_mem_cons.mpr ⟨lw_p3, List.forall_mem_cons.mpr ⟨lw_p4, List.forall_mem_cons.mpr ⟨lw_p5, List.forall_mem_cons.mpr ⟨lw_p6, List.forall_mem_cons.mpr ⟨lw_p7, List.forall_mem_cons.mpr ⟨lw_p8, List.forall_mem_cons.mpr ⟨lw_p9, List.forall_mem_cons.mpr ⟨lw_p10, List.forall_mem_cons.mpr ⟨lw_p11, List.forall_mem_cons.mpr ⟨lw_p12, List.forall_mem_cons.mpr ⟨lw_p13, List.forall_mem_cons.mpr ⟨lw_p14, List.forall_mem_cons.mpr ⟨lw_p15, fun _ h => absurd h List.not_mem_nil⟩⟩⟩⟩⟩⟩⟩⟩⟩⟩⟩⟩⟩⟩⟩⟩
theorem lw_p16 : lw_okq (⟨"QuakeLists$Quakes", "isCounted", "(III)Z"⟩, 9) := ⟨⟨by decide +kernel, by decide +kernel⟩, List.mem_of_getElem? (i := 22) (by decide +kernel), List.mem_of_getElem? (i := 442) (by decide +kernel), List.mem_of_getElem? (i := 443) (by decide +kernel)⟩
theorem lw_p17 : lw_okq (⟨"QuakeLists$Counts", "commonest", "(LQuakeLists$Quakes;II)I"⟩, 1) := ⟨⟨by decide +kernel, by decide +kernel⟩, List.mem_of_getElem? (i := 145) (by decide +kernel), List.mem_of_getElem? (i := 450) (by decide +kernel), List.mem_of_getElem? (i := 451) (by decide +kernel)⟩
theorem lw_p18 : lw_okq (⟨"QuakeLists$Counts", "sumAbove", "(LQuakeLists$Quakes;III)I"⟩, 1) := ⟨⟨by decide +kernel, by decide +kernel⟩, List.mem_of_getElem? (i := 145) (by decide +kernel), List.mem_of_getElem? (i := 464) (by decide +kernel), List.mem_of_getElem? (i := 465) (by decide +kernel)⟩
theorem lw_p19 : lw_okq (⟨"QuakeLists$Mothers", "stepsOf", "(I)[I"⟩, 5) := ⟨⟨by decide +kernel, by decide +kernel⟩, List.mem_of_getElem? (i := 155) (by decide +kernel), List.mem_of_getElem? (i := 501) (by decide +kernel), List.mem_of_getElem? (i := 502) (by decide +kernel)⟩
theorem lw_p20 : lw_okq (⟨"QuakeLists$Mothers", "weightIfAhead", "(LQuakeLists$Quakes;III)I"⟩, 5) := ⟨⟨by decide +kernel, by decide +kernel⟩, List.mem_of_getElem? (i := 155) (by decide +kernel), List.mem_of_getElem? (i := 510) (by decide +kernel), List.mem_of_getElem? (i := 511) (by decide +kernel)⟩
theorem lw_p21 : lw_okq (⟨"QuakeLists$Mothers", "weight", "(LQuakeLists$Quakes;II)I"⟩, 5) := ⟨⟨by decide +kernel, by decide +kernel⟩, List.mem_of_getElem? (i := 155) (by decide +kernel), List.mem_of_getElem? (i := 516) (by decide +kernel), List.mem_of_getElem? (i := 517) (by decide +kernel)⟩
theorem lw_p22 : lw_okq (⟨"QuakeLists$Mothers", "weightAt", "(LQuakeLists$Quakes;IIII)I"⟩, 5) := ⟨⟨by decide +kernel, by decide +kernel⟩, List.mem_of_getElem? (i := 155) (by decide +kernel), List.mem_of_getElem? (i := 520) (by decide +kernel), List.mem_of_getElem? (i := 521) (by decide +kernel)⟩
theorem lw_p23 : lw_okq (⟨"QuakeLists$Mothers", "allWeights", "(LQuakeLists$Quakes;III)I"⟩, 5) := ⟨⟨by decide +kernel, by decide +kernel⟩, List.mem_of_getElem? (i := 155) (by decide +kernel), List.mem_of_getElem? (i := 531) (by decide +kernel), List.mem_of_getElem? (i := 532) (by decide +kernel)⟩
theorem lw_p24 : lw_okq (⟨"QuakeLists", "refusalOfDaughter", "(IIZ)I"⟩, 10) := ⟨⟨by decide +kernel, by decide +kernel⟩, List.mem_of_getElem? (i := 14) (by decide +kernel), List.mem_of_getElem? (i := 539) (by decide +kernel), List.mem_of_getElem? (i := 540) (by decide +kernel)⟩
theorem lw_p25 : lw_okq (⟨"QuakeLists$Mothers", "likeliest", "(LQuakeLists$Quakes;III)I"⟩, 5) := ⟨⟨by decide +kernel, by decide +kernel⟩, List.mem_of_getElem? (i := 155) (by decide +kernel), List.mem_of_getElem? (i := 543) (by decide +kernel), List.mem_of_getElem? (i := 544) (by decide +kernel)⟩
theorem lw_p26 : lw_okq (⟨"QuakeLists$Mothers", "trace", "(LQuakeLists$Quakes;II)V"⟩, 5) := ⟨⟨by decide +kernel, by decide +kernel⟩, List.mem_of_getElem? (i := 155) (by decide +kernel), List.mem_of_getElem? (i := 551) (by decide +kernel), List.mem_of_getElem? (i := 552) (by decide +kernel)⟩
theorem lw_p27 : lw_okq (⟨"QuakeLists$Mothers", "sizeOfFamily", "(LQuakeLists$Quakes;I)I"⟩, 5) := ⟨⟨by decide +kernel, by decide +kernel⟩, List.mem_of_getElem? (i := 155) (by decide +kernel), List.mem_of_getElem? (i := 556) (by decide +kernel), List.mem_of_getElem? (i := 557) (by decide +kernel)⟩
theorem lw_p28 : lw_okq (⟨"QuakeLists$Mothers", "deepestOfFamily", "(LQuakeLists$Quakes;I)I"⟩, 5) := ⟨⟨by decide +kernel, by decide +kernel⟩, List.mem_of_getElem? (i := 155) (by decide +kernel), List.mem_of_getElem? (i := 560) (by decide +kernel), List.mem_of_getElem? (i := 561) (by decide +kernel)⟩
theorem lw_p29 : lw_okq (⟨"QuakeLists$Mothers", "howManyFirst", "(LQuakeLists$Quakes;)I"⟩, 5) := ⟨⟨by decide +kernel, by decide +kernel⟩, List.mem_of_getElem? (i := 155) (by decide +kernel), List.mem_of_getElem? (i := 569) (by decide +kernel), List.mem_of_getElem? (i := 570) (by decide +kernel)⟩
theorem lw_p30 : lw_okq (⟨"QuakeLists$Mothers", "firstAt", "(LQuakeLists$Quakes;I)I"⟩, 5) := ⟨⟨by decide +kernel, by decide +kernel⟩, List.mem_of_getElem? (i := 155) (by decide +kernel), List.mem_of_getElem? (i := 573) (by decide +kernel), List.mem_of_getElem? (i := 574) (by decide +kernel)⟩
theorem lw_p31 : lw_okq (⟨"QuakeLists$Mothers", "drawn", "(LQuakeLists$Quakes;IIII)I"⟩, 5) := ⟨⟨by decide +kernel, by decide +kernel⟩, List.mem_of_getElem? (i := 155) (by decide +kernel), List.mem_of_getElem? (i := 582) (by decide +kernel), List.mem_of_getElem? (i := 583) (by decide +kernel)⟩
def lw_privs_2 : List (MethodName × Nat) := [(⟨"QuakeLists$Quakes", "isCounted", "(III)Z"⟩, 9), (⟨"QuakeLists$Counts", "commonest", "(LQuakeLists$Quakes;II)I"⟩, 1), (⟨"QuakeLists$Counts", "sumAbove", "(LQuakeLists$Quakes;III)I"⟩, 1), (⟨"QuakeLists$Mothers", "stepsOf", "(I)[I"⟩, 5), (⟨"QuakeLists$Mothers", "weightIfAhead", "(LQuakeLists$Quakes;III)I"⟩, 5), (⟨"QuakeLists$Mothers", "weight", "(LQuakeLists$Quakes;II)I"⟩, 5), (⟨"QuakeLists$Mothers", "weightAt", "(LQuakeLists$Quakes;IIII)I"⟩, 5), (⟨"QuakeLists$Mothers", "allWeights", "(LQuakeLists$Quakes;III)I"⟩, 5), (⟨"QuakeLists", "refusalOfDaughter", "(IIZ)I"⟩, 10), (⟨"QuakeLists$Mothers", "likeliest", "(LQuakeLists$Quakes;III)I"⟩, 5), (⟨"QuakeLists$Mothers", "trace", "(LQuakeLists$Quakes;II)V"⟩, 5), (⟨"QuakeLists$Mothers", "sizeOfFamily", "(LQuakeLists$Quakes;I)I"⟩, 5), (⟨"QuakeLists$Mothers", "deepestOfFamily", "(LQuakeLists$Quakes;I)I"⟩, 5), (⟨"QuakeLists$Mothers", "howManyFirst", "(LQuakeLists$Quakes;)I"⟩, 5), (⟨"QuakeLists$Mothers", "firstAt", "(LQuakeLists$Quakes;I)I"⟩, 5), (⟨"QuakeLists$Mothers", "drawn", "(LQuakeLists$Quakes;IIII)I"⟩, 5)]
theorem lw_r2 : ∀ q ∈ lw_privs_2, lw_okq q := List.forall_mem_cons.mpr ⟨lw_p16, List.forall_mem_cons.mpr ⟨lw_p17, List.forall_mem_cons.mpr ⟨lw_p18, List.forall_mem_cons.mpr ⟨lw_p19, List.forall_mem_cons.mpr ⟨lw_p20, List.forall_mem_cons.mpr ⟨lw_p21, List.forall_mem_cons.mpr ⟨lw_p22, List.forall_mem_cons.mpr ⟨lw_p23, List.forall_mem_cons.mpr ⟨lw_p24, List.forall_mem_cons.mpr ⟨lw_p25, List.forall_mem_cons.mpr ⟨lw_p26, List.forall_mem_cons.mpr ⟨lw_p27, List.forall_mem_cons.mpr ⟨lw_p28, List.forall_mem_cons.mpr ⟨lw_p29, List.forall_mem_cons.mpr ⟨lw_p30, List.forall_mem_cons.mpr ⟨lw_p31, fun _ h => absurd h List.not_mem_nil⟩⟩⟩⟩⟩⟩⟩⟩⟩⟩⟩⟩⟩⟩⟩⟩
theorem lw_p32 : lw_okq (⟨"QuakeLists$Mothers", "weightOn", "(LQuakeLists$Quakes;IIII)I"⟩, 5) := ⟨⟨by decide +kernel, by decide +kernel⟩, List.mem_of_getElem? (i := 155) (by decide +kernel), List.mem_of_getElem? (i := 594) (by decide +kernel), List.mem_of_getElem? (i := 595) (by decide +kernel)⟩
theorem lw_p33 : lw_okq (⟨"QuakeLists$Signs", "isFull", "()Z"⟩, 2) := ⟨⟨by decide +kernel, by decide +kernel⟩, List.mem_of_getElem? (i := 179) (by decide +kernel), List.mem_of_getElem? (i := 602) (by decide +kernel), List.mem_of_getElem? (i := 603) (by decide +kernel)⟩
theorem lw_p34 : lw_okq (⟨"QuakeLists$Signs", "add", "(I)I"⟩, 2) := ⟨⟨by decide +kernel, by decide +kernel⟩, List.mem_of_getElem? (i := 179) (by decide +kernel), List.mem_of_getElem? (i := 606) (by decide +kernel), List.mem_of_getElem? (i := 607) (by decide +kernel)⟩
theorem lw_p35 : lw_okq (⟨"QuakeLists$Signs", "faultyPlace", "()I"⟩, 2) := ⟨⟨by decide +kernel, by decide +kernel⟩, List.mem_of_getElem? (i := 179) (by decide +kernel), List.mem_of_getElem? (i := 618) (by decide +kernel), List.mem_of_getElem? (i := 619) (by decide +kernel)⟩
theorem lw_p36 : lw_okq (⟨"QuakeLists$Signs", "read", "()LQuakeLists$Forecast;"⟩, 2) := ⟨⟨by decide +kernel, by decide +kernel⟩, List.mem_of_getElem? (i := 179) (by decide +kernel), List.mem_of_getElem? (i := 631) (by decide +kernel), List.mem_of_getElem? (i := 632) (by decide +kernel)⟩
theorem lw_p37 : lw_okq (⟨"QuakeLists$Forecast", "take", "(II)V"⟩, 6) := ⟨⟨by decide +kernel, by decide +kernel⟩, List.mem_of_getElem? (i := 635) (by decide +kernel), List.mem_of_getElem? (i := 664) (by decide +kernel), List.mem_of_getElem? (i := 665) (by decide +kernel)⟩
theorem lw_p38 : lw_okq (⟨"QuakeLists", "forecastOf", "(I)LQuakeLists$Forecast;"⟩, 10) := ⟨⟨by decide +kernel, by decide +kernel⟩, List.mem_of_getElem? (i := 14) (by decide +kernel), List.mem_of_getElem? (i := 672) (by decide +kernel), List.mem_of_getElem? (i := 673) (by decide +kernel)⟩
theorem lw_p39 : lw_okq (⟨"QuakeLists$Forecast", "toldFor", "(LQuakeLists$Quakes;I)I"⟩, 6) := ⟨⟨by decide +kernel, by decide +kernel⟩, List.mem_of_getElem? (i := 635) (by decide +kernel), List.mem_of_getElem? (i := 676) (by decide +kernel), List.mem_of_getElem? (i := 677) (by decide +kernel)⟩
theorem lw_p40 : lw_okq (⟨"QuakeLists$Forecast", "howManyAhead", "(LQuakeLists$Quakes;II)I"⟩, 6) := ⟨⟨by decide +kernel, by decide +kernel⟩, List.mem_of_getElem? (i := 635) (by decide +kernel), List.mem_of_getElem? (i := 680) (by decide +kernel), List.mem_of_getElem? (i := 681) (by decide +kernel)⟩
theorem lw_p41 : lw_okq (⟨"QuakeLists$Quakes", "isGreat", "(II)Z"⟩, 9) := ⟨⟨by decide +kernel, by decide +kernel⟩, List.mem_of_getElem? (i := 22) (by decide +kernel), List.mem_of_getElem? (i := 684) (by decide +kernel), List.mem_of_getElem? (i := 685) (by decide +kernel)⟩
theorem lw_p42 : lw_okq (⟨"QuakeLists", "scoreOfMix", "(IIIIII)J"⟩, 10) := ⟨⟨by decide +kernel, by decide +kernel⟩, List.mem_of_getElem? (i := 14) (by decide +kernel), List.mem_of_getElem? (i := 693) (by decide +kernel), List.mem_of_getElem? (i := 694) (by decide +kernel)⟩
theorem lw_p43 : lw_okq (⟨"QuakeLists$Scores", "work", "(LQuakeLists$Quakes;LQuakeLists$Forecast;LQuakeLists$Forecast;III)V"⟩, 2) := ⟨⟨by decide +kernel, by decide +kernel⟩, List.mem_of_getElem? (i := 195) (by decide +kernel), List.mem_of_getElem? (i := 700) (by decide +kernel), List.mem_of_getElem? (i := 701) (by decide +kernel)⟩
theorem lw_p44 : lw_okq (⟨"QuakeLists$Scores", "markStrikes", "(LQuakeLists$Quakes;III)V"⟩, 2) := ⟨⟨by decide +kernel, by decide +kernel⟩, List.mem_of_getElem? (i := 195) (by decide +kernel), List.mem_of_getElem? (i := 704) (by decide +kernel), List.mem_of_getElem? (i := 705) (by decide +kernel)⟩
theorem lw_p45 : lw_okq (⟨"QuakeLists$Scores", "mark", "(III)V"⟩, 2) := ⟨⟨by decide +kernel, by decide +kernel⟩, List.mem_of_getElem? (i := 195) (by decide +kernel), List.mem_of_getElem? (i := 709) (by decide +kernel), List.mem_of_getElem? (i := 710) (by decide +kernel)⟩
theorem lw_p46 : lw_okq (⟨"QuakeLists$Scores", "markRules", "(LQuakeLists$Quakes;LQuakeLists$Forecast;II)V"⟩, 2) := ⟨⟨by decide +kernel, by decide +kernel⟩, List.mem_of_getElem? (i := 195) (by decide +kernel), List.mem_of_getElem? (i := 713) (by decide +kernel), List.mem_of_getElem? (i := 714) (by decide +kernel)⟩
theorem lw_p47 : lw_okq (⟨"QuakeLists$Scores", "addStretch", "(LQuakeLists$Quakes;LQuakeLists$Forecast;LQuakeLists$Forecast;III)V"⟩, 2) := ⟨⟨by decide +kernel, by decide +kernel⟩, List.mem_of_getElem? (i := 195) (by decide +kernel), List.mem_of_getElem? (i := 717) (by decide +kernel), List.mem_of_getElem? (i := 718) (by decide +kernel)⟩
def lw_privs_3 : List (MethodName × Nat) := [(⟨"QuakeLists$Mothers", "weightOn", "(LQuakeLists$Quakes;IIII)I"⟩, 5), (⟨"QuakeLists$Signs", "isFull", "()Z"⟩, 2), (⟨"QuakeLists$Signs", "add", "(I)I"⟩, 2), (⟨"QuakeLists$Signs", "faultyPlace", "()I"⟩, 2), (⟨"QuakeLists$Signs", "read", "()LQuakeLists$Forecast;"⟩, 2), (⟨"QuakeLists$Forecast", "take", "(II)V"⟩, 6), (⟨"QuakeLists", "forecastOf", "(I)LQuakeLists$Forecast;"⟩, 10), (⟨"QuakeLists$Forecast", "toldFor", "(LQuakeLists$Quakes;I)I"⟩, 6), (⟨"QuakeLists$Forecast", "howManyAhead", "(LQuakeLists$Quakes;II)I"⟩, 6), (⟨"QuakeLists$Quakes", "isGreat", "(II)Z"⟩, 9), (⟨"QuakeLists", "scoreOfMix", "(IIIIII)J"⟩, 10), (⟨"QuakeLists$Scores", "work", "(LQuakeLists$Quakes;LQuakeLists$Forecast;LQuakeLists$Forecast;III)V"⟩, 2), (⟨"QuakeLists$Scores", "markStrikes", "(LQuakeLists$Quakes;III)V"⟩, 2), (⟨"QuakeLists$Scores", "mark", "(III)V"⟩, 2), (⟨"QuakeLists$Scores", "markRules", "(LQuakeLists$Quakes;LQuakeLists$Forecast;II)V"⟩, 2), (⟨"QuakeLists$Scores", "addStretch", "(LQuakeLists$Quakes;LQuakeLists$Forecast;LQuakeLists$Forecast;III)V"⟩, 2)]
theorem lw_r3 : ∀ q ∈ lw_privs_3, lw_okq q := List.forall_mem_cons.mpr ⟨lw_p32, List.forall_mem_cons.mpr ⟨lw_p33, List.forall_mem_cons.mpr ⟨lw_p34, List.forall_mem_cons.mpr ⟨lw_p35, List.forall_mem_cons.mpr ⟨lw_p36, List.forall_mem_cons.mpr ⟨lw_p37, List.forall_mem_cons.mpr ⟨lw_p38, List.forall_mem_cons.mpr ⟨lw_p39, List.forall_mem_cons.mpr ⟨lw_p40, List.forall_mem_cons.mpr ⟨lw_p41, List.forall_mem_cons.mpr ⟨lw_p42, List.forall_mem_cons.mpr ⟨lw_p43, List.forall_mem_cons.mpr ⟨lw_p44, List.forall_mem_cons.mpr ⟨lw_p45, List.forall_mem_cons.mpr ⟨lw_p46, List.forall_mem_cons.mpr ⟨lw_p47, fun _ h => absurd h List.not_mem_nil⟩⟩⟩⟩⟩⟩⟩⟩⟩⟩⟩⟩⟩⟩⟩⟩
theorem lw_p48 : lw_okq (⟨"QuakeLists$Quakes", "strikes", "(II)Z"⟩, 9) := ⟨⟨by decide +kernel, by decide +kernel⟩, List.mem_of_getElem? (i := 22) (by decide +kernel), List.mem_of_getElem? (i := 722) (by decide +kernel), List.mem_of_getElem? (i := 723) (by decide +kernel)⟩
theorem lw_p49 : lw_okq (⟨"QuakeLists$Scores", "leastMix", "()I"⟩, 2) := ⟨⟨by decide +kernel, by decide +kernel⟩, List.mem_of_getElem? (i := 195) (by decide +kernel), List.mem_of_getElem? (i := 736) (by decide +kernel), List.mem_of_getElem? (i := 737) (by decide +kernel)⟩
theorem lw_p50 : lw_okq (⟨"QuakeLists$Ground", "build", "(IIIII)I"⟩, 13) := ⟨⟨by decide +kernel, by decide +kernel⟩, List.mem_of_getElem? (i := 209) (by decide +kernel), List.mem_of_getElem? (i := 744) (by decide +kernel), List.mem_of_getElem? (i := 745) (by decide +kernel)⟩
theorem lw_p51 : lw_okq (⟨"QuakeLists$Ground", "lossByQuake", "(LQuakeLists$Quakes;II)I"⟩, 13) := ⟨⟨by decide +kernel, by decide +kernel⟩, List.mem_of_getElem? (i := 209) (by decide +kernel), List.mem_of_getElem? (i := 756) (by decide +kernel), List.mem_of_getElem? (i := 757) (by decide +kernel)⟩
theorem lw_p52 : lw_okq (⟨"QuakeLists$Ground", "lossInAll", "(IIIII)I"⟩, 13) := ⟨⟨by decide +kernel, by decide +kernel⟩, List.mem_of_getElem? (i := 209) (by decide +kernel), List.mem_of_getElem? (i := 760) (by decide +kernel), List.mem_of_getElem? (i := 761) (by decide +kernel)⟩
theorem lw_p53 : lw_okq (⟨"QuakeLists$Ground", "lossOfHouse", "(IIIIII)I"⟩, 13) := ⟨⟨by decide +kernel, by decide +kernel⟩, List.mem_of_getElem? (i := 209) (by decide +kernel), List.mem_of_getElem? (i := 764) (by decide +kernel), List.mem_of_getElem? (i := 765) (by decide +kernel)⟩
theorem lw_p54 : lw_okq (⟨"QuakeLists$Ground", "worstQuake", "(LQuakeLists$Quakes;II)I"⟩, 13) := ⟨⟨by decide +kernel, by decide +kernel⟩, List.mem_of_getElem? (i := 209) (by decide +kernel), List.mem_of_getElem? (i := 774) (by decide +kernel), List.mem_of_getElem? (i := 775) (by decide +kernel)⟩
theorem lw_p55 : lw_okq (⟨"QuakeLists$Ground", "enact", "(IIII)I"⟩, 13) := ⟨⟨by decide +kernel, by decide +kernel⟩, List.mem_of_getElem? (i := 209) (by decide +kernel), List.mem_of_getElem? (i := 784) (by decide +kernel), List.mem_of_getElem? (i := 785) (by decide +kernel)⟩
theorem lw_p56 : lw_okq (⟨"QuakeLists$Ground", "howOftenAbove", "(II)I"⟩, 13) := ⟨⟨by decide +kernel, by decide +kernel⟩, List.mem_of_getElem? (i := 209) (by decide +kernel), List.mem_of_getElem? (i := 792) (by decide +kernel), List.mem_of_getElem? (i := 793) (by decide +kernel)⟩
theorem lw_p57 : lw_okq (⟨"QuakeLists$Ground", "lossByLaw", "(III)I"⟩, 13) := ⟨⟨by decide +kernel, by decide +kernel⟩, List.mem_of_getElem? (i := 209) (by decide +kernel), List.mem_of_getElem? (i := 796) (by decide +kernel), List.mem_of_getElem? (i := 797) (by decide +kernel)⟩
theorem lw_p58 : lw_okq (⟨"QuakeLists$Ground", "meanLoss", "(II)J"⟩, 13) := ⟨⟨by decide +kernel, by decide +kernel⟩, List.mem_of_getElem? (i := 209) (by decide +kernel), List.mem_of_getElem? (i := 804) (by decide +kernel), List.mem_of_getElem? (i := 805) (by decide +kernel)⟩
theorem lw_p59 : lw_okq (⟨"QuakeLists$Ground", "bestHouses", "(II)I"⟩, 13) := ⟨⟨by decide +kernel, by decide +kernel⟩, List.mem_of_getElem? (i := 209) (by decide +kernel), List.mem_of_getElem? (i := 812) (by decide +kernel), List.mem_of_getElem? (i := 813) (by decide +kernel)⟩
theorem lw_p60 : lw_okq (⟨"QuakeLists$Ground", "gainOf", "(II)J"⟩, 13) := ⟨⟨by decide +kernel, by decide +kernel⟩, List.mem_of_getElem? (i := 209) (by decide +kernel), List.mem_of_getElem? (i := 817) (by decide +kernel), List.mem_of_getElem? (i := 818) (by decide +kernel)⟩
theorem lw_p61 : lw_okq (⟨"QuakeLists$Ground", "offer", "(IJI)V"⟩, 13) := ⟨⟨by decide +kernel, by decide +kernel⟩, List.mem_of_getElem? (i := 209) (by decide +kernel), List.mem_of_getElem? (i := 822) (by decide +kernel), List.mem_of_getElem? (i := 823) (by decide +kernel)⟩
theorem lw_p62 : lw_okq (⟨"QuakeLists$Quakes", "howManyBlasts", "()I"⟩, 9) := ⟨⟨by decide +kernel, by decide +kernel⟩, List.mem_of_getElem? (i := 22) (by decide +kernel), List.mem_of_getElem? (i := 836) (by decide +kernel), List.mem_of_getElem? (i := 837) (by decide +kernel)⟩
theorem lw_p63 : lw_okq (⟨"QuakeListsModel", "isQuake", "(I)Z"⟩, 34) := ⟨⟨by decide +kernel, by decide +kernel⟩, List.mem_of_getElem? (i := 840) (by decide +kernel), List.mem_of_getElem? (i := 977) (by decide +kernel), List.mem_of_getElem? (i := 978) (by decide +kernel)⟩
def lw_privs_4 : List (MethodName × Nat) := [(⟨"QuakeLists$Quakes", "strikes", "(II)Z"⟩, 9), (⟨"QuakeLists$Scores", "leastMix", "()I"⟩, 2), (⟨"QuakeLists$Ground", "build", "(IIIII)I"⟩, 13), (⟨"QuakeLists$Ground", "lossByQuake", "(LQuakeLists$Quakes;II)I"⟩, 13), (⟨"QuakeLists$Ground", "lossInAll", "(IIIII)I"⟩, 13), (⟨"QuakeLists$Ground", "lossOfHouse", "(IIIIII)I"⟩, 13), (⟨"QuakeLists$Ground", "worstQuake", "(LQuakeLists$Quakes;II)I"⟩, 13), (⟨"QuakeLists$Ground", "enact", "(IIII)I"⟩, 13), (⟨"QuakeLists$Ground", "howOftenAbove", "(II)I"⟩, 13), (⟨"QuakeLists$Ground", "lossByLaw", "(III)I"⟩, 13), (⟨"QuakeLists$Ground", "meanLoss", "(II)J"⟩, 13), (⟨"QuakeLists$Ground", "bestHouses", "(II)I"⟩, 13), (⟨"QuakeLists$Ground", "gainOf", "(II)J"⟩, 13), (⟨"QuakeLists$Ground", "offer", "(IJI)V"⟩, 13), (⟨"QuakeLists$Quakes", "howManyBlasts", "()I"⟩, 9), (⟨"QuakeListsModel", "isQuake", "(I)Z"⟩, 34)]
theorem lw_r4 : ∀ q ∈ lw_privs_4, lw_okq q := List.forall_mem_cons.mpr ⟨lw_p48, List.forall_mem_cons.mpr ⟨lw_p49, List.forall_mem_cons.mpr ⟨lw_p50, List.forall_mem_cons.mpr ⟨lw_p51, List.forall_mem_cons.mpr ⟨lw_p52, List.forall_mem_cons.mpr ⟨lw_p53, List.forall_mem_cons.mpr ⟨lw_p54, List.forall_mem_cons.mpr ⟨lw_p55, List.forall_mem_cons.mpr ⟨lw_p56, List.forall_mem_cons.mpr ⟨lw_p57, List.forall_mem_cons.mpr ⟨lw_p58, List.forall_mem_cons.mpr ⟨lw_p59, List.forall_mem_cons.mpr ⟨lw_p60, List.forall_mem_cons.mpr ⟨lw_p61, List.forall_mem_cons.mpr ⟨lw_p62, List.forall_mem_cons.mpr ⟨lw_p63, fun _ h => absurd h List.not_mem_nil⟩⟩⟩⟩⟩⟩⟩⟩⟩⟩⟩⟩⟩⟩⟩⟩
theorem lw_p64 : lw_okq (⟨"QuakeListsModel", "placeOf", "(I)I"⟩, 34) := ⟨⟨by decide +kernel, by decide +kernel⟩, List.mem_of_getElem? (i := 840) (by decide +kernel), List.mem_of_getElem? (i := 989) (by decide +kernel), List.mem_of_getElem? (i := 990) (by decide +kernel)⟩
theorem lw_p65 : lw_okq (⟨"QuakeListsModel", "listed", "(IZ)I"⟩, 34) := ⟨⟨by decide +kernel, by decide +kernel⟩, List.mem_of_getElem? (i := 840) (by decide +kernel), List.mem_of_getElem? (i := 1006) (by decide +kernel), List.mem_of_getElem? (i := 1007) (by decide +kernel)⟩
theorem lw_p66 : lw_okq (⟨"QuakeListsModel", "findJoins", "()V"⟩, 34) := ⟨⟨by decide +kernel, by decide +kernel⟩, List.mem_of_getElem? (i := 840) (by decide +kernel), List.mem_of_getElem? (i := 1010) (by decide +kernel), List.mem_of_getElem? (i := 1011) (by decide +kernel)⟩
theorem lw_p67 : lw_okq (⟨"QuakeListsModel", "joinBy", "(III)I"⟩, 34) := ⟨⟨by decide +kernel, by decide +kernel⟩, List.mem_of_getElem? (i := 840) (by decide +kernel), List.mem_of_getElem? (i := 1014) (by decide +kernel), List.mem_of_getElem? (i := 1015) (by decide +kernel)⟩
theorem lw_p68 : lw_okq (⟨"QuakeListsModel", "missOf", "(II)I"⟩, 34) := ⟨⟨by decide +kernel, by decide +kernel⟩, List.mem_of_getElem? (i := 840) (by decide +kernel), List.mem_of_getElem? (i := 1018) (by decide +kernel), List.mem_of_getElem? (i := 1019) (by decide +kernel)⟩
theorem lw_p69 : lw_okq (⟨"QuakeListsModel", "countOf", "(III)I"⟩, 34) := ⟨⟨by decide +kernel, by decide +kernel⟩, List.mem_of_getElem? (i := 840) (by decide +kernel), List.mem_of_getElem? (i := 1036) (by decide +kernel), List.mem_of_getElem? (i := 1037) (by decide +kernel)⟩
theorem lw_p70 : lw_okq (⟨"QuakeListsModel", "isCounted", "(III)Z"⟩, 34) := ⟨⟨by decide +kernel, by decide +kernel⟩, List.mem_of_getElem? (i := 840) (by decide +kernel), List.mem_of_getElem? (i := 1040) (by decide +kernel), List.mem_of_getElem? (i := 1041) (by decide +kernel)⟩
theorem lw_p71 : lw_okq (⟨"QuakeListsModel", "mayBear", "(III)Z"⟩, 34) := ⟨⟨by decide +kernel, by decide +kernel⟩, List.mem_of_getElem? (i := 840) (by decide +kernel), List.mem_of_getElem? (i := 1087) (by decide +kernel), List.mem_of_getElem? (i := 1088) (by decide +kernel)⟩
theorem lw_p72 : lw_okq (⟨"QuakeListsModel", "isAhead", "(II)Z"⟩, 34) := ⟨⟨by decide +kernel, by decide +kernel⟩, List.mem_of_getElem? (i := 840) (by decide +kernel), List.mem_of_getElem? (i := 1091) (by decide +kernel), List.mem_of_getElem? (i := 1092) (by decide +kernel)⟩
theorem lw_p73 : lw_okq (⟨"QuakeListsModel", "weightOf", "(II)I"⟩, 34) := ⟨⟨by decide +kernel, by decide +kernel⟩, List.mem_of_getElem? (i := 840) (by decide +kernel), List.mem_of_getElem? (i := 1095) (by decide +kernel), List.mem_of_getElem? (i := 1096) (by decide +kernel)⟩
theorem lw_p74 : lw_okq (⟨"QuakeListsModel", "weigh", "(IIII)I"⟩, 34) := ⟨⟨by decide +kernel, by decide +kernel⟩, List.mem_of_getElem? (i := 840) (by decide +kernel), List.mem_of_getElem? (i := 1099) (by decide +kernel), List.mem_of_getElem? (i := 1100) (by decide +kernel)⟩
theorem lw_p75 : lw_okq (⟨"QuakeListsModel", "allWeights", "(II)J"⟩, 34) := ⟨⟨by decide +kernel, by decide +kernel⟩, List.mem_of_getElem? (i := 840) (by decide +kernel), List.mem_of_getElem? (i := 1106) (by decide +kernel), List.mem_of_getElem? (i := 1107) (by decide +kernel)⟩
theorem lw_p76 : lw_okq (⟨"QuakeListsModel", "whyNot", "(II)I"⟩, 34) := ⟨⟨by decide +kernel, by decide +kernel⟩, List.mem_of_getElem? (i := 840) (by decide +kernel), List.mem_of_getElem? (i := 1114) (by decide +kernel), List.mem_of_getElem? (i := 1115) (by decide +kernel)⟩
theorem lw_p77 : lw_okq (⟨"QuakeListsModel", "motherOf", "(II)I"⟩, 34) := ⟨⟨by decide +kernel, by decide +kernel⟩, List.mem_of_getElem? (i := 840) (by decide +kernel), List.mem_of_getElem? (i := 1118) (by decide +kernel), List.mem_of_getElem? (i := 1119) (by decide +kernel)⟩
theorem lw_p78 : lw_okq (⟨"QuakeListsModel", "firstOf", "(II)I"⟩, 34) := ⟨⟨by decide +kernel, by decide +kernel⟩, List.mem_of_getElem? (i := 840) (by decide +kernel), List.mem_of_getElem? (i := 1127) (by decide +kernel), List.mem_of_getElem? (i := 1128) (by decide +kernel)⟩
theorem lw_p79 : lw_okq (⟨"QuakeListsModel", "depthOf", "(II)I"⟩, 34) := ⟨⟨by decide +kernel, by decide +kernel⟩, List.mem_of_getElem? (i := 840) (by decide +kernel), List.mem_of_getElem? (i := 1131) (by decide +kernel), List.mem_of_getElem? (i := 1132) (by decide +kernel)⟩
def lw_privs_5 : List (MethodName × Nat) := [(⟨"QuakeListsModel", "placeOf", "(I)I"⟩, 34), (⟨"QuakeListsModel", "listed", "(IZ)I"⟩, 34), (⟨"QuakeListsModel", "findJoins", "()V"⟩, 34), (⟨"QuakeListsModel", "joinBy", "(III)I"⟩, 34), (⟨"QuakeListsModel", "missOf", "(II)I"⟩, 34), (⟨"QuakeListsModel", "countOf", "(III)I"⟩, 34), (⟨"QuakeListsModel", "isCounted", "(III)Z"⟩, 34), (⟨"QuakeListsModel", "mayBear", "(III)Z"⟩, 34), (⟨"QuakeListsModel", "isAhead", "(II)Z"⟩, 34), (⟨"QuakeListsModel", "weightOf", "(II)I"⟩, 34), (⟨"QuakeListsModel", "weigh", "(IIII)I"⟩, 34), (⟨"QuakeListsModel", "allWeights", "(II)J"⟩, 34), (⟨"QuakeListsModel", "whyNot", "(II)I"⟩, 34), (⟨"QuakeListsModel", "motherOf", "(II)I"⟩, 34), (⟨"QuakeListsModel", "firstOf", "(II)I"⟩, 34), (⟨"QuakeListsModel", "depthOf", "(II)I"⟩, 34)]
theorem lw_r5 : ∀ q ∈ lw_privs_5, lw_okq q := List.forall_mem_cons.mpr ⟨lw_p64, List.forall_mem_cons.mpr ⟨lw_p65, List.forall_mem_cons.mpr ⟨lw_p66, List.forall_mem_cons.mpr ⟨lw_p67, List.forall_mem_cons.mpr ⟨lw_p68, List.forall_mem_cons.mpr ⟨lw_p69, List.forall_mem_cons.mpr ⟨lw_p70, List.forall_mem_cons.mpr ⟨lw_p71, List.forall_mem_cons.mpr ⟨lw_p72, List.forall_mem_cons.mpr ⟨lw_p73, List.forall_mem_cons.mpr ⟨lw_p74, List.forall_mem_cons.mpr ⟨lw_p75, List.forall_mem_cons.mpr ⟨lw_p76, List.forall_mem_cons.mpr ⟨lw_p77, List.forall_mem_cons.mpr ⟨lw_p78, List.forall_mem_cons.mpr ⟨lw_p79, fun _ h => absurd h List.not_mem_nil⟩⟩⟩⟩⟩⟩⟩⟩⟩⟩⟩⟩⟩⟩⟩⟩
theorem lw_p80 : lw_okq (⟨"QuakeListsModel", "drawnFor", "(IJI)I"⟩, 34) := ⟨⟨by decide +kernel, by decide +kernel⟩, List.mem_of_getElem? (i := 840) (by decide +kernel), List.mem_of_getElem? (i := 1146) (by decide +kernel), List.mem_of_getElem? (i := 1147) (by decide +kernel)⟩
theorem lw_p81 : lw_okq (⟨"QuakeListsModel", "isForecast", "(I)Z"⟩, 34) := ⟨⟨by decide +kernel, by decide +kernel⟩, List.mem_of_getElem? (i := 840) (by decide +kernel), List.mem_of_getElem? (i := 1185) (by decide +kernel), List.mem_of_getElem? (i := 1186) (by decide +kernel)⟩
theorem lw_p82 : lw_okq (⟨"QuakeListsModel", "toldFor", "(II)I"⟩, 34) := ⟨⟨by decide +kernel, by decide +kernel⟩, List.mem_of_getElem? (i := 840) (by decide +kernel), List.mem_of_getElem? (i := 1189) (by decide +kernel), List.mem_of_getElem? (i := 1190) (by decide +kernel)⟩
theorem lw_p83 : lw_okq (⟨"QuakeListsModel", "manyAhead", "(III)I"⟩, 34) := ⟨⟨by decide +kernel, by decide +kernel⟩, List.mem_of_getElem? (i := 840) (by decide +kernel), List.mem_of_getElem? (i := 1193) (by decide +kernel), List.mem_of_getElem? (i := 1194) (by decide +kernel)⟩
theorem lw_p84 : lw_okq (⟨"QuakeListsModel", "scoreOf", "(IIIIII)J"⟩, 34) := ⟨⟨by decide +kernel, by decide +kernel⟩, List.mem_of_getElem? (i := 840) (by decide +kernel), List.mem_of_getElem? (i := 1204) (by decide +kernel), List.mem_of_getElem? (i := 1205) (by decide +kernel)⟩
theorem lw_p85 : lw_okq (⟨"QuakeListsModel", "hasQuake", "(II)Z"⟩, 34) := ⟨⟨by decide +kernel, by decide +kernel⟩, List.mem_of_getElem? (i := 840) (by decide +kernel), List.mem_of_getElem? (i := 1208) (by decide +kernel), List.mem_of_getElem? (i := 1209) (by decide +kernel)⟩
theorem lw_p86 : lw_okq (⟨"QuakeListsModel", "lossOf", "(I)I"⟩, 34) := ⟨⟨by decide +kernel, by decide +kernel⟩, List.mem_of_getElem? (i := 840) (by decide +kernel), List.mem_of_getElem? (i := 1235) (by decide +kernel), List.mem_of_getElem? (i := 1236) (by decide +kernel)⟩
theorem lw_p87 : lw_okq (⟨"QuakeListsModel", "lossBy", "(IIII)I"⟩, 34) := ⟨⟨by decide +kernel, by decide +kernel⟩, List.mem_of_getElem? (i := 840) (by decide +kernel), List.mem_of_getElem? (i := 1239) (by decide +kernel), List.mem_of_getElem? (i := 1240) (by decide +kernel)⟩
theorem lw_p88 : lw_okq (⟨"QuakeListsModel", "lawLoss", "(II)I"⟩, 34) := ⟨⟨by decide +kernel, by decide +kernel⟩, List.mem_of_getElem? (i := 840) (by decide +kernel), List.mem_of_getElem? (i := 1255) (by decide +kernel), List.mem_of_getElem? (i := 1256) (by decide +kernel)⟩
theorem lw_p89 : lw_okq (⟨"QuakeListsModel", "meanOf", "(I)J"⟩, 34) := ⟨⟨by decide +kernel, by decide +kernel⟩, List.mem_of_getElem? (i := 840) (by decide +kernel), List.mem_of_getElem? (i := 1263) (by decide +kernel), List.mem_of_getElem? (i := 1264) (by decide +kernel)⟩
theorem lw_p90 : lw_okq (⟨"QuakeListsModel", "priceOf", "(I)I"⟩, 34) := ⟨⟨by decide +kernel, by decide +kernel⟩, List.mem_of_getElem? (i := 840) (by decide +kernel), List.mem_of_getElem? (i := 1272) (by decide +kernel), List.mem_of_getElem? (i := 1273) (by decide +kernel)⟩
def lw_privs_6 : List (MethodName × Nat) := [(⟨"QuakeListsModel", "drawnFor", "(IJI)I"⟩, 34), (⟨"QuakeListsModel", "isForecast", "(I)Z"⟩, 34), (⟨"QuakeListsModel", "toldFor", "(II)I"⟩, 34), (⟨"QuakeListsModel", "manyAhead", "(III)I"⟩, 34), (⟨"QuakeListsModel", "scoreOf", "(IIIIII)J"⟩, 34), (⟨"QuakeListsModel", "hasQuake", "(II)Z"⟩, 34), (⟨"QuakeListsModel", "lossOf", "(I)I"⟩, 34), (⟨"QuakeListsModel", "lossBy", "(IIII)I"⟩, 34), (⟨"QuakeListsModel", "lawLoss", "(II)I"⟩, 34), (⟨"QuakeListsModel", "meanOf", "(I)J"⟩, 34), (⟨"QuakeListsModel", "priceOf", "(I)I"⟩, 34)]
theorem lw_r6 : ∀ q ∈ lw_privs_6, lw_okq q := List.forall_mem_cons.mpr ⟨lw_p80, List.forall_mem_cons.mpr ⟨lw_p81, List.forall_mem_cons.mpr ⟨lw_p82, List.forall_mem_cons.mpr ⟨lw_p83, List.forall_mem_cons.mpr ⟨lw_p84, List.forall_mem_cons.mpr ⟨lw_p85, List.forall_mem_cons.mpr ⟨lw_p86, List.forall_mem_cons.mpr ⟨lw_p87, List.forall_mem_cons.mpr ⟨lw_p88, List.forall_mem_cons.mpr ⟨lw_p89, List.forall_mem_cons.mpr ⟨lw_p90, fun _ h => absurd h List.not_mem_nil⟩⟩⟩⟩⟩⟩⟩⟩⟩⟩⟩
def lw_privs : List (MethodName × Nat) := lw_privs_1 ++ (lw_privs_2 ++ (lw_privs_3 ++ (lw_privs_4 ++ (lw_privs_5 ++ (lw_privs_6)))))
def lw_tbl : List Cond := k2_sels lw_privs ++ tables_1
theorem lw_privs_ok : ∀ q ∈ lw_privs, lw_okq q := by
  show ∀ q ∈ lw_privs_1 ++ (lw_privs_2 ++ (lw_privs_3 ++ (lw_privs_4 ++ (lw_privs_5 ++ (lw_privs_6))))), lw_okq q
  exact List.forall_mem_append.mpr ⟨lw_r1, List.forall_mem_append.mpr ⟨lw_r2, List.forall_mem_append.mpr ⟨lw_r3, List.forall_mem_append.mpr ⟨lw_r4, List.forall_mem_append.mpr ⟨lw_r5, lw_r6⟩⟩⟩⟩⟩
-- ===== end of PART A; then your names; then what follows =====
def RX0 : String := "QuakeLists$Counts"
def TX0 : u_T := fun k => match k with
  | _ => ("QuakeLists$Counts", "tally", "[I", true)
def tyX0 : Nat → FieldType := fun k => match k with
  | _ => .array .int
abbrev wsX00 : List Cond := u_ws RX0 TX0 1
theorem nmX0 : ∀ a, a < 1 → ∀ b, b < 1 → a ≠ b → (TX0 a).2.1 ≠ (TX0 b).2.1 := by decide +kernel
theorem tyX0_ok : ∀ k, k < 1 → parseFieldDescriptor (TX0 k).2.2.1 = some (tyX0 k) := by decide +kernel
abbrev cX0_init : ByteArray := prog_2_method_1_code
def yX0_init : MethodName := ⟨RX0, "<init>", "()V"⟩
abbrev cX0_howMany : ByteArray := prog_2_method_2_code
def yX0_howMany : MethodName := ⟨RX0, "howMany", "(LQuakeLists$Quakes;III)I"⟩
abbrev cX0_sumAbove : ByteArray := prog_2_method_3_code
def yX0_sumAbove : MethodName := ⟨RX0, "sumAbove", "(LQuakeLists$Quakes;III)I"⟩
abbrev cX0_commonest : ByteArray := prog_2_method_4_code
def yX0_commonest : MethodName := ⟨RX0, "commonest", "(LQuakeLists$Quakes;II)I"⟩
def RX1 : String := "QuakeLists$Forecast"
def TX1 : u_T := fun k => match k with
  | 0 => ("QuakeLists$Forecast", "rules", "I", false)
  | 1 => ("QuakeLists$Forecast", "last", "I", false)
  | 2 => ("QuakeLists$Forecast", "days", "[I", true)
  | 3 => ("QuakeLists$Forecast", "least", "[I", true)
  | 4 => ("QuakeLists$Forecast", "more", "[I", true)
  | _ => ("QuakeLists$Forecast", "chance", "[I", true)
def tyX1 : Nat → FieldType := fun k => match k with
  | 0 => .int
  | 1 => .int
  | 2 => .array .int
  | 3 => .array .int
  | 4 => .array .int
  | _ => .array .int
abbrev wsX10 : List Cond := u_ws RX1 TX1 6
theorem nmX1 : ∀ a, a < 6 → ∀ b, b < 6 → a ≠ b → (TX1 a).2.1 ≠ (TX1 b).2.1 := by decide +kernel
theorem tyX1_ok : ∀ k, k < 6 → parseFieldDescriptor (TX1 k).2.2.1 = some (tyX1 k) := by decide +kernel
abbrev cX1_init : ByteArray := prog_3_method_1_code
def yX1_init : MethodName := ⟨RX1, "<init>", "()V"⟩
abbrev cX1_take : ByteArray := prog_3_method_2_code
def yX1_take : MethodName := ⟨RX1, "take", "(II)V"⟩
abbrev cX1_toldFor : ByteArray := prog_3_method_3_code
def yX1_toldFor : MethodName := ⟨RX1, "toldFor", "(LQuakeLists$Quakes;I)I"⟩
abbrev cX1_howManyAhead : ByteArray := prog_3_method_4_code
def yX1_howManyAhead : MethodName := ⟨RX1, "howManyAhead", "(LQuakeLists$Quakes;II)I"⟩
def RX2 : String := "QuakeLists$Ground"
def TX2 : u_T := fun k => match k with
  | 0 => ("QuakeLists$Ground", "houses", "I", false)
  | 1 => ("QuakeLists$Ground", "houseX", "[I", true)
  | 2 => ("QuakeLists$Ground", "houseY", "[I", true)
  | 3 => ("QuakeLists$Ground", "kind", "[I", true)
  | 4 => ("QuakeLists$Ground", "worth", "[I", true)
  | 5 => ("QuakeLists$Ground", "price", "[I", true)
  | 6 => ("QuakeLists$Ground", "damages", "[[I", true)
  | 7 => ("QuakeLists$Ground", "laws", "I", false)
  | 8 => ("QuakeLists$Ground", "lawX", "[I", true)
  | 9 => ("QuakeLists$Ground", "lawY", "[I", true)
  | 10 => ("QuakeLists$Ground", "lawGreatness", "[I", true)
  | 11 => ("QuakeLists$Ground", "lawOften", "[I", true)
  | _ => ("QuakeLists$Ground", "gainFor", "[J", true)
def tyX2 : Nat → FieldType := fun k => match k with
  | 0 => .int
  | 1 => .array .int
  | 2 => .array .int
  | 3 => .array .int
  | 4 => .array .int
  | 5 => .array .int
  | 6 => .array (.array .int)
  | 7 => .int
  | 8 => .array .int
  | 9 => .array .int
  | 10 => .array .int
  | 11 => .array .int
  | _ => .array .long
abbrev wsX20 : List Cond := u_ws RX2 TX2 13
theorem nmX2 : ∀ a, a < 13 → ∀ b, b < 13 → a ≠ b → (TX2 a).2.1 ≠ (TX2 b).2.1 := by decide +kernel
theorem tyX2_ok : ∀ k, k < 13 → parseFieldDescriptor (TX2 k).2.2.1 = some (tyX2 k) := by decide +kernel
abbrev cX2_init : ByteArray := prog_4_method_1_code
def yX2_init : MethodName := ⟨RX2, "<init>", "()V"⟩
abbrev cX2_build : ByteArray := prog_4_method_2_code
def yX2_build : MethodName := ⟨RX2, "build", "(IIIII)I"⟩
abbrev cX2_enact : ByteArray := prog_4_method_3_code
def yX2_enact : MethodName := ⟨RX2, "enact", "(IIII)I"⟩
abbrev cX2_lossOfHouse : ByteArray := prog_4_method_4_code
def yX2_lossOfHouse : MethodName := ⟨RX2, "lossOfHouse", "(IIIIII)I"⟩
abbrev cX2_lossInAll : ByteArray := prog_4_method_5_code
def yX2_lossInAll : MethodName := ⟨RX2, "lossInAll", "(IIIII)I"⟩
abbrev cX2_lossByQuake : ByteArray := prog_4_method_6_code
def yX2_lossByQuake : MethodName := ⟨RX2, "lossByQuake", "(LQuakeLists$Quakes;II)I"⟩
abbrev cX2_lossByLaw : ByteArray := prog_4_method_7_code
def yX2_lossByLaw : MethodName := ⟨RX2, "lossByLaw", "(III)I"⟩
abbrev cX2_worstQuake : ByteArray := prog_4_method_8_code
def yX2_worstQuake : MethodName := ⟨RX2, "worstQuake", "(LQuakeLists$Quakes;II)I"⟩
abbrev cX2_howOftenAbove : ByteArray := prog_4_method_9_code
def yX2_howOftenAbove : MethodName := ⟨RX2, "howOftenAbove", "(II)I"⟩
abbrev cX2_meanLoss : ByteArray := prog_4_method_10_code
def yX2_meanLoss : MethodName := ⟨RX2, "meanLoss", "(II)J"⟩
abbrev cX2_gainOf : ByteArray := prog_4_method_11_code
def yX2_gainOf : MethodName := ⟨RX2, "gainOf", "(II)J"⟩
abbrev cX2_bestHouses : ByteArray := prog_4_method_12_code
def yX2_bestHouses : MethodName := ⟨RX2, "bestHouses", "(II)I"⟩
abbrev cX2_offer : ByteArray := prog_4_method_13_code
def yX2_offer : MethodName := ⟨RX2, "offer", "(IJI)V"⟩
def RX3 : String := "QuakeLists$Joining"
def TX3 : u_T := fun k => match k with
  | 0 => ("QuakeLists$Joining", "pairs", "I", false)
  | 1 => ("QuakeLists$Joining", "missInAll", "I", false)
  | 2 => ("QuakeLists$Joining", "rows", "I", false)
  | 3 => ("QuakeLists$Joining", "partners", "I", false)
  | 4 => ("QuakeLists$Joining", "columns", "I", false)
  | 5 => ("QuakeLists$Joining", "ofA", "[I", true)
  | 6 => ("QuakeLists$Joining", "ofB", "[I", true)
  | 7 => ("QuakeLists$Joining", "cost", "[[J", true)
  | 8 => ("QuakeLists$Joining", "rowPrice", "[J", true)
  | 9 => ("QuakeLists$Joining", "columnPrice", "[J", true)
  | 10 => ("QuakeLists$Joining", "slack", "[J", true)
  | 11 => ("QuakeLists$Joining", "rowOf", "[I", true)
  | 12 => ("QuakeLists$Joining", "before", "[I", true)
  | _ => ("QuakeLists$Joining", "reached", "[Z", true)
def tyX3 : Nat → FieldType := fun k => match k with
  | 0 => .int
  | 1 => .int
  | 2 => .int
  | 3 => .int
  | 4 => .int
  | 5 => .array .int
  | 6 => .array .int
  | 7 => .array (.array .long)
  | 8 => .array .long
  | 9 => .array .long
  | 10 => .array .long
  | 11 => .array .int
  | 12 => .array .int
  | _ => .array .boolean
abbrev wsX30 : List Cond := u_ws RX3 TX3 14
theorem nmX3 : ∀ a, a < 14 → ∀ b, b < 14 → a ≠ b → (TX3 a).2.1 ≠ (TX3 b).2.1 := by decide +kernel
theorem tyX3_ok : ∀ k, k < 14 → parseFieldDescriptor (TX3 k).2.2.1 = some (tyX3 k) := by decide +kernel
abbrev cX3_init : ByteArray := prog_5_method_1_code
def yX3_init : MethodName := ⟨RX3, "<init>", "()V"⟩
abbrev cX3_pairUp : ByteArray := prog_5_method_2_code
def yX3_pairUp : MethodName := ⟨RX3, "pairUp", "(LQuakeLists$Quakes;IIIII)V"⟩
abbrev cX3_partnerOf : ByteArray := prog_5_method_3_code
def yX3_partnerOf : MethodName := ⟨RX3, "partnerOf", "(I)I"⟩
abbrev cX3_gather : ByteArray := prog_5_method_4_code
def yX3_gather : MethodName := ⟨RX3, "gather", "(LQuakeLists$Quakes;I[I)I"⟩
abbrev cX3_fillCosts : ByteArray := prog_5_method_5_code
def yX3_fillCosts : MethodName := ⟨RX3, "fillCosts", "(LQuakeLists$Quakes;III)V"⟩
abbrev cX3_maySame : ByteArray := prog_5_method_6_code
def yX3_maySame : MethodName := ⟨RX3, "maySame", "(LQuakeLists$Quakes;IIIII)Z"⟩
abbrev cX3_missOf : ByteArray := prog_5_method_7_code
def yX3_missOf : MethodName := ⟨RX3, "missOf", "(LQuakeLists$Quakes;II)I"⟩
abbrev cX3_daysApart : ByteArray := prog_5_method_8_code
def yX3_daysApart : MethodName := ⟨RX3, "daysApart", "(LQuakeLists$Quakes;II)I"⟩
abbrev cX3_cellsApart : ByteArray := prog_5_method_9_code
def yX3_cellsApart : MethodName := ⟨RX3, "cellsApart", "(LQuakeLists$Quakes;II)I"⟩
abbrev cX3_tenthsApart : ByteArray := prog_5_method_10_code
def yX3_tenthsApart : MethodName := ⟨RX3, "tenthsApart", "(LQuakeLists$Quakes;II)I"⟩
abbrev cX3_clearPrices : ByteArray := prog_5_method_11_code
def yX3_clearPrices : MethodName := ⟨RX3, "clearPrices", "()V"⟩
abbrev cX3_placeRow : ByteArray := prog_5_method_12_code
def yX3_placeRow : MethodName := ⟨RX3, "placeRow", "(I)V"⟩
abbrev cX3_loosen : ByteArray := prog_5_method_13_code
def yX3_loosen : MethodName := ⟨RX3, "loosen", "(I)V"⟩
abbrev cX3_nearest : ByteArray := prog_5_method_14_code
def yX3_nearest : MethodName := ⟨RX3, "nearest", "()I"⟩
abbrev cX3_reprice : ByteArray := prog_5_method_15_code
def yX3_reprice : MethodName := ⟨RX3, "reprice", "(J)V"⟩
abbrev cX3_sumUp : ByteArray := prog_5_method_16_code
def yX3_sumUp : MethodName := ⟨RX3, "sumUp", "(LQuakeLists$Quakes;)V"⟩
def RX4 : String := "QuakeLists$Mothers"
def TX4 : u_T := fun k => match k with
  | 0 => ("QuakeLists$Mothers", "produce", "[I", true)
  | 1 => ("QuakeLists$Mothers", "fade", "[I", true)
  | 2 => ("QuakeLists$Mothers", "spread", "[I", true)
  | 3 => ("QuakeLists$Mothers", "firstOf", "[I", true)
  | _ => ("QuakeLists$Mothers", "depthOf", "[I", true)
def tyX4 : Nat → FieldType := fun k => match k with
  | 0 => .array .int
  | 1 => .array .int
  | 2 => .array .int
  | 3 => .array .int
  | _ => .array .int
abbrev wsX40 : List Cond := u_ws RX4 TX4 5
theorem nmX4 : ∀ a, a < 5 → ∀ b, b < 5 → a ≠ b → (TX4 a).2.1 ≠ (TX4 b).2.1 := by decide +kernel
theorem tyX4_ok : ∀ k, k < 5 → parseFieldDescriptor (TX4 k).2.2.1 = some (tyX4 k) := by decide +kernel
abbrev cX4_init : ByteArray := prog_6_method_1_code
def yX4_init : MethodName := ⟨RX4, "<init>", "()V"⟩
abbrev cX4_stepsOf : ByteArray := prog_6_method_2_code
def yX4_stepsOf : MethodName := ⟨RX4, "stepsOf", "(I)[I"⟩
abbrev cX4_fadeStep : ByteArray := prog_6_method_3_code
def yX4_fadeStep : MethodName := ⟨RX4, "fadeStep", "(I)I"⟩
abbrev cX4_weightAt : ByteArray := prog_6_method_4_code
def yX4_weightAt : MethodName := ⟨RX4, "weightAt", "(LQuakeLists$Quakes;IIII)I"⟩
abbrev cX4_weight : ByteArray := prog_6_method_5_code
def yX4_weight : MethodName := ⟨RX4, "weight", "(LQuakeLists$Quakes;II)I"⟩
abbrev cX4_weightIfAhead : ByteArray := prog_6_method_6_code
def yX4_weightIfAhead : MethodName := ⟨RX4, "weightIfAhead", "(LQuakeLists$Quakes;III)I"⟩
abbrev cX4_allWeights : ByteArray := prog_6_method_7_code
def yX4_allWeights : MethodName := ⟨RX4, "allWeights", "(LQuakeLists$Quakes;III)I"⟩
abbrev cX4_weightOn : ByteArray := prog_6_method_8_code
def yX4_weightOn : MethodName := ⟨RX4, "weightOn", "(LQuakeLists$Quakes;IIII)I"⟩
abbrev cX4_likeliest : ByteArray := prog_6_method_9_code
def yX4_likeliest : MethodName := ⟨RX4, "likeliest", "(LQuakeLists$Quakes;III)I"⟩
abbrev cX4_trace : ByteArray := prog_6_method_10_code
def yX4_trace : MethodName := ⟨RX4, "trace", "(LQuakeLists$Quakes;II)V"⟩
abbrev cX4_sizeOfFamily : ByteArray := prog_6_method_11_code
def yX4_sizeOfFamily : MethodName := ⟨RX4, "sizeOfFamily", "(LQuakeLists$Quakes;I)I"⟩
abbrev cX4_deepestOfFamily : ByteArray := prog_6_method_12_code
def yX4_deepestOfFamily : MethodName := ⟨RX4, "deepestOfFamily", "(LQuakeLists$Quakes;I)I"⟩
abbrev cX4_howManyFirst : ByteArray := prog_6_method_13_code
def yX4_howManyFirst : MethodName := ⟨RX4, "howManyFirst", "(LQuakeLists$Quakes;)I"⟩
abbrev cX4_firstAt : ByteArray := prog_6_method_14_code
def yX4_firstAt : MethodName := ⟨RX4, "firstAt", "(LQuakeLists$Quakes;I)I"⟩
abbrev cX4_drawn : ByteArray := prog_6_method_15_code
def yX4_drawn : MethodName := ⟨RX4, "drawn", "(LQuakeLists$Quakes;IIII)I"⟩
def RX5 : String := "QuakeLists$Odds"
def TX5 : u_T := fun k => match k with
  | _ => ("", "", "", false)
def tyX5 : Nat → FieldType := fun k => match k with
  | _ => .int
abbrev wsX50 : List Cond := u_ws RX5 TX5 0
theorem nmX5 : ∀ a, a < 0 → ∀ b, b < 0 → a ≠ b → (TX5 a).2.1 ≠ (TX5 b).2.1 := by decide +kernel
theorem tyX5_ok : ∀ k, k < 0 → parseFieldDescriptor (TX5 k).2.2.1 = some (tyX5 k) := by decide +kernel
abbrev cX5_partOf : ByteArray := prog_7_method_2_code
def yX5_partOf : MethodName := ⟨RX5, "partOf", "(JJI)J"⟩
abbrev cX5_greatestDivisor : ByteArray := prog_7_method_3_code
def yX5_greatestDivisor : MethodName := ⟨RX5, "greatestDivisor", "(JJ)J"⟩
abbrev cX5_choose : ByteArray := prog_7_method_4_code
def yX5_choose : MethodName := ⟨RX5, "choose", "(II)J"⟩
abbrev cX5_power : ByteArray := prog_7_method_5_code
def yX5_power : MethodName := ⟨RX5, "power", "(II)J"⟩
abbrev cX5_waysToDeal : ByteArray := prog_7_method_6_code
def yX5_waysToDeal : MethodName := ⟨RX5, "waysToDeal", "(IIII)J"⟩
abbrev cX5_waysForFew : ByteArray := prog_7_method_7_code
def yX5_waysForFew : MethodName := ⟨RX5, "waysForFew", "(IIII)J"⟩
def RX6 : String := "QuakeLists$Quakes"
def TX6 : u_T := fun k => match k with
  | 0 => ("QuakeLists$Quakes", "count", "I", false)
  | 1 => ("QuakeLists$Quakes", "list", "[I", true)
  | 2 => ("QuakeLists$Quakes", "day", "[I", true)
  | 3 => ("QuakeLists$Quakes", "x", "[I", true)
  | 4 => ("QuakeLists$Quakes", "y", "[I", true)
  | 5 => ("QuakeLists$Quakes", "greatness", "[I", true)
  | 6 => ("QuakeLists$Quakes", "toldOn", "[I", true)
  | 7 => ("QuakeLists$Quakes", "isBlast", "[Z", true)
  | _ => ("QuakeLists$Quakes", "order", "[I", true)
def tyX6 : Nat → FieldType := fun k => match k with
  | 0 => .int
  | 1 => .array .int
  | 2 => .array .int
  | 3 => .array .int
  | 4 => .array .int
  | 5 => .array .int
  | 6 => .array .int
  | 7 => .array .boolean
  | _ => .array .int
abbrev wsX60 : List Cond := u_ws RX6 TX6 9
theorem nmX6 : ∀ a, a < 9 → ∀ b, b < 9 → a ≠ b → (TX6 a).2.1 ≠ (TX6 b).2.1 := by decide +kernel
theorem tyX6_ok : ∀ k, k < 9 → parseFieldDescriptor (TX6 k).2.2.1 = some (tyX6 k) := by decide +kernel
abbrev cX6_init : ByteArray := prog_8_method_1_code
def yX6_init : MethodName := ⟨RX6, "<init>", "()V"⟩
abbrev cX6_isFull : ByteArray := prog_8_method_2_code
def yX6_isFull : MethodName := ⟨RX6, "isFull", "()Z"⟩
abbrev cX6_has : ByteArray := prog_8_method_3_code
def yX6_has : MethodName := ⟨RX6, "has", "(I)Z"⟩
abbrev cX6_add : ByteArray := prog_8_method_4_code
def yX6_add : MethodName := ⟨RX6, "add", "(IIIIII)I"⟩
abbrev cX6_putInOrder : ByteArray := prog_8_method_5_code
def yX6_putInOrder : MethodName := ⟨RX6, "putInOrder", "(I)V"⟩
abbrev cX6_placeOf : ByteArray := prog_8_method_6_code
def yX6_placeOf : MethodName := ⟨RX6, "placeOf", "(I)I"⟩
abbrev cX6_isCounted : ByteArray := prog_8_method_7_code
def yX6_isCounted : MethodName := ⟨RX6, "isCounted", "(III)Z"⟩
abbrev cX6_isGreat : ByteArray := prog_8_method_8_code
def yX6_isGreat : MethodName := ⟨RX6, "isGreat", "(II)Z"⟩
abbrev cX6_strikes : ByteArray := prog_8_method_9_code
def yX6_strikes : MethodName := ⟨RX6, "strikes", "(II)Z"⟩
abbrev cX6_howManyIn : ByteArray := prog_8_method_10_code
def yX6_howManyIn : MethodName := ⟨RX6, "howManyIn", "(I)I"⟩
abbrev cX6_howManyBlasts : ByteArray := prog_8_method_11_code
def yX6_howManyBlasts : MethodName := ⟨RX6, "howManyBlasts", "()I"⟩
def RX7 : String := "QuakeLists$Scores"
def TX7 : u_T := fun k => match k with
  | 0 => ("QuakeLists$Scores", "turns", "[Z", true)
  | _ => ("QuakeLists$Scores", "sums", "[J", true)
def tyX7 : Nat → FieldType := fun k => match k with
  | 0 => .array .boolean
  | _ => .array .long
abbrev wsX70 : List Cond := u_ws RX7 TX7 2
theorem nmX7 : ∀ a, a < 2 → ∀ b, b < 2 → a ≠ b → (TX7 a).2.1 ≠ (TX7 b).2.1 := by decide +kernel
theorem tyX7_ok : ∀ k, k < 2 → parseFieldDescriptor (TX7 k).2.2.1 = some (tyX7 k) := by decide +kernel
abbrev cX7_init : ByteArray := prog_9_method_1_code
def yX7_init : MethodName := ⟨RX7, "<init>", "()V"⟩
abbrev cX7_work : ByteArray := prog_9_method_2_code
def yX7_work : MethodName := ⟨RX7, "work", "(LQuakeLists$Quakes;LQuakeLists$Forecast;LQuakeLists$Forecast;III)V"⟩
abbrev cX7_leastMix : ByteArray := prog_9_method_3_code
def yX7_leastMix : MethodName := ⟨RX7, "leastMix", "()I"⟩
abbrev cX7_mark : ByteArray := prog_9_method_4_code
def yX7_mark : MethodName := ⟨RX7, "mark", "(III)V"⟩
abbrev cX7_markStrikes : ByteArray := prog_9_method_5_code
def yX7_markStrikes : MethodName := ⟨RX7, "markStrikes", "(LQuakeLists$Quakes;III)V"⟩
abbrev cX7_markRules : ByteArray := prog_9_method_6_code
def yX7_markRules : MethodName := ⟨RX7, "markRules", "(LQuakeLists$Quakes;LQuakeLists$Forecast;II)V"⟩
abbrev cX7_addStretch : ByteArray := prog_9_method_7_code
def yX7_addStretch : MethodName := ⟨RX7, "addStretch", "(LQuakeLists$Quakes;LQuakeLists$Forecast;LQuakeLists$Forecast;III)V"⟩
def RX8 : String := "QuakeLists$Signs"
def TX8 : u_T := fun k => match k with
  | 0 => ("QuakeLists$Signs", "count", "I", false)
  | _ => ("QuakeLists$Signs", "sign", "[I", true)
def tyX8 : Nat → FieldType := fun k => match k with
  | 0 => .int
  | _ => .array .int
abbrev wsX80 : List Cond := u_ws RX8 TX8 2
theorem nmX8 : ∀ a, a < 2 → ∀ b, b < 2 → a ≠ b → (TX8 a).2.1 ≠ (TX8 b).2.1 := by decide +kernel
theorem tyX8_ok : ∀ k, k < 2 → parseFieldDescriptor (TX8 k).2.2.1 = some (tyX8 k) := by decide +kernel
abbrev cX8_init : ByteArray := prog_10_method_1_code
def yX8_init : MethodName := ⟨RX8, "<init>", "()V"⟩
abbrev cX8_isFull : ByteArray := prog_10_method_2_code
def yX8_isFull : MethodName := ⟨RX8, "isFull", "()Z"⟩
abbrev cX8_add : ByteArray := prog_10_method_3_code
def yX8_add : MethodName := ⟨RX8, "add", "(I)I"⟩
abbrev cX8_isDigit : ByteArray := prog_10_method_4_code
def yX8_isDigit : MethodName := ⟨RX8, "isDigit", "(I)Z"⟩
abbrev cX8_faultyPlace : ByteArray := prog_10_method_5_code
def yX8_faultyPlace : MethodName := ⟨RX8, "faultyPlace", "()I"⟩
abbrev cX8_read : ByteArray := prog_10_method_6_code
def yX8_read : MethodName := ⟨RX8, "read", "()LQuakeLists$Forecast;"⟩
def RX9 : String := "QuakeLists"
def TX9 : u_T := fun k => match k with
  | 0 => ("QuakeLists", "settings", "[I", true)
  | 1 => ("QuakeLists", "quakes", "LQuakeLists$Quakes;", true)
  | 2 => ("QuakeLists", "joining", "LQuakeLists$Joining;", true)
  | 3 => ("QuakeLists", "counts", "LQuakeLists$Counts;", true)
  | 4 => ("QuakeLists", "mothers", "LQuakeLists$Mothers;", true)
  | 5 => ("QuakeLists", "signs", "LQuakeLists$Signs;", true)
  | 6 => ("QuakeLists", "forecasts", "[LQuakeLists$Forecast;", true)
  | 7 => ("QuakeLists", "forecastCount", "I", false)
  | 8 => ("QuakeLists", "scores", "LQuakeLists$Scores;", true)
  | _ => ("QuakeLists", "ground", "LQuakeLists$Ground;", true)
def tyX9 : Nat → FieldType := fun k => match k with
  | 0 => .array .int
  | 1 => .object "QuakeLists$Quakes"
  | 2 => .object "QuakeLists$Joining"
  | 3 => .object "QuakeLists$Counts"
  | 4 => .object "QuakeLists$Mothers"
  | 5 => .object "QuakeLists$Signs"
  | 6 => .array (.object "QuakeLists$Forecast")
  | 7 => .int
  | 8 => .object "QuakeLists$Scores"
  | _ => .object "QuakeLists$Ground"
abbrev wsX90 : List Cond := u_ws RX9 TX9 10
theorem nmX9 : ∀ a, a < 10 → ∀ b, b < 10 → a ≠ b → (TX9 a).2.1 ≠ (TX9 b).2.1 := by decide +kernel
theorem tyX9_ok : ∀ k, k < 10 → parseFieldDescriptor (TX9 k).2.2.1 = some (tyX9 k) := by decide +kernel
abbrev cX9_init : ByteArray := prog_1_method_1_code
def yX9_init : MethodName := ⟨RX9, "<init>", "()V"⟩
abbrev cX9_quake : ByteArray := prog_1_method_2_code
def yX9_quake : MethodName := ⟨RX9, "quake", "(IIIIII)I"⟩
abbrev cX9_blast : ByteArray := prog_1_method_3_code
def yX9_blast : MethodName := ⟨RX9, "blast", "(IZ)I"⟩
abbrev cX9_mend : ByteArray := prog_1_method_4_code
def yX9_mend : MethodName := ⟨RX9, "mend", "(II)I"⟩
abbrev cX9_about : ByteArray := prog_1_method_5_code
def yX9_about : MethodName := ⟨RX9, "about", "(II)I"⟩
abbrev cX9_set : ByteArray := prog_1_method_6_code
def yX9_set : MethodName := ⟨RX9, "set", "(II)I"⟩
abbrev cX9_join : ByteArray := prog_1_method_7_code
def yX9_join : MethodName := ⟨RX9, "join", "(III)I"⟩
abbrev cX9_often : ByteArray := prog_1_method_8_code
def yX9_often : MethodName := ⟨RX9, "often", "(III)I"⟩
abbrev cX9_whole : ByteArray := prog_1_method_9_code
def yX9_whole : MethodName := ⟨RX9, "whole", "(II)I"⟩
abbrev cX9_slope : ByteArray := prog_1_method_10_code
def yX9_slope : MethodName := ⟨RX9, "slope", "(IIII)J"⟩
abbrev cX9_alike : ByteArray := prog_1_method_11_code
def yX9_alike : MethodName := ⟨RX9, "alike", "(IIII)J"⟩
abbrev cX9_few : ByteArray := prog_1_method_12_code
def yX9_few : MethodName := ⟨RX9, "few", "(IIIII)J"⟩
abbrev cX9_step : ByteArray := prog_1_method_13_code
def yX9_step : MethodName := ⟨RX9, "step", "(III)I"⟩
abbrev cX9_share : ByteArray := prog_1_method_14_code
def yX9_share : MethodName := ⟨RX9, "share", "(IIII)J"⟩
abbrev cX9_mother : ByteArray := prog_1_method_15_code
def yX9_mother : MethodName := ⟨RX9, "mother", "(II)I"⟩
abbrev cX9_family : ByteArray := prog_1_method_16_code
def yX9_family : MethodName := ⟨RX9, "family", "(III)I"⟩
abbrev cX9_families : ByteArray := prog_1_method_17_code
def yX9_families : MethodName := ⟨RX9, "families", "(II)I"⟩
abbrev cX9_draw : ByteArray := prog_1_method_18_code
def yX9_draw : MethodName := ⟨RX9, "draw", "(III)I"⟩
abbrev cX9_rate : ByteArray := prog_1_method_19_code
def yX9_rate : MethodName := ⟨RX9, "rate", "(IIII)I"⟩
abbrev cX9_say : ByteArray := prog_1_method_20_code
def yX9_say : MethodName := ⟨RX9, "say", "(I)I"⟩
abbrev cX9_wipe : ByteArray := prog_1_method_21_code
def yX9_wipe : MethodName := ⟨RX9, "wipe", "()I"⟩
abbrev cX9_fault : ByteArray := prog_1_method_22_code
def yX9_fault : MethodName := ⟨RX9, "fault", "()I"⟩
abbrev cX9_forecast : ByteArray := prog_1_method_23_code
def yX9_forecast : MethodName := ⟨RX9, "forecast", "()I"⟩
abbrev cX9_tells : ByteArray := prog_1_method_24_code
def yX9_tells : MethodName := ⟨RX9, "tells", "(II)I"⟩
abbrev cX9_score : ByteArray := prog_1_method_25_code
def yX9_score : MethodName := ⟨RX9, "score", "(IIII)J"⟩
abbrev cX9_mixed : ByteArray := prog_1_method_26_code
def yX9_mixed : MethodName := ⟨RX9, "mixed", "(IIIIII)J"⟩
abbrev cX9_best : ByteArray := prog_1_method_27_code
def yX9_best : MethodName := ⟨RX9, "best", "(IIIII)I"⟩
abbrev cX9_house : ByteArray := prog_1_method_28_code
def yX9_house : MethodName := ⟨RX9, "house", "(IIIII)I"⟩
abbrev cX9_damage : ByteArray := prog_1_method_29_code
def yX9_damage : MethodName := ⟨RX9, "damage", "(III)I"⟩
abbrev cX9_loss : ByteArray := prog_1_method_30_code
def yX9_loss : MethodName := ⟨RX9, "loss", "(I)I"⟩
abbrev cX9_worst : ByteArray := prog_1_method_31_code
def yX9_worst : MethodName := ⟨RX9, "worst", "(II)I"⟩
abbrev cX9_law : ByteArray := prog_1_method_32_code
def yX9_law : MethodName := ⟨RX9, "law", "(IIII)I"⟩
abbrev cX9_curve : ByteArray := prog_1_method_33_code
def yX9_curve : MethodName := ⟨RX9, "curve", "(I)I"⟩
abbrev cX9_mean : ByteArray := prog_1_method_34_code
def yX9_mean : MethodName := ⟨RX9, "mean", "(I)J"⟩
abbrev cX9_strengthen : ByteArray := prog_1_method_35_code
def yX9_strengthen : MethodName := ⟨RX9, "strengthen", "(I)I"⟩
abbrev cX9_told : ByteArray := prog_1_method_36_code
def yX9_told : MethodName := ⟨RX9, "told", "(I)I"⟩
abbrev cX9_within : ByteArray := prog_1_method_37_code
def yX9_within : MethodName := ⟨RX9, "within", "(III)Z"⟩
abbrev cX9_isList : ByteArray := prog_1_method_38_code
def yX9_isList : MethodName := ⟨RX9, "isList", "(I)Z"⟩
abbrev cX9_isListOrAll : ByteArray := prog_1_method_39_code
def yX9_isListOrAll : MethodName := ⟨RX9, "isListOrAll", "(I)Z"⟩
abbrev cX9_isDay : ByteArray := prog_1_method_40_code
def yX9_isDay : MethodName := ⟨RX9, "isDay", "(I)Z"⟩
abbrev cX9_isStretch : ByteArray := prog_1_method_41_code
def yX9_isStretch : MethodName := ⟨RX9, "isStretch", "(II)Z"⟩
abbrev cX9_isCell : ByteArray := prog_1_method_42_code
def yX9_isCell : MethodName := ⟨RX9, "isCell", "(II)Z"⟩
abbrev cX9_isGreatness : ByteArray := prog_1_method_43_code
def yX9_isGreatness : MethodName := ⟨RX9, "isGreatness", "(I)Z"⟩
abbrev cX9_isPart : ByteArray := prog_1_method_44_code
def yX9_isPart : MethodName := ⟨RX9, "isPart", "(I)Z"⟩
abbrev cX9_asNumber : ByteArray := prog_1_method_45_code
def yX9_asNumber : MethodName := ⟨RX9, "asNumber", "(Z)I"⟩
abbrev cX9_howFar : ByteArray := prog_1_method_46_code
def yX9_howFar : MethodName := ⟨RX9, "howFar", "(IIII)I"⟩
abbrev cX9_refusalOfDaughter : ByteArray := prog_1_method_47_code
def yX9_refusalOfDaughter : MethodName := ⟨RX9, "refusalOfDaughter", "(IIZ)I"⟩
abbrev cX9_forecastOf : ByteArray := prog_1_method_48_code
def yX9_forecastOf : MethodName := ⟨RX9, "forecastOf", "(I)LQuakeLists$Forecast;"⟩
abbrev cX9_scoreOfMix : ByteArray := prog_1_method_49_code
def yX9_scoreOfMix : MethodName := ⟨RX9, "scoreOfMix", "(IIIIII)J"⟩
def RX10 : String := "QuakeListsModel"
def TX10 : u_T := fun k => match k with
  | 0 => ("QuakeListsModel", "listOf", "[I", true)
  | 1 => ("QuakeListsModel", "dayOf", "[I", true)
  | 2 => ("QuakeListsModel", "placeX", "[I", true)
  | 3 => ("QuakeListsModel", "placeY", "[I", true)
  | 4 => ("QuakeListsModel", "great", "[I", true)
  | 5 => ("QuakeListsModel", "toldOn", "[I", true)
  | 6 => ("QuakeListsModel", "isBlast", "[Z", true)
  | 7 => ("QuakeListsModel", "quakes", "I", false)
  | 8 => ("QuakeListsModel", "numbers", "[I", true)
  | 9 => ("QuakeListsModel", "row", "[I", true)
  | 10 => ("QuakeListsModel", "ofA", "[I", true)
  | 11 => ("QuakeListsModel", "ofB", "[I", true)
  | 12 => ("QuakeListsModel", "manyA", "I", false)
  | 13 => ("QuakeListsModel", "manyB", "I", false)
  | 14 => ("QuakeListsModel", "bestJoin", "[I", true)
  | 15 => ("QuakeListsModel", "produce", "[I", true)
  | 16 => ("QuakeListsModel", "fade", "[I", true)
  | 17 => ("QuakeListsModel", "spread", "[I", true)
  | 18 => ("QuakeListsModel", "signs", "[I", true)
  | 19 => ("QuakeListsModel", "signMany", "[I", true)
  | 20 => ("QuakeListsModel", "forecasts", "I", false)
  | 21 => ("QuakeListsModel", "ruleIs", "[I", true)
  | 22 => ("QuakeListsModel", "houseX", "[I", true)
  | 23 => ("QuakeListsModel", "houseY", "[I", true)
  | 24 => ("QuakeListsModel", "kinds", "[I", true)
  | 25 => ("QuakeListsModel", "worths", "[I", true)
  | 26 => ("QuakeListsModel", "prices", "[I", true)
  | 27 => ("QuakeListsModel", "houses", "I", false)
  | 28 => ("QuakeListsModel", "damages", "[I", true)
  | 29 => ("QuakeListsModel", "lawX", "[I", true)
  | 30 => ("QuakeListsModel", "lawY", "[I", true)
  | 31 => ("QuakeListsModel", "lawGreat", "[I", true)
  | 32 => ("QuakeListsModel", "lawOften", "[I", true)
  | _ => ("QuakeListsModel", "laws", "I", false)
def tyX10 : Nat → FieldType := fun k => match k with
  | 0 => .array .int
  | 1 => .array .int
  | 2 => .array .int
  | 3 => .array .int
  | 4 => .array .int
  | 5 => .array .int
  | 6 => .array .boolean
  | 7 => .int
  | 8 => .array .int
  | 9 => .array .int
  | 10 => .array .int
  | 11 => .array .int
  | 12 => .int
  | 13 => .int
  | 14 => .array .int
  | 15 => .array .int
  | 16 => .array .int
  | 17 => .array .int
  | 18 => .array .int
  | 19 => .array .int
  | 20 => .int
  | 21 => .array .int
  | 22 => .array .int
  | 23 => .array .int
  | 24 => .array .int
  | 25 => .array .int
  | 26 => .array .int
  | 27 => .int
  | 28 => .array .int
  | 29 => .array .int
  | 30 => .array .int
  | 31 => .array .int
  | 32 => .array .int
  | _ => .int
abbrev wsX100 : List Cond := u_ws RX10 TX10 34
theorem nmX10 : ∀ a, a < 34 → ∀ b, b < 34 → a ≠ b → (TX10 a).2.1 ≠ (TX10 b).2.1 := by decide +kernel
theorem tyX10_ok : ∀ k, k < 34 → parseFieldDescriptor (TX10 k).2.2.1 = some (tyX10 k) := by decide +kernel
abbrev cX10_init : ByteArray := prog_12_method_1_code
def yX10_init : MethodName := ⟨RX10, "<init>", "()V"⟩
abbrev cX10_in : ByteArray := prog_12_method_3_code
def yX10_in : MethodName := ⟨RX10, "in", "(JJJ)Z"⟩
abbrev cX10_size : ByteArray := prog_12_method_4_code
def yX10_size : MethodName := ⟨RX10, "size", "(I)I"⟩
abbrev cX10_lowest : ByteArray := prog_12_method_5_code
def yX10_lowest : MethodName := ⟨RX10, "lowest", "(JJI)J"⟩
abbrev cX10_isQuake : ByteArray := prog_12_method_6_code
def yX10_isQuake : MethodName := ⟨RX10, "isQuake", "(I)Z"⟩
abbrev cX10_isCell : ByteArray := prog_12_method_7_code
def yX10_isCell : MethodName := ⟨RX10, "isCell", "(II)Z"⟩
abbrev cX10_isDay : ByteArray := prog_12_method_8_code
def yX10_isDay : MethodName := ⟨RX10, "isDay", "(I)Z"⟩
abbrev cX10_isGreat : ByteArray := prog_12_method_9_code
def yX10_isGreat : MethodName := ⟨RX10, "isGreat", "(I)Z"⟩
abbrev cX10_isList : ByteArray := prog_12_method_10_code
def yX10_isList : MethodName := ⟨RX10, "isList", "(I)Z"⟩
abbrev cX10_quake : ByteArray := prog_12_method_11_code
def yX10_quake : MethodName := ⟨RX10, "quake", "(IIIIII)I"⟩
abbrev cX10_blast : ByteArray := prog_12_method_12_code
def yX10_blast : MethodName := ⟨RX10, "blast", "(IZ)I"⟩
abbrev cX10_mend : ByteArray := prog_12_method_13_code
def yX10_mend : MethodName := ⟨RX10, "mend", "(II)I"⟩
abbrev cX10_placeOf : ByteArray := prog_12_method_14_code
def yX10_placeOf : MethodName := ⟨RX10, "placeOf", "(I)I"⟩
abbrev cX10_about : ByteArray := prog_12_method_15_code
def yX10_about : MethodName := ⟨RX10, "about", "(II)I"⟩
abbrev cX10_mostOf : ByteArray := prog_12_method_16_code
def yX10_mostOf : MethodName := ⟨RX10, "mostOf", "(I)I"⟩
abbrev cX10_set : ByteArray := prog_12_method_17_code
def yX10_set : MethodName := ⟨RX10, "set", "(II)I"⟩
abbrev cX10_far : ByteArray := prog_12_method_18_code
def yX10_far : MethodName := ⟨RX10, "far", "(IIII)I"⟩
abbrev cX10_listed : ByteArray := prog_12_method_19_code
def yX10_listed : MethodName := ⟨RX10, "listed", "(IZ)I"⟩
abbrev cX10_missOf : ByteArray := prog_12_method_20_code
def yX10_missOf : MethodName := ⟨RX10, "missOf", "(II)I"⟩
abbrev cX10_joinBy : ByteArray := prog_12_method_21_code
def yX10_joinBy : MethodName := ⟨RX10, "joinBy", "(III)I"⟩
abbrev cX10_findJoins : ByteArray := prog_12_method_22_code
def yX10_findJoins : MethodName := ⟨RX10, "findJoins", "()V"⟩
abbrev cX10_join : ByteArray := prog_12_method_23_code
def yX10_join : MethodName := ⟨RX10, "join", "(III)I"⟩
abbrev cX10_isCounted : ByteArray := prog_12_method_24_code
def yX10_isCounted : MethodName := ⟨RX10, "isCounted", "(III)Z"⟩
abbrev cX10_countOf : ByteArray := prog_12_method_25_code
def yX10_countOf : MethodName := ⟨RX10, "countOf", "(III)I"⟩
abbrev cX10_mayList : ByteArray := prog_12_method_26_code
def yX10_mayList : MethodName := ⟨RX10, "mayList", "(I)Z"⟩
abbrev cX10_often : ByteArray := prog_12_method_27_code
def yX10_often : MethodName := ⟨RX10, "often", "(III)I"⟩
abbrev cX10_whole : ByteArray := prog_12_method_28_code
def yX10_whole : MethodName := ⟨RX10, "whole", "(II)I"⟩
abbrev cX10_isPart : ByteArray := prog_12_method_29_code
def yX10_isPart : MethodName := ⟨RX10, "isPart", "(I)Z"⟩
abbrev cX10_slope : ByteArray := prog_12_method_30_code
def yX10_slope : MethodName := ⟨RX10, "slope", "(IIII)J"⟩
abbrev cX10_choose : ByteArray := prog_12_method_31_code
def yX10_choose : MethodName := ⟨RX10, "choose", "(II)J"⟩
abbrev cX10_alike : ByteArray := prog_12_method_32_code
def yX10_alike : MethodName := ⟨RX10, "alike", "(IIII)J"⟩
abbrev cX10_power : ByteArray := prog_12_method_33_code
def yX10_power : MethodName := ⟨RX10, "power", "(JI)J"⟩
abbrev cX10_few : ByteArray := prog_12_method_34_code
def yX10_few : MethodName := ⟨RX10, "few", "(IIIII)J"⟩
abbrev cX10_step : ByteArray := prog_12_method_35_code
def yX10_step : MethodName := ⟨RX10, "step", "(III)I"⟩
abbrev cX10_dayStep : ByteArray := prog_12_method_36_code
def yX10_dayStep : MethodName := ⟨RX10, "dayStep", "(I)I"⟩
abbrev cX10_weigh : ByteArray := prog_12_method_37_code
def yX10_weigh : MethodName := ⟨RX10, "weigh", "(IIII)I"⟩
abbrev cX10_weightOf : ByteArray := prog_12_method_38_code
def yX10_weightOf : MethodName := ⟨RX10, "weightOf", "(II)I"⟩
abbrev cX10_isAhead : ByteArray := prog_12_method_39_code
def yX10_isAhead : MethodName := ⟨RX10, "isAhead", "(II)Z"⟩
abbrev cX10_mayBear : ByteArray := prog_12_method_40_code
def yX10_mayBear : MethodName := ⟨RX10, "mayBear", "(III)Z"⟩
abbrev cX10_allWeights : ByteArray := prog_12_method_41_code
def yX10_allWeights : MethodName := ⟨RX10, "allWeights", "(II)J"⟩
abbrev cX10_share : ByteArray := prog_12_method_42_code
def yX10_share : MethodName := ⟨RX10, "share", "(IIII)J"⟩
abbrev cX10_motherOf : ByteArray := prog_12_method_43_code
def yX10_motherOf : MethodName := ⟨RX10, "motherOf", "(II)I"⟩
abbrev cX10_whyNot : ByteArray := prog_12_method_44_code
def yX10_whyNot : MethodName := ⟨RX10, "whyNot", "(II)I"⟩
abbrev cX10_mother : ByteArray := prog_12_method_45_code
def yX10_mother : MethodName := ⟨RX10, "mother", "(II)I"⟩
abbrev cX10_firstOf : ByteArray := prog_12_method_46_code
def yX10_firstOf : MethodName := ⟨RX10, "firstOf", "(II)I"⟩
abbrev cX10_depthOf : ByteArray := prog_12_method_47_code
def yX10_depthOf : MethodName := ⟨RX10, "depthOf", "(II)I"⟩
abbrev cX10_family : ByteArray := prog_12_method_48_code
def yX10_family : MethodName := ⟨RX10, "family", "(III)I"⟩
abbrev cX10_families : ByteArray := prog_12_method_49_code
def yX10_families : MethodName := ⟨RX10, "families", "(II)I"⟩
abbrev cX10_drawnFor : ByteArray := prog_12_method_50_code
def yX10_drawnFor : MethodName := ⟨RX10, "drawnFor", "(IJI)I"⟩
abbrev cX10_draw : ByteArray := prog_12_method_51_code
def yX10_draw : MethodName := ⟨RX10, "draw", "(III)I"⟩
abbrev cX10_rate : ByteArray := prog_12_method_52_code
def yX10_rate : MethodName := ⟨RX10, "rate", "(IIII)I"⟩
abbrev cX10_say : ByteArray := prog_12_method_53_code
def yX10_say : MethodName := ⟨RX10, "say", "(I)I"⟩
abbrev cX10_wipe : ByteArray := prog_12_method_54_code
def yX10_wipe : MethodName := ⟨RX10, "wipe", "()I"⟩
abbrev cX10_isDigit : ByteArray := prog_12_method_55_code
def yX10_isDigit : MethodName := ⟨RX10, "isDigit", "(I)Z"⟩
abbrev cX10_markOf : ByteArray := prog_12_method_56_code
def yX10_markOf : MethodName := ⟨RX10, "markOf", "(I)I"⟩
abbrev cX10_fault : ByteArray := prog_12_method_57_code
def yX10_fault : MethodName := ⟨RX10, "fault", "()I"⟩
abbrev cX10_forecast : ByteArray := prog_12_method_58_code
def yX10_forecast : MethodName := ⟨RX10, "forecast", "()I"⟩
abbrev cX10_isForecast : ByteArray := prog_12_method_59_code
def yX10_isForecast : MethodName := ⟨RX10, "isForecast", "(I)Z"⟩
abbrev cX10_manyAhead : ByteArray := prog_12_method_60_code
def yX10_manyAhead : MethodName := ⟨RX10, "manyAhead", "(III)I"⟩
abbrev cX10_toldFor : ByteArray := prog_12_method_61_code
def yX10_toldFor : MethodName := ⟨RX10, "toldFor", "(II)I"⟩
abbrev cX10_tells : ByteArray := prog_12_method_62_code
def yX10_tells : MethodName := ⟨RX10, "tells", "(II)I"⟩
abbrev cX10_hasQuake : ByteArray := prog_12_method_63_code
def yX10_hasQuake : MethodName := ⟨RX10, "hasQuake", "(II)Z"⟩
abbrev cX10_scoreOf : ByteArray := prog_12_method_64_code
def yX10_scoreOf : MethodName := ⟨RX10, "scoreOf", "(IIIIII)J"⟩
abbrev cX10_areDays : ByteArray := prog_12_method_65_code
def yX10_areDays : MethodName := ⟨RX10, "areDays", "(III)Z"⟩
abbrev cX10_score : ByteArray := prog_12_method_66_code
def yX10_score : MethodName := ⟨RX10, "score", "(IIII)J"⟩
abbrev cX10_mixed : ByteArray := prog_12_method_67_code
def yX10_mixed : MethodName := ⟨RX10, "mixed", "(IIIIII)J"⟩
abbrev cX10_best : ByteArray := prog_12_method_68_code
def yX10_best : MethodName := ⟨RX10, "best", "(IIIII)I"⟩
abbrev cX10_house : ByteArray := prog_12_method_69_code
def yX10_house : MethodName := ⟨RX10, "house", "(IIIII)I"⟩
abbrev cX10_damage : ByteArray := prog_12_method_70_code
def yX10_damage : MethodName := ⟨RX10, "damage", "(III)I"⟩
abbrev cX10_lossBy : ByteArray := prog_12_method_71_code
def yX10_lossBy : MethodName := ⟨RX10, "lossBy", "(IIII)I"⟩
abbrev cX10_lossOf : ByteArray := prog_12_method_72_code
def yX10_lossOf : MethodName := ⟨RX10, "lossOf", "(I)I"⟩
abbrev cX10_loss : ByteArray := prog_12_method_73_code
def yX10_loss : MethodName := ⟨RX10, "loss", "(I)I"⟩
abbrev cX10_worst : ByteArray := prog_12_method_74_code
def yX10_worst : MethodName := ⟨RX10, "worst", "(II)I"⟩
abbrev cX10_law : ByteArray := prog_12_method_75_code
def yX10_law : MethodName := ⟨RX10, "law", "(IIII)I"⟩
abbrev cX10_lawLoss : ByteArray := prog_12_method_76_code
def yX10_lawLoss : MethodName := ⟨RX10, "lawLoss", "(II)I"⟩
abbrev cX10_curve : ByteArray := prog_12_method_77_code
def yX10_curve : MethodName := ⟨RX10, "curve", "(I)I"⟩
abbrev cX10_meanOf : ByteArray := prog_12_method_78_code
def yX10_meanOf : MethodName := ⟨RX10, "meanOf", "(I)J"⟩
abbrev cX10_mean : ByteArray := prog_12_method_79_code
def yX10_mean : MethodName := ⟨RX10, "mean", "(I)J"⟩
abbrev cX10_priceOf : ByteArray := prog_12_method_80_code
def yX10_priceOf : MethodName := ⟨RX10, "priceOf", "(I)I"⟩
abbrev cX10_strengthen : ByteArray := prog_12_method_81_code
def yX10_strengthen : MethodName := ⟨RX10, "strengthen", "(I)I"⟩
abbrev cX10_told : ByteArray := prog_12_method_82_code
def yX10_told : MethodName := ⟨RX10, "told", "(I)I"⟩
def RJ9 : String := "java/lang/Math"
def TJ9 : u_T := fun k => match k with
  | _ => ("", "", "", false)
def tyJ9 : Nat → FieldType := fun k => match k with
  | _ => .int
abbrev wsJ90 : List Cond := u_ws RJ9 TJ9 0
theorem nmJ9 : ∀ a, a < 0 → ∀ b, b < 0 → a ≠ b → (TJ9 a).2.1 ≠ (TJ9 b).2.1 := by decide +kernel
theorem tyJ9_ok : ∀ k, k < 0 → parseFieldDescriptor (TJ9 k).2.2.1 = some (tyJ9 k) := by decide +kernel
abbrev cJ9_floorMod_f86c9 : ByteArray := prog_13_method_52_code
def yJ9_floorMod_f86c9 : MethodName := ⟨RJ9, "floorMod", "(JJ)J"⟩
abbrev cJ9_abs_0f7a4 : ByteArray := prog_13_method_59_code
def yJ9_abs_0f7a4 : MethodName := ⟨RJ9, "abs", "(I)I"⟩
abbrev cJ9_max_7cf53 : ByteArray := prog_13_method_65_code
def yJ9_max_7cf53 : MethodName := ⟨RJ9, "max", "(II)I"⟩
abbrev cJ9_max_f86c9 : ByteArray := prog_13_method_66_code
def yJ9_max_f86c9 : MethodName := ⟨RJ9, "max", "(JJ)J"⟩
abbrev cJ9_min_7cf53 : ByteArray := prog_13_method_69_code
def yJ9_min_7cf53 : MethodName := ⟨RJ9, "min", "(II)I"⟩
def RL : String := "QuakeListsLaw"
abbrev cL_law : ByteArray := code
def yL_law : MethodName := ⟨RL, "law", "([I)Z"⟩
abbrev vwCl : List vw_C := [(RX0, TX0, 1), (RX1, TX1, 6), (RX2, TX2, 13), (RX3, TX3, 14), (RX4, TX4, 5), (RX6, TX6, 9), (RX7, TX7, 2), (RX8, TX8, 2), (RX9, TX9, 10), (RX10, TX10, 34)]
abbrev Dn (cc : ByteArray) (pc : Nat) (i : Instr) (n pc' : Nat) : Prop := decode cc pc = .ok (i, n) ∧ pc + n = pc'
abbrev Db (cc : ByteArray) (pc : Nat) (i : Instr) (off : Int) (pc' tgt : Nat) : Prop := decode cc pc = .ok (i, 3) ∧ pc + 3 = pc' ∧ (pc : Int) + off = (tgt : Int)
end
section
theorem dX0_init_0 : Dn cX0_init 0 (.aload_n 0) 1 1 := by decide +kernel
theorem dX0_init_1 : Dn cX0_init 1 (.invokespecial 3) 3 4 := by decide +kernel
theorem dX0_init_4 : Dn cX0_init 4 (.aload_n 0) 1 5 := by decide +kernel
theorem dX0_init_5 : Dn cX0_init 5 (.bipush 91) 2 7 := by decide +kernel
theorem dX0_init_7 : Dn cX0_init 7 (.newarray .int) 2 9 := by decide +kernel
theorem dX0_init_9 : Dn cX0_init 9 (.putfield 9) 3 12 := by decide +kernel
theorem dX0_init_12 : Dn cX0_init 12 (.return_) 1 13 := by decide +kernel
theorem dX0_howMany_0 : Dn cX0_howMany 0 (.iconst 0) 1 1 := by decide +kernel
theorem dX0_howMany_1 : Dn cX0_howMany 1 (.istore 5) 2 3 := by decide +kernel
theorem dX0_howMany_3 : Dn cX0_howMany 3 (.iconst 0) 1 4 := by decide +kernel
theorem dX0_howMany_4 : Dn cX0_howMany 4 (.istore 6) 2 6 := by decide +kernel
theorem dX0_howMany_6 : Dn cX0_howMany 6 (.iload 6) 2 8 := by decide +kernel
theorem dX0_howMany_8 : Dn cX0_howMany 8 (.aload_n 1) 1 9 := by decide +kernel
theorem dX0_howMany_9 : Dn cX0_howMany 9 (.getfield 15) 3 12 := by decide +kernel
theorem dX0_howMany_12 : Db cX0_howMany 12 (.if_icmp .ge 35) (35) 15 47 := by decide +kernel
theorem dX0_howMany_15 : Dn cX0_howMany 15 (.aload_n 1) 1 16 := by decide +kernel
theorem dX0_howMany_16 : Dn cX0_howMany 16 (.iload 6) 2 18 := by decide +kernel
theorem dX0_howMany_18 : Dn cX0_howMany 18 (.iload_n 2) 1 19 := by decide +kernel
theorem dX0_howMany_19 : Dn cX0_howMany 19 (.iload_n 3) 1 20 := by decide +kernel
theorem dX0_howMany_20 : Dn cX0_howMany 20 (.invokevirtual 21) 3 23 := by decide +kernel
theorem dX0_howMany_23 : Db cX0_howMany 23 (.ifCond .eq 18) (18) 26 41 := by decide +kernel
theorem dX0_howMany_26 : Dn cX0_howMany 26 (.aload_n 1) 1 27 := by decide +kernel
theorem dX0_howMany_27 : Dn cX0_howMany 27 (.getfield 25) 3 30 := by decide +kernel
theorem dX0_howMany_30 : Dn cX0_howMany 30 (.iload 6) 2 32 := by decide +kernel
theorem dX0_howMany_32 : Dn cX0_howMany 32 (.iaload) 1 33 := by decide +kernel
theorem dX0_howMany_33 : Dn cX0_howMany 33 (.iload 4) 2 35 := by decide +kernel
theorem dX0_howMany_35 : Db cX0_howMany 35 (.if_icmp .lt 6) (6) 38 41 := by decide +kernel
theorem dX0_howMany_38 : Dn cX0_howMany 38 (.iinc 5 1) 3 41 := by decide +kernel
theorem dX0_howMany_41 : Dn cX0_howMany 41 (.iinc 6 1) 3 44 := by decide +kernel
theorem dX0_howMany_44 : Db cX0_howMany 44 (.goto (-38)) (-38) 47 6 := by decide +kernel
theorem dX0_howMany_47 : Dn cX0_howMany 47 (.iload 5) 2 49 := by decide +kernel
theorem dX0_howMany_49 : Dn cX0_howMany 49 (.ireturn) 1 50 := by decide +kernel
theorem dX0_sumAbove_0 : Dn cX0_sumAbove 0 (.iconst 0) 1 1 := by decide +kernel
theorem dX0_sumAbove_1 : Dn cX0_sumAbove 1 (.istore 5) 2 3 := by decide +kernel
theorem dX0_sumAbove_3 : Dn cX0_sumAbove 3 (.iconst 0) 1 4 := by decide +kernel
theorem dX0_sumAbove_4 : Dn cX0_sumAbove 4 (.istore 6) 2 6 := by decide +kernel
theorem dX0_sumAbove_6 : Dn cX0_sumAbove 6 (.iload 6) 2 8 := by decide +kernel
theorem dX0_sumAbove_8 : Dn cX0_sumAbove 8 (.aload_n 1) 1 9 := by decide +kernel
theorem dX0_sumAbove_9 : Dn cX0_sumAbove 9 (.getfield 15) 3 12 := by decide +kernel
theorem dX0_sumAbove_12 : Db cX0_sumAbove 12 (.if_icmp .ge 47) (47) 15 59 := by decide +kernel
theorem dX0_sumAbove_15 : Dn cX0_sumAbove 15 (.aload_n 1) 1 16 := by decide +kernel
theorem dX0_sumAbove_16 : Dn cX0_sumAbove 16 (.iload 6) 2 18 := by decide +kernel
theorem dX0_sumAbove_18 : Dn cX0_sumAbove 18 (.iload_n 2) 1 19 := by decide +kernel
theorem dX0_sumAbove_19 : Dn cX0_sumAbove 19 (.iload_n 3) 1 20 := by decide +kernel
theorem dX0_sumAbove_20 : Dn cX0_sumAbove 20 (.invokevirtual 21) 3 23 := by decide +kernel
theorem dX0_sumAbove_23 : Db cX0_sumAbove 23 (.ifCond .eq 30) (30) 26 53 := by decide +kernel
theorem dX0_sumAbove_26 : Dn cX0_sumAbove 26 (.aload_n 1) 1 27 := by decide +kernel
theorem dX0_sumAbove_27 : Dn cX0_sumAbove 27 (.getfield 25) 3 30 := by decide +kernel
theorem dX0_sumAbove_30 : Dn cX0_sumAbove 30 (.iload 6) 2 32 := by decide +kernel
theorem dX0_sumAbove_32 : Dn cX0_sumAbove 32 (.iaload) 1 33 := by decide +kernel
theorem dX0_sumAbove_33 : Dn cX0_sumAbove 33 (.iload 4) 2 35 := by decide +kernel
theorem dX0_sumAbove_35 : Db cX0_sumAbove 35 (.if_icmp .lt 18) (18) 38 53 := by decide +kernel
theorem dX0_sumAbove_38 : Dn cX0_sumAbove 38 (.iload 5) 2 40 := by decide +kernel
theorem dX0_sumAbove_40 : Dn cX0_sumAbove 40 (.aload_n 1) 1 41 := by decide +kernel
theorem dX0_sumAbove_41 : Dn cX0_sumAbove 41 (.getfield 25) 3 44 := by decide +kernel
theorem dX0_sumAbove_44 : Dn cX0_sumAbove 44 (.iload 6) 2 46 := by decide +kernel
theorem dX0_sumAbove_46 : Dn cX0_sumAbove 46 (.iaload) 1 47 := by decide +kernel
theorem dX0_sumAbove_47 : Dn cX0_sumAbove 47 (.iload 4) 2 49 := by decide +kernel
theorem dX0_sumAbove_49 : Dn cX0_sumAbove 49 (.isub) 1 50 := by decide +kernel
theorem dX0_sumAbove_50 : Dn cX0_sumAbove 50 (.iadd) 1 51 := by decide +kernel
theorem dX0_sumAbove_51 : Dn cX0_sumAbove 51 (.istore 5) 2 53 := by decide +kernel
theorem dX0_sumAbove_53 : Dn cX0_sumAbove 53 (.iinc 6 1) 3 56 := by decide +kernel
theorem dX0_sumAbove_56 : Db cX0_sumAbove 56 (.goto (-50)) (-50) 59 6 := by decide +kernel
theorem dX0_sumAbove_59 : Dn cX0_sumAbove 59 (.iload 5) 2 61 := by decide +kernel
theorem dX0_sumAbove_61 : Dn cX0_sumAbove 61 (.ireturn) 1 62 := by decide +kernel
theorem dX0_commonest_0 : Dn cX0_commonest 0 (.iconst 0) 1 1 := by decide +kernel
theorem dX0_commonest_1 : Dn cX0_commonest 1 (.istore 4) 2 3 := by decide +kernel
theorem dX0_commonest_3 : Dn cX0_commonest 3 (.iload 4) 2 5 := by decide +kernel
theorem dX0_commonest_5 : Dn cX0_commonest 5 (.bipush 90) 2 7 := by decide +kernel
theorem dX0_commonest_7 : Db cX0_commonest 7 (.if_icmp .gt 17) (17) 10 24 := by decide +kernel
theorem dX0_commonest_10 : Dn cX0_commonest 10 (.aload_n 0) 1 11 := by decide +kernel
theorem dX0_commonest_11 : Dn cX0_commonest 11 (.getfield 9) 3 14 := by decide +kernel
theorem dX0_commonest_14 : Dn cX0_commonest 14 (.iload 4) 2 16 := by decide +kernel
theorem dX0_commonest_16 : Dn cX0_commonest 16 (.iconst 0) 1 17 := by decide +kernel
theorem dX0_commonest_17 : Dn cX0_commonest 17 (.iastore) 1 18 := by decide +kernel
theorem dX0_commonest_18 : Dn cX0_commonest 18 (.iinc 4 1) 3 21 := by decide +kernel
theorem dX0_commonest_21 : Db cX0_commonest 21 (.goto (-18)) (-18) 24 3 := by decide +kernel
theorem dX0_commonest_24 : Dn cX0_commonest 24 (.iconst 0) 1 25 := by decide +kernel
theorem dX0_commonest_25 : Dn cX0_commonest 25 (.istore 4) 2 27 := by decide +kernel
theorem dX0_commonest_27 : Dn cX0_commonest 27 (.iload 4) 2 29 := by decide +kernel
theorem dX0_commonest_29 : Dn cX0_commonest 29 (.aload_n 1) 1 30 := by decide +kernel
theorem dX0_commonest_30 : Dn cX0_commonest 30 (.getfield 15) 3 33 := by decide +kernel
theorem dX0_commonest_33 : Db cX0_commonest 33 (.if_icmp .ge 36) (36) 36 69 := by decide +kernel
theorem dX0_commonest_36 : Dn cX0_commonest 36 (.aload_n 1) 1 37 := by decide +kernel
theorem dX0_commonest_37 : Dn cX0_commonest 37 (.iload 4) 2 39 := by decide +kernel
theorem dX0_commonest_39 : Dn cX0_commonest 39 (.iload_n 2) 1 40 := by decide +kernel
theorem dX0_commonest_40 : Dn cX0_commonest 40 (.iload_n 3) 1 41 := by decide +kernel
theorem dX0_commonest_41 : Dn cX0_commonest 41 (.invokevirtual 21) 3 44 := by decide +kernel
theorem dX0_commonest_44 : Db cX0_commonest 44 (.ifCond .eq 19) (19) 47 63 := by decide +kernel
theorem dX0_commonest_47 : Dn cX0_commonest 47 (.aload_n 0) 1 48 := by decide +kernel
theorem dX0_commonest_48 : Dn cX0_commonest 48 (.getfield 9) 3 51 := by decide +kernel
theorem dX0_commonest_51 : Dn cX0_commonest 51 (.aload_n 1) 1 52 := by decide +kernel
theorem dX0_commonest_52 : Dn cX0_commonest 52 (.getfield 25) 3 55 := by decide +kernel
theorem dX0_commonest_55 : Dn cX0_commonest 55 (.iload 4) 2 57 := by decide +kernel
theorem dX0_commonest_57 : Dn cX0_commonest 57 (.iaload) 1 58 := by decide +kernel
theorem dX0_commonest_58 : Dn cX0_commonest 58 (.dup2) 1 59 := by decide +kernel
theorem dX0_commonest_59 : Dn cX0_commonest 59 (.iaload) 1 60 := by decide +kernel
theorem dX0_commonest_60 : Dn cX0_commonest 60 (.iconst 1) 1 61 := by decide +kernel
theorem dX0_commonest_61 : Dn cX0_commonest 61 (.iadd) 1 62 := by decide +kernel
theorem dX0_commonest_62 : Dn cX0_commonest 62 (.iastore) 1 63 := by decide +kernel
theorem dX0_commonest_63 : Dn cX0_commonest 63 (.iinc 4 1) 3 66 := by decide +kernel
theorem dX0_commonest_66 : Db cX0_commonest 66 (.goto (-39)) (-39) 69 27 := by decide +kernel
theorem dX0_commonest_69 : Dn cX0_commonest 69 (.bipush (-6)) 2 71 := by decide +kernel
theorem dX0_commonest_71 : Dn cX0_commonest 71 (.istore 4) 2 73 := by decide +kernel
theorem dX0_commonest_73 : Dn cX0_commonest 73 (.iconst 0) 1 74 := by decide +kernel
theorem dX0_commonest_74 : Dn cX0_commonest 74 (.istore 5) 2 76 := by decide +kernel
theorem dX0_commonest_76 : Dn cX0_commonest 76 (.iconst 0) 1 77 := by decide +kernel
theorem dX0_commonest_77 : Dn cX0_commonest 77 (.istore 6) 2 79 := by decide +kernel
theorem dX0_commonest_79 : Dn cX0_commonest 79 (.iload 6) 2 81 := by decide +kernel
theorem dX0_commonest_81 : Dn cX0_commonest 81 (.bipush 90) 2 83 := by decide +kernel
theorem dX0_commonest_83 : Db cX0_commonest 83 (.if_icmp .gt 34) (34) 86 117 := by decide +kernel
theorem dX0_commonest_86 : Dn cX0_commonest 86 (.aload_n 0) 1 87 := by decide +kernel
theorem dX0_commonest_87 : Dn cX0_commonest 87 (.getfield 9) 3 90 := by decide +kernel
theorem dX0_commonest_90 : Dn cX0_commonest 90 (.iload 6) 2 92 := by decide +kernel
theorem dX0_commonest_92 : Dn cX0_commonest 92 (.iaload) 1 93 := by decide +kernel
theorem dX0_commonest_93 : Dn cX0_commonest 93 (.iload 5) 2 95 := by decide +kernel
theorem dX0_commonest_95 : Db cX0_commonest 95 (.if_icmp .le 16) (16) 98 111 := by decide +kernel
theorem dX0_commonest_98 : Dn cX0_commonest 98 (.aload_n 0) 1 99 := by decide +kernel
theorem dX0_commonest_99 : Dn cX0_commonest 99 (.getfield 9) 3 102 := by decide +kernel
theorem dX0_commonest_102 : Dn cX0_commonest 102 (.iload 6) 2 104 := by decide +kernel
theorem dX0_commonest_104 : Dn cX0_commonest 104 (.iaload) 1 105 := by decide +kernel
theorem dX0_commonest_105 : Dn cX0_commonest 105 (.istore 5) 2 107 := by decide +kernel
theorem dX0_commonest_107 : Dn cX0_commonest 107 (.iload 6) 2 109 := by decide +kernel
theorem dX0_commonest_109 : Dn cX0_commonest 109 (.istore 4) 2 111 := by decide +kernel
theorem dX0_commonest_111 : Dn cX0_commonest 111 (.iinc 6 1) 3 114 := by decide +kernel
theorem dX0_commonest_114 : Db cX0_commonest 114 (.goto (-35)) (-35) 117 79 := by decide +kernel
theorem dX0_commonest_117 : Dn cX0_commonest 117 (.iload 4) 2 119 := by decide +kernel
theorem dX0_commonest_119 : Dn cX0_commonest 119 (.ireturn) 1 120 := by decide +kernel
theorem dX1_init_0 : Dn cX1_init 0 (.aload_n 0) 1 1 := by decide +kernel
theorem dX1_init_1 : Dn cX1_init 1 (.invokespecial 1) 3 4 := by decide +kernel
theorem dX1_init_4 : Dn cX1_init 4 (.aload_n 0) 1 5 := by decide +kernel
theorem dX1_init_5 : Dn cX1_init 5 (.iconst 0) 1 6 := by decide +kernel
theorem dX1_init_6 : Dn cX1_init 6 (.putfield 7) 3 9 := by decide +kernel
theorem dX1_init_9 : Dn cX1_init 9 (.aload_n 0) 1 10 := by decide +kernel
theorem dX1_init_10 : Dn cX1_init 10 (.iconst 0) 1 11 := by decide +kernel
theorem dX1_init_11 : Dn cX1_init 11 (.putfield 13) 3 14 := by decide +kernel
theorem dX1_init_14 : Dn cX1_init 14 (.aload_n 0) 1 15 := by decide +kernel
theorem dX1_init_15 : Dn cX1_init 15 (.iconst 5) 1 16 := by decide +kernel
theorem dX1_init_16 : Dn cX1_init 16 (.newarray .int) 2 18 := by decide +kernel
theorem dX1_init_18 : Dn cX1_init 18 (.putfield 16) 3 21 := by decide +kernel
theorem dX1_init_21 : Dn cX1_init 21 (.aload_n 0) 1 22 := by decide +kernel
theorem dX1_init_22 : Dn cX1_init 22 (.iconst 5) 1 23 := by decide +kernel
theorem dX1_init_23 : Dn cX1_init 23 (.newarray .int) 2 25 := by decide +kernel
theorem dX1_init_25 : Dn cX1_init 25 (.putfield 20) 3 28 := by decide +kernel
theorem dX1_init_28 : Dn cX1_init 28 (.aload_n 0) 1 29 := by decide +kernel
theorem dX1_init_29 : Dn cX1_init 29 (.iconst 5) 1 30 := by decide +kernel
theorem dX1_init_30 : Dn cX1_init 30 (.newarray .int) 2 32 := by decide +kernel
theorem dX1_init_32 : Dn cX1_init 32 (.putfield 23) 3 35 := by decide +kernel
theorem dX1_init_35 : Dn cX1_init 35 (.aload_n 0) 1 36 := by decide +kernel
theorem dX1_init_36 : Dn cX1_init 36 (.iconst 5) 1 37 := by decide +kernel
theorem dX1_init_37 : Dn cX1_init 37 (.newarray .int) 2 39 := by decide +kernel
theorem dX1_init_39 : Dn cX1_init 39 (.putfield 26) 3 42 := by decide +kernel
theorem dX1_init_42 : Dn cX1_init 42 (.return_) 1 43 := by decide +kernel
theorem dX1_take_0 : Dn cX1_take 0 (.aload_n 0) 1 1 := by decide +kernel
theorem dX1_take_1 : Dn cX1_take 1 (.getfield 7) 3 4 := by decide +kernel
theorem dX1_take_4 : Dn cX1_take 4 (.iconst 5) 1 5 := by decide +kernel
theorem dX1_take_5 : Db cX1_take 5 (.if_icmp .lt 4) (4) 8 9 := by decide +kernel
theorem dX1_take_8 : Dn cX1_take 8 (.return_) 1 9 := by decide +kernel
theorem dX1_take_9 : Dn cX1_take 9 (.iload_n 1) 1 10 := by decide +kernel
theorem dX1_take_10 : Dn cX1_take 10 (.tableswitch 65 0 2 #[26, 39, 52]) 26 36 := by decide +kernel
theorem dX1_take_36 : Dn cX1_take 36 (.aload_n 0) 1 37 := by decide +kernel
theorem dX1_take_37 : Dn cX1_take 37 (.getfield 16) 3 40 := by decide +kernel
theorem dX1_take_40 : Dn cX1_take 40 (.aload_n 0) 1 41 := by decide +kernel
theorem dX1_take_41 : Dn cX1_take 41 (.getfield 7) 3 44 := by decide +kernel
theorem dX1_take_44 : Dn cX1_take 44 (.iload_n 2) 1 45 := by decide +kernel
theorem dX1_take_45 : Dn cX1_take 45 (.iastore) 1 46 := by decide +kernel
theorem dX1_take_46 : Db cX1_take 46 (.goto 49) (49) 49 95 := by decide +kernel
theorem dX1_take_49 : Dn cX1_take 49 (.aload_n 0) 1 50 := by decide +kernel
theorem dX1_take_50 : Dn cX1_take 50 (.getfield 20) 3 53 := by decide +kernel
theorem dX1_take_53 : Dn cX1_take 53 (.aload_n 0) 1 54 := by decide +kernel
theorem dX1_take_54 : Dn cX1_take 54 (.getfield 7) 3 57 := by decide +kernel
theorem dX1_take_57 : Dn cX1_take 57 (.iload_n 2) 1 58 := by decide +kernel
theorem dX1_take_58 : Dn cX1_take 58 (.iastore) 1 59 := by decide +kernel
theorem dX1_take_59 : Db cX1_take 59 (.goto 36) (36) 62 95 := by decide +kernel
theorem dX1_take_62 : Dn cX1_take 62 (.aload_n 0) 1 63 := by decide +kernel
theorem dX1_take_63 : Dn cX1_take 63 (.getfield 23) 3 66 := by decide +kernel
theorem dX1_take_66 : Dn cX1_take 66 (.aload_n 0) 1 67 := by decide +kernel
theorem dX1_take_67 : Dn cX1_take 67 (.getfield 7) 3 70 := by decide +kernel
theorem dX1_take_70 : Dn cX1_take 70 (.iload_n 2) 1 71 := by decide +kernel
theorem dX1_take_71 : Dn cX1_take 71 (.iastore) 1 72 := by decide +kernel
theorem dX1_take_72 : Db cX1_take 72 (.goto 23) (23) 75 95 := by decide +kernel
theorem dX1_take_75 : Dn cX1_take 75 (.aload_n 0) 1 76 := by decide +kernel
theorem dX1_take_76 : Dn cX1_take 76 (.getfield 26) 3 79 := by decide +kernel
theorem dX1_take_79 : Dn cX1_take 79 (.aload_n 0) 1 80 := by decide +kernel
theorem dX1_take_80 : Dn cX1_take 80 (.getfield 7) 3 83 := by decide +kernel
theorem dX1_take_83 : Dn cX1_take 83 (.iload_n 2) 1 84 := by decide +kernel
theorem dX1_take_84 : Dn cX1_take 84 (.iastore) 1 85 := by decide +kernel
theorem dX1_take_85 : Dn cX1_take 85 (.aload_n 0) 1 86 := by decide +kernel
theorem dX1_take_86 : Dn cX1_take 86 (.dup) 1 87 := by decide +kernel
theorem dX1_take_87 : Dn cX1_take 87 (.getfield 7) 3 90 := by decide +kernel
theorem dX1_take_90 : Dn cX1_take 90 (.iconst 1) 1 91 := by decide +kernel
theorem dX1_take_91 : Dn cX1_take 91 (.iadd) 1 92 := by decide +kernel
theorem dX1_take_92 : Dn cX1_take 92 (.putfield 7) 3 95 := by decide +kernel
theorem dX1_take_95 : Dn cX1_take 95 (.return_) 1 96 := by decide +kernel
theorem dX1_toldFor_0 : Dn cX1_toldFor 0 (.iconst 0) 1 1 := by decide +kernel
theorem dX1_toldFor_1 : Dn cX1_toldFor 1 (.istore_n 3) 1 2 := by decide +kernel
theorem dX1_toldFor_2 : Dn cX1_toldFor 2 (.iload_n 3) 1 3 := by decide +kernel
theorem dX1_toldFor_3 : Dn cX1_toldFor 3 (.aload_n 0) 1 4 := by decide +kernel
theorem dX1_toldFor_4 : Dn cX1_toldFor 4 (.getfield 7) 3 7 := by decide +kernel
theorem dX1_toldFor_7 : Db cX1_toldFor 7 (.if_icmp .ge 38) (38) 10 45 := by decide +kernel
theorem dX1_toldFor_10 : Dn cX1_toldFor 10 (.aload_n 0) 1 11 := by decide +kernel
theorem dX1_toldFor_11 : Dn cX1_toldFor 11 (.aload_n 1) 1 12 := by decide +kernel
theorem dX1_toldFor_12 : Dn cX1_toldFor 12 (.iload_n 3) 1 13 := by decide +kernel
theorem dX1_toldFor_13 : Dn cX1_toldFor 13 (.iload_n 2) 1 14 := by decide +kernel
theorem dX1_toldFor_14 : Dn cX1_toldFor 14 (.invokevirtual 29) 3 17 := by decide +kernel
theorem dX1_toldFor_17 : Dn cX1_toldFor 17 (.aload_n 0) 1 18 := by decide +kernel
theorem dX1_toldFor_18 : Dn cX1_toldFor 18 (.getfield 23) 3 21 := by decide +kernel
theorem dX1_toldFor_21 : Dn cX1_toldFor 21 (.iload_n 3) 1 22 := by decide +kernel
theorem dX1_toldFor_22 : Dn cX1_toldFor 22 (.iaload) 1 23 := by decide +kernel
theorem dX1_toldFor_23 : Db cX1_toldFor 23 (.if_icmp .le 16) (16) 26 39 := by decide +kernel
theorem dX1_toldFor_26 : Dn cX1_toldFor 26 (.sipush 1000) 3 29 := by decide +kernel
theorem dX1_toldFor_29 : Dn cX1_toldFor 29 (.aload_n 0) 1 30 := by decide +kernel
theorem dX1_toldFor_30 : Dn cX1_toldFor 30 (.getfield 26) 3 33 := by decide +kernel
theorem dX1_toldFor_33 : Dn cX1_toldFor 33 (.iload_n 3) 1 34 := by decide +kernel
theorem dX1_toldFor_34 : Dn cX1_toldFor 34 (.iaload) 1 35 := by decide +kernel
theorem dX1_toldFor_35 : Dn cX1_toldFor 35 (.invokestatic 33) 3 38 := by decide +kernel
theorem dX1_toldFor_38 : Dn cX1_toldFor 38 (.ireturn) 1 39 := by decide +kernel
theorem dX1_toldFor_39 : Dn cX1_toldFor 39 (.iinc 3 1) 3 42 := by decide +kernel
theorem dX1_toldFor_42 : Db cX1_toldFor 42 (.goto (-40)) (-40) 45 2 := by decide +kernel
theorem dX1_toldFor_45 : Dn cX1_toldFor 45 (.sipush 1000) 3 48 := by decide +kernel
theorem dX1_toldFor_48 : Dn cX1_toldFor 48 (.aload_n 0) 1 49 := by decide +kernel
theorem dX1_toldFor_49 : Dn cX1_toldFor 49 (.getfield 13) 3 52 := by decide +kernel
theorem dX1_toldFor_52 : Dn cX1_toldFor 52 (.invokestatic 33) 3 55 := by decide +kernel
theorem dX1_toldFor_55 : Dn cX1_toldFor 55 (.ireturn) 1 56 := by decide +kernel
theorem dX1_howManyAhead_0 : Dn cX1_howManyAhead 0 (.iconst 0) 1 1 := by decide +kernel
theorem dX1_howManyAhead_1 : Dn cX1_howManyAhead 1 (.istore 4) 2 3 := by decide +kernel
theorem dX1_howManyAhead_3 : Dn cX1_howManyAhead 3 (.iconst 0) 1 4 := by decide +kernel
theorem dX1_howManyAhead_4 : Dn cX1_howManyAhead 4 (.istore 5) 2 6 := by decide +kernel
theorem dX1_howManyAhead_6 : Dn cX1_howManyAhead 6 (.iload 5) 2 8 := by decide +kernel
theorem dX1_howManyAhead_8 : Dn cX1_howManyAhead 8 (.aload_n 1) 1 9 := by decide +kernel
theorem dX1_howManyAhead_9 : Dn cX1_howManyAhead 9 (.getfield 39) 3 12 := by decide +kernel
theorem dX1_howManyAhead_12 : Db cX1_howManyAhead 12 (.if_icmp .ge 56) (56) 15 68 := by decide +kernel
theorem dX1_howManyAhead_15 : Dn cX1_howManyAhead 15 (.aload_n 1) 1 16 := by decide +kernel
theorem dX1_howManyAhead_16 : Dn cX1_howManyAhead 16 (.iload 5) 2 18 := by decide +kernel
theorem dX1_howManyAhead_18 : Dn cX1_howManyAhead 18 (.aload_n 0) 1 19 := by decide +kernel
theorem dX1_howManyAhead_19 : Dn cX1_howManyAhead 19 (.getfield 20) 3 22 := by decide +kernel
theorem dX1_howManyAhead_22 : Dn cX1_howManyAhead 22 (.iload_n 2) 1 23 := by decide +kernel
theorem dX1_howManyAhead_23 : Dn cX1_howManyAhead 23 (.iaload) 1 24 := by decide +kernel
theorem dX1_howManyAhead_24 : Dn cX1_howManyAhead 24 (.invokevirtual 44) 3 27 := by decide +kernel
theorem dX1_howManyAhead_27 : Db cX1_howManyAhead 27 (.ifCond .eq 35) (35) 30 62 := by decide +kernel
theorem dX1_howManyAhead_30 : Dn cX1_howManyAhead 30 (.aload_n 1) 1 31 := by decide +kernel
theorem dX1_howManyAhead_31 : Dn cX1_howManyAhead 31 (.getfield 48) 3 34 := by decide +kernel
theorem dX1_howManyAhead_34 : Dn cX1_howManyAhead 34 (.iload 5) 2 36 := by decide +kernel
theorem dX1_howManyAhead_36 : Dn cX1_howManyAhead 36 (.iaload) 1 37 := by decide +kernel
theorem dX1_howManyAhead_37 : Dn cX1_howManyAhead 37 (.iload_n 3) 1 38 := by decide +kernel
theorem dX1_howManyAhead_38 : Db cX1_howManyAhead 38 (.if_icmp .ge 24) (24) 41 62 := by decide +kernel
theorem dX1_howManyAhead_41 : Dn cX1_howManyAhead 41 (.aload_n 1) 1 42 := by decide +kernel
theorem dX1_howManyAhead_42 : Dn cX1_howManyAhead 42 (.getfield 51) 3 45 := by decide +kernel
theorem dX1_howManyAhead_45 : Dn cX1_howManyAhead 45 (.iload 5) 2 47 := by decide +kernel
theorem dX1_howManyAhead_47 : Dn cX1_howManyAhead 47 (.iaload) 1 48 := by decide +kernel
theorem dX1_howManyAhead_48 : Dn cX1_howManyAhead 48 (.iload_n 3) 1 49 := by decide +kernel
theorem dX1_howManyAhead_49 : Dn cX1_howManyAhead 49 (.aload_n 0) 1 50 := by decide +kernel
theorem dX1_howManyAhead_50 : Dn cX1_howManyAhead 50 (.getfield 16) 3 53 := by decide +kernel
theorem dX1_howManyAhead_53 : Dn cX1_howManyAhead 53 (.iload_n 2) 1 54 := by decide +kernel
theorem dX1_howManyAhead_54 : Dn cX1_howManyAhead 54 (.iaload) 1 55 := by decide +kernel
theorem dX1_howManyAhead_55 : Dn cX1_howManyAhead 55 (.isub) 1 56 := by decide +kernel
theorem dX1_howManyAhead_56 : Db cX1_howManyAhead 56 (.if_icmp .lt 6) (6) 59 62 := by decide +kernel
theorem dX1_howManyAhead_59 : Dn cX1_howManyAhead 59 (.iinc 4 1) 3 62 := by decide +kernel
theorem dX1_howManyAhead_62 : Dn cX1_howManyAhead 62 (.iinc 5 1) 3 65 := by decide +kernel
theorem dX1_howManyAhead_65 : Db cX1_howManyAhead 65 (.goto (-59)) (-59) 68 6 := by decide +kernel
theorem dX1_howManyAhead_68 : Dn cX1_howManyAhead 68 (.iload 4) 2 70 := by decide +kernel
theorem dX1_howManyAhead_70 : Dn cX1_howManyAhead 70 (.ireturn) 1 71 := by decide +kernel
theorem dX2_init_0 : Dn cX2_init 0 (.aload_n 0) 1 1 := by decide +kernel
theorem dX2_init_1 : Dn cX2_init 1 (.invokespecial 3) 3 4 := by decide +kernel
theorem dX2_init_4 : Dn cX2_init 4 (.aload_n 0) 1 5 := by decide +kernel
theorem dX2_init_5 : Dn cX2_init 5 (.iconst 0) 1 6 := by decide +kernel
theorem dX2_init_6 : Dn cX2_init 6 (.putfield 9) 3 9 := by decide +kernel
theorem dX2_init_9 : Dn cX2_init 9 (.aload_n 0) 1 10 := by decide +kernel
theorem dX2_init_10 : Dn cX2_init 10 (.bipush 12) 2 12 := by decide +kernel
theorem dX2_init_12 : Dn cX2_init 12 (.newarray .int) 2 14 := by decide +kernel
theorem dX2_init_14 : Dn cX2_init 14 (.putfield 15) 3 17 := by decide +kernel
theorem dX2_init_17 : Dn cX2_init 17 (.aload_n 0) 1 18 := by decide +kernel
theorem dX2_init_18 : Dn cX2_init 18 (.bipush 12) 2 20 := by decide +kernel
theorem dX2_init_20 : Dn cX2_init 20 (.newarray .int) 2 22 := by decide +kernel
theorem dX2_init_22 : Dn cX2_init 22 (.putfield 19) 3 25 := by decide +kernel
theorem dX2_init_25 : Dn cX2_init 25 (.aload_n 0) 1 26 := by decide +kernel
theorem dX2_init_26 : Dn cX2_init 26 (.bipush 12) 2 28 := by decide +kernel
theorem dX2_init_28 : Dn cX2_init 28 (.newarray .int) 2 30 := by decide +kernel
theorem dX2_init_30 : Dn cX2_init 30 (.putfield 22) 3 33 := by decide +kernel
theorem dX2_init_33 : Dn cX2_init 33 (.aload_n 0) 1 34 := by decide +kernel
theorem dX2_init_34 : Dn cX2_init 34 (.bipush 12) 2 36 := by decide +kernel
theorem dX2_init_36 : Dn cX2_init 36 (.newarray .int) 2 38 := by decide +kernel
theorem dX2_init_38 : Dn cX2_init 38 (.putfield 25) 3 41 := by decide +kernel
theorem dX2_init_41 : Dn cX2_init 41 (.aload_n 0) 1 42 := by decide +kernel
theorem dX2_init_42 : Dn cX2_init 42 (.bipush 12) 2 44 := by decide +kernel
theorem dX2_init_44 : Dn cX2_init 44 (.newarray .int) 2 46 := by decide +kernel
theorem dX2_init_46 : Dn cX2_init 46 (.putfield 28) 3 49 := by decide +kernel
theorem dX2_init_49 : Dn cX2_init 49 (.aload_n 0) 1 50 := by decide +kernel
theorem dX2_init_50 : Dn cX2_init 50 (.iconst 4) 1 51 := by decide +kernel
theorem dX2_init_51 : Dn cX2_init 51 (.bipush 10) 2 53 := by decide +kernel
theorem dX2_init_53 : Dn cX2_init 53 (.multianewarray 31 2) 4 57 := by decide +kernel
theorem dX2_init_57 : Dn cX2_init 57 (.putfield 33) 3 60 := by decide +kernel
theorem dX2_init_60 : Dn cX2_init 60 (.aload_n 0) 1 61 := by decide +kernel
theorem dX2_init_61 : Dn cX2_init 61 (.iconst 0) 1 62 := by decide +kernel
theorem dX2_init_62 : Dn cX2_init 62 (.putfield 36) 3 65 := by decide +kernel
theorem dX2_init_65 : Dn cX2_init 65 (.aload_n 0) 1 66 := by decide +kernel
theorem dX2_init_66 : Dn cX2_init 66 (.bipush 12) 2 68 := by decide +kernel
theorem dX2_init_68 : Dn cX2_init 68 (.newarray .int) 2 70 := by decide +kernel
theorem dX2_init_70 : Dn cX2_init 70 (.putfield 39) 3 73 := by decide +kernel
theorem dX2_init_73 : Dn cX2_init 73 (.aload_n 0) 1 74 := by decide +kernel
theorem dX2_init_74 : Dn cX2_init 74 (.bipush 12) 2 76 := by decide +kernel
theorem dX2_init_76 : Dn cX2_init 76 (.newarray .int) 2 78 := by decide +kernel
theorem dX2_init_78 : Dn cX2_init 78 (.putfield 42) 3 81 := by decide +kernel
theorem dX2_init_81 : Dn cX2_init 81 (.aload_n 0) 1 82 := by decide +kernel
theorem dX2_init_82 : Dn cX2_init 82 (.bipush 12) 2 84 := by decide +kernel
theorem dX2_init_84 : Dn cX2_init 84 (.newarray .int) 2 86 := by decide +kernel
theorem dX2_init_86 : Dn cX2_init 86 (.putfield 45) 3 89 := by decide +kernel
theorem dX2_init_89 : Dn cX2_init 89 (.aload_n 0) 1 90 := by decide +kernel
theorem dX2_init_90 : Dn cX2_init 90 (.bipush 12) 2 92 := by decide +kernel
theorem dX2_init_92 : Dn cX2_init 92 (.newarray .int) 2 94 := by decide +kernel
theorem dX2_init_94 : Dn cX2_init 94 (.putfield 48) 3 97 := by decide +kernel
theorem dX2_init_97 : Dn cX2_init 97 (.aload_n 0) 1 98 := by decide +kernel
theorem dX2_init_98 : Dn cX2_init 98 (.sipush 501) 3 101 := by decide +kernel
theorem dX2_init_101 : Dn cX2_init 101 (.newarray .long) 2 103 := by decide +kernel
theorem dX2_init_103 : Dn cX2_init 103 (.putfield 51) 3 106 := by decide +kernel
theorem dX2_init_106 : Dn cX2_init 106 (.return_) 1 107 := by decide +kernel
theorem dX2_build_0 : Dn cX2_build 0 (.aload_n 0) 1 1 := by decide +kernel
theorem dX2_build_1 : Dn cX2_build 1 (.getfield 15) 3 4 := by decide +kernel
theorem dX2_build_4 : Dn cX2_build 4 (.aload_n 0) 1 5 := by decide +kernel
theorem dX2_build_5 : Dn cX2_build 5 (.getfield 9) 3 8 := by decide +kernel
theorem dX2_build_8 : Dn cX2_build 8 (.iload_n 1) 1 9 := by decide +kernel
theorem dX2_build_9 : Dn cX2_build 9 (.iastore) 1 10 := by decide +kernel
theorem dX2_build_10 : Dn cX2_build 10 (.aload_n 0) 1 11 := by decide +kernel
theorem dX2_build_11 : Dn cX2_build 11 (.getfield 19) 3 14 := by decide +kernel
theorem dX2_build_14 : Dn cX2_build 14 (.aload_n 0) 1 15 := by decide +kernel
theorem dX2_build_15 : Dn cX2_build 15 (.getfield 9) 3 18 := by decide +kernel
theorem dX2_build_18 : Dn cX2_build 18 (.iload_n 2) 1 19 := by decide +kernel
theorem dX2_build_19 : Dn cX2_build 19 (.iastore) 1 20 := by decide +kernel
theorem dX2_build_20 : Dn cX2_build 20 (.aload_n 0) 1 21 := by decide +kernel
theorem dX2_build_21 : Dn cX2_build 21 (.getfield 22) 3 24 := by decide +kernel
theorem dX2_build_24 : Dn cX2_build 24 (.aload_n 0) 1 25 := by decide +kernel
theorem dX2_build_25 : Dn cX2_build 25 (.getfield 9) 3 28 := by decide +kernel
theorem dX2_build_28 : Dn cX2_build 28 (.iload_n 3) 1 29 := by decide +kernel
theorem dX2_build_29 : Dn cX2_build 29 (.iastore) 1 30 := by decide +kernel
theorem dX2_build_30 : Dn cX2_build 30 (.aload_n 0) 1 31 := by decide +kernel
theorem dX2_build_31 : Dn cX2_build 31 (.getfield 25) 3 34 := by decide +kernel
theorem dX2_build_34 : Dn cX2_build 34 (.aload_n 0) 1 35 := by decide +kernel
theorem dX2_build_35 : Dn cX2_build 35 (.getfield 9) 3 38 := by decide +kernel
theorem dX2_build_38 : Dn cX2_build 38 (.iload 4) 2 40 := by decide +kernel
theorem dX2_build_40 : Dn cX2_build 40 (.iastore) 1 41 := by decide +kernel
theorem dX2_build_41 : Dn cX2_build 41 (.aload_n 0) 1 42 := by decide +kernel
theorem dX2_build_42 : Dn cX2_build 42 (.getfield 28) 3 45 := by decide +kernel
theorem dX2_build_45 : Dn cX2_build 45 (.aload_n 0) 1 46 := by decide +kernel
theorem dX2_build_46 : Dn cX2_build 46 (.getfield 9) 3 49 := by decide +kernel
theorem dX2_build_49 : Dn cX2_build 49 (.iload 5) 2 51 := by decide +kernel
theorem dX2_build_51 : Dn cX2_build 51 (.iastore) 1 52 := by decide +kernel
theorem dX2_build_52 : Dn cX2_build 52 (.aload_n 0) 1 53 := by decide +kernel
theorem dX2_build_53 : Dn cX2_build 53 (.dup) 1 54 := by decide +kernel
theorem dX2_build_54 : Dn cX2_build 54 (.getfield 9) 3 57 := by decide +kernel
theorem dX2_build_57 : Dn cX2_build 57 (.iconst 1) 1 58 := by decide +kernel
theorem dX2_build_58 : Dn cX2_build 58 (.iadd) 1 59 := by decide +kernel
theorem dX2_build_59 : Dn cX2_build 59 (.putfield 9) 3 62 := by decide +kernel
theorem dX2_build_62 : Dn cX2_build 62 (.aload_n 0) 1 63 := by decide +kernel
theorem dX2_build_63 : Dn cX2_build 63 (.getfield 9) 3 66 := by decide +kernel
theorem dX2_build_66 : Dn cX2_build 66 (.iconst 1) 1 67 := by decide +kernel
theorem dX2_build_67 : Dn cX2_build 67 (.isub) 1 68 := by decide +kernel
theorem dX2_build_68 : Dn cX2_build 68 (.ireturn) 1 69 := by decide +kernel
theorem dX2_enact_0 : Dn cX2_enact 0 (.aload_n 0) 1 1 := by decide +kernel
theorem dX2_enact_1 : Dn cX2_enact 1 (.getfield 39) 3 4 := by decide +kernel
theorem dX2_enact_4 : Dn cX2_enact 4 (.aload_n 0) 1 5 := by decide +kernel
theorem dX2_enact_5 : Dn cX2_enact 5 (.getfield 36) 3 8 := by decide +kernel
theorem dX2_enact_8 : Dn cX2_enact 8 (.iload_n 1) 1 9 := by decide +kernel
theorem dX2_enact_9 : Dn cX2_enact 9 (.iastore) 1 10 := by decide +kernel
theorem dX2_enact_10 : Dn cX2_enact 10 (.aload_n 0) 1 11 := by decide +kernel
theorem dX2_enact_11 : Dn cX2_enact 11 (.getfield 42) 3 14 := by decide +kernel
theorem dX2_enact_14 : Dn cX2_enact 14 (.aload_n 0) 1 15 := by decide +kernel
theorem dX2_enact_15 : Dn cX2_enact 15 (.getfield 36) 3 18 := by decide +kernel
theorem dX2_enact_18 : Dn cX2_enact 18 (.iload_n 2) 1 19 := by decide +kernel
theorem dX2_enact_19 : Dn cX2_enact 19 (.iastore) 1 20 := by decide +kernel
theorem dX2_enact_20 : Dn cX2_enact 20 (.aload_n 0) 1 21 := by decide +kernel
theorem dX2_enact_21 : Dn cX2_enact 21 (.getfield 45) 3 24 := by decide +kernel
theorem dX2_enact_24 : Dn cX2_enact 24 (.aload_n 0) 1 25 := by decide +kernel
theorem dX2_enact_25 : Dn cX2_enact 25 (.getfield 36) 3 28 := by decide +kernel
theorem dX2_enact_28 : Dn cX2_enact 28 (.iload_n 3) 1 29 := by decide +kernel
theorem dX2_enact_29 : Dn cX2_enact 29 (.iastore) 1 30 := by decide +kernel
theorem dX2_enact_30 : Dn cX2_enact 30 (.aload_n 0) 1 31 := by decide +kernel
theorem dX2_enact_31 : Dn cX2_enact 31 (.getfield 48) 3 34 := by decide +kernel
theorem dX2_enact_34 : Dn cX2_enact 34 (.aload_n 0) 1 35 := by decide +kernel
theorem dX2_enact_35 : Dn cX2_enact 35 (.getfield 36) 3 38 := by decide +kernel
theorem dX2_enact_38 : Dn cX2_enact 38 (.iload 4) 2 40 := by decide +kernel
theorem dX2_enact_40 : Dn cX2_enact 40 (.iastore) 1 41 := by decide +kernel
theorem dX2_enact_41 : Dn cX2_enact 41 (.aload_n 0) 1 42 := by decide +kernel
theorem dX2_enact_42 : Dn cX2_enact 42 (.dup) 1 43 := by decide +kernel
theorem dX2_enact_43 : Dn cX2_enact 43 (.getfield 36) 3 46 := by decide +kernel
theorem dX2_enact_46 : Dn cX2_enact 46 (.iconst 1) 1 47 := by decide +kernel
theorem dX2_enact_47 : Dn cX2_enact 47 (.iadd) 1 48 := by decide +kernel
theorem dX2_enact_48 : Dn cX2_enact 48 (.putfield 36) 3 51 := by decide +kernel
theorem dX2_enact_51 : Dn cX2_enact 51 (.aload_n 0) 1 52 := by decide +kernel
theorem dX2_enact_52 : Dn cX2_enact 52 (.getfield 36) 3 55 := by decide +kernel
theorem dX2_enact_55 : Dn cX2_enact 55 (.ireturn) 1 56 := by decide +kernel
theorem dX2_lossOfHouse_0 : Dn cX2_lossOfHouse 0 (.iconst 0) 1 1 := by decide +kernel
theorem dX2_lossOfHouse_1 : Dn cX2_lossOfHouse 1 (.iload 5) 2 3 := by decide +kernel
theorem dX2_lossOfHouse_3 : Dn cX2_lossOfHouse 3 (.iload 6) 2 5 := by decide +kernel
theorem dX2_lossOfHouse_5 : Dn cX2_lossOfHouse 5 (.iload_n 3) 1 6 := by decide +kernel
theorem dX2_lossOfHouse_6 : Dn cX2_lossOfHouse 6 (.iload 4) 2 8 := by decide +kernel
theorem dX2_lossOfHouse_8 : Dn cX2_lossOfHouse 8 (.aload_n 0) 1 9 := by decide +kernel
theorem dX2_lossOfHouse_9 : Dn cX2_lossOfHouse 9 (.getfield 15) 3 12 := by decide +kernel
theorem dX2_lossOfHouse_12 : Dn cX2_lossOfHouse 12 (.iload_n 1) 1 13 := by decide +kernel
theorem dX2_lossOfHouse_13 : Dn cX2_lossOfHouse 13 (.iaload) 1 14 := by decide +kernel
theorem dX2_lossOfHouse_14 : Dn cX2_lossOfHouse 14 (.aload_n 0) 1 15 := by decide +kernel
theorem dX2_lossOfHouse_15 : Dn cX2_lossOfHouse 15 (.getfield 19) 3 18 := by decide +kernel
theorem dX2_lossOfHouse_18 : Dn cX2_lossOfHouse 18 (.iload_n 1) 1 19 := by decide +kernel
theorem dX2_lossOfHouse_19 : Dn cX2_lossOfHouse 19 (.iaload) 1 20 := by decide +kernel
theorem dX2_lossOfHouse_20 : Dn cX2_lossOfHouse 20 (.invokestatic 55) 3 23 := by decide +kernel
theorem dX2_lossOfHouse_23 : Dn cX2_lossOfHouse 23 (.imul) 1 24 := by decide +kernel
theorem dX2_lossOfHouse_24 : Dn cX2_lossOfHouse 24 (.isub) 1 25 := by decide +kernel
theorem dX2_lossOfHouse_25 : Dn cX2_lossOfHouse 25 (.invokestatic 59) 3 28 := by decide +kernel
theorem dX2_lossOfHouse_28 : Dn cX2_lossOfHouse 28 (.istore 7) 2 30 := by decide +kernel
theorem dX2_lossOfHouse_30 : Dn cX2_lossOfHouse 30 (.aload_n 0) 1 31 := by decide +kernel
theorem dX2_lossOfHouse_31 : Dn cX2_lossOfHouse 31 (.getfield 25) 3 34 := by decide +kernel
theorem dX2_lossOfHouse_34 : Dn cX2_lossOfHouse 34 (.iload_n 1) 1 35 := by decide +kernel
theorem dX2_lossOfHouse_35 : Dn cX2_lossOfHouse 35 (.iaload) 1 36 := by decide +kernel
theorem dX2_lossOfHouse_36 : Dn cX2_lossOfHouse 36 (.aload_n 0) 1 37 := by decide +kernel
theorem dX2_lossOfHouse_37 : Dn cX2_lossOfHouse 37 (.getfield 33) 3 40 := by decide +kernel
theorem dX2_lossOfHouse_40 : Dn cX2_lossOfHouse 40 (.iload_n 2) 1 41 := by decide +kernel
theorem dX2_lossOfHouse_41 : Dn cX2_lossOfHouse 41 (.aaload) 1 42 := by decide +kernel
theorem dX2_lossOfHouse_42 : Dn cX2_lossOfHouse 42 (.iload 7) 2 44 := by decide +kernel
theorem dX2_lossOfHouse_44 : Dn cX2_lossOfHouse 44 (.bipush 10) 2 46 := by decide +kernel
theorem dX2_lossOfHouse_46 : Dn cX2_lossOfHouse 46 (.idiv) 1 47 := by decide +kernel
theorem dX2_lossOfHouse_47 : Dn cX2_lossOfHouse 47 (.iaload) 1 48 := by decide +kernel
theorem dX2_lossOfHouse_48 : Dn cX2_lossOfHouse 48 (.imul) 1 49 := by decide +kernel
theorem dX2_lossOfHouse_49 : Dn cX2_lossOfHouse 49 (.bipush 100) 2 51 := by decide +kernel
theorem dX2_lossOfHouse_51 : Dn cX2_lossOfHouse 51 (.idiv) 1 52 := by decide +kernel
theorem dX2_lossOfHouse_52 : Dn cX2_lossOfHouse 52 (.ireturn) 1 53 := by decide +kernel
theorem dX2_lossInAll_0 : Dn cX2_lossInAll 0 (.iconst 0) 1 1 := by decide +kernel
theorem dX2_lossInAll_1 : Dn cX2_lossInAll 1 (.istore 6) 2 3 := by decide +kernel
theorem dX2_lossInAll_3 : Dn cX2_lossInAll 3 (.iconst 0) 1 4 := by decide +kernel
theorem dX2_lossInAll_4 : Dn cX2_lossInAll 4 (.istore 7) 2 6 := by decide +kernel
theorem dX2_lossInAll_6 : Dn cX2_lossInAll 6 (.iload 7) 2 8 := by decide +kernel
theorem dX2_lossInAll_8 : Dn cX2_lossInAll 8 (.aload_n 0) 1 9 := by decide +kernel
theorem dX2_lossInAll_9 : Dn cX2_lossInAll 9 (.getfield 9) 3 12 := by decide +kernel
theorem dX2_lossInAll_12 : Db cX2_lossInAll 12 (.if_icmp .ge 51) (51) 15 63 := by decide +kernel
theorem dX2_lossInAll_15 : Dn cX2_lossInAll 15 (.iload 4) 2 17 := by decide +kernel
theorem dX2_lossInAll_17 : Dn cX2_lossInAll 17 (.iload 7) 2 19 := by decide +kernel
theorem dX2_lossInAll_19 : Dn cX2_lossInAll 19 (.ishr) 1 20 := by decide +kernel
theorem dX2_lossInAll_20 : Dn cX2_lossInAll 20 (.iconst 1) 1 21 := by decide +kernel
theorem dX2_lossInAll_21 : Dn cX2_lossInAll 21 (.iand) 1 22 := by decide +kernel
theorem dX2_lossInAll_22 : Dn cX2_lossInAll 22 (.iconst 1) 1 23 := by decide +kernel
theorem dX2_lossInAll_23 : Db cX2_lossInAll 23 (.if_icmp .ne 7) (7) 26 30 := by decide +kernel
theorem dX2_lossInAll_26 : Dn cX2_lossInAll 26 (.iconst 3) 1 27 := by decide +kernel
theorem dX2_lossInAll_27 : Db cX2_lossInAll 27 (.goto 10) (10) 30 37 := by decide +kernel
theorem dX2_lossInAll_30 : Dn cX2_lossInAll 30 (.aload_n 0) 1 31 := by decide +kernel
theorem dX2_lossInAll_31 : Dn cX2_lossInAll 31 (.getfield 22) 3 34 := by decide +kernel
theorem dX2_lossInAll_34 : Dn cX2_lossInAll 34 (.iload 7) 2 36 := by decide +kernel
theorem dX2_lossInAll_36 : Dn cX2_lossInAll 36 (.iaload) 1 37 := by decide +kernel
theorem dX2_lossInAll_37 : Dn cX2_lossInAll 37 (.istore 8) 2 39 := by decide +kernel
theorem dX2_lossInAll_39 : Dn cX2_lossInAll 39 (.iload 6) 2 41 := by decide +kernel
theorem dX2_lossInAll_41 : Dn cX2_lossInAll 41 (.aload_n 0) 1 42 := by decide +kernel
theorem dX2_lossInAll_42 : Dn cX2_lossInAll 42 (.iload 7) 2 44 := by decide +kernel
theorem dX2_lossInAll_44 : Dn cX2_lossInAll 44 (.iload 8) 2 46 := by decide +kernel
theorem dX2_lossInAll_46 : Dn cX2_lossInAll 46 (.iload_n 1) 1 47 := by decide +kernel
theorem dX2_lossInAll_47 : Dn cX2_lossInAll 47 (.iload_n 2) 1 48 := by decide +kernel
theorem dX2_lossInAll_48 : Dn cX2_lossInAll 48 (.iload_n 3) 1 49 := by decide +kernel
theorem dX2_lossInAll_49 : Dn cX2_lossInAll 49 (.iload 5) 2 51 := by decide +kernel
theorem dX2_lossInAll_51 : Dn cX2_lossInAll 51 (.invokevirtual 65) 3 54 := by decide +kernel
theorem dX2_lossInAll_54 : Dn cX2_lossInAll 54 (.iadd) 1 55 := by decide +kernel
theorem dX2_lossInAll_55 : Dn cX2_lossInAll 55 (.istore 6) 2 57 := by decide +kernel
theorem dX2_lossInAll_57 : Dn cX2_lossInAll 57 (.iinc 7 1) 3 60 := by decide +kernel
theorem dX2_lossInAll_60 : Db cX2_lossInAll 60 (.goto (-54)) (-54) 63 6 := by decide +kernel
theorem dX2_lossInAll_63 : Dn cX2_lossInAll 63 (.iload 6) 2 65 := by decide +kernel
theorem dX2_lossInAll_65 : Dn cX2_lossInAll 65 (.ireturn) 1 66 := by decide +kernel
theorem dX2_lossByQuake_0 : Dn cX2_lossByQuake 0 (.aload_n 0) 1 1 := by decide +kernel
theorem dX2_lossByQuake_1 : Dn cX2_lossByQuake 1 (.aload_n 1) 1 2 := by decide +kernel
theorem dX2_lossByQuake_2 : Dn cX2_lossByQuake 2 (.getfield 69) 3 5 := by decide +kernel
theorem dX2_lossByQuake_5 : Dn cX2_lossByQuake 5 (.iload_n 2) 1 6 := by decide +kernel
theorem dX2_lossByQuake_6 : Dn cX2_lossByQuake 6 (.iaload) 1 7 := by decide +kernel
theorem dX2_lossByQuake_7 : Dn cX2_lossByQuake 7 (.aload_n 1) 1 8 := by decide +kernel
theorem dX2_lossByQuake_8 : Dn cX2_lossByQuake 8 (.getfield 74) 3 11 := by decide +kernel
theorem dX2_lossByQuake_11 : Dn cX2_lossByQuake 11 (.iload_n 2) 1 12 := by decide +kernel
theorem dX2_lossByQuake_12 : Dn cX2_lossByQuake 12 (.iaload) 1 13 := by decide +kernel
theorem dX2_lossByQuake_13 : Dn cX2_lossByQuake 13 (.aload_n 1) 1 14 := by decide +kernel
theorem dX2_lossByQuake_14 : Dn cX2_lossByQuake 14 (.getfield 77) 3 17 := by decide +kernel
theorem dX2_lossByQuake_17 : Dn cX2_lossByQuake 17 (.iload_n 2) 1 18 := by decide +kernel
theorem dX2_lossByQuake_18 : Dn cX2_lossByQuake 18 (.iaload) 1 19 := by decide +kernel
theorem dX2_lossByQuake_19 : Dn cX2_lossByQuake 19 (.iconst 0) 1 20 := by decide +kernel
theorem dX2_lossByQuake_20 : Dn cX2_lossByQuake 20 (.iload_n 3) 1 21 := by decide +kernel
theorem dX2_lossByQuake_21 : Dn cX2_lossByQuake 21 (.invokevirtual 80) 3 24 := by decide +kernel
theorem dX2_lossByQuake_24 : Dn cX2_lossByQuake 24 (.ireturn) 1 25 := by decide +kernel
theorem dX2_lossByLaw_0 : Dn cX2_lossByLaw 0 (.aload_n 0) 1 1 := by decide +kernel
theorem dX2_lossByLaw_1 : Dn cX2_lossByLaw 1 (.aload_n 0) 1 2 := by decide +kernel
theorem dX2_lossByLaw_2 : Dn cX2_lossByLaw 2 (.getfield 39) 3 5 := by decide +kernel
theorem dX2_lossByLaw_5 : Dn cX2_lossByLaw 5 (.iload_n 1) 1 6 := by decide +kernel
theorem dX2_lossByLaw_6 : Dn cX2_lossByLaw 6 (.iaload) 1 7 := by decide +kernel
theorem dX2_lossByLaw_7 : Dn cX2_lossByLaw 7 (.aload_n 0) 1 8 := by decide +kernel
theorem dX2_lossByLaw_8 : Dn cX2_lossByLaw 8 (.getfield 42) 3 11 := by decide +kernel
theorem dX2_lossByLaw_11 : Dn cX2_lossByLaw 11 (.iload_n 1) 1 12 := by decide +kernel
theorem dX2_lossByLaw_12 : Dn cX2_lossByLaw 12 (.iaload) 1 13 := by decide +kernel
theorem dX2_lossByLaw_13 : Dn cX2_lossByLaw 13 (.aload_n 0) 1 14 := by decide +kernel
theorem dX2_lossByLaw_14 : Dn cX2_lossByLaw 14 (.getfield 45) 3 17 := by decide +kernel
theorem dX2_lossByLaw_17 : Dn cX2_lossByLaw 17 (.iload_n 1) 1 18 := by decide +kernel
theorem dX2_lossByLaw_18 : Dn cX2_lossByLaw 18 (.iaload) 1 19 := by decide +kernel
theorem dX2_lossByLaw_19 : Dn cX2_lossByLaw 19 (.iload_n 2) 1 20 := by decide +kernel
theorem dX2_lossByLaw_20 : Dn cX2_lossByLaw 20 (.iload_n 3) 1 21 := by decide +kernel
theorem dX2_lossByLaw_21 : Dn cX2_lossByLaw 21 (.invokevirtual 80) 3 24 := by decide +kernel
theorem dX2_lossByLaw_24 : Dn cX2_lossByLaw 24 (.ireturn) 1 25 := by decide +kernel
theorem dX2_worstQuake_0 : Dn cX2_worstQuake 0 (.bipush (-6)) 2 2 := by decide +kernel
theorem dX2_worstQuake_2 : Dn cX2_worstQuake 2 (.istore 4) 2 4 := by decide +kernel
theorem dX2_worstQuake_4 : Dn cX2_worstQuake 4 (.iconst (-1)) 1 5 := by decide +kernel
theorem dX2_worstQuake_5 : Dn cX2_worstQuake 5 (.istore 5) 2 7 := by decide +kernel
theorem dX2_worstQuake_7 : Dn cX2_worstQuake 7 (.iconst 0) 1 8 := by decide +kernel
theorem dX2_worstQuake_8 : Dn cX2_worstQuake 8 (.istore 6) 2 10 := by decide +kernel
theorem dX2_worstQuake_10 : Dn cX2_worstQuake 10 (.iload 6) 2 12 := by decide +kernel
theorem dX2_worstQuake_12 : Dn cX2_worstQuake 12 (.aload_n 1) 1 13 := by decide +kernel
theorem dX2_worstQuake_13 : Dn cX2_worstQuake 13 (.getfield 84) 3 16 := by decide +kernel
theorem dX2_worstQuake_16 : Db cX2_worstQuake 16 (.if_icmp .ge 58) (58) 19 74 := by decide +kernel
theorem dX2_worstQuake_19 : Dn cX2_worstQuake 19 (.aload_n 1) 1 20 := by decide +kernel
theorem dX2_worstQuake_20 : Dn cX2_worstQuake 20 (.getfield 87) 3 23 := by decide +kernel
theorem dX2_worstQuake_23 : Dn cX2_worstQuake 23 (.iload 6) 2 25 := by decide +kernel
theorem dX2_worstQuake_25 : Dn cX2_worstQuake 25 (.iaload) 1 26 := by decide +kernel
theorem dX2_worstQuake_26 : Dn cX2_worstQuake 26 (.istore 7) 2 28 := by decide +kernel
theorem dX2_worstQuake_28 : Dn cX2_worstQuake 28 (.aload_n 1) 1 29 := by decide +kernel
theorem dX2_worstQuake_29 : Dn cX2_worstQuake 29 (.iload 7) 2 31 := by decide +kernel
theorem dX2_worstQuake_31 : Dn cX2_worstQuake 31 (.iconst (-1)) 1 32 := by decide +kernel
theorem dX2_worstQuake_32 : Dn cX2_worstQuake 32 (.iload_n 2) 1 33 := by decide +kernel
theorem dX2_worstQuake_33 : Dn cX2_worstQuake 33 (.invokevirtual 90) 3 36 := by decide +kernel
theorem dX2_worstQuake_36 : Db cX2_worstQuake 36 (.ifCond .eq 14) (14) 39 50 := by decide +kernel
theorem dX2_worstQuake_39 : Dn cX2_worstQuake 39 (.aload_n 0) 1 40 := by decide +kernel
theorem dX2_worstQuake_40 : Dn cX2_worstQuake 40 (.aload_n 1) 1 41 := by decide +kernel
theorem dX2_worstQuake_41 : Dn cX2_worstQuake 41 (.iload 7) 2 43 := by decide +kernel
theorem dX2_worstQuake_43 : Dn cX2_worstQuake 43 (.iload_n 3) 1 44 := by decide +kernel
theorem dX2_worstQuake_44 : Dn cX2_worstQuake 44 (.invokevirtual 94) 3 47 := by decide +kernel
theorem dX2_worstQuake_47 : Db cX2_worstQuake 47 (.goto 4) (4) 50 51 := by decide +kernel
theorem dX2_worstQuake_50 : Dn cX2_worstQuake 50 (.iconst (-1)) 1 51 := by decide +kernel
theorem dX2_worstQuake_51 : Dn cX2_worstQuake 51 (.istore 8) 2 53 := by decide +kernel
theorem dX2_worstQuake_53 : Dn cX2_worstQuake 53 (.iload 8) 2 55 := by decide +kernel
theorem dX2_worstQuake_55 : Dn cX2_worstQuake 55 (.iload 5) 2 57 := by decide +kernel
theorem dX2_worstQuake_57 : Db cX2_worstQuake 57 (.if_icmp .le 11) (11) 60 68 := by decide +kernel
theorem dX2_worstQuake_60 : Dn cX2_worstQuake 60 (.iload 8) 2 62 := by decide +kernel
theorem dX2_worstQuake_62 : Dn cX2_worstQuake 62 (.istore 5) 2 64 := by decide +kernel
theorem dX2_worstQuake_64 : Dn cX2_worstQuake 64 (.iload 7) 2 66 := by decide +kernel
theorem dX2_worstQuake_66 : Dn cX2_worstQuake 66 (.istore 4) 2 68 := by decide +kernel
theorem dX2_worstQuake_68 : Dn cX2_worstQuake 68 (.iinc 6 1) 3 71 := by decide +kernel
theorem dX2_worstQuake_71 : Db cX2_worstQuake 71 (.goto (-61)) (-61) 74 10 := by decide +kernel
theorem dX2_worstQuake_74 : Dn cX2_worstQuake 74 (.iload 4) 2 76 := by decide +kernel
theorem dX2_worstQuake_76 : Dn cX2_worstQuake 76 (.ireturn) 1 77 := by decide +kernel
theorem dX2_howOftenAbove_0 : Dn cX2_howOftenAbove 0 (.iconst 0) 1 1 := by decide +kernel
theorem dX2_howOftenAbove_1 : Dn cX2_howOftenAbove 1 (.istore_n 3) 1 2 := by decide +kernel
theorem dX2_howOftenAbove_2 : Dn cX2_howOftenAbove 2 (.iconst 0) 1 3 := by decide +kernel
theorem dX2_howOftenAbove_3 : Dn cX2_howOftenAbove 3 (.istore 4) 2 5 := by decide +kernel
theorem dX2_howOftenAbove_5 : Dn cX2_howOftenAbove 5 (.iload 4) 2 7 := by decide +kernel
theorem dX2_howOftenAbove_7 : Dn cX2_howOftenAbove 7 (.aload_n 0) 1 8 := by decide +kernel
theorem dX2_howOftenAbove_8 : Dn cX2_howOftenAbove 8 (.getfield 36) 3 11 := by decide +kernel
theorem dX2_howOftenAbove_11 : Db cX2_howOftenAbove 11 (.if_icmp .ge 31) (31) 14 42 := by decide +kernel
theorem dX2_howOftenAbove_14 : Dn cX2_howOftenAbove 14 (.aload_n 0) 1 15 := by decide +kernel
theorem dX2_howOftenAbove_15 : Dn cX2_howOftenAbove 15 (.iload 4) 2 17 := by decide +kernel
theorem dX2_howOftenAbove_17 : Dn cX2_howOftenAbove 17 (.iconst 0) 1 18 := by decide +kernel
theorem dX2_howOftenAbove_18 : Dn cX2_howOftenAbove 18 (.iload_n 2) 1 19 := by decide +kernel
theorem dX2_howOftenAbove_19 : Dn cX2_howOftenAbove 19 (.invokevirtual 98) 3 22 := by decide +kernel
theorem dX2_howOftenAbove_22 : Dn cX2_howOftenAbove 22 (.iload_n 1) 1 23 := by decide +kernel
theorem dX2_howOftenAbove_23 : Db cX2_howOftenAbove 23 (.if_icmp .le 13) (13) 26 36 := by decide +kernel
theorem dX2_howOftenAbove_26 : Dn cX2_howOftenAbove 26 (.iload_n 3) 1 27 := by decide +kernel
theorem dX2_howOftenAbove_27 : Dn cX2_howOftenAbove 27 (.aload_n 0) 1 28 := by decide +kernel
theorem dX2_howOftenAbove_28 : Dn cX2_howOftenAbove 28 (.getfield 48) 3 31 := by decide +kernel
theorem dX2_howOftenAbove_31 : Dn cX2_howOftenAbove 31 (.iload 4) 2 33 := by decide +kernel
theorem dX2_howOftenAbove_33 : Dn cX2_howOftenAbove 33 (.iaload) 1 34 := by decide +kernel
theorem dX2_howOftenAbove_34 : Dn cX2_howOftenAbove 34 (.iadd) 1 35 := by decide +kernel
theorem dX2_howOftenAbove_35 : Dn cX2_howOftenAbove 35 (.istore_n 3) 1 36 := by decide +kernel
theorem dX2_howOftenAbove_36 : Dn cX2_howOftenAbove 36 (.iinc 4 1) 3 39 := by decide +kernel
theorem dX2_howOftenAbove_39 : Db cX2_howOftenAbove 39 (.goto (-34)) (-34) 42 5 := by decide +kernel
theorem dX2_howOftenAbove_42 : Dn cX2_howOftenAbove 42 (.iload_n 3) 1 43 := by decide +kernel
theorem dX2_howOftenAbove_43 : Dn cX2_howOftenAbove 43 (.ireturn) 1 44 := by decide +kernel
theorem dX2_meanLoss_0 : Dn cX2_meanLoss 0 (.lconst 0) 1 1 := by decide +kernel
theorem dX2_meanLoss_1 : Dn cX2_meanLoss 1 (.lstore_n 3) 1 2 := by decide +kernel
theorem dX2_meanLoss_2 : Dn cX2_meanLoss 2 (.iconst 0) 1 3 := by decide +kernel
theorem dX2_meanLoss_3 : Dn cX2_meanLoss 3 (.istore 5) 2 5 := by decide +kernel
theorem dX2_meanLoss_5 : Dn cX2_meanLoss 5 (.iload 5) 2 7 := by decide +kernel
theorem dX2_meanLoss_7 : Dn cX2_meanLoss 7 (.aload_n 0) 1 8 := by decide +kernel
theorem dX2_meanLoss_8 : Dn cX2_meanLoss 8 (.getfield 36) 3 11 := by decide +kernel
theorem dX2_meanLoss_11 : Db cX2_meanLoss 11 (.if_icmp .ge 30) (30) 14 41 := by decide +kernel
theorem dX2_meanLoss_14 : Dn cX2_meanLoss 14 (.lload_n 3) 1 15 := by decide +kernel
theorem dX2_meanLoss_15 : Dn cX2_meanLoss 15 (.aload_n 0) 1 16 := by decide +kernel
theorem dX2_meanLoss_16 : Dn cX2_meanLoss 16 (.getfield 48) 3 19 := by decide +kernel
theorem dX2_meanLoss_19 : Dn cX2_meanLoss 19 (.iload 5) 2 21 := by decide +kernel
theorem dX2_meanLoss_21 : Dn cX2_meanLoss 21 (.iaload) 1 22 := by decide +kernel
theorem dX2_meanLoss_22 : Dn cX2_meanLoss 22 (.i2l) 1 23 := by decide +kernel
theorem dX2_meanLoss_23 : Dn cX2_meanLoss 23 (.aload_n 0) 1 24 := by decide +kernel
theorem dX2_meanLoss_24 : Dn cX2_meanLoss 24 (.iload 5) 2 26 := by decide +kernel
theorem dX2_meanLoss_26 : Dn cX2_meanLoss 26 (.iload_n 1) 1 27 := by decide +kernel
theorem dX2_meanLoss_27 : Dn cX2_meanLoss 27 (.iload_n 2) 1 28 := by decide +kernel
theorem dX2_meanLoss_28 : Dn cX2_meanLoss 28 (.invokevirtual 98) 3 31 := by decide +kernel
theorem dX2_meanLoss_31 : Dn cX2_meanLoss 31 (.i2l) 1 32 := by decide +kernel
theorem dX2_meanLoss_32 : Dn cX2_meanLoss 32 (.lmul) 1 33 := by decide +kernel
theorem dX2_meanLoss_33 : Dn cX2_meanLoss 33 (.ladd) 1 34 := by decide +kernel
theorem dX2_meanLoss_34 : Dn cX2_meanLoss 34 (.lstore_n 3) 1 35 := by decide +kernel
theorem dX2_meanLoss_35 : Dn cX2_meanLoss 35 (.iinc 5 1) 3 38 := by decide +kernel
theorem dX2_meanLoss_38 : Db cX2_meanLoss 38 (.goto (-33)) (-33) 41 5 := by decide +kernel
theorem dX2_meanLoss_41 : Dn cX2_meanLoss 41 (.lload_n 3) 1 42 := by decide +kernel
theorem dX2_meanLoss_42 : Dn cX2_meanLoss 42 (.lreturn) 1 43 := by decide +kernel
theorem dX2_gainOf_0 : Dn cX2_gainOf 0 (.lconst 0) 1 1 := by decide +kernel
theorem dX2_gainOf_1 : Dn cX2_gainOf 1 (.lstore_n 3) 1 2 := by decide +kernel
theorem dX2_gainOf_2 : Dn cX2_gainOf 2 (.iconst 0) 1 3 := by decide +kernel
theorem dX2_gainOf_3 : Dn cX2_gainOf 3 (.istore 5) 2 5 := by decide +kernel
theorem dX2_gainOf_5 : Dn cX2_gainOf 5 (.iload 5) 2 7 := by decide +kernel
theorem dX2_gainOf_7 : Dn cX2_gainOf 7 (.aload_n 0) 1 8 := by decide +kernel
theorem dX2_gainOf_8 : Dn cX2_gainOf 8 (.getfield 36) 3 11 := by decide +kernel
theorem dX2_gainOf_11 : Db cX2_gainOf 11 (.if_icmp .ge 92) (92) 14 103 := by decide +kernel
theorem dX2_gainOf_14 : Dn cX2_gainOf 14 (.aload_n 0) 1 15 := by decide +kernel
theorem dX2_gainOf_15 : Dn cX2_gainOf 15 (.iload_n 1) 1 16 := by decide +kernel
theorem dX2_gainOf_16 : Dn cX2_gainOf 16 (.aload_n 0) 1 17 := by decide +kernel
theorem dX2_gainOf_17 : Dn cX2_gainOf 17 (.getfield 22) 3 20 := by decide +kernel
theorem dX2_gainOf_20 : Dn cX2_gainOf 20 (.iload_n 1) 1 21 := by decide +kernel
theorem dX2_gainOf_21 : Dn cX2_gainOf 21 (.iaload) 1 22 := by decide +kernel
theorem dX2_gainOf_22 : Dn cX2_gainOf 22 (.aload_n 0) 1 23 := by decide +kernel
theorem dX2_gainOf_23 : Dn cX2_gainOf 23 (.getfield 39) 3 26 := by decide +kernel
theorem dX2_gainOf_26 : Dn cX2_gainOf 26 (.iload 5) 2 28 := by decide +kernel
theorem dX2_gainOf_28 : Dn cX2_gainOf 28 (.iaload) 1 29 := by decide +kernel
theorem dX2_gainOf_29 : Dn cX2_gainOf 29 (.aload_n 0) 1 30 := by decide +kernel
theorem dX2_gainOf_30 : Dn cX2_gainOf 30 (.getfield 42) 3 33 := by decide +kernel
theorem dX2_gainOf_33 : Dn cX2_gainOf 33 (.iload 5) 2 35 := by decide +kernel
theorem dX2_gainOf_35 : Dn cX2_gainOf 35 (.iaload) 1 36 := by decide +kernel
theorem dX2_gainOf_36 : Dn cX2_gainOf 36 (.aload_n 0) 1 37 := by decide +kernel
theorem dX2_gainOf_37 : Dn cX2_gainOf 37 (.getfield 45) 3 40 := by decide +kernel
theorem dX2_gainOf_40 : Dn cX2_gainOf 40 (.iload 5) 2 42 := by decide +kernel
theorem dX2_gainOf_42 : Dn cX2_gainOf 42 (.iaload) 1 43 := by decide +kernel
theorem dX2_gainOf_43 : Dn cX2_gainOf 43 (.iload_n 2) 1 44 := by decide +kernel
theorem dX2_gainOf_44 : Dn cX2_gainOf 44 (.invokevirtual 65) 3 47 := by decide +kernel
theorem dX2_gainOf_47 : Dn cX2_gainOf 47 (.istore 6) 2 49 := by decide +kernel
theorem dX2_gainOf_49 : Dn cX2_gainOf 49 (.aload_n 0) 1 50 := by decide +kernel
theorem dX2_gainOf_50 : Dn cX2_gainOf 50 (.iload_n 1) 1 51 := by decide +kernel
theorem dX2_gainOf_51 : Dn cX2_gainOf 51 (.iconst 3) 1 52 := by decide +kernel
theorem dX2_gainOf_52 : Dn cX2_gainOf 52 (.aload_n 0) 1 53 := by decide +kernel
theorem dX2_gainOf_53 : Dn cX2_gainOf 53 (.getfield 39) 3 56 := by decide +kernel
theorem dX2_gainOf_56 : Dn cX2_gainOf 56 (.iload 5) 2 58 := by decide +kernel
theorem dX2_gainOf_58 : Dn cX2_gainOf 58 (.iaload) 1 59 := by decide +kernel
theorem dX2_gainOf_59 : Dn cX2_gainOf 59 (.aload_n 0) 1 60 := by decide +kernel
theorem dX2_gainOf_60 : Dn cX2_gainOf 60 (.getfield 42) 3 63 := by decide +kernel
theorem dX2_gainOf_63 : Dn cX2_gainOf 63 (.iload 5) 2 65 := by decide +kernel
theorem dX2_gainOf_65 : Dn cX2_gainOf 65 (.iaload) 1 66 := by decide +kernel
theorem dX2_gainOf_66 : Dn cX2_gainOf 66 (.aload_n 0) 1 67 := by decide +kernel
theorem dX2_gainOf_67 : Dn cX2_gainOf 67 (.getfield 45) 3 70 := by decide +kernel
theorem dX2_gainOf_70 : Dn cX2_gainOf 70 (.iload 5) 2 72 := by decide +kernel
theorem dX2_gainOf_72 : Dn cX2_gainOf 72 (.iaload) 1 73 := by decide +kernel
theorem dX2_gainOf_73 : Dn cX2_gainOf 73 (.iload_n 2) 1 74 := by decide +kernel
theorem dX2_gainOf_74 : Dn cX2_gainOf 74 (.invokevirtual 65) 3 77 := by decide +kernel
theorem dX2_gainOf_77 : Dn cX2_gainOf 77 (.istore 7) 2 79 := by decide +kernel
theorem dX2_gainOf_79 : Dn cX2_gainOf 79 (.lload_n 3) 1 80 := by decide +kernel
theorem dX2_gainOf_80 : Dn cX2_gainOf 80 (.aload_n 0) 1 81 := by decide +kernel
theorem dX2_gainOf_81 : Dn cX2_gainOf 81 (.getfield 48) 3 84 := by decide +kernel
theorem dX2_gainOf_84 : Dn cX2_gainOf 84 (.iload 5) 2 86 := by decide +kernel
theorem dX2_gainOf_86 : Dn cX2_gainOf 86 (.iaload) 1 87 := by decide +kernel
theorem dX2_gainOf_87 : Dn cX2_gainOf 87 (.i2l) 1 88 := by decide +kernel
theorem dX2_gainOf_88 : Dn cX2_gainOf 88 (.iload 6) 2 90 := by decide +kernel
theorem dX2_gainOf_90 : Dn cX2_gainOf 90 (.iload 7) 2 92 := by decide +kernel
theorem dX2_gainOf_92 : Dn cX2_gainOf 92 (.isub) 1 93 := by decide +kernel
theorem dX2_gainOf_93 : Dn cX2_gainOf 93 (.i2l) 1 94 := by decide +kernel
theorem dX2_gainOf_94 : Dn cX2_gainOf 94 (.lmul) 1 95 := by decide +kernel
theorem dX2_gainOf_95 : Dn cX2_gainOf 95 (.ladd) 1 96 := by decide +kernel
theorem dX2_gainOf_96 : Dn cX2_gainOf 96 (.lstore_n 3) 1 97 := by decide +kernel
theorem dX2_gainOf_97 : Dn cX2_gainOf 97 (.iinc 5 1) 3 100 := by decide +kernel
theorem dX2_gainOf_100 : Db cX2_gainOf 100 (.goto (-95)) (-95) 103 5 := by decide +kernel
theorem dX2_gainOf_103 : Dn cX2_gainOf 103 (.lload_n 3) 1 104 := by decide +kernel
theorem dX2_gainOf_104 : Dn cX2_gainOf 104 (.lreturn) 1 105 := by decide +kernel
theorem dX2_bestHouses_0 : Dn cX2_bestHouses 0 (.iconst 0) 1 1 := by decide +kernel
theorem dX2_bestHouses_1 : Dn cX2_bestHouses 1 (.istore_n 3) 1 2 := by decide +kernel
theorem dX2_bestHouses_2 : Dn cX2_bestHouses 2 (.iload_n 3) 1 3 := by decide +kernel
theorem dX2_bestHouses_3 : Dn cX2_bestHouses 3 (.iload_n 1) 1 4 := by decide +kernel
theorem dX2_bestHouses_4 : Db cX2_bestHouses 4 (.if_icmp .gt 16) (16) 7 20 := by decide +kernel
theorem dX2_bestHouses_7 : Dn cX2_bestHouses 7 (.aload_n 0) 1 8 := by decide +kernel
theorem dX2_bestHouses_8 : Dn cX2_bestHouses 8 (.getfield 51) 3 11 := by decide +kernel
theorem dX2_bestHouses_11 : Dn cX2_bestHouses 11 (.iload_n 3) 1 12 := by decide +kernel
theorem dX2_bestHouses_12 : Dn cX2_bestHouses 12 (.lconst 0) 1 13 := by decide +kernel
theorem dX2_bestHouses_13 : Dn cX2_bestHouses 13 (.lastore) 1 14 := by decide +kernel
theorem dX2_bestHouses_14 : Dn cX2_bestHouses 14 (.iinc 3 1) 3 17 := by decide +kernel
theorem dX2_bestHouses_17 : Db cX2_bestHouses 17 (.goto (-15)) (-15) 20 2 := by decide +kernel
theorem dX2_bestHouses_20 : Dn cX2_bestHouses 20 (.iconst 0) 1 21 := by decide +kernel
theorem dX2_bestHouses_21 : Dn cX2_bestHouses 21 (.istore_n 3) 1 22 := by decide +kernel
theorem dX2_bestHouses_22 : Dn cX2_bestHouses 22 (.iload_n 3) 1 23 := by decide +kernel
theorem dX2_bestHouses_23 : Dn cX2_bestHouses 23 (.aload_n 0) 1 24 := by decide +kernel
theorem dX2_bestHouses_24 : Dn cX2_bestHouses 24 (.getfield 9) 3 27 := by decide +kernel
theorem dX2_bestHouses_27 : Db cX2_bestHouses 27 (.if_icmp .ge 61) (61) 30 88 := by decide +kernel
theorem dX2_bestHouses_30 : Dn cX2_bestHouses 30 (.aload_n 0) 1 31 := by decide +kernel
theorem dX2_bestHouses_31 : Dn cX2_bestHouses 31 (.getfield 28) 3 34 := by decide +kernel
theorem dX2_bestHouses_34 : Dn cX2_bestHouses 34 (.iload_n 3) 1 35 := by decide +kernel
theorem dX2_bestHouses_35 : Dn cX2_bestHouses 35 (.iaload) 1 36 := by decide +kernel
theorem dX2_bestHouses_36 : Dn cX2_bestHouses 36 (.i2l) 1 37 := by decide +kernel
theorem dX2_bestHouses_37 : Dn cX2_bestHouses 37 (.ldc2_w 102) 3 40 := by decide +kernel
theorem dX2_bestHouses_40 : Dn cX2_bestHouses 40 (.lmul) 1 41 := by decide +kernel
theorem dX2_bestHouses_41 : Dn cX2_bestHouses 41 (.lconst 1) 1 42 := by decide +kernel
theorem dX2_bestHouses_42 : Dn cX2_bestHouses 42 (.iload_n 3) 1 43 := by decide +kernel
theorem dX2_bestHouses_43 : Dn cX2_bestHouses 43 (.lshl) 1 44 := by decide +kernel
theorem dX2_bestHouses_44 : Dn cX2_bestHouses 44 (.ladd) 1 45 := by decide +kernel
theorem dX2_bestHouses_45 : Dn cX2_bestHouses 45 (.lstore 4) 2 47 := by decide +kernel
theorem dX2_bestHouses_47 : Dn cX2_bestHouses 47 (.aload_n 0) 1 48 := by decide +kernel
theorem dX2_bestHouses_48 : Dn cX2_bestHouses 48 (.iload_n 3) 1 49 := by decide +kernel
theorem dX2_bestHouses_49 : Dn cX2_bestHouses 49 (.iload_n 2) 1 50 := by decide +kernel
theorem dX2_bestHouses_50 : Dn cX2_bestHouses 50 (.invokevirtual 104) 3 53 := by decide +kernel
theorem dX2_bestHouses_53 : Dn cX2_bestHouses 53 (.ldc2_w 108) 3 56 := by decide +kernel
theorem dX2_bestHouses_56 : Dn cX2_bestHouses 56 (.lmul) 1 57 := by decide +kernel
theorem dX2_bestHouses_57 : Dn cX2_bestHouses 57 (.lload 4) 2 59 := by decide +kernel
theorem dX2_bestHouses_59 : Dn cX2_bestHouses 59 (.lsub) 1 60 := by decide +kernel
theorem dX2_bestHouses_60 : Dn cX2_bestHouses 60 (.lstore 6) 2 62 := by decide +kernel
theorem dX2_bestHouses_62 : Dn cX2_bestHouses 62 (.lload 6) 2 64 := by decide +kernel
theorem dX2_bestHouses_64 : Dn cX2_bestHouses 64 (.lconst 0) 1 65 := by decide +kernel
theorem dX2_bestHouses_65 : Dn cX2_bestHouses 65 (.lcmp) 1 66 := by decide +kernel
theorem dX2_bestHouses_66 : Db cX2_bestHouses 66 (.ifCond .le 16) (16) 69 82 := by decide +kernel
theorem dX2_bestHouses_69 : Dn cX2_bestHouses 69 (.aload_n 0) 1 70 := by decide +kernel
theorem dX2_bestHouses_70 : Dn cX2_bestHouses 70 (.aload_n 0) 1 71 := by decide +kernel
theorem dX2_bestHouses_71 : Dn cX2_bestHouses 71 (.getfield 28) 3 74 := by decide +kernel
theorem dX2_bestHouses_74 : Dn cX2_bestHouses 74 (.iload_n 3) 1 75 := by decide +kernel
theorem dX2_bestHouses_75 : Dn cX2_bestHouses 75 (.iaload) 1 76 := by decide +kernel
theorem dX2_bestHouses_76 : Dn cX2_bestHouses 76 (.lload 6) 2 78 := by decide +kernel
theorem dX2_bestHouses_78 : Dn cX2_bestHouses 78 (.iload_n 1) 1 79 := by decide +kernel
theorem dX2_bestHouses_79 : Dn cX2_bestHouses 79 (.invokevirtual 110) 3 82 := by decide +kernel
theorem dX2_bestHouses_82 : Dn cX2_bestHouses 82 (.iinc 3 1) 3 85 := by decide +kernel
theorem dX2_bestHouses_85 : Db cX2_bestHouses 85 (.goto (-63)) (-63) 88 22 := by decide +kernel
theorem dX2_bestHouses_88 : Dn cX2_bestHouses 88 (.aload_n 0) 1 89 := by decide +kernel
theorem dX2_bestHouses_89 : Dn cX2_bestHouses 89 (.getfield 51) 3 92 := by decide +kernel
theorem dX2_bestHouses_92 : Dn cX2_bestHouses 92 (.iload_n 1) 1 93 := by decide +kernel
theorem dX2_bestHouses_93 : Dn cX2_bestHouses 93 (.laload) 1 94 := by decide +kernel
theorem dX2_bestHouses_94 : Dn cX2_bestHouses 94 (.lneg) 1 95 := by decide +kernel
theorem dX2_bestHouses_95 : Dn cX2_bestHouses 95 (.ldc2_w 102) 3 98 := by decide +kernel
theorem dX2_bestHouses_98 : Dn cX2_bestHouses 98 (.invokestatic 114) 3 101 := by decide +kernel
theorem dX2_bestHouses_101 : Dn cX2_bestHouses 101 (.l2i) 1 102 := by decide +kernel
theorem dX2_bestHouses_102 : Dn cX2_bestHouses 102 (.ireturn) 1 103 := by decide +kernel
theorem dX2_offer_0 : Dn cX2_offer 0 (.iload 4) 2 2 := by decide +kernel
theorem dX2_offer_2 : Dn cX2_offer 2 (.istore 5) 2 4 := by decide +kernel
theorem dX2_offer_4 : Dn cX2_offer 4 (.iload 5) 2 6 := by decide +kernel
theorem dX2_offer_6 : Dn cX2_offer 6 (.iload_n 1) 1 7 := by decide +kernel
theorem dX2_offer_7 : Db cX2_offer 7 (.if_icmp .lt 37) (37) 10 44 := by decide +kernel
theorem dX2_offer_10 : Dn cX2_offer 10 (.aload_n 0) 1 11 := by decide +kernel
theorem dX2_offer_11 : Dn cX2_offer 11 (.getfield 51) 3 14 := by decide +kernel
theorem dX2_offer_14 : Dn cX2_offer 14 (.iload 5) 2 16 := by decide +kernel
theorem dX2_offer_16 : Dn cX2_offer 16 (.aload_n 0) 1 17 := by decide +kernel
theorem dX2_offer_17 : Dn cX2_offer 17 (.getfield 51) 3 20 := by decide +kernel
theorem dX2_offer_20 : Dn cX2_offer 20 (.iload 5) 2 22 := by decide +kernel
theorem dX2_offer_22 : Dn cX2_offer 22 (.laload) 1 23 := by decide +kernel
theorem dX2_offer_23 : Dn cX2_offer 23 (.aload_n 0) 1 24 := by decide +kernel
theorem dX2_offer_24 : Dn cX2_offer 24 (.getfield 51) 3 27 := by decide +kernel
theorem dX2_offer_27 : Dn cX2_offer 27 (.iload 5) 2 29 := by decide +kernel
theorem dX2_offer_29 : Dn cX2_offer 29 (.iload_n 1) 1 30 := by decide +kernel
theorem dX2_offer_30 : Dn cX2_offer 30 (.isub) 1 31 := by decide +kernel
theorem dX2_offer_31 : Dn cX2_offer 31 (.laload) 1 32 := by decide +kernel
theorem dX2_offer_32 : Dn cX2_offer 32 (.lload_n 2) 1 33 := by decide +kernel
theorem dX2_offer_33 : Dn cX2_offer 33 (.ladd) 1 34 := by decide +kernel
theorem dX2_offer_34 : Dn cX2_offer 34 (.invokestatic 118) 3 37 := by decide +kernel
theorem dX2_offer_37 : Dn cX2_offer 37 (.lastore) 1 38 := by decide +kernel
theorem dX2_offer_38 : Dn cX2_offer 38 (.iinc 5 (-1)) 3 41 := by decide +kernel
theorem dX2_offer_41 : Db cX2_offer 41 (.goto (-37)) (-37) 44 4 := by decide +kernel
theorem dX2_offer_44 : Dn cX2_offer 44 (.return_) 1 45 := by decide +kernel
theorem dX3_init_0 : Dn cX3_init 0 (.aload_n 0) 1 1 := by decide +kernel
theorem dX3_init_1 : Dn cX3_init 1 (.invokespecial 5) 3 4 := by decide +kernel
theorem dX3_init_4 : Dn cX3_init 4 (.aload_n 0) 1 5 := by decide +kernel
theorem dX3_init_5 : Dn cX3_init 5 (.iconst 0) 1 6 := by decide +kernel
theorem dX3_init_6 : Dn cX3_init 6 (.putfield 11) 3 9 := by decide +kernel
theorem dX3_init_9 : Dn cX3_init 9 (.aload_n 0) 1 10 := by decide +kernel
theorem dX3_init_10 : Dn cX3_init 10 (.iconst 0) 1 11 := by decide +kernel
theorem dX3_init_11 : Dn cX3_init 11 (.putfield 15) 3 14 := by decide +kernel
theorem dX3_init_14 : Dn cX3_init 14 (.aload_n 0) 1 15 := by decide +kernel
theorem dX3_init_15 : Dn cX3_init 15 (.iconst 0) 1 16 := by decide +kernel
theorem dX3_init_16 : Dn cX3_init 16 (.putfield 18) 3 19 := by decide +kernel
theorem dX3_init_19 : Dn cX3_init 19 (.aload_n 0) 1 20 := by decide +kernel
theorem dX3_init_20 : Dn cX3_init 20 (.iconst 0) 1 21 := by decide +kernel
theorem dX3_init_21 : Dn cX3_init 21 (.putfield 21) 3 24 := by decide +kernel
theorem dX3_init_24 : Dn cX3_init 24 (.aload_n 0) 1 25 := by decide +kernel
theorem dX3_init_25 : Dn cX3_init 25 (.iconst 0) 1 26 := by decide +kernel
theorem dX3_init_26 : Dn cX3_init 26 (.putfield 24) 3 29 := by decide +kernel
theorem dX3_init_29 : Dn cX3_init 29 (.aload_n 0) 1 30 := by decide +kernel
theorem dX3_init_30 : Dn cX3_init 30 (.bipush 12) 2 32 := by decide +kernel
theorem dX3_init_32 : Dn cX3_init 32 (.newarray .int) 2 34 := by decide +kernel
theorem dX3_init_34 : Dn cX3_init 34 (.putfield 27) 3 37 := by decide +kernel
theorem dX3_init_37 : Dn cX3_init 37 (.aload_n 0) 1 38 := by decide +kernel
theorem dX3_init_38 : Dn cX3_init 38 (.bipush 12) 2 40 := by decide +kernel
theorem dX3_init_40 : Dn cX3_init 40 (.newarray .int) 2 42 := by decide +kernel
theorem dX3_init_42 : Dn cX3_init 42 (.putfield 31) 3 45 := by decide +kernel
theorem dX3_init_45 : Dn cX3_init 45 (.aload_n 0) 1 46 := by decide +kernel
theorem dX3_init_46 : Dn cX3_init 46 (.bipush 13) 2 48 := by decide +kernel
theorem dX3_init_48 : Dn cX3_init 48 (.bipush 25) 2 50 := by decide +kernel
theorem dX3_init_50 : Dn cX3_init 50 (.multianewarray 34 2) 4 54 := by decide +kernel
theorem dX3_init_54 : Dn cX3_init 54 (.putfield 36) 3 57 := by decide +kernel
theorem dX3_init_57 : Dn cX3_init 57 (.aload_n 0) 1 58 := by decide +kernel
theorem dX3_init_58 : Dn cX3_init 58 (.bipush 13) 2 60 := by decide +kernel
theorem dX3_init_60 : Dn cX3_init 60 (.newarray .long) 2 62 := by decide +kernel
theorem dX3_init_62 : Dn cX3_init 62 (.putfield 39) 3 65 := by decide +kernel
theorem dX3_init_65 : Dn cX3_init 65 (.aload_n 0) 1 66 := by decide +kernel
theorem dX3_init_66 : Dn cX3_init 66 (.bipush 25) 2 68 := by decide +kernel
theorem dX3_init_68 : Dn cX3_init 68 (.newarray .long) 2 70 := by decide +kernel
theorem dX3_init_70 : Dn cX3_init 70 (.putfield 43) 3 73 := by decide +kernel
theorem dX3_init_73 : Dn cX3_init 73 (.aload_n 0) 1 74 := by decide +kernel
theorem dX3_init_74 : Dn cX3_init 74 (.bipush 25) 2 76 := by decide +kernel
theorem dX3_init_76 : Dn cX3_init 76 (.newarray .long) 2 78 := by decide +kernel
theorem dX3_init_78 : Dn cX3_init 78 (.putfield 46) 3 81 := by decide +kernel
theorem dX3_init_81 : Dn cX3_init 81 (.aload_n 0) 1 82 := by decide +kernel
theorem dX3_init_82 : Dn cX3_init 82 (.bipush 25) 2 84 := by decide +kernel
theorem dX3_init_84 : Dn cX3_init 84 (.newarray .int) 2 86 := by decide +kernel
theorem dX3_init_86 : Dn cX3_init 86 (.putfield 49) 3 89 := by decide +kernel
theorem dX3_init_89 : Dn cX3_init 89 (.aload_n 0) 1 90 := by decide +kernel
theorem dX3_init_90 : Dn cX3_init 90 (.bipush 25) 2 92 := by decide +kernel
theorem dX3_init_92 : Dn cX3_init 92 (.newarray .int) 2 94 := by decide +kernel
theorem dX3_init_94 : Dn cX3_init 94 (.putfield 52) 3 97 := by decide +kernel
theorem dX3_init_97 : Dn cX3_init 97 (.aload_n 0) 1 98 := by decide +kernel
theorem dX3_init_98 : Dn cX3_init 98 (.bipush 25) 2 100 := by decide +kernel
theorem dX3_init_100 : Dn cX3_init 100 (.newarray .boolean) 2 102 := by decide +kernel
theorem dX3_init_102 : Dn cX3_init 102 (.putfield 55) 3 105 := by decide +kernel
theorem dX3_init_105 : Dn cX3_init 105 (.return_) 1 106 := by decide +kernel
theorem dX3_pairUp_0 : Dn cX3_pairUp 0 (.aload_n 0) 1 1 := by decide +kernel
theorem dX3_pairUp_1 : Dn cX3_pairUp 1 (.aload_n 1) 1 2 := by decide +kernel
theorem dX3_pairUp_2 : Dn cX3_pairUp 2 (.iload_n 2) 1 3 := by decide +kernel
theorem dX3_pairUp_3 : Dn cX3_pairUp 3 (.aload_n 0) 1 4 := by decide +kernel
theorem dX3_pairUp_4 : Dn cX3_pairUp 4 (.getfield 27) 3 7 := by decide +kernel
theorem dX3_pairUp_7 : Dn cX3_pairUp 7 (.invokestatic 59) 3 10 := by decide +kernel
theorem dX3_pairUp_10 : Dn cX3_pairUp 10 (.putfield 18) 3 13 := by decide +kernel
theorem dX3_pairUp_13 : Dn cX3_pairUp 13 (.aload_n 0) 1 14 := by decide +kernel
theorem dX3_pairUp_14 : Dn cX3_pairUp 14 (.aload_n 1) 1 15 := by decide +kernel
theorem dX3_pairUp_15 : Dn cX3_pairUp 15 (.iload_n 3) 1 16 := by decide +kernel
theorem dX3_pairUp_16 : Dn cX3_pairUp 16 (.aload_n 0) 1 17 := by decide +kernel
theorem dX3_pairUp_17 : Dn cX3_pairUp 17 (.getfield 31) 3 20 := by decide +kernel
theorem dX3_pairUp_20 : Dn cX3_pairUp 20 (.invokestatic 59) 3 23 := by decide +kernel
theorem dX3_pairUp_23 : Dn cX3_pairUp 23 (.putfield 21) 3 26 := by decide +kernel
theorem dX3_pairUp_26 : Dn cX3_pairUp 26 (.aload_n 0) 1 27 := by decide +kernel
theorem dX3_pairUp_27 : Dn cX3_pairUp 27 (.aload_n 0) 1 28 := by decide +kernel
theorem dX3_pairUp_28 : Dn cX3_pairUp 28 (.getfield 21) 3 31 := by decide +kernel
theorem dX3_pairUp_31 : Dn cX3_pairUp 31 (.aload_n 0) 1 32 := by decide +kernel
theorem dX3_pairUp_32 : Dn cX3_pairUp 32 (.getfield 18) 3 35 := by decide +kernel
theorem dX3_pairUp_35 : Dn cX3_pairUp 35 (.iadd) 1 36 := by decide +kernel
theorem dX3_pairUp_36 : Dn cX3_pairUp 36 (.putfield 24) 3 39 := by decide +kernel
theorem dX3_pairUp_39 : Dn cX3_pairUp 39 (.aload_n 0) 1 40 := by decide +kernel
theorem dX3_pairUp_40 : Dn cX3_pairUp 40 (.aload_n 1) 1 41 := by decide +kernel
theorem dX3_pairUp_41 : Dn cX3_pairUp 41 (.iload 4) 2 43 := by decide +kernel
theorem dX3_pairUp_43 : Dn cX3_pairUp 43 (.iload 5) 2 45 := by decide +kernel
theorem dX3_pairUp_45 : Dn cX3_pairUp 45 (.iload 6) 2 47 := by decide +kernel
theorem dX3_pairUp_47 : Dn cX3_pairUp 47 (.invokevirtual 63) 3 50 := by decide +kernel
theorem dX3_pairUp_50 : Dn cX3_pairUp 50 (.aload_n 0) 1 51 := by decide +kernel
theorem dX3_pairUp_51 : Dn cX3_pairUp 51 (.invokevirtual 67) 3 54 := by decide +kernel
theorem dX3_pairUp_54 : Dn cX3_pairUp 54 (.iconst 1) 1 55 := by decide +kernel
theorem dX3_pairUp_55 : Dn cX3_pairUp 55 (.istore 7) 2 57 := by decide +kernel
theorem dX3_pairUp_57 : Dn cX3_pairUp 57 (.iload 7) 2 59 := by decide +kernel
theorem dX3_pairUp_59 : Dn cX3_pairUp 59 (.aload_n 0) 1 60 := by decide +kernel
theorem dX3_pairUp_60 : Dn cX3_pairUp 60 (.getfield 18) 3 63 := by decide +kernel
theorem dX3_pairUp_63 : Db cX3_pairUp 63 (.if_icmp .gt 15) (15) 66 78 := by decide +kernel
theorem dX3_pairUp_66 : Dn cX3_pairUp 66 (.aload_n 0) 1 67 := by decide +kernel
theorem dX3_pairUp_67 : Dn cX3_pairUp 67 (.iload 7) 2 69 := by decide +kernel
theorem dX3_pairUp_69 : Dn cX3_pairUp 69 (.invokevirtual 70) 3 72 := by decide +kernel
theorem dX3_pairUp_72 : Dn cX3_pairUp 72 (.iinc 7 1) 3 75 := by decide +kernel
theorem dX3_pairUp_75 : Db cX3_pairUp 75 (.goto (-18)) (-18) 78 57 := by decide +kernel
theorem dX3_pairUp_78 : Dn cX3_pairUp 78 (.aload_n 0) 1 79 := by decide +kernel
theorem dX3_pairUp_79 : Dn cX3_pairUp 79 (.aload_n 1) 1 80 := by decide +kernel
theorem dX3_pairUp_80 : Dn cX3_pairUp 80 (.invokevirtual 74) 3 83 := by decide +kernel
theorem dX3_pairUp_83 : Dn cX3_pairUp 83 (.return_) 1 84 := by decide +kernel
theorem dX3_partnerOf_0 : Dn cX3_partnerOf 0 (.iconst 1) 1 1 := by decide +kernel
theorem dX3_partnerOf_1 : Dn cX3_partnerOf 1 (.istore_n 2) 1 2 := by decide +kernel
theorem dX3_partnerOf_2 : Dn cX3_partnerOf 2 (.iload_n 2) 1 3 := by decide +kernel
theorem dX3_partnerOf_3 : Dn cX3_partnerOf 3 (.aload_n 0) 1 4 := by decide +kernel
theorem dX3_partnerOf_4 : Dn cX3_partnerOf 4 (.getfield 21) 3 7 := by decide +kernel
theorem dX3_partnerOf_7 : Db cX3_partnerOf 7 (.if_icmp .gt 41) (41) 10 48 := by decide +kernel
theorem dX3_partnerOf_10 : Dn cX3_partnerOf 10 (.aload_n 0) 1 11 := by decide +kernel
theorem dX3_partnerOf_11 : Dn cX3_partnerOf 11 (.getfield 49) 3 14 := by decide +kernel
theorem dX3_partnerOf_14 : Dn cX3_partnerOf 14 (.iload_n 2) 1 15 := by decide +kernel
theorem dX3_partnerOf_15 : Dn cX3_partnerOf 15 (.iaload) 1 16 := by decide +kernel
theorem dX3_partnerOf_16 : Dn cX3_partnerOf 16 (.istore_n 3) 1 17 := by decide +kernel
theorem dX3_partnerOf_17 : Dn cX3_partnerOf 17 (.iload_n 3) 1 18 := by decide +kernel
theorem dX3_partnerOf_18 : Db cX3_partnerOf 18 (.ifCond .le 24) (24) 21 42 := by decide +kernel
theorem dX3_partnerOf_21 : Dn cX3_partnerOf 21 (.aload_n 0) 1 22 := by decide +kernel
theorem dX3_partnerOf_22 : Dn cX3_partnerOf 22 (.getfield 27) 3 25 := by decide +kernel
theorem dX3_partnerOf_25 : Dn cX3_partnerOf 25 (.iload_n 3) 1 26 := by decide +kernel
theorem dX3_partnerOf_26 : Dn cX3_partnerOf 26 (.iconst 1) 1 27 := by decide +kernel
theorem dX3_partnerOf_27 : Dn cX3_partnerOf 27 (.isub) 1 28 := by decide +kernel
theorem dX3_partnerOf_28 : Dn cX3_partnerOf 28 (.iaload) 1 29 := by decide +kernel
theorem dX3_partnerOf_29 : Dn cX3_partnerOf 29 (.iload_n 1) 1 30 := by decide +kernel
theorem dX3_partnerOf_30 : Db cX3_partnerOf 30 (.if_icmp .ne 12) (12) 33 42 := by decide +kernel
theorem dX3_partnerOf_33 : Dn cX3_partnerOf 33 (.aload_n 0) 1 34 := by decide +kernel
theorem dX3_partnerOf_34 : Dn cX3_partnerOf 34 (.getfield 31) 3 37 := by decide +kernel
theorem dX3_partnerOf_37 : Dn cX3_partnerOf 37 (.iload_n 2) 1 38 := by decide +kernel
theorem dX3_partnerOf_38 : Dn cX3_partnerOf 38 (.iconst 1) 1 39 := by decide +kernel
theorem dX3_partnerOf_39 : Dn cX3_partnerOf 39 (.isub) 1 40 := by decide +kernel
theorem dX3_partnerOf_40 : Dn cX3_partnerOf 40 (.iaload) 1 41 := by decide +kernel
theorem dX3_partnerOf_41 : Dn cX3_partnerOf 41 (.ireturn) 1 42 := by decide +kernel
theorem dX3_partnerOf_42 : Dn cX3_partnerOf 42 (.iinc 2 1) 3 45 := by decide +kernel
theorem dX3_partnerOf_45 : Db cX3_partnerOf 45 (.goto (-43)) (-43) 48 2 := by decide +kernel
theorem dX3_partnerOf_48 : Dn cX3_partnerOf 48 (.bipush (-6)) 2 50 := by decide +kernel
theorem dX3_partnerOf_50 : Dn cX3_partnerOf 50 (.ireturn) 1 51 := by decide +kernel
theorem dX3_gather_0 : Dn cX3_gather 0 (.iconst 0) 1 1 := by decide +kernel
theorem dX3_gather_1 : Dn cX3_gather 1 (.istore_n 3) 1 2 := by decide +kernel
theorem dX3_gather_2 : Dn cX3_gather 2 (.iconst 0) 1 3 := by decide +kernel
theorem dX3_gather_3 : Dn cX3_gather 3 (.istore 4) 2 5 := by decide +kernel
theorem dX3_gather_5 : Dn cX3_gather 5 (.iload 4) 2 7 := by decide +kernel
theorem dX3_gather_7 : Dn cX3_gather 7 (.aload_n 0) 1 8 := by decide +kernel
theorem dX3_gather_8 : Dn cX3_gather 8 (.getfield 78) 3 11 := by decide +kernel
theorem dX3_gather_11 : Db cX3_gather 11 (.if_icmp .ge 34) (34) 14 45 := by decide +kernel
theorem dX3_gather_14 : Dn cX3_gather 14 (.iload_n 3) 1 15 := by decide +kernel
theorem dX3_gather_15 : Dn cX3_gather 15 (.bipush 12) 2 17 := by decide +kernel
theorem dX3_gather_17 : Db cX3_gather 17 (.if_icmp .ge 28) (28) 20 45 := by decide +kernel
theorem dX3_gather_20 : Dn cX3_gather 20 (.aload_n 0) 1 21 := by decide +kernel
theorem dX3_gather_21 : Dn cX3_gather 21 (.getfield 83) 3 24 := by decide +kernel
theorem dX3_gather_24 : Dn cX3_gather 24 (.iload 4) 2 26 := by decide +kernel
theorem dX3_gather_26 : Dn cX3_gather 26 (.iaload) 1 27 := by decide +kernel
theorem dX3_gather_27 : Dn cX3_gather 27 (.iload_n 1) 1 28 := by decide +kernel
theorem dX3_gather_28 : Db cX3_gather 28 (.if_icmp .ne 11) (11) 31 39 := by decide +kernel
theorem dX3_gather_31 : Dn cX3_gather 31 (.aload_n 2) 1 32 := by decide +kernel
theorem dX3_gather_32 : Dn cX3_gather 32 (.iload_n 3) 1 33 := by decide +kernel
theorem dX3_gather_33 : Dn cX3_gather 33 (.iload 4) 2 35 := by decide +kernel
theorem dX3_gather_35 : Dn cX3_gather 35 (.iastore) 1 36 := by decide +kernel
theorem dX3_gather_36 : Dn cX3_gather 36 (.iinc 3 1) 3 39 := by decide +kernel
theorem dX3_gather_39 : Dn cX3_gather 39 (.iinc 4 1) 3 42 := by decide +kernel
theorem dX3_gather_42 : Db cX3_gather 42 (.goto (-37)) (-37) 45 5 := by decide +kernel
theorem dX3_gather_45 : Dn cX3_gather 45 (.iload_n 3) 1 46 := by decide +kernel
theorem dX3_gather_46 : Dn cX3_gather 46 (.ireturn) 1 47 := by decide +kernel
theorem dX3_fillCosts_0 : Dn cX3_fillCosts 0 (.ldc2_w 86) 3 3 := by decide +kernel
theorem dX3_fillCosts_3 : Dn cX3_fillCosts 3 (.lstore 5) 2 5 := by decide +kernel
theorem dX3_fillCosts_5 : Dn cX3_fillCosts 5 (.iconst 1) 1 6 := by decide +kernel
theorem dX3_fillCosts_6 : Dn cX3_fillCosts 6 (.istore 7) 2 8 := by decide +kernel
theorem dX3_fillCosts_8 : Dn cX3_fillCosts 8 (.iload 7) 2 10 := by decide +kernel
theorem dX3_fillCosts_10 : Dn cX3_fillCosts 10 (.aload_n 0) 1 11 := by decide +kernel
theorem dX3_fillCosts_11 : Dn cX3_fillCosts 11 (.getfield 18) 3 14 := by decide +kernel
theorem dX3_fillCosts_14 : Db cX3_fillCosts 14 (.if_icmp .gt 139) (139) 17 153 := by decide +kernel
theorem dX3_fillCosts_17 : Dn cX3_fillCosts 17 (.lload 5) 2 19 := by decide +kernel
theorem dX3_fillCosts_19 : Dn cX3_fillCosts 19 (.ldc2_w 88) 3 22 := by decide +kernel
theorem dX3_fillCosts_22 : Dn cX3_fillCosts 22 (.ldiv) 1 23 := by decide +kernel
theorem dX3_fillCosts_23 : Dn cX3_fillCosts 23 (.lstore 5) 2 25 := by decide +kernel
theorem dX3_fillCosts_25 : Dn cX3_fillCosts 25 (.aload_n 0) 1 26 := by decide +kernel
theorem dX3_fillCosts_26 : Dn cX3_fillCosts 26 (.getfield 27) 3 29 := by decide +kernel
theorem dX3_fillCosts_29 : Dn cX3_fillCosts 29 (.iload 7) 2 31 := by decide +kernel
theorem dX3_fillCosts_31 : Dn cX3_fillCosts 31 (.iconst 1) 1 32 := by decide +kernel
theorem dX3_fillCosts_32 : Dn cX3_fillCosts 32 (.isub) 1 33 := by decide +kernel
theorem dX3_fillCosts_33 : Dn cX3_fillCosts 33 (.iaload) 1 34 := by decide +kernel
theorem dX3_fillCosts_34 : Dn cX3_fillCosts 34 (.istore 8) 2 36 := by decide +kernel
theorem dX3_fillCosts_36 : Dn cX3_fillCosts 36 (.iconst 1) 1 37 := by decide +kernel
theorem dX3_fillCosts_37 : Dn cX3_fillCosts 37 (.istore 9) 2 39 := by decide +kernel
theorem dX3_fillCosts_39 : Dn cX3_fillCosts 39 (.iload 9) 2 41 := by decide +kernel
theorem dX3_fillCosts_41 : Dn cX3_fillCosts 41 (.aload_n 0) 1 42 := by decide +kernel
theorem dX3_fillCosts_42 : Dn cX3_fillCosts 42 (.getfield 24) 3 45 := by decide +kernel
theorem dX3_fillCosts_45 : Db cX3_fillCosts 45 (.if_icmp .gt 102) (102) 48 147 := by decide +kernel
theorem dX3_fillCosts_48 : Dn cX3_fillCosts 48 (.ldc2_w 90) 3 51 := by decide +kernel
theorem dX3_fillCosts_51 : Dn cX3_fillCosts 51 (.ldc2_w 92) 3 54 := by decide +kernel
theorem dX3_fillCosts_54 : Dn cX3_fillCosts 54 (.lload 5) 2 56 := by decide +kernel
theorem dX3_fillCosts_56 : Dn cX3_fillCosts 56 (.lmul) 1 57 := by decide +kernel
theorem dX3_fillCosts_57 : Dn cX3_fillCosts 57 (.ladd) 1 58 := by decide +kernel
theorem dX3_fillCosts_58 : Dn cX3_fillCosts 58 (.lstore 10) 2 60 := by decide +kernel
theorem dX3_fillCosts_60 : Dn cX3_fillCosts 60 (.iload 9) 2 62 := by decide +kernel
theorem dX3_fillCosts_62 : Dn cX3_fillCosts 62 (.aload_n 0) 1 63 := by decide +kernel
theorem dX3_fillCosts_63 : Dn cX3_fillCosts 63 (.getfield 21) 3 66 := by decide +kernel
theorem dX3_fillCosts_66 : Db cX3_fillCosts 66 (.if_icmp .gt 63) (63) 69 129 := by decide +kernel
theorem dX3_fillCosts_69 : Dn cX3_fillCosts 69 (.aload_n 0) 1 70 := by decide +kernel
theorem dX3_fillCosts_70 : Dn cX3_fillCosts 70 (.getfield 31) 3 73 := by decide +kernel
theorem dX3_fillCosts_73 : Dn cX3_fillCosts 73 (.iload 9) 2 75 := by decide +kernel
theorem dX3_fillCosts_75 : Dn cX3_fillCosts 75 (.iconst 1) 1 76 := by decide +kernel
theorem dX3_fillCosts_76 : Dn cX3_fillCosts 76 (.isub) 1 77 := by decide +kernel
theorem dX3_fillCosts_77 : Dn cX3_fillCosts 77 (.iaload) 1 78 := by decide +kernel
theorem dX3_fillCosts_78 : Dn cX3_fillCosts 78 (.istore 12) 2 80 := by decide +kernel
theorem dX3_fillCosts_80 : Dn cX3_fillCosts 80 (.aload_n 1) 1 81 := by decide +kernel
theorem dX3_fillCosts_81 : Dn cX3_fillCosts 81 (.iload 8) 2 83 := by decide +kernel
theorem dX3_fillCosts_83 : Dn cX3_fillCosts 83 (.iload 12) 2 85 := by decide +kernel
theorem dX3_fillCosts_85 : Dn cX3_fillCosts 85 (.iload_n 2) 1 86 := by decide +kernel
theorem dX3_fillCosts_86 : Dn cX3_fillCosts 86 (.iload_n 3) 1 87 := by decide +kernel
theorem dX3_fillCosts_87 : Dn cX3_fillCosts 87 (.iload 4) 2 89 := by decide +kernel
theorem dX3_fillCosts_89 : Dn cX3_fillCosts 89 (.invokestatic 94) 3 92 := by decide +kernel
theorem dX3_fillCosts_92 : Dn cX3_fillCosts 92 (.istore 13) 2 94 := by decide +kernel
theorem dX3_fillCosts_94 : Dn cX3_fillCosts 94 (.iload 13) 2 96 := by decide +kernel
theorem dX3_fillCosts_96 : Db cX3_fillCosts 96 (.ifCond .eq 28) (28) 99 124 := by decide +kernel
theorem dX3_fillCosts_99 : Dn cX3_fillCosts 99 (.aload_n 1) 1 100 := by decide +kernel
theorem dX3_fillCosts_100 : Dn cX3_fillCosts 100 (.iload 8) 2 102 := by decide +kernel
theorem dX3_fillCosts_102 : Dn cX3_fillCosts 102 (.iload 12) 2 104 := by decide +kernel
theorem dX3_fillCosts_104 : Dn cX3_fillCosts 104 (.invokestatic 98) 3 107 := by decide +kernel
theorem dX3_fillCosts_107 : Dn cX3_fillCosts 107 (.i2l) 1 108 := by decide +kernel
theorem dX3_fillCosts_108 : Dn cX3_fillCosts 108 (.ldc2_w 86) 3 111 := by decide +kernel
theorem dX3_fillCosts_111 : Dn cX3_fillCosts 111 (.lmul) 1 112 := by decide +kernel
theorem dX3_fillCosts_112 : Dn cX3_fillCosts 112 (.iload 9) 2 114 := by decide +kernel
theorem dX3_fillCosts_114 : Dn cX3_fillCosts 114 (.iconst 1) 1 115 := by decide +kernel
theorem dX3_fillCosts_115 : Dn cX3_fillCosts 115 (.isub) 1 116 := by decide +kernel
theorem dX3_fillCosts_116 : Dn cX3_fillCosts 116 (.i2l) 1 117 := by decide +kernel
theorem dX3_fillCosts_117 : Dn cX3_fillCosts 117 (.lload 5) 2 119 := by decide +kernel
theorem dX3_fillCosts_119 : Dn cX3_fillCosts 119 (.lmul) 1 120 := by decide +kernel
theorem dX3_fillCosts_120 : Dn cX3_fillCosts 120 (.ladd) 1 121 := by decide +kernel
theorem dX3_fillCosts_121 : Db cX3_fillCosts 121 (.goto 6) (6) 124 127 := by decide +kernel
theorem dX3_fillCosts_124 : Dn cX3_fillCosts 124 (.ldc2_w 102) 3 127 := by decide +kernel
theorem dX3_fillCosts_127 : Dn cX3_fillCosts 127 (.lstore 10) 2 129 := by decide +kernel
theorem dX3_fillCosts_129 : Dn cX3_fillCosts 129 (.aload_n 0) 1 130 := by decide +kernel
theorem dX3_fillCosts_130 : Dn cX3_fillCosts 130 (.getfield 36) 3 133 := by decide +kernel
theorem dX3_fillCosts_133 : Dn cX3_fillCosts 133 (.iload 7) 2 135 := by decide +kernel
theorem dX3_fillCosts_135 : Dn cX3_fillCosts 135 (.aaload) 1 136 := by decide +kernel
theorem dX3_fillCosts_136 : Dn cX3_fillCosts 136 (.iload 9) 2 138 := by decide +kernel
theorem dX3_fillCosts_138 : Dn cX3_fillCosts 138 (.lload 10) 2 140 := by decide +kernel
theorem dX3_fillCosts_140 : Dn cX3_fillCosts 140 (.lastore) 1 141 := by decide +kernel
theorem dX3_fillCosts_141 : Dn cX3_fillCosts 141 (.iinc 9 1) 3 144 := by decide +kernel
theorem dX3_fillCosts_144 : Db cX3_fillCosts 144 (.goto (-105)) (-105) 147 39 := by decide +kernel
theorem dX3_fillCosts_147 : Dn cX3_fillCosts 147 (.iinc 7 1) 3 150 := by decide +kernel
theorem dX3_fillCosts_150 : Db cX3_fillCosts 150 (.goto (-142)) (-142) 153 8 := by decide +kernel
theorem dX3_fillCosts_153 : Dn cX3_fillCosts 153 (.return_) 1 154 := by decide +kernel
theorem dX3_maySame_0 : Dn cX3_maySame 0 (.aload_n 0) 1 1 := by decide +kernel
theorem dX3_maySame_1 : Dn cX3_maySame 1 (.iload_n 1) 1 2 := by decide +kernel
theorem dX3_maySame_2 : Dn cX3_maySame 2 (.iload_n 2) 1 3 := by decide +kernel
theorem dX3_maySame_3 : Dn cX3_maySame 3 (.invokestatic 104) 3 6 := by decide +kernel
theorem dX3_maySame_6 : Dn cX3_maySame 6 (.iload_n 3) 1 7 := by decide +kernel
theorem dX3_maySame_7 : Db cX3_maySame 7 (.if_icmp .gt 29) (29) 10 36 := by decide +kernel
theorem dX3_maySame_10 : Dn cX3_maySame 10 (.aload_n 0) 1 11 := by decide +kernel
theorem dX3_maySame_11 : Dn cX3_maySame 11 (.iload_n 1) 1 12 := by decide +kernel
theorem dX3_maySame_12 : Dn cX3_maySame 12 (.iload_n 2) 1 13 := by decide +kernel
theorem dX3_maySame_13 : Dn cX3_maySame 13 (.invokestatic 107) 3 16 := by decide +kernel
theorem dX3_maySame_16 : Dn cX3_maySame 16 (.iload 4) 2 18 := by decide +kernel
theorem dX3_maySame_18 : Db cX3_maySame 18 (.if_icmp .gt 18) (18) 21 36 := by decide +kernel
theorem dX3_maySame_21 : Dn cX3_maySame 21 (.aload_n 0) 1 22 := by decide +kernel
theorem dX3_maySame_22 : Dn cX3_maySame 22 (.iload_n 1) 1 23 := by decide +kernel
theorem dX3_maySame_23 : Dn cX3_maySame 23 (.iload_n 2) 1 24 := by decide +kernel
theorem dX3_maySame_24 : Dn cX3_maySame 24 (.invokestatic 110) 3 27 := by decide +kernel
theorem dX3_maySame_27 : Dn cX3_maySame 27 (.iload 5) 2 29 := by decide +kernel
theorem dX3_maySame_29 : Db cX3_maySame 29 (.if_icmp .gt 7) (7) 32 36 := by decide +kernel
theorem dX3_maySame_32 : Dn cX3_maySame 32 (.iconst 1) 1 33 := by decide +kernel
theorem dX3_maySame_33 : Db cX3_maySame 33 (.goto 4) (4) 36 37 := by decide +kernel
theorem dX3_maySame_36 : Dn cX3_maySame 36 (.iconst 0) 1 37 := by decide +kernel
theorem dX3_maySame_37 : Dn cX3_maySame 37 (.ireturn) 1 38 := by decide +kernel
theorem dX3_missOf_0 : Dn cX3_missOf 0 (.aload_n 0) 1 1 := by decide +kernel
theorem dX3_missOf_1 : Dn cX3_missOf 1 (.iload_n 1) 1 2 := by decide +kernel
theorem dX3_missOf_2 : Dn cX3_missOf 2 (.iload_n 2) 1 3 := by decide +kernel
theorem dX3_missOf_3 : Dn cX3_missOf 3 (.invokestatic 104) 3 6 := by decide +kernel
theorem dX3_missOf_6 : Dn cX3_missOf 6 (.aload_n 0) 1 7 := by decide +kernel
theorem dX3_missOf_7 : Dn cX3_missOf 7 (.iload_n 1) 1 8 := by decide +kernel
theorem dX3_missOf_8 : Dn cX3_missOf 8 (.iload_n 2) 1 9 := by decide +kernel
theorem dX3_missOf_9 : Dn cX3_missOf 9 (.invokestatic 107) 3 12 := by decide +kernel
theorem dX3_missOf_12 : Dn cX3_missOf 12 (.iadd) 1 13 := by decide +kernel
theorem dX3_missOf_13 : Dn cX3_missOf 13 (.aload_n 0) 1 14 := by decide +kernel
theorem dX3_missOf_14 : Dn cX3_missOf 14 (.iload_n 1) 1 15 := by decide +kernel
theorem dX3_missOf_15 : Dn cX3_missOf 15 (.iload_n 2) 1 16 := by decide +kernel
theorem dX3_missOf_16 : Dn cX3_missOf 16 (.invokestatic 110) 3 19 := by decide +kernel
theorem dX3_missOf_19 : Dn cX3_missOf 19 (.iadd) 1 20 := by decide +kernel
theorem dX3_missOf_20 : Dn cX3_missOf 20 (.ireturn) 1 21 := by decide +kernel
theorem dX3_daysApart_0 : Dn cX3_daysApart 0 (.aload_n 0) 1 1 := by decide +kernel
theorem dX3_daysApart_1 : Dn cX3_daysApart 1 (.getfield 113) 3 4 := by decide +kernel
theorem dX3_daysApart_4 : Dn cX3_daysApart 4 (.iload_n 1) 1 5 := by decide +kernel
theorem dX3_daysApart_5 : Dn cX3_daysApart 5 (.iaload) 1 6 := by decide +kernel
theorem dX3_daysApart_6 : Dn cX3_daysApart 6 (.aload_n 0) 1 7 := by decide +kernel
theorem dX3_daysApart_7 : Dn cX3_daysApart 7 (.getfield 113) 3 10 := by decide +kernel
theorem dX3_daysApart_10 : Dn cX3_daysApart 10 (.iload_n 2) 1 11 := by decide +kernel
theorem dX3_daysApart_11 : Dn cX3_daysApart 11 (.iaload) 1 12 := by decide +kernel
theorem dX3_daysApart_12 : Dn cX3_daysApart 12 (.isub) 1 13 := by decide +kernel
theorem dX3_daysApart_13 : Dn cX3_daysApart 13 (.invokestatic 116) 3 16 := by decide +kernel
theorem dX3_daysApart_16 : Dn cX3_daysApart 16 (.ireturn) 1 17 := by decide +kernel
theorem dX3_cellsApart_0 : Dn cX3_cellsApart 0 (.aload_n 0) 1 1 := by decide +kernel
theorem dX3_cellsApart_1 : Dn cX3_cellsApart 1 (.getfield 122) 3 4 := by decide +kernel
theorem dX3_cellsApart_4 : Dn cX3_cellsApart 4 (.iload_n 1) 1 5 := by decide +kernel
theorem dX3_cellsApart_5 : Dn cX3_cellsApart 5 (.iaload) 1 6 := by decide +kernel
theorem dX3_cellsApart_6 : Dn cX3_cellsApart 6 (.aload_n 0) 1 7 := by decide +kernel
theorem dX3_cellsApart_7 : Dn cX3_cellsApart 7 (.getfield 125) 3 10 := by decide +kernel
theorem dX3_cellsApart_10 : Dn cX3_cellsApart 10 (.iload_n 1) 1 11 := by decide +kernel
theorem dX3_cellsApart_11 : Dn cX3_cellsApart 11 (.iaload) 1 12 := by decide +kernel
theorem dX3_cellsApart_12 : Dn cX3_cellsApart 12 (.aload_n 0) 1 13 := by decide +kernel
theorem dX3_cellsApart_13 : Dn cX3_cellsApart 13 (.getfield 122) 3 16 := by decide +kernel
theorem dX3_cellsApart_16 : Dn cX3_cellsApart 16 (.iload_n 2) 1 17 := by decide +kernel
theorem dX3_cellsApart_17 : Dn cX3_cellsApart 17 (.iaload) 1 18 := by decide +kernel
theorem dX3_cellsApart_18 : Dn cX3_cellsApart 18 (.aload_n 0) 1 19 := by decide +kernel
theorem dX3_cellsApart_19 : Dn cX3_cellsApart 19 (.getfield 125) 3 22 := by decide +kernel
theorem dX3_cellsApart_22 : Dn cX3_cellsApart 22 (.iload_n 2) 1 23 := by decide +kernel
theorem dX3_cellsApart_23 : Dn cX3_cellsApart 23 (.iaload) 1 24 := by decide +kernel
theorem dX3_cellsApart_24 : Dn cX3_cellsApart 24 (.invokestatic 128) 3 27 := by decide +kernel
theorem dX3_cellsApart_27 : Dn cX3_cellsApart 27 (.ireturn) 1 28 := by decide +kernel
theorem dX3_tenthsApart_0 : Dn cX3_tenthsApart 0 (.aload_n 0) 1 1 := by decide +kernel
theorem dX3_tenthsApart_1 : Dn cX3_tenthsApart 1 (.getfield 132) 3 4 := by decide +kernel
theorem dX3_tenthsApart_4 : Dn cX3_tenthsApart 4 (.iload_n 1) 1 5 := by decide +kernel
theorem dX3_tenthsApart_5 : Dn cX3_tenthsApart 5 (.iaload) 1 6 := by decide +kernel
theorem dX3_tenthsApart_6 : Dn cX3_tenthsApart 6 (.aload_n 0) 1 7 := by decide +kernel
theorem dX3_tenthsApart_7 : Dn cX3_tenthsApart 7 (.getfield 132) 3 10 := by decide +kernel
theorem dX3_tenthsApart_10 : Dn cX3_tenthsApart 10 (.iload_n 2) 1 11 := by decide +kernel
theorem dX3_tenthsApart_11 : Dn cX3_tenthsApart 11 (.iaload) 1 12 := by decide +kernel
theorem dX3_tenthsApart_12 : Dn cX3_tenthsApart 12 (.isub) 1 13 := by decide +kernel
theorem dX3_tenthsApart_13 : Dn cX3_tenthsApart 13 (.invokestatic 116) 3 16 := by decide +kernel
theorem dX3_tenthsApart_16 : Dn cX3_tenthsApart 16 (.ireturn) 1 17 := by decide +kernel
theorem dX3_clearPrices_0 : Dn cX3_clearPrices 0 (.iconst 0) 1 1 := by decide +kernel
theorem dX3_clearPrices_1 : Dn cX3_clearPrices 1 (.istore_n 1) 1 2 := by decide +kernel
theorem dX3_clearPrices_2 : Dn cX3_clearPrices 2 (.iload_n 1) 1 3 := by decide +kernel
theorem dX3_clearPrices_3 : Dn cX3_clearPrices 3 (.aload_n 0) 1 4 := by decide +kernel
theorem dX3_clearPrices_4 : Dn cX3_clearPrices 4 (.getfield 18) 3 7 := by decide +kernel
theorem dX3_clearPrices_7 : Db cX3_clearPrices 7 (.if_icmp .gt 16) (16) 10 23 := by decide +kernel
theorem dX3_clearPrices_10 : Dn cX3_clearPrices 10 (.aload_n 0) 1 11 := by decide +kernel
theorem dX3_clearPrices_11 : Dn cX3_clearPrices 11 (.getfield 39) 3 14 := by decide +kernel
theorem dX3_clearPrices_14 : Dn cX3_clearPrices 14 (.iload_n 1) 1 15 := by decide +kernel
theorem dX3_clearPrices_15 : Dn cX3_clearPrices 15 (.lconst 0) 1 16 := by decide +kernel
theorem dX3_clearPrices_16 : Dn cX3_clearPrices 16 (.lastore) 1 17 := by decide +kernel
theorem dX3_clearPrices_17 : Dn cX3_clearPrices 17 (.iinc 1 1) 3 20 := by decide +kernel
theorem dX3_clearPrices_20 : Db cX3_clearPrices 20 (.goto (-18)) (-18) 23 2 := by decide +kernel
theorem dX3_clearPrices_23 : Dn cX3_clearPrices 23 (.iconst 0) 1 24 := by decide +kernel
theorem dX3_clearPrices_24 : Dn cX3_clearPrices 24 (.istore_n 1) 1 25 := by decide +kernel
theorem dX3_clearPrices_25 : Dn cX3_clearPrices 25 (.iload_n 1) 1 26 := by decide +kernel
theorem dX3_clearPrices_26 : Dn cX3_clearPrices 26 (.aload_n 0) 1 27 := by decide +kernel
theorem dX3_clearPrices_27 : Dn cX3_clearPrices 27 (.getfield 24) 3 30 := by decide +kernel
theorem dX3_clearPrices_30 : Db cX3_clearPrices 30 (.if_icmp .gt 23) (23) 33 53 := by decide +kernel
theorem dX3_clearPrices_33 : Dn cX3_clearPrices 33 (.aload_n 0) 1 34 := by decide +kernel
theorem dX3_clearPrices_34 : Dn cX3_clearPrices 34 (.getfield 43) 3 37 := by decide +kernel
theorem dX3_clearPrices_37 : Dn cX3_clearPrices 37 (.iload_n 1) 1 38 := by decide +kernel
theorem dX3_clearPrices_38 : Dn cX3_clearPrices 38 (.lconst 0) 1 39 := by decide +kernel
theorem dX3_clearPrices_39 : Dn cX3_clearPrices 39 (.lastore) 1 40 := by decide +kernel
theorem dX3_clearPrices_40 : Dn cX3_clearPrices 40 (.aload_n 0) 1 41 := by decide +kernel
theorem dX3_clearPrices_41 : Dn cX3_clearPrices 41 (.getfield 49) 3 44 := by decide +kernel
theorem dX3_clearPrices_44 : Dn cX3_clearPrices 44 (.iload_n 1) 1 45 := by decide +kernel
theorem dX3_clearPrices_45 : Dn cX3_clearPrices 45 (.iconst 0) 1 46 := by decide +kernel
theorem dX3_clearPrices_46 : Dn cX3_clearPrices 46 (.iastore) 1 47 := by decide +kernel
theorem dX3_clearPrices_47 : Dn cX3_clearPrices 47 (.iinc 1 1) 3 50 := by decide +kernel
theorem dX3_clearPrices_50 : Db cX3_clearPrices 50 (.goto (-25)) (-25) 53 25 := by decide +kernel
theorem dX3_clearPrices_53 : Dn cX3_clearPrices 53 (.return_) 1 54 := by decide +kernel
theorem dX3_placeRow_0 : Dn cX3_placeRow 0 (.aload_n 0) 1 1 := by decide +kernel
theorem dX3_placeRow_1 : Dn cX3_placeRow 1 (.getfield 49) 3 4 := by decide +kernel
theorem dX3_placeRow_4 : Dn cX3_placeRow 4 (.iconst 0) 1 5 := by decide +kernel
theorem dX3_placeRow_5 : Dn cX3_placeRow 5 (.iload_n 1) 1 6 := by decide +kernel
theorem dX3_placeRow_6 : Dn cX3_placeRow 6 (.iastore) 1 7 := by decide +kernel
theorem dX3_placeRow_7 : Dn cX3_placeRow 7 (.iconst 0) 1 8 := by decide +kernel
theorem dX3_placeRow_8 : Dn cX3_placeRow 8 (.istore_n 2) 1 9 := by decide +kernel
theorem dX3_placeRow_9 : Dn cX3_placeRow 9 (.iload_n 2) 1 10 := by decide +kernel
theorem dX3_placeRow_10 : Dn cX3_placeRow 10 (.aload_n 0) 1 11 := by decide +kernel
theorem dX3_placeRow_11 : Dn cX3_placeRow 11 (.getfield 24) 3 14 := by decide +kernel
theorem dX3_placeRow_14 : Db cX3_placeRow 14 (.if_icmp .gt 32) (32) 17 46 := by decide +kernel
theorem dX3_placeRow_17 : Dn cX3_placeRow 17 (.aload_n 0) 1 18 := by decide +kernel
theorem dX3_placeRow_18 : Dn cX3_placeRow 18 (.getfield 46) 3 21 := by decide +kernel
theorem dX3_placeRow_21 : Dn cX3_placeRow 21 (.iload_n 2) 1 22 := by decide +kernel
theorem dX3_placeRow_22 : Dn cX3_placeRow 22 (.ldc2_w 135) 3 25 := by decide +kernel
theorem dX3_placeRow_25 : Dn cX3_placeRow 25 (.lastore) 1 26 := by decide +kernel
theorem dX3_placeRow_26 : Dn cX3_placeRow 26 (.aload_n 0) 1 27 := by decide +kernel
theorem dX3_placeRow_27 : Dn cX3_placeRow 27 (.getfield 55) 3 30 := by decide +kernel
theorem dX3_placeRow_30 : Dn cX3_placeRow 30 (.iload_n 2) 1 31 := by decide +kernel
theorem dX3_placeRow_31 : Dn cX3_placeRow 31 (.iconst 0) 1 32 := by decide +kernel
theorem dX3_placeRow_32 : Dn cX3_placeRow 32 (.bastore) 1 33 := by decide +kernel
theorem dX3_placeRow_33 : Dn cX3_placeRow 33 (.aload_n 0) 1 34 := by decide +kernel
theorem dX3_placeRow_34 : Dn cX3_placeRow 34 (.getfield 52) 3 37 := by decide +kernel
theorem dX3_placeRow_37 : Dn cX3_placeRow 37 (.iload_n 2) 1 38 := by decide +kernel
theorem dX3_placeRow_38 : Dn cX3_placeRow 38 (.iconst 0) 1 39 := by decide +kernel
theorem dX3_placeRow_39 : Dn cX3_placeRow 39 (.iastore) 1 40 := by decide +kernel
theorem dX3_placeRow_40 : Dn cX3_placeRow 40 (.iinc 2 1) 3 43 := by decide +kernel
theorem dX3_placeRow_43 : Db cX3_placeRow 43 (.goto (-34)) (-34) 46 9 := by decide +kernel
theorem dX3_placeRow_46 : Dn cX3_placeRow 46 (.iconst 0) 1 47 := by decide +kernel
theorem dX3_placeRow_47 : Dn cX3_placeRow 47 (.istore_n 2) 1 48 := by decide +kernel
theorem dX3_placeRow_48 : Dn cX3_placeRow 48 (.iconst 0) 1 49 := by decide +kernel
theorem dX3_placeRow_49 : Dn cX3_placeRow 49 (.istore_n 3) 1 50 := by decide +kernel
theorem dX3_placeRow_50 : Dn cX3_placeRow 50 (.iload_n 3) 1 51 := by decide +kernel
theorem dX3_placeRow_51 : Dn cX3_placeRow 51 (.aload_n 0) 1 52 := by decide +kernel
theorem dX3_placeRow_52 : Dn cX3_placeRow 52 (.getfield 24) 3 55 := by decide +kernel
theorem dX3_placeRow_55 : Db cX3_placeRow 55 (.if_icmp .gt 50) (50) 58 105 := by decide +kernel
theorem dX3_placeRow_58 : Dn cX3_placeRow 58 (.aload_n 0) 1 59 := by decide +kernel
theorem dX3_placeRow_59 : Dn cX3_placeRow 59 (.getfield 49) 3 62 := by decide +kernel
theorem dX3_placeRow_62 : Dn cX3_placeRow 62 (.iload_n 2) 1 63 := by decide +kernel
theorem dX3_placeRow_63 : Dn cX3_placeRow 63 (.iaload) 1 64 := by decide +kernel
theorem dX3_placeRow_64 : Db cX3_placeRow 64 (.ifCond .eq 41) (41) 67 105 := by decide +kernel
theorem dX3_placeRow_67 : Dn cX3_placeRow 67 (.aload_n 0) 1 68 := by decide +kernel
theorem dX3_placeRow_68 : Dn cX3_placeRow 68 (.getfield 55) 3 71 := by decide +kernel
theorem dX3_placeRow_71 : Dn cX3_placeRow 71 (.iload_n 2) 1 72 := by decide +kernel
theorem dX3_placeRow_72 : Dn cX3_placeRow 72 (.iconst 1) 1 73 := by decide +kernel
theorem dX3_placeRow_73 : Dn cX3_placeRow 73 (.bastore) 1 74 := by decide +kernel
theorem dX3_placeRow_74 : Dn cX3_placeRow 74 (.aload_n 0) 1 75 := by decide +kernel
theorem dX3_placeRow_75 : Dn cX3_placeRow 75 (.iload_n 2) 1 76 := by decide +kernel
theorem dX3_placeRow_76 : Dn cX3_placeRow 76 (.invokevirtual 137) 3 79 := by decide +kernel
theorem dX3_placeRow_79 : Dn cX3_placeRow 79 (.aload_n 0) 1 80 := by decide +kernel
theorem dX3_placeRow_80 : Dn cX3_placeRow 80 (.invokevirtual 140) 3 83 := by decide +kernel
theorem dX3_placeRow_83 : Dn cX3_placeRow 83 (.istore 4) 2 85 := by decide +kernel
theorem dX3_placeRow_85 : Dn cX3_placeRow 85 (.aload_n 0) 1 86 := by decide +kernel
theorem dX3_placeRow_86 : Dn cX3_placeRow 86 (.aload_n 0) 1 87 := by decide +kernel
theorem dX3_placeRow_87 : Dn cX3_placeRow 87 (.getfield 46) 3 90 := by decide +kernel
theorem dX3_placeRow_90 : Dn cX3_placeRow 90 (.iload 4) 2 92 := by decide +kernel
theorem dX3_placeRow_92 : Dn cX3_placeRow 92 (.laload) 1 93 := by decide +kernel
theorem dX3_placeRow_93 : Dn cX3_placeRow 93 (.invokevirtual 144) 3 96 := by decide +kernel
theorem dX3_placeRow_96 : Dn cX3_placeRow 96 (.iload 4) 2 98 := by decide +kernel
theorem dX3_placeRow_98 : Dn cX3_placeRow 98 (.istore_n 2) 1 99 := by decide +kernel
theorem dX3_placeRow_99 : Dn cX3_placeRow 99 (.iinc 3 1) 3 102 := by decide +kernel
theorem dX3_placeRow_102 : Db cX3_placeRow 102 (.goto (-52)) (-52) 105 50 := by decide +kernel
theorem dX3_placeRow_105 : Dn cX3_placeRow 105 (.iconst 0) 1 106 := by decide +kernel
theorem dX3_placeRow_106 : Dn cX3_placeRow 106 (.istore_n 3) 1 107 := by decide +kernel
theorem dX3_placeRow_107 : Dn cX3_placeRow 107 (.iload_n 3) 1 108 := by decide +kernel
theorem dX3_placeRow_108 : Dn cX3_placeRow 108 (.aload_n 0) 1 109 := by decide +kernel
theorem dX3_placeRow_109 : Dn cX3_placeRow 109 (.getfield 24) 3 112 := by decide +kernel
theorem dX3_placeRow_112 : Db cX3_placeRow 112 (.if_icmp .gt 37) (37) 115 149 := by decide +kernel
theorem dX3_placeRow_115 : Dn cX3_placeRow 115 (.iload_n 2) 1 116 := by decide +kernel
theorem dX3_placeRow_116 : Db cX3_placeRow 116 (.ifCond .eq 33) (33) 119 149 := by decide +kernel
theorem dX3_placeRow_119 : Dn cX3_placeRow 119 (.aload_n 0) 1 120 := by decide +kernel
theorem dX3_placeRow_120 : Dn cX3_placeRow 120 (.getfield 49) 3 123 := by decide +kernel
theorem dX3_placeRow_123 : Dn cX3_placeRow 123 (.iload_n 2) 1 124 := by decide +kernel
theorem dX3_placeRow_124 : Dn cX3_placeRow 124 (.aload_n 0) 1 125 := by decide +kernel
theorem dX3_placeRow_125 : Dn cX3_placeRow 125 (.getfield 49) 3 128 := by decide +kernel
theorem dX3_placeRow_128 : Dn cX3_placeRow 128 (.aload_n 0) 1 129 := by decide +kernel
theorem dX3_placeRow_129 : Dn cX3_placeRow 129 (.getfield 52) 3 132 := by decide +kernel
theorem dX3_placeRow_132 : Dn cX3_placeRow 132 (.iload_n 2) 1 133 := by decide +kernel
theorem dX3_placeRow_133 : Dn cX3_placeRow 133 (.iaload) 1 134 := by decide +kernel
theorem dX3_placeRow_134 : Dn cX3_placeRow 134 (.iaload) 1 135 := by decide +kernel
theorem dX3_placeRow_135 : Dn cX3_placeRow 135 (.iastore) 1 136 := by decide +kernel
theorem dX3_placeRow_136 : Dn cX3_placeRow 136 (.aload_n 0) 1 137 := by decide +kernel
theorem dX3_placeRow_137 : Dn cX3_placeRow 137 (.getfield 52) 3 140 := by decide +kernel
theorem dX3_placeRow_140 : Dn cX3_placeRow 140 (.iload_n 2) 1 141 := by decide +kernel
theorem dX3_placeRow_141 : Dn cX3_placeRow 141 (.iaload) 1 142 := by decide +kernel
theorem dX3_placeRow_142 : Dn cX3_placeRow 142 (.istore_n 2) 1 143 := by decide +kernel
theorem dX3_placeRow_143 : Dn cX3_placeRow 143 (.iinc 3 1) 3 146 := by decide +kernel
theorem dX3_placeRow_146 : Db cX3_placeRow 146 (.goto (-39)) (-39) 149 107 := by decide +kernel
theorem dX3_placeRow_149 : Dn cX3_placeRow 149 (.return_) 1 150 := by decide +kernel
theorem dX3_loosen_0 : Dn cX3_loosen 0 (.aload_n 0) 1 1 := by decide +kernel
theorem dX3_loosen_1 : Dn cX3_loosen 1 (.getfield 49) 3 4 := by decide +kernel
theorem dX3_loosen_4 : Dn cX3_loosen 4 (.iload_n 1) 1 5 := by decide +kernel
theorem dX3_loosen_5 : Dn cX3_loosen 5 (.iaload) 1 6 := by decide +kernel
theorem dX3_loosen_6 : Dn cX3_loosen 6 (.istore_n 2) 1 7 := by decide +kernel
theorem dX3_loosen_7 : Dn cX3_loosen 7 (.iconst 1) 1 8 := by decide +kernel
theorem dX3_loosen_8 : Dn cX3_loosen 8 (.istore_n 3) 1 9 := by decide +kernel
theorem dX3_loosen_9 : Dn cX3_loosen 9 (.iload_n 3) 1 10 := by decide +kernel
theorem dX3_loosen_10 : Dn cX3_loosen 10 (.aload_n 0) 1 11 := by decide +kernel
theorem dX3_loosen_11 : Dn cX3_loosen 11 (.getfield 24) 3 14 := by decide +kernel
theorem dX3_loosen_14 : Db cX3_loosen 14 (.if_icmp .gt 69) (69) 17 83 := by decide +kernel
theorem dX3_loosen_17 : Dn cX3_loosen 17 (.aload_n 0) 1 18 := by decide +kernel
theorem dX3_loosen_18 : Dn cX3_loosen 18 (.getfield 36) 3 21 := by decide +kernel
theorem dX3_loosen_21 : Dn cX3_loosen 21 (.iload_n 2) 1 22 := by decide +kernel
theorem dX3_loosen_22 : Dn cX3_loosen 22 (.aaload) 1 23 := by decide +kernel
theorem dX3_loosen_23 : Dn cX3_loosen 23 (.iload_n 3) 1 24 := by decide +kernel
theorem dX3_loosen_24 : Dn cX3_loosen 24 (.laload) 1 25 := by decide +kernel
theorem dX3_loosen_25 : Dn cX3_loosen 25 (.aload_n 0) 1 26 := by decide +kernel
theorem dX3_loosen_26 : Dn cX3_loosen 26 (.getfield 39) 3 29 := by decide +kernel
theorem dX3_loosen_29 : Dn cX3_loosen 29 (.iload_n 2) 1 30 := by decide +kernel
theorem dX3_loosen_30 : Dn cX3_loosen 30 (.laload) 1 31 := by decide +kernel
theorem dX3_loosen_31 : Dn cX3_loosen 31 (.lsub) 1 32 := by decide +kernel
theorem dX3_loosen_32 : Dn cX3_loosen 32 (.aload_n 0) 1 33 := by decide +kernel
theorem dX3_loosen_33 : Dn cX3_loosen 33 (.getfield 43) 3 36 := by decide +kernel
theorem dX3_loosen_36 : Dn cX3_loosen 36 (.iload_n 3) 1 37 := by decide +kernel
theorem dX3_loosen_37 : Dn cX3_loosen 37 (.laload) 1 38 := by decide +kernel
theorem dX3_loosen_38 : Dn cX3_loosen 38 (.lsub) 1 39 := by decide +kernel
theorem dX3_loosen_39 : Dn cX3_loosen 39 (.lstore 4) 2 41 := by decide +kernel
theorem dX3_loosen_41 : Dn cX3_loosen 41 (.aload_n 0) 1 42 := by decide +kernel
theorem dX3_loosen_42 : Dn cX3_loosen 42 (.getfield 55) 3 45 := by decide +kernel
theorem dX3_loosen_45 : Dn cX3_loosen 45 (.iload_n 3) 1 46 := by decide +kernel
theorem dX3_loosen_46 : Dn cX3_loosen 46 (.baload) 1 47 := by decide +kernel
theorem dX3_loosen_47 : Db cX3_loosen 47 (.ifCond .ne 30) (30) 50 77 := by decide +kernel
theorem dX3_loosen_50 : Dn cX3_loosen 50 (.lload 4) 2 52 := by decide +kernel
theorem dX3_loosen_52 : Dn cX3_loosen 52 (.aload_n 0) 1 53 := by decide +kernel
theorem dX3_loosen_53 : Dn cX3_loosen 53 (.getfield 46) 3 56 := by decide +kernel
theorem dX3_loosen_56 : Dn cX3_loosen 56 (.iload_n 3) 1 57 := by decide +kernel
theorem dX3_loosen_57 : Dn cX3_loosen 57 (.laload) 1 58 := by decide +kernel
theorem dX3_loosen_58 : Dn cX3_loosen 58 (.lcmp) 1 59 := by decide +kernel
theorem dX3_loosen_59 : Db cX3_loosen 59 (.ifCond .ge 18) (18) 62 77 := by decide +kernel
theorem dX3_loosen_62 : Dn cX3_loosen 62 (.aload_n 0) 1 63 := by decide +kernel
theorem dX3_loosen_63 : Dn cX3_loosen 63 (.getfield 46) 3 66 := by decide +kernel
theorem dX3_loosen_66 : Dn cX3_loosen 66 (.iload_n 3) 1 67 := by decide +kernel
theorem dX3_loosen_67 : Dn cX3_loosen 67 (.lload 4) 2 69 := by decide +kernel
theorem dX3_loosen_69 : Dn cX3_loosen 69 (.lastore) 1 70 := by decide +kernel
theorem dX3_loosen_70 : Dn cX3_loosen 70 (.aload_n 0) 1 71 := by decide +kernel
theorem dX3_loosen_71 : Dn cX3_loosen 71 (.getfield 52) 3 74 := by decide +kernel
theorem dX3_loosen_74 : Dn cX3_loosen 74 (.iload_n 3) 1 75 := by decide +kernel
theorem dX3_loosen_75 : Dn cX3_loosen 75 (.iload_n 1) 1 76 := by decide +kernel
theorem dX3_loosen_76 : Dn cX3_loosen 76 (.iastore) 1 77 := by decide +kernel
theorem dX3_loosen_77 : Dn cX3_loosen 77 (.iinc 3 1) 3 80 := by decide +kernel
theorem dX3_loosen_80 : Db cX3_loosen 80 (.goto (-71)) (-71) 83 9 := by decide +kernel
theorem dX3_loosen_83 : Dn cX3_loosen 83 (.return_) 1 84 := by decide +kernel
theorem dX3_nearest_0 : Dn cX3_nearest 0 (.iconst 0) 1 1 := by decide +kernel
theorem dX3_nearest_1 : Dn cX3_nearest 1 (.istore_n 1) 1 2 := by decide +kernel
theorem dX3_nearest_2 : Dn cX3_nearest 2 (.iconst 1) 1 3 := by decide +kernel
theorem dX3_nearest_3 : Dn cX3_nearest 3 (.istore_n 2) 1 4 := by decide +kernel
theorem dX3_nearest_4 : Dn cX3_nearest 4 (.iload_n 2) 1 5 := by decide +kernel
theorem dX3_nearest_5 : Dn cX3_nearest 5 (.aload_n 0) 1 6 := by decide +kernel
theorem dX3_nearest_6 : Dn cX3_nearest 6 (.getfield 24) 3 9 := by decide +kernel
theorem dX3_nearest_9 : Db cX3_nearest 9 (.if_icmp .gt 40) (40) 12 49 := by decide +kernel
theorem dX3_nearest_12 : Dn cX3_nearest 12 (.aload_n 0) 1 13 := by decide +kernel
theorem dX3_nearest_13 : Dn cX3_nearest 13 (.getfield 55) 3 16 := by decide +kernel
theorem dX3_nearest_16 : Dn cX3_nearest 16 (.iload_n 2) 1 17 := by decide +kernel
theorem dX3_nearest_17 : Dn cX3_nearest 17 (.baload) 1 18 := by decide +kernel
theorem dX3_nearest_18 : Db cX3_nearest 18 (.ifCond .ne 25) (25) 21 43 := by decide +kernel
theorem dX3_nearest_21 : Dn cX3_nearest 21 (.iload_n 1) 1 22 := by decide +kernel
theorem dX3_nearest_22 : Db cX3_nearest 22 (.ifCond .eq 19) (19) 25 41 := by decide +kernel
theorem dX3_nearest_25 : Dn cX3_nearest 25 (.aload_n 0) 1 26 := by decide +kernel
theorem dX3_nearest_26 : Dn cX3_nearest 26 (.getfield 46) 3 29 := by decide +kernel
theorem dX3_nearest_29 : Dn cX3_nearest 29 (.iload_n 2) 1 30 := by decide +kernel
theorem dX3_nearest_30 : Dn cX3_nearest 30 (.laload) 1 31 := by decide +kernel
theorem dX3_nearest_31 : Dn cX3_nearest 31 (.aload_n 0) 1 32 := by decide +kernel
theorem dX3_nearest_32 : Dn cX3_nearest 32 (.getfield 46) 3 35 := by decide +kernel
theorem dX3_nearest_35 : Dn cX3_nearest 35 (.iload_n 1) 1 36 := by decide +kernel
theorem dX3_nearest_36 : Dn cX3_nearest 36 (.laload) 1 37 := by decide +kernel
theorem dX3_nearest_37 : Dn cX3_nearest 37 (.lcmp) 1 38 := by decide +kernel
theorem dX3_nearest_38 : Db cX3_nearest 38 (.ifCond .ge 5) (5) 41 43 := by decide +kernel
theorem dX3_nearest_41 : Dn cX3_nearest 41 (.iload_n 2) 1 42 := by decide +kernel
theorem dX3_nearest_42 : Dn cX3_nearest 42 (.istore_n 1) 1 43 := by decide +kernel
theorem dX3_nearest_43 : Dn cX3_nearest 43 (.iinc 2 1) 3 46 := by decide +kernel
theorem dX3_nearest_46 : Db cX3_nearest 46 (.goto (-42)) (-42) 49 4 := by decide +kernel
theorem dX3_nearest_49 : Dn cX3_nearest 49 (.iload_n 1) 1 50 := by decide +kernel
theorem dX3_nearest_50 : Dn cX3_nearest 50 (.ireturn) 1 51 := by decide +kernel
theorem dX3_reprice_0 : Dn cX3_reprice 0 (.iconst 0) 1 1 := by decide +kernel
theorem dX3_reprice_1 : Dn cX3_reprice 1 (.istore_n 3) 1 2 := by decide +kernel
theorem dX3_reprice_2 : Dn cX3_reprice 2 (.iload_n 3) 1 3 := by decide +kernel
theorem dX3_reprice_3 : Dn cX3_reprice 3 (.aload_n 0) 1 4 := by decide +kernel
theorem dX3_reprice_4 : Dn cX3_reprice 4 (.getfield 24) 3 7 := by decide +kernel
theorem dX3_reprice_7 : Db cX3_reprice 7 (.if_icmp .gt 56) (56) 10 63 := by decide +kernel
theorem dX3_reprice_10 : Dn cX3_reprice 10 (.aload_n 0) 1 11 := by decide +kernel
theorem dX3_reprice_11 : Dn cX3_reprice 11 (.getfield 55) 3 14 := by decide +kernel
theorem dX3_reprice_14 : Dn cX3_reprice 14 (.iload_n 3) 1 15 := by decide +kernel
theorem dX3_reprice_15 : Dn cX3_reprice 15 (.baload) 1 16 := by decide +kernel
theorem dX3_reprice_16 : Db cX3_reprice 16 (.ifCond .eq 31) (31) 19 47 := by decide +kernel
theorem dX3_reprice_19 : Dn cX3_reprice 19 (.aload_n 0) 1 20 := by decide +kernel
theorem dX3_reprice_20 : Dn cX3_reprice 20 (.getfield 39) 3 23 := by decide +kernel
theorem dX3_reprice_23 : Dn cX3_reprice 23 (.aload_n 0) 1 24 := by decide +kernel
theorem dX3_reprice_24 : Dn cX3_reprice 24 (.getfield 49) 3 27 := by decide +kernel
theorem dX3_reprice_27 : Dn cX3_reprice 27 (.iload_n 3) 1 28 := by decide +kernel
theorem dX3_reprice_28 : Dn cX3_reprice 28 (.iaload) 1 29 := by decide +kernel
theorem dX3_reprice_29 : Dn cX3_reprice 29 (.dup2) 1 30 := by decide +kernel
theorem dX3_reprice_30 : Dn cX3_reprice 30 (.laload) 1 31 := by decide +kernel
theorem dX3_reprice_31 : Dn cX3_reprice 31 (.lload_n 1) 1 32 := by decide +kernel
theorem dX3_reprice_32 : Dn cX3_reprice 32 (.ladd) 1 33 := by decide +kernel
theorem dX3_reprice_33 : Dn cX3_reprice 33 (.lastore) 1 34 := by decide +kernel
theorem dX3_reprice_34 : Dn cX3_reprice 34 (.aload_n 0) 1 35 := by decide +kernel
theorem dX3_reprice_35 : Dn cX3_reprice 35 (.getfield 43) 3 38 := by decide +kernel
theorem dX3_reprice_38 : Dn cX3_reprice 38 (.iload_n 3) 1 39 := by decide +kernel
theorem dX3_reprice_39 : Dn cX3_reprice 39 (.dup2) 1 40 := by decide +kernel
theorem dX3_reprice_40 : Dn cX3_reprice 40 (.laload) 1 41 := by decide +kernel
theorem dX3_reprice_41 : Dn cX3_reprice 41 (.lload_n 1) 1 42 := by decide +kernel
theorem dX3_reprice_42 : Dn cX3_reprice 42 (.lsub) 1 43 := by decide +kernel
theorem dX3_reprice_43 : Dn cX3_reprice 43 (.lastore) 1 44 := by decide +kernel
theorem dX3_reprice_44 : Db cX3_reprice 44 (.goto 13) (13) 47 57 := by decide +kernel
theorem dX3_reprice_47 : Dn cX3_reprice 47 (.aload_n 0) 1 48 := by decide +kernel
theorem dX3_reprice_48 : Dn cX3_reprice 48 (.getfield 46) 3 51 := by decide +kernel
theorem dX3_reprice_51 : Dn cX3_reprice 51 (.iload_n 3) 1 52 := by decide +kernel
theorem dX3_reprice_52 : Dn cX3_reprice 52 (.dup2) 1 53 := by decide +kernel
theorem dX3_reprice_53 : Dn cX3_reprice 53 (.laload) 1 54 := by decide +kernel
theorem dX3_reprice_54 : Dn cX3_reprice 54 (.lload_n 1) 1 55 := by decide +kernel
theorem dX3_reprice_55 : Dn cX3_reprice 55 (.lsub) 1 56 := by decide +kernel
theorem dX3_reprice_56 : Dn cX3_reprice 56 (.lastore) 1 57 := by decide +kernel
theorem dX3_reprice_57 : Dn cX3_reprice 57 (.iinc 3 1) 3 60 := by decide +kernel
theorem dX3_reprice_60 : Db cX3_reprice 60 (.goto (-58)) (-58) 63 2 := by decide +kernel
theorem dX3_reprice_63 : Dn cX3_reprice 63 (.return_) 1 64 := by decide +kernel
theorem dX3_sumUp_0 : Dn cX3_sumUp 0 (.aload_n 0) 1 1 := by decide +kernel
theorem dX3_sumUp_1 : Dn cX3_sumUp 1 (.iconst 0) 1 2 := by decide +kernel
theorem dX3_sumUp_2 : Dn cX3_sumUp 2 (.putfield 11) 3 5 := by decide +kernel
theorem dX3_sumUp_5 : Dn cX3_sumUp 5 (.aload_n 0) 1 6 := by decide +kernel
theorem dX3_sumUp_6 : Dn cX3_sumUp 6 (.iconst 0) 1 7 := by decide +kernel
theorem dX3_sumUp_7 : Dn cX3_sumUp 7 (.putfield 15) 3 10 := by decide +kernel
theorem dX3_sumUp_10 : Dn cX3_sumUp 10 (.iconst 1) 1 11 := by decide +kernel
theorem dX3_sumUp_11 : Dn cX3_sumUp 11 (.istore_n 2) 1 12 := by decide +kernel
theorem dX3_sumUp_12 : Dn cX3_sumUp 12 (.iload_n 2) 1 13 := by decide +kernel
theorem dX3_sumUp_13 : Dn cX3_sumUp 13 (.aload_n 0) 1 14 := by decide +kernel
theorem dX3_sumUp_14 : Dn cX3_sumUp 14 (.getfield 21) 3 17 := by decide +kernel
theorem dX3_sumUp_17 : Db cX3_sumUp 17 (.if_icmp .gt 59) (59) 20 76 := by decide +kernel
theorem dX3_sumUp_20 : Dn cX3_sumUp 20 (.aload_n 0) 1 21 := by decide +kernel
theorem dX3_sumUp_21 : Dn cX3_sumUp 21 (.getfield 49) 3 24 := by decide +kernel
theorem dX3_sumUp_24 : Dn cX3_sumUp 24 (.iload_n 2) 1 25 := by decide +kernel
theorem dX3_sumUp_25 : Dn cX3_sumUp 25 (.iaload) 1 26 := by decide +kernel
theorem dX3_sumUp_26 : Dn cX3_sumUp 26 (.istore_n 3) 1 27 := by decide +kernel
theorem dX3_sumUp_27 : Dn cX3_sumUp 27 (.iload_n 3) 1 28 := by decide +kernel
theorem dX3_sumUp_28 : Db cX3_sumUp 28 (.ifCond .le 42) (42) 31 70 := by decide +kernel
theorem dX3_sumUp_31 : Dn cX3_sumUp 31 (.aload_n 0) 1 32 := by decide +kernel
theorem dX3_sumUp_32 : Dn cX3_sumUp 32 (.dup) 1 33 := by decide +kernel
theorem dX3_sumUp_33 : Dn cX3_sumUp 33 (.getfield 11) 3 36 := by decide +kernel
theorem dX3_sumUp_36 : Dn cX3_sumUp 36 (.iconst 1) 1 37 := by decide +kernel
theorem dX3_sumUp_37 : Dn cX3_sumUp 37 (.iadd) 1 38 := by decide +kernel
theorem dX3_sumUp_38 : Dn cX3_sumUp 38 (.putfield 11) 3 41 := by decide +kernel
theorem dX3_sumUp_41 : Dn cX3_sumUp 41 (.aload_n 0) 1 42 := by decide +kernel
theorem dX3_sumUp_42 : Dn cX3_sumUp 42 (.dup) 1 43 := by decide +kernel
theorem dX3_sumUp_43 : Dn cX3_sumUp 43 (.getfield 15) 3 46 := by decide +kernel
theorem dX3_sumUp_46 : Dn cX3_sumUp 46 (.aload_n 1) 1 47 := by decide +kernel
theorem dX3_sumUp_47 : Dn cX3_sumUp 47 (.aload_n 0) 1 48 := by decide +kernel
theorem dX3_sumUp_48 : Dn cX3_sumUp 48 (.getfield 27) 3 51 := by decide +kernel
theorem dX3_sumUp_51 : Dn cX3_sumUp 51 (.iload_n 3) 1 52 := by decide +kernel
theorem dX3_sumUp_52 : Dn cX3_sumUp 52 (.iconst 1) 1 53 := by decide +kernel
theorem dX3_sumUp_53 : Dn cX3_sumUp 53 (.isub) 1 54 := by decide +kernel
theorem dX3_sumUp_54 : Dn cX3_sumUp 54 (.iaload) 1 55 := by decide +kernel
theorem dX3_sumUp_55 : Dn cX3_sumUp 55 (.aload_n 0) 1 56 := by decide +kernel
theorem dX3_sumUp_56 : Dn cX3_sumUp 56 (.getfield 31) 3 59 := by decide +kernel
theorem dX3_sumUp_59 : Dn cX3_sumUp 59 (.iload_n 2) 1 60 := by decide +kernel
theorem dX3_sumUp_60 : Dn cX3_sumUp 60 (.iconst 1) 1 61 := by decide +kernel
theorem dX3_sumUp_61 : Dn cX3_sumUp 61 (.isub) 1 62 := by decide +kernel
theorem dX3_sumUp_62 : Dn cX3_sumUp 62 (.iaload) 1 63 := by decide +kernel
theorem dX3_sumUp_63 : Dn cX3_sumUp 63 (.invokestatic 98) 3 66 := by decide +kernel
theorem dX3_sumUp_66 : Dn cX3_sumUp 66 (.iadd) 1 67 := by decide +kernel
theorem dX3_sumUp_67 : Dn cX3_sumUp 67 (.putfield 15) 3 70 := by decide +kernel
theorem dX3_sumUp_70 : Dn cX3_sumUp 70 (.iinc 2 1) 3 73 := by decide +kernel
theorem dX3_sumUp_73 : Db cX3_sumUp 73 (.goto (-61)) (-61) 76 12 := by decide +kernel
theorem dX3_sumUp_76 : Dn cX3_sumUp 76 (.return_) 1 77 := by decide +kernel
theorem dX4_init_0 : Dn cX4_init 0 (.aload_n 0) 1 1 := by decide +kernel
theorem dX4_init_1 : Dn cX4_init 1 (.invokespecial 3) 3 4 := by decide +kernel
theorem dX4_init_4 : Dn cX4_init 4 (.aload_n 0) 1 5 := by decide +kernel
theorem dX4_init_5 : Dn cX4_init 5 (.bipush 10) 2 7 := by decide +kernel
theorem dX4_init_7 : Dn cX4_init 7 (.newarray .int) 2 9 := by decide +kernel
theorem dX4_init_9 : Dn cX4_init 9 (.putfield 9) 3 12 := by decide +kernel
theorem dX4_init_12 : Dn cX4_init 12 (.aload_n 0) 1 13 := by decide +kernel
theorem dX4_init_13 : Dn cX4_init 13 (.bipush 8) 2 15 := by decide +kernel
theorem dX4_init_15 : Dn cX4_init 15 (.newarray .int) 2 17 := by decide +kernel
theorem dX4_init_17 : Dn cX4_init 17 (.putfield 15) 3 20 := by decide +kernel
theorem dX4_init_20 : Dn cX4_init 20 (.aload_n 0) 1 21 := by decide +kernel
theorem dX4_init_21 : Dn cX4_init 21 (.bipush 8) 2 23 := by decide +kernel
theorem dX4_init_23 : Dn cX4_init 23 (.newarray .int) 2 25 := by decide +kernel
theorem dX4_init_25 : Dn cX4_init 25 (.putfield 18) 3 28 := by decide +kernel
theorem dX4_init_28 : Dn cX4_init 28 (.aload_n 0) 1 29 := by decide +kernel
theorem dX4_init_29 : Dn cX4_init 29 (.bipush 40) 2 31 := by decide +kernel
theorem dX4_init_31 : Dn cX4_init 31 (.newarray .int) 2 33 := by decide +kernel
theorem dX4_init_33 : Dn cX4_init 33 (.putfield 23) 3 36 := by decide +kernel
theorem dX4_init_36 : Dn cX4_init 36 (.aload_n 0) 1 37 := by decide +kernel
theorem dX4_init_37 : Dn cX4_init 37 (.bipush 40) 2 39 := by decide +kernel
theorem dX4_init_39 : Dn cX4_init 39 (.newarray .int) 2 41 := by decide +kernel
theorem dX4_init_41 : Dn cX4_init 41 (.putfield 26) 3 44 := by decide +kernel
theorem dX4_init_44 : Dn cX4_init 44 (.return_) 1 45 := by decide +kernel
theorem dX4_stepsOf_0 : Dn cX4_stepsOf 0 (.iload_n 1) 1 1 := by decide +kernel
theorem dX4_stepsOf_1 : Dn cX4_stepsOf 1 (.tableswitch 42 0 2 #[27, 32, 37]) 27 28 := by decide +kernel
theorem dX4_stepsOf_28 : Dn cX4_stepsOf 28 (.aload_n 0) 1 29 := by decide +kernel
theorem dX4_stepsOf_29 : Dn cX4_stepsOf 29 (.getfield 9) 3 32 := by decide +kernel
theorem dX4_stepsOf_32 : Dn cX4_stepsOf 32 (.areturn) 1 33 := by decide +kernel
theorem dX4_stepsOf_33 : Dn cX4_stepsOf 33 (.aload_n 0) 1 34 := by decide +kernel
theorem dX4_stepsOf_34 : Dn cX4_stepsOf 34 (.getfield 15) 3 37 := by decide +kernel
theorem dX4_stepsOf_37 : Dn cX4_stepsOf 37 (.areturn) 1 38 := by decide +kernel
theorem dX4_stepsOf_38 : Dn cX4_stepsOf 38 (.aload_n 0) 1 39 := by decide +kernel
theorem dX4_stepsOf_39 : Dn cX4_stepsOf 39 (.getfield 18) 3 42 := by decide +kernel
theorem dX4_stepsOf_42 : Dn cX4_stepsOf 42 (.areturn) 1 43 := by decide +kernel
theorem dX4_stepsOf_43 : Dn cX4_stepsOf 43 (.aconst_null) 1 44 := by decide +kernel
theorem dX4_stepsOf_44 : Dn cX4_stepsOf 44 (.areturn) 1 45 := by decide +kernel
theorem dX4_fadeStep_0 : Dn cX4_fadeStep 0 (.iconst 0) 1 1 := by decide +kernel
theorem dX4_fadeStep_1 : Dn cX4_fadeStep 1 (.istore_n 1) 1 2 := by decide +kernel
theorem dX4_fadeStep_2 : Dn cX4_fadeStep 2 (.iload_n 0) 1 3 := by decide +kernel
theorem dX4_fadeStep_3 : Dn cX4_fadeStep 3 (.istore_n 2) 1 4 := by decide +kernel
theorem dX4_fadeStep_4 : Dn cX4_fadeStep 4 (.iload_n 2) 1 5 := by decide +kernel
theorem dX4_fadeStep_5 : Db cX4_fadeStep 5 (.ifCond .le 19) (19) 8 24 := by decide +kernel
theorem dX4_fadeStep_8 : Dn cX4_fadeStep 8 (.iload_n 1) 1 9 := by decide +kernel
theorem dX4_fadeStep_9 : Dn cX4_fadeStep 9 (.bipush 7) 2 11 := by decide +kernel
theorem dX4_fadeStep_11 : Db cX4_fadeStep 11 (.if_icmp .ge 13) (13) 14 24 := by decide +kernel
theorem dX4_fadeStep_14 : Dn cX4_fadeStep 14 (.iinc 1 1) 3 17 := by decide +kernel
theorem dX4_fadeStep_17 : Dn cX4_fadeStep 17 (.iload_n 2) 1 18 := by decide +kernel
theorem dX4_fadeStep_18 : Dn cX4_fadeStep 18 (.iconst 2) 1 19 := by decide +kernel
theorem dX4_fadeStep_19 : Dn cX4_fadeStep 19 (.idiv) 1 20 := by decide +kernel
theorem dX4_fadeStep_20 : Dn cX4_fadeStep 20 (.istore_n 2) 1 21 := by decide +kernel
theorem dX4_fadeStep_21 : Db cX4_fadeStep 21 (.goto (-17)) (-17) 24 4 := by decide +kernel
theorem dX4_fadeStep_24 : Dn cX4_fadeStep 24 (.iload_n 1) 1 25 := by decide +kernel
theorem dX4_fadeStep_25 : Dn cX4_fadeStep 25 (.ireturn) 1 26 := by decide +kernel
theorem dX4_weightAt_0 : Dn cX4_weightAt 0 (.bipush 7) 2 2 := by decide +kernel
theorem dX4_weightAt_2 : Dn cX4_weightAt 2 (.iload_n 3) 1 3 := by decide +kernel
theorem dX4_weightAt_3 : Dn cX4_weightAt 3 (.iload 4) 2 5 := by decide +kernel
theorem dX4_weightAt_5 : Dn cX4_weightAt 5 (.aload_n 1) 1 6 := by decide +kernel
theorem dX4_weightAt_6 : Dn cX4_weightAt 6 (.getfield 29) 3 9 := by decide +kernel
theorem dX4_weightAt_9 : Dn cX4_weightAt 9 (.iload_n 2) 1 10 := by decide +kernel
theorem dX4_weightAt_10 : Dn cX4_weightAt 10 (.iaload) 1 11 := by decide +kernel
theorem dX4_weightAt_11 : Dn cX4_weightAt 11 (.aload_n 1) 1 12 := by decide +kernel
theorem dX4_weightAt_12 : Dn cX4_weightAt 12 (.getfield 32) 3 15 := by decide +kernel
theorem dX4_weightAt_15 : Dn cX4_weightAt 15 (.iload_n 2) 1 16 := by decide +kernel
theorem dX4_weightAt_16 : Dn cX4_weightAt 16 (.iaload) 1 17 := by decide +kernel
theorem dX4_weightAt_17 : Dn cX4_weightAt 17 (.invokestatic 35) 3 20 := by decide +kernel
theorem dX4_weightAt_20 : Dn cX4_weightAt 20 (.invokestatic 39) 3 23 := by decide +kernel
theorem dX4_weightAt_23 : Dn cX4_weightAt 23 (.istore 6) 2 25 := by decide +kernel
theorem dX4_weightAt_25 : Dn cX4_weightAt 25 (.aload_n 0) 1 26 := by decide +kernel
theorem dX4_weightAt_26 : Dn cX4_weightAt 26 (.getfield 9) 3 29 := by decide +kernel
theorem dX4_weightAt_29 : Dn cX4_weightAt 29 (.aload_n 1) 1 30 := by decide +kernel
theorem dX4_weightAt_30 : Dn cX4_weightAt 30 (.getfield 45) 3 33 := by decide +kernel
theorem dX4_weightAt_33 : Dn cX4_weightAt 33 (.iload_n 2) 1 34 := by decide +kernel
theorem dX4_weightAt_34 : Dn cX4_weightAt 34 (.iaload) 1 35 := by decide +kernel
theorem dX4_weightAt_35 : Dn cX4_weightAt 35 (.bipush 10) 2 37 := by decide +kernel
theorem dX4_weightAt_37 : Dn cX4_weightAt 37 (.idiv) 1 38 := by decide +kernel
theorem dX4_weightAt_38 : Dn cX4_weightAt 38 (.iaload) 1 39 := by decide +kernel
theorem dX4_weightAt_39 : Dn cX4_weightAt 39 (.aload_n 0) 1 40 := by decide +kernel
theorem dX4_weightAt_40 : Dn cX4_weightAt 40 (.getfield 15) 3 43 := by decide +kernel
theorem dX4_weightAt_43 : Dn cX4_weightAt 43 (.iload 5) 2 45 := by decide +kernel
theorem dX4_weightAt_45 : Dn cX4_weightAt 45 (.aload_n 1) 1 46 := by decide +kernel
theorem dX4_weightAt_46 : Dn cX4_weightAt 46 (.getfield 48) 3 49 := by decide +kernel
theorem dX4_weightAt_49 : Dn cX4_weightAt 49 (.iload_n 2) 1 50 := by decide +kernel
theorem dX4_weightAt_50 : Dn cX4_weightAt 50 (.iaload) 1 51 := by decide +kernel
theorem dX4_weightAt_51 : Dn cX4_weightAt 51 (.isub) 1 52 := by decide +kernel
theorem dX4_weightAt_52 : Dn cX4_weightAt 52 (.invokestatic 51) 3 55 := by decide +kernel
theorem dX4_weightAt_55 : Dn cX4_weightAt 55 (.iaload) 1 56 := by decide +kernel
theorem dX4_weightAt_56 : Dn cX4_weightAt 56 (.imul) 1 57 := by decide +kernel
theorem dX4_weightAt_57 : Dn cX4_weightAt 57 (.aload_n 0) 1 58 := by decide +kernel
theorem dX4_weightAt_58 : Dn cX4_weightAt 58 (.getfield 18) 3 61 := by decide +kernel
theorem dX4_weightAt_61 : Dn cX4_weightAt 61 (.iload 6) 2 63 := by decide +kernel
theorem dX4_weightAt_63 : Dn cX4_weightAt 63 (.iaload) 1 64 := by decide +kernel
theorem dX4_weightAt_64 : Dn cX4_weightAt 64 (.imul) 1 65 := by decide +kernel
theorem dX4_weightAt_65 : Dn cX4_weightAt 65 (.ireturn) 1 66 := by decide +kernel
theorem dX4_weight_0 : Dn cX4_weight 0 (.aload_n 0) 1 1 := by decide +kernel
theorem dX4_weight_1 : Dn cX4_weight 1 (.aload_n 1) 1 2 := by decide +kernel
theorem dX4_weight_2 : Dn cX4_weight 2 (.iload_n 3) 1 3 := by decide +kernel
theorem dX4_weight_3 : Dn cX4_weight 3 (.aload_n 1) 1 4 := by decide +kernel
theorem dX4_weight_4 : Dn cX4_weight 4 (.getfield 29) 3 7 := by decide +kernel
theorem dX4_weight_7 : Dn cX4_weight 7 (.iload_n 2) 1 8 := by decide +kernel
theorem dX4_weight_8 : Dn cX4_weight 8 (.iaload) 1 9 := by decide +kernel
theorem dX4_weight_9 : Dn cX4_weight 9 (.aload_n 1) 1 10 := by decide +kernel
theorem dX4_weight_10 : Dn cX4_weight 10 (.getfield 32) 3 13 := by decide +kernel
theorem dX4_weight_13 : Dn cX4_weight 13 (.iload_n 2) 1 14 := by decide +kernel
theorem dX4_weight_14 : Dn cX4_weight 14 (.iaload) 1 15 := by decide +kernel
theorem dX4_weight_15 : Dn cX4_weight 15 (.aload_n 1) 1 16 := by decide +kernel
theorem dX4_weight_16 : Dn cX4_weight 16 (.getfield 48) 3 19 := by decide +kernel
theorem dX4_weight_19 : Dn cX4_weight 19 (.iload_n 2) 1 20 := by decide +kernel
theorem dX4_weight_20 : Dn cX4_weight 20 (.iaload) 1 21 := by decide +kernel
theorem dX4_weight_21 : Dn cX4_weight 21 (.invokevirtual 55) 3 24 := by decide +kernel
theorem dX4_weight_24 : Dn cX4_weight 24 (.ireturn) 1 25 := by decide +kernel
theorem dX4_weightIfAhead_0 : Dn cX4_weightIfAhead 0 (.aload_n 1) 1 1 := by decide +kernel
theorem dX4_weightIfAhead_1 : Dn cX4_weightIfAhead 1 (.iload_n 3) 1 2 := by decide +kernel
theorem dX4_weightIfAhead_2 : Dn cX4_weightIfAhead 2 (.iconst (-1)) 1 3 := by decide +kernel
theorem dX4_weightIfAhead_3 : Dn cX4_weightIfAhead 3 (.iload 4) 2 5 := by decide +kernel
theorem dX4_weightIfAhead_5 : Dn cX4_weightIfAhead 5 (.invokevirtual 59) 3 8 := by decide +kernel
theorem dX4_weightIfAhead_8 : Db cX4_weightIfAhead 8 (.ifCond .eq 20) (20) 11 28 := by decide +kernel
theorem dX4_weightIfAhead_11 : Dn cX4_weightIfAhead 11 (.aload_n 1) 1 12 := by decide +kernel
theorem dX4_weightIfAhead_12 : Dn cX4_weightIfAhead 12 (.iload_n 3) 1 13 := by decide +kernel
theorem dX4_weightIfAhead_13 : Dn cX4_weightIfAhead 13 (.invokevirtual 63) 3 16 := by decide +kernel
theorem dX4_weightIfAhead_16 : Dn cX4_weightIfAhead 16 (.aload_n 1) 1 17 := by decide +kernel
theorem dX4_weightIfAhead_17 : Dn cX4_weightIfAhead 17 (.iload_n 2) 1 18 := by decide +kernel
theorem dX4_weightIfAhead_18 : Dn cX4_weightIfAhead 18 (.invokevirtual 63) 3 21 := by decide +kernel
theorem dX4_weightIfAhead_21 : Db cX4_weightIfAhead 21 (.if_icmp .ge 7) (7) 24 28 := by decide +kernel
theorem dX4_weightIfAhead_24 : Dn cX4_weightIfAhead 24 (.iconst 1) 1 25 := by decide +kernel
theorem dX4_weightIfAhead_25 : Db cX4_weightIfAhead 25 (.goto 4) (4) 28 29 := by decide +kernel
theorem dX4_weightIfAhead_28 : Dn cX4_weightIfAhead 28 (.iconst 0) 1 29 := by decide +kernel
theorem dX4_weightIfAhead_29 : Dn cX4_weightIfAhead 29 (.istore 5) 2 31 := by decide +kernel
theorem dX4_weightIfAhead_31 : Dn cX4_weightIfAhead 31 (.iload 5) 2 33 := by decide +kernel
theorem dX4_weightIfAhead_33 : Db cX4_weightIfAhead 33 (.ifCond .eq 13) (13) 36 46 := by decide +kernel
theorem dX4_weightIfAhead_36 : Dn cX4_weightIfAhead 36 (.aload_n 0) 1 37 := by decide +kernel
theorem dX4_weightIfAhead_37 : Dn cX4_weightIfAhead 37 (.aload_n 1) 1 38 := by decide +kernel
theorem dX4_weightIfAhead_38 : Dn cX4_weightIfAhead 38 (.iload_n 2) 1 39 := by decide +kernel
theorem dX4_weightIfAhead_39 : Dn cX4_weightIfAhead 39 (.iload_n 3) 1 40 := by decide +kernel
theorem dX4_weightIfAhead_40 : Dn cX4_weightIfAhead 40 (.invokevirtual 66) 3 43 := by decide +kernel
theorem dX4_weightIfAhead_43 : Db cX4_weightIfAhead 43 (.goto 4) (4) 46 47 := by decide +kernel
theorem dX4_weightIfAhead_46 : Dn cX4_weightIfAhead 46 (.iconst 0) 1 47 := by decide +kernel
theorem dX4_weightIfAhead_47 : Dn cX4_weightIfAhead 47 (.ireturn) 1 48 := by decide +kernel
theorem dX4_allWeights_0 : Dn cX4_allWeights 0 (.iload 4) 2 2 := by decide +kernel
theorem dX4_allWeights_2 : Dn cX4_allWeights 2 (.istore 5) 2 4 := by decide +kernel
theorem dX4_allWeights_4 : Dn cX4_allWeights 4 (.aload_n 1) 1 5 := by decide +kernel
theorem dX4_allWeights_5 : Dn cX4_allWeights 5 (.iload_n 2) 1 6 := by decide +kernel
theorem dX4_allWeights_6 : Dn cX4_allWeights 6 (.invokevirtual 63) 3 9 := by decide +kernel
theorem dX4_allWeights_9 : Dn cX4_allWeights 9 (.istore 6) 2 11 := by decide +kernel
theorem dX4_allWeights_11 : Dn cX4_allWeights 11 (.iconst 0) 1 12 := by decide +kernel
theorem dX4_allWeights_12 : Dn cX4_allWeights 12 (.istore 7) 2 14 := by decide +kernel
theorem dX4_allWeights_14 : Dn cX4_allWeights 14 (.iload 7) 2 16 := by decide +kernel
theorem dX4_allWeights_16 : Dn cX4_allWeights 16 (.iload 6) 2 18 := by decide +kernel
theorem dX4_allWeights_18 : Db cX4_allWeights 18 (.if_icmp .ge 42) (42) 21 60 := by decide +kernel
theorem dX4_allWeights_21 : Dn cX4_allWeights 21 (.aload_n 1) 1 22 := by decide +kernel
theorem dX4_allWeights_22 : Dn cX4_allWeights 22 (.getfield 70) 3 25 := by decide +kernel
theorem dX4_allWeights_25 : Dn cX4_allWeights 25 (.iload 7) 2 27 := by decide +kernel
theorem dX4_allWeights_27 : Dn cX4_allWeights 27 (.iaload) 1 28 := by decide +kernel
theorem dX4_allWeights_28 : Dn cX4_allWeights 28 (.istore 8) 2 30 := by decide +kernel
theorem dX4_allWeights_30 : Dn cX4_allWeights 30 (.aload_n 1) 1 31 := by decide +kernel
theorem dX4_allWeights_31 : Dn cX4_allWeights 31 (.iload 8) 2 33 := by decide +kernel
theorem dX4_allWeights_33 : Dn cX4_allWeights 33 (.iconst (-1)) 1 34 := by decide +kernel
theorem dX4_allWeights_34 : Dn cX4_allWeights 34 (.iload_n 3) 1 35 := by decide +kernel
theorem dX4_allWeights_35 : Dn cX4_allWeights 35 (.invokevirtual 59) 3 38 := by decide +kernel
theorem dX4_allWeights_38 : Db cX4_allWeights 38 (.ifCond .eq 16) (16) 41 54 := by decide +kernel
theorem dX4_allWeights_41 : Dn cX4_allWeights 41 (.iload 5) 2 43 := by decide +kernel
theorem dX4_allWeights_43 : Dn cX4_allWeights 43 (.aload_n 0) 1 44 := by decide +kernel
theorem dX4_allWeights_44 : Dn cX4_allWeights 44 (.aload_n 1) 1 45 := by decide +kernel
theorem dX4_allWeights_45 : Dn cX4_allWeights 45 (.iload_n 2) 1 46 := by decide +kernel
theorem dX4_allWeights_46 : Dn cX4_allWeights 46 (.iload 8) 2 48 := by decide +kernel
theorem dX4_allWeights_48 : Dn cX4_allWeights 48 (.invokevirtual 66) 3 51 := by decide +kernel
theorem dX4_allWeights_51 : Dn cX4_allWeights 51 (.iadd) 1 52 := by decide +kernel
theorem dX4_allWeights_52 : Dn cX4_allWeights 52 (.istore 5) 2 54 := by decide +kernel
theorem dX4_allWeights_54 : Dn cX4_allWeights 54 (.iinc 7 1) 3 57 := by decide +kernel
theorem dX4_allWeights_57 : Db cX4_allWeights 57 (.goto (-43)) (-43) 60 14 := by decide +kernel
theorem dX4_allWeights_60 : Dn cX4_allWeights 60 (.iload 5) 2 62 := by decide +kernel
theorem dX4_allWeights_62 : Dn cX4_allWeights 62 (.ireturn) 1 63 := by decide +kernel
theorem dX4_weightOn_0 : Dn cX4_weightOn 0 (.iconst 0) 1 1 := by decide +kernel
theorem dX4_weightOn_1 : Dn cX4_weightOn 1 (.istore 6) 2 3 := by decide +kernel
theorem dX4_weightOn_3 : Dn cX4_weightOn 3 (.iconst 0) 1 4 := by decide +kernel
theorem dX4_weightOn_4 : Dn cX4_weightOn 4 (.istore 7) 2 6 := by decide +kernel
theorem dX4_weightOn_6 : Dn cX4_weightOn 6 (.iload 7) 2 8 := by decide +kernel
theorem dX4_weightOn_8 : Dn cX4_weightOn 8 (.aload_n 1) 1 9 := by decide +kernel
theorem dX4_weightOn_9 : Dn cX4_weightOn 9 (.getfield 73) 3 12 := by decide +kernel
theorem dX4_weightOn_12 : Db cX4_weightOn 12 (.if_icmp .ge 49) (49) 15 61 := by decide +kernel
theorem dX4_weightOn_15 : Dn cX4_weightOn 15 (.aload_n 1) 1 16 := by decide +kernel
theorem dX4_weightOn_16 : Dn cX4_weightOn 16 (.getfield 48) 3 19 := by decide +kernel
theorem dX4_weightOn_19 : Dn cX4_weightOn 19 (.iload 7) 2 21 := by decide +kernel
theorem dX4_weightOn_21 : Dn cX4_weightOn 21 (.iaload) 1 22 := by decide +kernel
theorem dX4_weightOn_22 : Dn cX4_weightOn 22 (.iload 4) 2 24 := by decide +kernel
theorem dX4_weightOn_24 : Db cX4_weightOn 24 (.if_icmp .ge 31) (31) 27 55 := by decide +kernel
theorem dX4_weightOn_27 : Dn cX4_weightOn 27 (.aload_n 1) 1 28 := by decide +kernel
theorem dX4_weightOn_28 : Dn cX4_weightOn 28 (.iload 7) 2 30 := by decide +kernel
theorem dX4_weightOn_30 : Dn cX4_weightOn 30 (.iconst (-1)) 1 31 := by decide +kernel
theorem dX4_weightOn_31 : Dn cX4_weightOn 31 (.iload 5) 2 33 := by decide +kernel
theorem dX4_weightOn_33 : Dn cX4_weightOn 33 (.invokevirtual 59) 3 36 := by decide +kernel
theorem dX4_weightOn_36 : Db cX4_weightOn 36 (.ifCond .eq 19) (19) 39 55 := by decide +kernel
theorem dX4_weightOn_39 : Dn cX4_weightOn 39 (.iload 6) 2 41 := by decide +kernel
theorem dX4_weightOn_41 : Dn cX4_weightOn 41 (.aload_n 0) 1 42 := by decide +kernel
theorem dX4_weightOn_42 : Dn cX4_weightOn 42 (.aload_n 1) 1 43 := by decide +kernel
theorem dX4_weightOn_43 : Dn cX4_weightOn 43 (.iload 7) 2 45 := by decide +kernel
theorem dX4_weightOn_45 : Dn cX4_weightOn 45 (.iload_n 2) 1 46 := by decide +kernel
theorem dX4_weightOn_46 : Dn cX4_weightOn 46 (.iload_n 3) 1 47 := by decide +kernel
theorem dX4_weightOn_47 : Dn cX4_weightOn 47 (.iload 4) 2 49 := by decide +kernel
theorem dX4_weightOn_49 : Dn cX4_weightOn 49 (.invokevirtual 55) 3 52 := by decide +kernel
theorem dX4_weightOn_52 : Dn cX4_weightOn 52 (.iadd) 1 53 := by decide +kernel
theorem dX4_weightOn_53 : Dn cX4_weightOn 53 (.istore 6) 2 55 := by decide +kernel
theorem dX4_weightOn_55 : Dn cX4_weightOn 55 (.iinc 7 1) 3 58 := by decide +kernel
theorem dX4_weightOn_58 : Db cX4_weightOn 58 (.goto (-52)) (-52) 61 6 := by decide +kernel
theorem dX4_weightOn_61 : Dn cX4_weightOn 61 (.iload 6) 2 63 := by decide +kernel
theorem dX4_weightOn_63 : Dn cX4_weightOn 63 (.ireturn) 1 64 := by decide +kernel
theorem dX4_likeliest_0 : Dn cX4_likeliest 0 (.bipush (-6)) 2 2 := by decide +kernel
theorem dX4_likeliest_2 : Dn cX4_likeliest 2 (.istore 5) 2 4 := by decide +kernel
theorem dX4_likeliest_4 : Dn cX4_likeliest 4 (.iload 4) 2 6 := by decide +kernel
theorem dX4_likeliest_6 : Dn cX4_likeliest 6 (.istore 6) 2 8 := by decide +kernel
theorem dX4_likeliest_8 : Dn cX4_likeliest 8 (.aload_n 1) 1 9 := by decide +kernel
theorem dX4_likeliest_9 : Dn cX4_likeliest 9 (.iload_n 2) 1 10 := by decide +kernel
theorem dX4_likeliest_10 : Dn cX4_likeliest 10 (.invokevirtual 63) 3 13 := by decide +kernel
theorem dX4_likeliest_13 : Dn cX4_likeliest 13 (.istore 7) 2 15 := by decide +kernel
theorem dX4_likeliest_15 : Dn cX4_likeliest 15 (.iconst 0) 1 16 := by decide +kernel
theorem dX4_likeliest_16 : Dn cX4_likeliest 16 (.istore 8) 2 18 := by decide +kernel
theorem dX4_likeliest_18 : Dn cX4_likeliest 18 (.iload 8) 2 20 := by decide +kernel
theorem dX4_likeliest_20 : Dn cX4_likeliest 20 (.iload 7) 2 22 := by decide +kernel
theorem dX4_likeliest_22 : Db cX4_likeliest 22 (.if_icmp .ge 58) (58) 25 80 := by decide +kernel
theorem dX4_likeliest_25 : Dn cX4_likeliest 25 (.aload_n 1) 1 26 := by decide +kernel
theorem dX4_likeliest_26 : Dn cX4_likeliest 26 (.getfield 70) 3 29 := by decide +kernel
theorem dX4_likeliest_29 : Dn cX4_likeliest 29 (.iload 8) 2 31 := by decide +kernel
theorem dX4_likeliest_31 : Dn cX4_likeliest 31 (.iaload) 1 32 := by decide +kernel
theorem dX4_likeliest_32 : Dn cX4_likeliest 32 (.istore 9) 2 34 := by decide +kernel
theorem dX4_likeliest_34 : Dn cX4_likeliest 34 (.aload_n 1) 1 35 := by decide +kernel
theorem dX4_likeliest_35 : Dn cX4_likeliest 35 (.iload 9) 2 37 := by decide +kernel
theorem dX4_likeliest_37 : Dn cX4_likeliest 37 (.iconst (-1)) 1 38 := by decide +kernel
theorem dX4_likeliest_38 : Dn cX4_likeliest 38 (.iload_n 3) 1 39 := by decide +kernel
theorem dX4_likeliest_39 : Dn cX4_likeliest 39 (.invokevirtual 59) 3 42 := by decide +kernel
theorem dX4_likeliest_42 : Db cX4_likeliest 42 (.ifCond .eq 14) (14) 45 56 := by decide +kernel
theorem dX4_likeliest_45 : Dn cX4_likeliest 45 (.aload_n 0) 1 46 := by decide +kernel
theorem dX4_likeliest_46 : Dn cX4_likeliest 46 (.aload_n 1) 1 47 := by decide +kernel
theorem dX4_likeliest_47 : Dn cX4_likeliest 47 (.iload_n 2) 1 48 := by decide +kernel
theorem dX4_likeliest_48 : Dn cX4_likeliest 48 (.iload 9) 2 50 := by decide +kernel
theorem dX4_likeliest_50 : Dn cX4_likeliest 50 (.invokevirtual 66) 3 53 := by decide +kernel
theorem dX4_likeliest_53 : Db cX4_likeliest 53 (.goto 4) (4) 56 57 := by decide +kernel
theorem dX4_likeliest_56 : Dn cX4_likeliest 56 (.iconst 0) 1 57 := by decide +kernel
theorem dX4_likeliest_57 : Dn cX4_likeliest 57 (.istore 10) 2 59 := by decide +kernel
theorem dX4_likeliest_59 : Dn cX4_likeliest 59 (.iload 10) 2 61 := by decide +kernel
theorem dX4_likeliest_61 : Dn cX4_likeliest 61 (.iload 6) 2 63 := by decide +kernel
theorem dX4_likeliest_63 : Db cX4_likeliest 63 (.if_icmp .le 11) (11) 66 74 := by decide +kernel
theorem dX4_likeliest_66 : Dn cX4_likeliest 66 (.iload 10) 2 68 := by decide +kernel
theorem dX4_likeliest_68 : Dn cX4_likeliest 68 (.istore 6) 2 70 := by decide +kernel
theorem dX4_likeliest_70 : Dn cX4_likeliest 70 (.iload 9) 2 72 := by decide +kernel
theorem dX4_likeliest_72 : Dn cX4_likeliest 72 (.istore 5) 2 74 := by decide +kernel
theorem dX4_likeliest_74 : Dn cX4_likeliest 74 (.iinc 8 1) 3 77 := by decide +kernel
theorem dX4_likeliest_77 : Db cX4_likeliest 77 (.goto (-59)) (-59) 80 18 := by decide +kernel
theorem dX4_likeliest_80 : Dn cX4_likeliest 80 (.iload 5) 2 82 := by decide +kernel
theorem dX4_likeliest_82 : Dn cX4_likeliest 82 (.ireturn) 1 83 := by decide +kernel
theorem dX4_trace_0 : Dn cX4_trace 0 (.iconst 0) 1 1 := by decide +kernel
theorem dX4_trace_1 : Dn cX4_trace 1 (.istore 4) 2 3 := by decide +kernel
theorem dX4_trace_3 : Dn cX4_trace 3 (.iload 4) 2 5 := by decide +kernel
theorem dX4_trace_5 : Dn cX4_trace 5 (.aload_n 1) 1 6 := by decide +kernel
theorem dX4_trace_6 : Dn cX4_trace 6 (.getfield 73) 3 9 := by decide +kernel
theorem dX4_trace_9 : Db cX4_trace 9 (.if_icmp .ge 110) (110) 12 119 := by decide +kernel
theorem dX4_trace_12 : Dn cX4_trace 12 (.aload_n 1) 1 13 := by decide +kernel
theorem dX4_trace_13 : Dn cX4_trace 13 (.getfield 70) 3 16 := by decide +kernel
theorem dX4_trace_16 : Dn cX4_trace 16 (.iload 4) 2 18 := by decide +kernel
theorem dX4_trace_18 : Dn cX4_trace 18 (.iaload) 1 19 := by decide +kernel
theorem dX4_trace_19 : Dn cX4_trace 19 (.istore 5) 2 21 := by decide +kernel
theorem dX4_trace_21 : Dn cX4_trace 21 (.aload_n 0) 1 22 := by decide +kernel
theorem dX4_trace_22 : Dn cX4_trace 22 (.getfield 23) 3 25 := by decide +kernel
theorem dX4_trace_25 : Dn cX4_trace 25 (.iload 5) 2 27 := by decide +kernel
theorem dX4_trace_27 : Dn cX4_trace 27 (.bipush (-6)) 2 29 := by decide +kernel
theorem dX4_trace_29 : Dn cX4_trace 29 (.iastore) 1 30 := by decide +kernel
theorem dX4_trace_30 : Dn cX4_trace 30 (.aload_n 0) 1 31 := by decide +kernel
theorem dX4_trace_31 : Dn cX4_trace 31 (.getfield 26) 3 34 := by decide +kernel
theorem dX4_trace_34 : Dn cX4_trace 34 (.iload 5) 2 36 := by decide +kernel
theorem dX4_trace_36 : Dn cX4_trace 36 (.iconst 0) 1 37 := by decide +kernel
theorem dX4_trace_37 : Dn cX4_trace 37 (.iastore) 1 38 := by decide +kernel
theorem dX4_trace_38 : Dn cX4_trace 38 (.aload_n 1) 1 39 := by decide +kernel
theorem dX4_trace_39 : Dn cX4_trace 39 (.iload 5) 2 41 := by decide +kernel
theorem dX4_trace_41 : Dn cX4_trace 41 (.iconst (-1)) 1 42 := by decide +kernel
theorem dX4_trace_42 : Dn cX4_trace 42 (.iload_n 2) 1 43 := by decide +kernel
theorem dX4_trace_43 : Dn cX4_trace 43 (.invokevirtual 59) 3 46 := by decide +kernel
theorem dX4_trace_46 : Db cX4_trace 46 (.ifCond .eq 67) (67) 49 113 := by decide +kernel
theorem dX4_trace_49 : Dn cX4_trace 49 (.aload_n 0) 1 50 := by decide +kernel
theorem dX4_trace_50 : Dn cX4_trace 50 (.aload_n 1) 1 51 := by decide +kernel
theorem dX4_trace_51 : Dn cX4_trace 51 (.iload 5) 2 53 := by decide +kernel
theorem dX4_trace_53 : Dn cX4_trace 53 (.iload_n 2) 1 54 := by decide +kernel
theorem dX4_trace_54 : Dn cX4_trace 54 (.iload_n 3) 1 55 := by decide +kernel
theorem dX4_trace_55 : Dn cX4_trace 55 (.invokevirtual 77) 3 58 := by decide +kernel
theorem dX4_trace_58 : Dn cX4_trace 58 (.istore 6) 2 60 := by decide +kernel
theorem dX4_trace_60 : Dn cX4_trace 60 (.aload_n 0) 1 61 := by decide +kernel
theorem dX4_trace_61 : Dn cX4_trace 61 (.getfield 23) 3 64 := by decide +kernel
theorem dX4_trace_64 : Dn cX4_trace 64 (.iload 5) 2 66 := by decide +kernel
theorem dX4_trace_66 : Dn cX4_trace 66 (.iload 6) 2 68 := by decide +kernel
theorem dX4_trace_68 : Dn cX4_trace 68 (.bipush (-6)) 2 70 := by decide +kernel
theorem dX4_trace_70 : Db cX4_trace 70 (.if_icmp .ne 8) (8) 73 78 := by decide +kernel
theorem dX4_trace_73 : Dn cX4_trace 73 (.iload 5) 2 75 := by decide +kernel
theorem dX4_trace_75 : Db cX4_trace 75 (.goto 10) (10) 78 85 := by decide +kernel
theorem dX4_trace_78 : Dn cX4_trace 78 (.aload_n 0) 1 79 := by decide +kernel
theorem dX4_trace_79 : Dn cX4_trace 79 (.getfield 23) 3 82 := by decide +kernel
theorem dX4_trace_82 : Dn cX4_trace 82 (.iload 6) 2 84 := by decide +kernel
theorem dX4_trace_84 : Dn cX4_trace 84 (.iaload) 1 85 := by decide +kernel
theorem dX4_trace_85 : Dn cX4_trace 85 (.iastore) 1 86 := by decide +kernel
theorem dX4_trace_86 : Dn cX4_trace 86 (.aload_n 0) 1 87 := by decide +kernel
theorem dX4_trace_87 : Dn cX4_trace 87 (.getfield 26) 3 90 := by decide +kernel
theorem dX4_trace_90 : Dn cX4_trace 90 (.iload 5) 2 92 := by decide +kernel
theorem dX4_trace_92 : Dn cX4_trace 92 (.iload 6) 2 94 := by decide +kernel
theorem dX4_trace_94 : Dn cX4_trace 94 (.bipush (-6)) 2 96 := by decide +kernel
theorem dX4_trace_96 : Db cX4_trace 96 (.if_icmp .ne 7) (7) 99 103 := by decide +kernel
theorem dX4_trace_99 : Dn cX4_trace 99 (.iconst 0) 1 100 := by decide +kernel
theorem dX4_trace_100 : Db cX4_trace 100 (.goto 12) (12) 103 112 := by decide +kernel
theorem dX4_trace_103 : Dn cX4_trace 103 (.aload_n 0) 1 104 := by decide +kernel
theorem dX4_trace_104 : Dn cX4_trace 104 (.getfield 26) 3 107 := by decide +kernel
theorem dX4_trace_107 : Dn cX4_trace 107 (.iload 6) 2 109 := by decide +kernel
theorem dX4_trace_109 : Dn cX4_trace 109 (.iaload) 1 110 := by decide +kernel
theorem dX4_trace_110 : Dn cX4_trace 110 (.iconst 1) 1 111 := by decide +kernel
theorem dX4_trace_111 : Dn cX4_trace 111 (.iadd) 1 112 := by decide +kernel
theorem dX4_trace_112 : Dn cX4_trace 112 (.iastore) 1 113 := by decide +kernel
theorem dX4_trace_113 : Dn cX4_trace 113 (.iinc 4 1) 3 116 := by decide +kernel
theorem dX4_trace_116 : Db cX4_trace 116 (.goto (-113)) (-113) 119 3 := by decide +kernel
theorem dX4_trace_119 : Dn cX4_trace 119 (.return_) 1 120 := by decide +kernel
theorem dX4_sizeOfFamily_0 : Dn cX4_sizeOfFamily 0 (.iconst 0) 1 1 := by decide +kernel
theorem dX4_sizeOfFamily_1 : Dn cX4_sizeOfFamily 1 (.istore_n 3) 1 2 := by decide +kernel
theorem dX4_sizeOfFamily_2 : Dn cX4_sizeOfFamily 2 (.iconst 0) 1 3 := by decide +kernel
theorem dX4_sizeOfFamily_3 : Dn cX4_sizeOfFamily 3 (.istore 4) 2 5 := by decide +kernel
theorem dX4_sizeOfFamily_5 : Dn cX4_sizeOfFamily 5 (.iload 4) 2 7 := by decide +kernel
theorem dX4_sizeOfFamily_7 : Dn cX4_sizeOfFamily 7 (.aload_n 1) 1 8 := by decide +kernel
theorem dX4_sizeOfFamily_8 : Dn cX4_sizeOfFamily 8 (.getfield 73) 3 11 := by decide +kernel
theorem dX4_sizeOfFamily_11 : Db cX4_sizeOfFamily 11 (.if_icmp .ge 23) (23) 14 34 := by decide +kernel
theorem dX4_sizeOfFamily_14 : Dn cX4_sizeOfFamily 14 (.aload_n 0) 1 15 := by decide +kernel
theorem dX4_sizeOfFamily_15 : Dn cX4_sizeOfFamily 15 (.getfield 23) 3 18 := by decide +kernel
theorem dX4_sizeOfFamily_18 : Dn cX4_sizeOfFamily 18 (.iload 4) 2 20 := by decide +kernel
theorem dX4_sizeOfFamily_20 : Dn cX4_sizeOfFamily 20 (.iaload) 1 21 := by decide +kernel
theorem dX4_sizeOfFamily_21 : Dn cX4_sizeOfFamily 21 (.iload_n 2) 1 22 := by decide +kernel
theorem dX4_sizeOfFamily_22 : Db cX4_sizeOfFamily 22 (.if_icmp .ne 6) (6) 25 28 := by decide +kernel
theorem dX4_sizeOfFamily_25 : Dn cX4_sizeOfFamily 25 (.iinc 3 1) 3 28 := by decide +kernel
theorem dX4_sizeOfFamily_28 : Dn cX4_sizeOfFamily 28 (.iinc 4 1) 3 31 := by decide +kernel
theorem dX4_sizeOfFamily_31 : Db cX4_sizeOfFamily 31 (.goto (-26)) (-26) 34 5 := by decide +kernel
theorem dX4_sizeOfFamily_34 : Dn cX4_sizeOfFamily 34 (.iload_n 3) 1 35 := by decide +kernel
theorem dX4_sizeOfFamily_35 : Dn cX4_sizeOfFamily 35 (.ireturn) 1 36 := by decide +kernel
theorem dX4_deepestOfFamily_0 : Dn cX4_deepestOfFamily 0 (.iconst 0) 1 1 := by decide +kernel
theorem dX4_deepestOfFamily_1 : Dn cX4_deepestOfFamily 1 (.istore_n 3) 1 2 := by decide +kernel
theorem dX4_deepestOfFamily_2 : Dn cX4_deepestOfFamily 2 (.iconst 0) 1 3 := by decide +kernel
theorem dX4_deepestOfFamily_3 : Dn cX4_deepestOfFamily 3 (.istore 4) 2 5 := by decide +kernel
theorem dX4_deepestOfFamily_5 : Dn cX4_deepestOfFamily 5 (.iload 4) 2 7 := by decide +kernel
theorem dX4_deepestOfFamily_7 : Dn cX4_deepestOfFamily 7 (.aload_n 1) 1 8 := by decide +kernel
theorem dX4_deepestOfFamily_8 : Dn cX4_deepestOfFamily 8 (.getfield 73) 3 11 := by decide +kernel
theorem dX4_deepestOfFamily_11 : Db cX4_deepestOfFamily 11 (.if_icmp .ge 32) (32) 14 43 := by decide +kernel
theorem dX4_deepestOfFamily_14 : Dn cX4_deepestOfFamily 14 (.aload_n 0) 1 15 := by decide +kernel
theorem dX4_deepestOfFamily_15 : Dn cX4_deepestOfFamily 15 (.getfield 23) 3 18 := by decide +kernel
theorem dX4_deepestOfFamily_18 : Dn cX4_deepestOfFamily 18 (.iload 4) 2 20 := by decide +kernel
theorem dX4_deepestOfFamily_20 : Dn cX4_deepestOfFamily 20 (.iaload) 1 21 := by decide +kernel
theorem dX4_deepestOfFamily_21 : Dn cX4_deepestOfFamily 21 (.iload_n 2) 1 22 := by decide +kernel
theorem dX4_deepestOfFamily_22 : Db cX4_deepestOfFamily 22 (.if_icmp .ne 15) (15) 25 37 := by decide +kernel
theorem dX4_deepestOfFamily_25 : Dn cX4_deepestOfFamily 25 (.iload_n 3) 1 26 := by decide +kernel
theorem dX4_deepestOfFamily_26 : Dn cX4_deepestOfFamily 26 (.aload_n 0) 1 27 := by decide +kernel
theorem dX4_deepestOfFamily_27 : Dn cX4_deepestOfFamily 27 (.getfield 26) 3 30 := by decide +kernel
theorem dX4_deepestOfFamily_30 : Dn cX4_deepestOfFamily 30 (.iload 4) 2 32 := by decide +kernel
theorem dX4_deepestOfFamily_32 : Dn cX4_deepestOfFamily 32 (.iaload) 1 33 := by decide +kernel
theorem dX4_deepestOfFamily_33 : Dn cX4_deepestOfFamily 33 (.invokestatic 81) 3 36 := by decide +kernel
theorem dX4_deepestOfFamily_36 : Dn cX4_deepestOfFamily 36 (.istore_n 3) 1 37 := by decide +kernel
theorem dX4_deepestOfFamily_37 : Dn cX4_deepestOfFamily 37 (.iinc 4 1) 3 40 := by decide +kernel
theorem dX4_deepestOfFamily_40 : Db cX4_deepestOfFamily 40 (.goto (-35)) (-35) 43 5 := by decide +kernel
theorem dX4_deepestOfFamily_43 : Dn cX4_deepestOfFamily 43 (.iload_n 3) 1 44 := by decide +kernel
theorem dX4_deepestOfFamily_44 : Dn cX4_deepestOfFamily 44 (.ireturn) 1 45 := by decide +kernel
theorem dX4_howManyFirst_0 : Dn cX4_howManyFirst 0 (.iconst 0) 1 1 := by decide +kernel
theorem dX4_howManyFirst_1 : Dn cX4_howManyFirst 1 (.istore_n 2) 1 2 := by decide +kernel
theorem dX4_howManyFirst_2 : Dn cX4_howManyFirst 2 (.iconst 0) 1 3 := by decide +kernel
theorem dX4_howManyFirst_3 : Dn cX4_howManyFirst 3 (.istore_n 3) 1 4 := by decide +kernel
theorem dX4_howManyFirst_4 : Dn cX4_howManyFirst 4 (.iload_n 3) 1 5 := by decide +kernel
theorem dX4_howManyFirst_5 : Dn cX4_howManyFirst 5 (.aload_n 1) 1 6 := by decide +kernel
theorem dX4_howManyFirst_6 : Dn cX4_howManyFirst 6 (.getfield 73) 3 9 := by decide +kernel
theorem dX4_howManyFirst_9 : Db cX4_howManyFirst 9 (.if_icmp .ge 22) (22) 12 31 := by decide +kernel
theorem dX4_howManyFirst_12 : Dn cX4_howManyFirst 12 (.aload_n 0) 1 13 := by decide +kernel
theorem dX4_howManyFirst_13 : Dn cX4_howManyFirst 13 (.getfield 23) 3 16 := by decide +kernel
theorem dX4_howManyFirst_16 : Dn cX4_howManyFirst 16 (.iload_n 3) 1 17 := by decide +kernel
theorem dX4_howManyFirst_17 : Dn cX4_howManyFirst 17 (.iaload) 1 18 := by decide +kernel
theorem dX4_howManyFirst_18 : Dn cX4_howManyFirst 18 (.iload_n 3) 1 19 := by decide +kernel
theorem dX4_howManyFirst_19 : Db cX4_howManyFirst 19 (.if_icmp .ne 6) (6) 22 25 := by decide +kernel
theorem dX4_howManyFirst_22 : Dn cX4_howManyFirst 22 (.iinc 2 1) 3 25 := by decide +kernel
theorem dX4_howManyFirst_25 : Dn cX4_howManyFirst 25 (.iinc 3 1) 3 28 := by decide +kernel
theorem dX4_howManyFirst_28 : Db cX4_howManyFirst 28 (.goto (-24)) (-24) 31 4 := by decide +kernel
theorem dX4_howManyFirst_31 : Dn cX4_howManyFirst 31 (.iload_n 2) 1 32 := by decide +kernel
theorem dX4_howManyFirst_32 : Dn cX4_howManyFirst 32 (.ireturn) 1 33 := by decide +kernel
theorem dX4_firstAt_0 : Dn cX4_firstAt 0 (.iconst 0) 1 1 := by decide +kernel
theorem dX4_firstAt_1 : Dn cX4_firstAt 1 (.istore_n 3) 1 2 := by decide +kernel
theorem dX4_firstAt_2 : Dn cX4_firstAt 2 (.iconst 0) 1 3 := by decide +kernel
theorem dX4_firstAt_3 : Dn cX4_firstAt 3 (.istore 4) 2 5 := by decide +kernel
theorem dX4_firstAt_5 : Dn cX4_firstAt 5 (.iload 4) 2 7 := by decide +kernel
theorem dX4_firstAt_7 : Dn cX4_firstAt 7 (.aload_n 1) 1 8 := by decide +kernel
theorem dX4_firstAt_8 : Dn cX4_firstAt 8 (.getfield 73) 3 11 := by decide +kernel
theorem dX4_firstAt_11 : Db cX4_firstAt 11 (.if_icmp .ge 41) (41) 14 52 := by decide +kernel
theorem dX4_firstAt_14 : Dn cX4_firstAt 14 (.aload_n 1) 1 15 := by decide +kernel
theorem dX4_firstAt_15 : Dn cX4_firstAt 15 (.getfield 70) 3 18 := by decide +kernel
theorem dX4_firstAt_18 : Dn cX4_firstAt 18 (.iload 4) 2 20 := by decide +kernel
theorem dX4_firstAt_20 : Dn cX4_firstAt 20 (.iaload) 1 21 := by decide +kernel
theorem dX4_firstAt_21 : Dn cX4_firstAt 21 (.istore 5) 2 23 := by decide +kernel
theorem dX4_firstAt_23 : Dn cX4_firstAt 23 (.aload_n 0) 1 24 := by decide +kernel
theorem dX4_firstAt_24 : Dn cX4_firstAt 24 (.getfield 23) 3 27 := by decide +kernel
theorem dX4_firstAt_27 : Dn cX4_firstAt 27 (.iload 5) 2 29 := by decide +kernel
theorem dX4_firstAt_29 : Dn cX4_firstAt 29 (.iaload) 1 30 := by decide +kernel
theorem dX4_firstAt_30 : Dn cX4_firstAt 30 (.iload 5) 2 32 := by decide +kernel
theorem dX4_firstAt_32 : Db cX4_firstAt 32 (.if_icmp .ne 14) (14) 35 46 := by decide +kernel
theorem dX4_firstAt_35 : Dn cX4_firstAt 35 (.iload_n 3) 1 36 := by decide +kernel
theorem dX4_firstAt_36 : Dn cX4_firstAt 36 (.iload_n 2) 1 37 := by decide +kernel
theorem dX4_firstAt_37 : Db cX4_firstAt 37 (.if_icmp .ne 6) (6) 40 43 := by decide +kernel
theorem dX4_firstAt_40 : Dn cX4_firstAt 40 (.iload 5) 2 42 := by decide +kernel
theorem dX4_firstAt_42 : Dn cX4_firstAt 42 (.ireturn) 1 43 := by decide +kernel
theorem dX4_firstAt_43 : Dn cX4_firstAt 43 (.iinc 3 1) 3 46 := by decide +kernel
theorem dX4_firstAt_46 : Dn cX4_firstAt 46 (.iinc 4 1) 3 49 := by decide +kernel
theorem dX4_firstAt_49 : Db cX4_firstAt 49 (.goto (-44)) (-44) 52 5 := by decide +kernel
theorem dX4_firstAt_52 : Dn cX4_firstAt 52 (.bipush (-6)) 2 54 := by decide +kernel
theorem dX4_firstAt_54 : Dn cX4_firstAt 54 (.ireturn) 1 55 := by decide +kernel
theorem dX4_drawn_0 : Dn cX4_drawn 0 (.iload_n 2) 1 1 := by decide +kernel
theorem dX4_drawn_1 : Dn cX4_drawn 1 (.i2l) 1 2 := by decide +kernel
theorem dX4_drawn_2 : Dn cX4_drawn 2 (.lstore 6) 2 4 := by decide +kernel
theorem dX4_drawn_4 : Dn cX4_drawn 4 (.aload_n 1) 1 5 := by decide +kernel
theorem dX4_drawn_5 : Dn cX4_drawn 5 (.iload_n 3) 1 6 := by decide +kernel
theorem dX4_drawn_6 : Dn cX4_drawn 6 (.invokevirtual 63) 3 9 := by decide +kernel
theorem dX4_drawn_9 : Dn cX4_drawn 9 (.istore 8) 2 11 := by decide +kernel
theorem dX4_drawn_11 : Dn cX4_drawn 11 (.iconst 0) 1 12 := by decide +kernel
theorem dX4_drawn_12 : Dn cX4_drawn 12 (.istore 9) 2 14 := by decide +kernel
theorem dX4_drawn_14 : Dn cX4_drawn 14 (.iload 9) 2 16 := by decide +kernel
theorem dX4_drawn_16 : Dn cX4_drawn 16 (.iload 8) 2 18 := by decide +kernel
theorem dX4_drawn_18 : Db cX4_drawn 18 (.if_icmp .gt 47) (47) 21 65 := by decide +kernel
theorem dX4_drawn_21 : Dn cX4_drawn 21 (.iload 9) 2 23 := by decide +kernel
theorem dX4_drawn_23 : Dn cX4_drawn 23 (.aload_n 1) 1 24 := by decide +kernel
theorem dX4_drawn_24 : Dn cX4_drawn 24 (.getfield 73) 3 27 := by decide +kernel
theorem dX4_drawn_27 : Db cX4_drawn 27 (.if_icmp .ge 38) (38) 30 65 := by decide +kernel
theorem dX4_drawn_30 : Dn cX4_drawn 30 (.aload_n 1) 1 31 := by decide +kernel
theorem dX4_drawn_31 : Dn cX4_drawn 31 (.aload_n 1) 1 32 := by decide +kernel
theorem dX4_drawn_32 : Dn cX4_drawn 32 (.getfield 70) 3 35 := by decide +kernel
theorem dX4_drawn_35 : Dn cX4_drawn 35 (.iload 9) 2 37 := by decide +kernel
theorem dX4_drawn_37 : Dn cX4_drawn 37 (.iaload) 1 38 := by decide +kernel
theorem dX4_drawn_38 : Dn cX4_drawn 38 (.iconst (-1)) 1 39 := by decide +kernel
theorem dX4_drawn_39 : Dn cX4_drawn 39 (.iload 4) 2 41 := by decide +kernel
theorem dX4_drawn_41 : Dn cX4_drawn 41 (.invokevirtual 59) 3 44 := by decide +kernel
theorem dX4_drawn_44 : Db cX4_drawn 44 (.ifCond .eq 15) (15) 47 59 := by decide +kernel
theorem dX4_drawn_47 : Dn cX4_drawn 47 (.lload 6) 2 49 := by decide +kernel
theorem dX4_drawn_49 : Dn cX4_drawn 49 (.ldc2_w 84) 3 52 := by decide +kernel
theorem dX4_drawn_52 : Dn cX4_drawn 52 (.lmul) 1 53 := by decide +kernel
theorem dX4_drawn_53 : Dn cX4_drawn 53 (.ldc2_w 86) 3 56 := by decide +kernel
theorem dX4_drawn_56 : Dn cX4_drawn 56 (.lrem) 1 57 := by decide +kernel
theorem dX4_drawn_57 : Dn cX4_drawn 57 (.lstore 6) 2 59 := by decide +kernel
theorem dX4_drawn_59 : Dn cX4_drawn 59 (.iinc 9 1) 3 62 := by decide +kernel
theorem dX4_drawn_62 : Db cX4_drawn 62 (.goto (-48)) (-48) 65 14 := by decide +kernel
theorem dX4_drawn_65 : Dn cX4_drawn 65 (.aload_n 0) 1 66 := by decide +kernel
theorem dX4_drawn_66 : Dn cX4_drawn 66 (.aload_n 1) 1 67 := by decide +kernel
theorem dX4_drawn_67 : Dn cX4_drawn 67 (.iload_n 3) 1 68 := by decide +kernel
theorem dX4_drawn_68 : Dn cX4_drawn 68 (.iload 4) 2 70 := by decide +kernel
theorem dX4_drawn_70 : Dn cX4_drawn 70 (.iload 5) 2 72 := by decide +kernel
theorem dX4_drawn_72 : Dn cX4_drawn 72 (.invokevirtual 88) 3 75 := by decide +kernel
theorem dX4_drawn_75 : Dn cX4_drawn 75 (.istore 9) 2 77 := by decide +kernel
theorem dX4_drawn_77 : Dn cX4_drawn 77 (.iload 9) 2 79 := by decide +kernel
theorem dX4_drawn_79 : Db cX4_drawn 79 (.ifCond .le 16) (16) 82 95 := by decide +kernel
theorem dX4_drawn_82 : Dn cX4_drawn 82 (.lload 6) 2 84 := by decide +kernel
theorem dX4_drawn_84 : Dn cX4_drawn 84 (.iload 9) 2 86 := by decide +kernel
theorem dX4_drawn_86 : Dn cX4_drawn 86 (.i2l) 1 87 := by decide +kernel
theorem dX4_drawn_87 : Dn cX4_drawn 87 (.lrem) 1 88 := by decide +kernel
theorem dX4_drawn_88 : Dn cX4_drawn 88 (.iload 5) 2 90 := by decide +kernel
end
section
theorem dX4_drawn_90 : Dn cX4_drawn 90 (.i2l) 1 91 := by decide +kernel
theorem dX4_drawn_91 : Dn cX4_drawn 91 (.lsub) 1 92 := by decide +kernel
theorem dX4_drawn_92 : Db cX4_drawn 92 (.goto 6) (6) 95 98 := by decide +kernel
theorem dX4_drawn_95 : Dn cX4_drawn 95 (.ldc2_w 91) 3 98 := by decide +kernel
theorem dX4_drawn_98 : Dn cX4_drawn 98 (.lstore 10) 2 100 := by decide +kernel
theorem dX4_drawn_100 : Dn cX4_drawn 100 (.iconst 0) 1 101 := by decide +kernel
theorem dX4_drawn_101 : Dn cX4_drawn 101 (.istore 12) 2 103 := by decide +kernel
theorem dX4_drawn_103 : Dn cX4_drawn 103 (.iload 12) 2 105 := by decide +kernel
theorem dX4_drawn_105 : Dn cX4_drawn 105 (.iload 8) 2 107 := by decide +kernel
theorem dX4_drawn_107 : Db cX4_drawn 107 (.if_icmp .ge 65) (65) 110 172 := by decide +kernel
theorem dX4_drawn_110 : Dn cX4_drawn 110 (.lload 10) 2 112 := by decide +kernel
theorem dX4_drawn_112 : Dn cX4_drawn 112 (.lconst 0) 1 113 := by decide +kernel
theorem dX4_drawn_113 : Dn cX4_drawn 113 (.lcmp) 1 114 := by decide +kernel
theorem dX4_drawn_114 : Db cX4_drawn 114 (.ifCond .lt 58) (58) 117 172 := by decide +kernel
theorem dX4_drawn_117 : Dn cX4_drawn 117 (.aload_n 1) 1 118 := by decide +kernel
theorem dX4_drawn_118 : Dn cX4_drawn 118 (.getfield 70) 3 121 := by decide +kernel
theorem dX4_drawn_121 : Dn cX4_drawn 121 (.iload 12) 2 123 := by decide +kernel
theorem dX4_drawn_123 : Dn cX4_drawn 123 (.iaload) 1 124 := by decide +kernel
theorem dX4_drawn_124 : Dn cX4_drawn 124 (.istore 13) 2 126 := by decide +kernel
theorem dX4_drawn_126 : Dn cX4_drawn 126 (.lload 10) 2 128 := by decide +kernel
theorem dX4_drawn_128 : Dn cX4_drawn 128 (.aload_n 1) 1 129 := by decide +kernel
theorem dX4_drawn_129 : Dn cX4_drawn 129 (.iload 13) 2 131 := by decide +kernel
theorem dX4_drawn_131 : Dn cX4_drawn 131 (.iconst (-1)) 1 132 := by decide +kernel
theorem dX4_drawn_132 : Dn cX4_drawn 132 (.iload 4) 2 134 := by decide +kernel
theorem dX4_drawn_134 : Dn cX4_drawn 134 (.invokevirtual 59) 3 137 := by decide +kernel
theorem dX4_drawn_137 : Db cX4_drawn 137 (.ifCond .eq 15) (15) 140 152 := by decide +kernel
theorem dX4_drawn_140 : Dn cX4_drawn 140 (.aload_n 0) 1 141 := by decide +kernel
theorem dX4_drawn_141 : Dn cX4_drawn 141 (.aload_n 1) 1 142 := by decide +kernel
theorem dX4_drawn_142 : Dn cX4_drawn 142 (.iload_n 3) 1 143 := by decide +kernel
theorem dX4_drawn_143 : Dn cX4_drawn 143 (.iload 13) 2 145 := by decide +kernel
theorem dX4_drawn_145 : Dn cX4_drawn 145 (.invokevirtual 66) 3 148 := by decide +kernel
theorem dX4_drawn_148 : Dn cX4_drawn 148 (.i2l) 1 149 := by decide +kernel
theorem dX4_drawn_149 : Db cX4_drawn 149 (.goto 4) (4) 152 153 := by decide +kernel
theorem dX4_drawn_152 : Dn cX4_drawn 152 (.lconst 0) 1 153 := by decide +kernel
theorem dX4_drawn_153 : Dn cX4_drawn 153 (.lsub) 1 154 := by decide +kernel
theorem dX4_drawn_154 : Dn cX4_drawn 154 (.lstore 10) 2 156 := by decide +kernel
theorem dX4_drawn_156 : Dn cX4_drawn 156 (.lload 10) 2 158 := by decide +kernel
theorem dX4_drawn_158 : Dn cX4_drawn 158 (.lconst 0) 1 159 := by decide +kernel
theorem dX4_drawn_159 : Dn cX4_drawn 159 (.lcmp) 1 160 := by decide +kernel
theorem dX4_drawn_160 : Db cX4_drawn 160 (.ifCond .ge 6) (6) 163 166 := by decide +kernel
theorem dX4_drawn_163 : Dn cX4_drawn 163 (.iload 13) 2 165 := by decide +kernel
theorem dX4_drawn_165 : Dn cX4_drawn 165 (.ireturn) 1 166 := by decide +kernel
theorem dX4_drawn_166 : Dn cX4_drawn 166 (.iinc 12 1) 3 169 := by decide +kernel
theorem dX4_drawn_169 : Db cX4_drawn 169 (.goto (-66)) (-66) 172 103 := by decide +kernel
theorem dX4_drawn_172 : Dn cX4_drawn 172 (.bipush (-6)) 2 174 := by decide +kernel
theorem dX4_drawn_174 : Dn cX4_drawn 174 (.ireturn) 1 175 := by decide +kernel
theorem dX5_partOf_0 : Dn cX5_partOf 0 (.lload_n 0) 1 1 := by decide +kernel
theorem dX5_partOf_1 : Dn cX5_partOf 1 (.lload_n 2) 1 2 := by decide +kernel
theorem dX5_partOf_2 : Dn cX5_partOf 2 (.invokestatic 7) 3 5 := by decide +kernel
theorem dX5_partOf_5 : Dn cX5_partOf 5 (.lstore 5) 2 7 := by decide +kernel
theorem dX5_partOf_7 : Dn cX5_partOf 7 (.lload_n 0) 1 8 := by decide +kernel
theorem dX5_partOf_8 : Dn cX5_partOf 8 (.lconst 0) 1 9 := by decide +kernel
theorem dX5_partOf_9 : Dn cX5_partOf 9 (.lcmp) 1 10 := by decide +kernel
theorem dX5_partOf_10 : Db cX5_partOf 10 (.ifCond .eq 10) (10) 13 20 := by decide +kernel
theorem dX5_partOf_13 : Dn cX5_partOf 13 (.lload 5) 2 15 := by decide +kernel
theorem dX5_partOf_15 : Dn cX5_partOf 15 (.lconst 0) 1 16 := by decide +kernel
theorem dX5_partOf_16 : Dn cX5_partOf 16 (.lcmp) 1 17 := by decide +kernel
theorem dX5_partOf_17 : Db cX5_partOf 17 (.ifCond .ne 14) (14) 20 31 := by decide +kernel
theorem dX5_partOf_20 : Dn cX5_partOf 20 (.iload 4) 2 22 := by decide +kernel
theorem dX5_partOf_22 : Db cX5_partOf 22 (.ifCond .ne 7) (7) 25 29 := by decide +kernel
theorem dX5_partOf_25 : Dn cX5_partOf 25 (.lconst 0) 1 26 := by decide +kernel
theorem dX5_partOf_26 : Db cX5_partOf 26 (.goto 4) (4) 29 30 := by decide +kernel
theorem dX5_partOf_29 : Dn cX5_partOf 29 (.lconst 1) 1 30 := by decide +kernel
theorem dX5_partOf_30 : Dn cX5_partOf 30 (.lreturn) 1 31 := by decide +kernel
theorem dX5_partOf_31 : Dn cX5_partOf 31 (.iload 4) 2 33 := by decide +kernel
theorem dX5_partOf_33 : Db cX5_partOf 33 (.ifCond .ne 10) (10) 36 43 := by decide +kernel
theorem dX5_partOf_36 : Dn cX5_partOf 36 (.lload_n 0) 1 37 := by decide +kernel
theorem dX5_partOf_37 : Dn cX5_partOf 37 (.lload 5) 2 39 := by decide +kernel
theorem dX5_partOf_39 : Dn cX5_partOf 39 (.ldiv) 1 40 := by decide +kernel
theorem dX5_partOf_40 : Db cX5_partOf 40 (.goto 7) (7) 43 47 := by decide +kernel
theorem dX5_partOf_43 : Dn cX5_partOf 43 (.lload_n 2) 1 44 := by decide +kernel
theorem dX5_partOf_44 : Dn cX5_partOf 44 (.lload 5) 2 46 := by decide +kernel
theorem dX5_partOf_46 : Dn cX5_partOf 46 (.ldiv) 1 47 := by decide +kernel
theorem dX5_partOf_47 : Dn cX5_partOf 47 (.lreturn) 1 48 := by decide +kernel
theorem dX5_greatestDivisor_0 : Dn cX5_greatestDivisor 0 (.lload_n 0) 1 1 := by decide +kernel
theorem dX5_greatestDivisor_1 : Dn cX5_greatestDivisor 1 (.lstore 4) 2 3 := by decide +kernel
theorem dX5_greatestDivisor_3 : Dn cX5_greatestDivisor 3 (.lload_n 2) 1 4 := by decide +kernel
theorem dX5_greatestDivisor_4 : Dn cX5_greatestDivisor 4 (.lstore 6) 2 6 := by decide +kernel
theorem dX5_greatestDivisor_6 : Dn cX5_greatestDivisor 6 (.iconst 0) 1 7 := by decide +kernel
theorem dX5_greatestDivisor_7 : Dn cX5_greatestDivisor 7 (.istore 8) 2 9 := by decide +kernel
theorem dX5_greatestDivisor_9 : Dn cX5_greatestDivisor 9 (.iload 8) 2 11 := by decide +kernel
theorem dX5_greatestDivisor_11 : Dn cX5_greatestDivisor 11 (.bipush 100) 2 13 := by decide +kernel
theorem dX5_greatestDivisor_13 : Db cX5_greatestDivisor 13 (.if_icmp .ge 31) (31) 16 44 := by decide +kernel
theorem dX5_greatestDivisor_16 : Dn cX5_greatestDivisor 16 (.lload 6) 2 18 := by decide +kernel
theorem dX5_greatestDivisor_18 : Dn cX5_greatestDivisor 18 (.lconst 0) 1 19 := by decide +kernel
theorem dX5_greatestDivisor_19 : Dn cX5_greatestDivisor 19 (.lcmp) 1 20 := by decide +kernel
theorem dX5_greatestDivisor_20 : Db cX5_greatestDivisor 20 (.ifCond .eq 24) (24) 23 44 := by decide +kernel
theorem dX5_greatestDivisor_23 : Dn cX5_greatestDivisor 23 (.lload 4) 2 25 := by decide +kernel
theorem dX5_greatestDivisor_25 : Dn cX5_greatestDivisor 25 (.lload 6) 2 27 := by decide +kernel
theorem dX5_greatestDivisor_27 : Dn cX5_greatestDivisor 27 (.lrem) 1 28 := by decide +kernel
theorem dX5_greatestDivisor_28 : Dn cX5_greatestDivisor 28 (.lstore 9) 2 30 := by decide +kernel
theorem dX5_greatestDivisor_30 : Dn cX5_greatestDivisor 30 (.lload 6) 2 32 := by decide +kernel
theorem dX5_greatestDivisor_32 : Dn cX5_greatestDivisor 32 (.lstore 4) 2 34 := by decide +kernel
theorem dX5_greatestDivisor_34 : Dn cX5_greatestDivisor 34 (.lload 9) 2 36 := by decide +kernel
theorem dX5_greatestDivisor_36 : Dn cX5_greatestDivisor 36 (.lstore 6) 2 38 := by decide +kernel
theorem dX5_greatestDivisor_38 : Dn cX5_greatestDivisor 38 (.iinc 8 1) 3 41 := by decide +kernel
theorem dX5_greatestDivisor_41 : Db cX5_greatestDivisor 41 (.goto (-32)) (-32) 44 9 := by decide +kernel
theorem dX5_greatestDivisor_44 : Dn cX5_greatestDivisor 44 (.lload 4) 2 46 := by decide +kernel
theorem dX5_greatestDivisor_46 : Dn cX5_greatestDivisor 46 (.lreturn) 1 47 := by decide +kernel
theorem dX5_choose_0 : Dn cX5_choose 0 (.iload_n 1) 1 1 := by decide +kernel
theorem dX5_choose_1 : Db cX5_choose 1 (.ifCond .lt 8) (8) 4 9 := by decide +kernel
theorem dX5_choose_4 : Dn cX5_choose 4 (.iload_n 1) 1 5 := by decide +kernel
theorem dX5_choose_5 : Dn cX5_choose 5 (.iload_n 0) 1 6 := by decide +kernel
theorem dX5_choose_6 : Db cX5_choose 6 (.if_icmp .le 5) (5) 9 11 := by decide +kernel
theorem dX5_choose_9 : Dn cX5_choose 9 (.lconst 0) 1 10 := by decide +kernel
theorem dX5_choose_10 : Dn cX5_choose 10 (.lreturn) 1 11 := by decide +kernel
theorem dX5_choose_11 : Dn cX5_choose 11 (.lconst 1) 1 12 := by decide +kernel
theorem dX5_choose_12 : Dn cX5_choose 12 (.lstore_n 2) 1 13 := by decide +kernel
theorem dX5_choose_13 : Dn cX5_choose 13 (.iconst 1) 1 14 := by decide +kernel
theorem dX5_choose_14 : Dn cX5_choose 14 (.istore 4) 2 16 := by decide +kernel
theorem dX5_choose_16 : Dn cX5_choose 16 (.iload 4) 2 18 := by decide +kernel
theorem dX5_choose_18 : Dn cX5_choose 18 (.iload_n 1) 1 19 := by decide +kernel
theorem dX5_choose_19 : Db cX5_choose 19 (.if_icmp .gt 23) (23) 22 42 := by decide +kernel
theorem dX5_choose_22 : Dn cX5_choose 22 (.lload_n 2) 1 23 := by decide +kernel
theorem dX5_choose_23 : Dn cX5_choose 23 (.iload_n 0) 1 24 := by decide +kernel
theorem dX5_choose_24 : Dn cX5_choose 24 (.iload_n 1) 1 25 := by decide +kernel
theorem dX5_choose_25 : Dn cX5_choose 25 (.isub) 1 26 := by decide +kernel
theorem dX5_choose_26 : Dn cX5_choose 26 (.iload 4) 2 28 := by decide +kernel
theorem dX5_choose_28 : Dn cX5_choose 28 (.iadd) 1 29 := by decide +kernel
theorem dX5_choose_29 : Dn cX5_choose 29 (.i2l) 1 30 := by decide +kernel
theorem dX5_choose_30 : Dn cX5_choose 30 (.lmul) 1 31 := by decide +kernel
theorem dX5_choose_31 : Dn cX5_choose 31 (.iload 4) 2 33 := by decide +kernel
theorem dX5_choose_33 : Dn cX5_choose 33 (.i2l) 1 34 := by decide +kernel
theorem dX5_choose_34 : Dn cX5_choose 34 (.ldiv) 1 35 := by decide +kernel
theorem dX5_choose_35 : Dn cX5_choose 35 (.lstore_n 2) 1 36 := by decide +kernel
theorem dX5_choose_36 : Dn cX5_choose 36 (.iinc 4 1) 3 39 := by decide +kernel
theorem dX5_choose_39 : Db cX5_choose 39 (.goto (-23)) (-23) 42 16 := by decide +kernel
theorem dX5_choose_42 : Dn cX5_choose 42 (.lload_n 2) 1 43 := by decide +kernel
theorem dX5_choose_43 : Dn cX5_choose 43 (.lreturn) 1 44 := by decide +kernel
theorem dX5_power_0 : Dn cX5_power 0 (.lconst 1) 1 1 := by decide +kernel
theorem dX5_power_1 : Dn cX5_power 1 (.lstore_n 2) 1 2 := by decide +kernel
theorem dX5_power_2 : Dn cX5_power 2 (.iconst 0) 1 3 := by decide +kernel
theorem dX5_power_3 : Dn cX5_power 3 (.istore 4) 2 5 := by decide +kernel
theorem dX5_power_5 : Dn cX5_power 5 (.iload 4) 2 7 := by decide +kernel
theorem dX5_power_7 : Dn cX5_power 7 (.iload_n 1) 1 8 := by decide +kernel
theorem dX5_power_8 : Db cX5_power 8 (.if_icmp .ge 14) (14) 11 22 := by decide +kernel
theorem dX5_power_11 : Dn cX5_power 11 (.lload_n 2) 1 12 := by decide +kernel
theorem dX5_power_12 : Dn cX5_power 12 (.iload_n 0) 1 13 := by decide +kernel
theorem dX5_power_13 : Dn cX5_power 13 (.i2l) 1 14 := by decide +kernel
theorem dX5_power_14 : Dn cX5_power 14 (.lmul) 1 15 := by decide +kernel
theorem dX5_power_15 : Dn cX5_power 15 (.lstore_n 2) 1 16 := by decide +kernel
theorem dX5_power_16 : Dn cX5_power 16 (.iinc 4 1) 3 19 := by decide +kernel
theorem dX5_power_19 : Db cX5_power 19 (.goto (-14)) (-14) 22 5 := by decide +kernel
theorem dX5_power_22 : Dn cX5_power 22 (.lload_n 2) 1 23 := by decide +kernel
theorem dX5_power_23 : Dn cX5_power 23 (.lreturn) 1 24 := by decide +kernel
theorem dX5_waysToDeal_0 : Dn cX5_waysToDeal 0 (.iload_n 0) 1 1 := by decide +kernel
theorem dX5_waysToDeal_1 : Dn cX5_waysToDeal 1 (.iload_n 1) 1 2 := by decide +kernel
theorem dX5_waysToDeal_2 : Dn cX5_waysToDeal 2 (.iadd) 1 3 := by decide +kernel
theorem dX5_waysToDeal_3 : Dn cX5_waysToDeal 3 (.iload_n 2) 1 4 := by decide +kernel
theorem dX5_waysToDeal_4 : Dn cX5_waysToDeal 4 (.isub) 1 5 := by decide +kernel
theorem dX5_waysToDeal_5 : Dn cX5_waysToDeal 5 (.istore 4) 2 7 := by decide +kernel
theorem dX5_waysToDeal_7 : Dn cX5_waysToDeal 7 (.lconst 0) 1 8 := by decide +kernel
theorem dX5_waysToDeal_8 : Dn cX5_waysToDeal 8 (.lstore 5) 2 10 := by decide +kernel
theorem dX5_waysToDeal_10 : Dn cX5_waysToDeal 10 (.iload_n 3) 1 11 := by decide +kernel
theorem dX5_waysToDeal_11 : Dn cX5_waysToDeal 11 (.istore 7) 2 13 := by decide +kernel
theorem dX5_waysToDeal_13 : Dn cX5_waysToDeal 13 (.iload 7) 2 15 := by decide +kernel
theorem dX5_waysToDeal_15 : Dn cX5_waysToDeal 15 (.iload_n 2) 1 16 := by decide +kernel
theorem dX5_waysToDeal_16 : Db cX5_waysToDeal 16 (.if_icmp .gt 36) (36) 19 52 := by decide +kernel
theorem dX5_waysToDeal_19 : Dn cX5_waysToDeal 19 (.iload 7) 2 21 := by decide +kernel
theorem dX5_waysToDeal_21 : Dn cX5_waysToDeal 21 (.iload_n 0) 1 22 := by decide +kernel
theorem dX5_waysToDeal_22 : Db cX5_waysToDeal 22 (.if_icmp .gt 30) (30) 25 52 := by decide +kernel
theorem dX5_waysToDeal_25 : Dn cX5_waysToDeal 25 (.lload 5) 2 27 := by decide +kernel
theorem dX5_waysToDeal_27 : Dn cX5_waysToDeal 27 (.iload_n 2) 1 28 := by decide +kernel
theorem dX5_waysToDeal_28 : Dn cX5_waysToDeal 28 (.iload 7) 2 30 := by decide +kernel
theorem dX5_waysToDeal_30 : Dn cX5_waysToDeal 30 (.invokestatic 13) 3 33 := by decide +kernel
theorem dX5_waysToDeal_33 : Dn cX5_waysToDeal 33 (.iload 4) 2 35 := by decide +kernel
theorem dX5_waysToDeal_35 : Dn cX5_waysToDeal 35 (.iload_n 0) 1 36 := by decide +kernel
theorem dX5_waysToDeal_36 : Dn cX5_waysToDeal 36 (.iload 7) 2 38 := by decide +kernel
theorem dX5_waysToDeal_38 : Dn cX5_waysToDeal 38 (.isub) 1 39 := by decide +kernel
theorem dX5_waysToDeal_39 : Dn cX5_waysToDeal 39 (.invokestatic 13) 3 42 := by decide +kernel
theorem dX5_waysToDeal_42 : Dn cX5_waysToDeal 42 (.lmul) 1 43 := by decide +kernel
theorem dX5_waysToDeal_43 : Dn cX5_waysToDeal 43 (.ladd) 1 44 := by decide +kernel
theorem dX5_waysToDeal_44 : Dn cX5_waysToDeal 44 (.lstore 5) 2 46 := by decide +kernel
theorem dX5_waysToDeal_46 : Dn cX5_waysToDeal 46 (.iinc 7 1) 3 49 := by decide +kernel
theorem dX5_waysToDeal_49 : Db cX5_waysToDeal 49 (.goto (-36)) (-36) 52 13 := by decide +kernel
theorem dX5_waysToDeal_52 : Dn cX5_waysToDeal 52 (.lload 5) 2 54 := by decide +kernel
theorem dX5_waysToDeal_54 : Dn cX5_waysToDeal 54 (.lreturn) 1 55 := by decide +kernel
theorem dX5_waysForFew_0 : Dn cX5_waysForFew 0 (.lconst 0) 1 1 := by decide +kernel
theorem dX5_waysForFew_1 : Dn cX5_waysForFew 1 (.lstore 4) 2 3 := by decide +kernel
theorem dX5_waysForFew_3 : Dn cX5_waysForFew 3 (.iconst 0) 1 4 := by decide +kernel
theorem dX5_waysForFew_4 : Dn cX5_waysForFew 4 (.istore 6) 2 6 := by decide +kernel
theorem dX5_waysForFew_6 : Dn cX5_waysForFew 6 (.iload 6) 2 8 := by decide +kernel
theorem dX5_waysForFew_8 : Dn cX5_waysForFew 8 (.iload_n 1) 1 9 := by decide +kernel
theorem dX5_waysForFew_9 : Db cX5_waysForFew 9 (.if_icmp .gt 44) (44) 12 53 := by decide +kernel
theorem dX5_waysForFew_12 : Dn cX5_waysForFew 12 (.iload 6) 2 14 := by decide +kernel
theorem dX5_waysForFew_14 : Dn cX5_waysForFew 14 (.iload_n 0) 1 15 := by decide +kernel
theorem dX5_waysForFew_15 : Db cX5_waysForFew 15 (.if_icmp .gt 38) (38) 18 53 := by decide +kernel
theorem dX5_waysForFew_18 : Dn cX5_waysForFew 18 (.lload 4) 2 20 := by decide +kernel
theorem dX5_waysForFew_20 : Dn cX5_waysForFew 20 (.iload_n 0) 1 21 := by decide +kernel
theorem dX5_waysForFew_21 : Dn cX5_waysForFew 21 (.iload 6) 2 23 := by decide +kernel
theorem dX5_waysForFew_23 : Dn cX5_waysForFew 23 (.invokestatic 13) 3 26 := by decide +kernel
theorem dX5_waysForFew_26 : Dn cX5_waysForFew 26 (.iload_n 2) 1 27 := by decide +kernel
theorem dX5_waysForFew_27 : Dn cX5_waysForFew 27 (.iload 6) 2 29 := by decide +kernel
theorem dX5_waysForFew_29 : Dn cX5_waysForFew 29 (.invokestatic 17) 3 32 := by decide +kernel
theorem dX5_waysForFew_32 : Dn cX5_waysForFew 32 (.lmul) 1 33 := by decide +kernel
theorem dX5_waysForFew_33 : Dn cX5_waysForFew 33 (.iload_n 3) 1 34 := by decide +kernel
theorem dX5_waysForFew_34 : Dn cX5_waysForFew 34 (.iload_n 2) 1 35 := by decide +kernel
theorem dX5_waysForFew_35 : Dn cX5_waysForFew 35 (.isub) 1 36 := by decide +kernel
theorem dX5_waysForFew_36 : Dn cX5_waysForFew 36 (.iload_n 0) 1 37 := by decide +kernel
theorem dX5_waysForFew_37 : Dn cX5_waysForFew 37 (.iload 6) 2 39 := by decide +kernel
theorem dX5_waysForFew_39 : Dn cX5_waysForFew 39 (.isub) 1 40 := by decide +kernel
theorem dX5_waysForFew_40 : Dn cX5_waysForFew 40 (.invokestatic 17) 3 43 := by decide +kernel
theorem dX5_waysForFew_43 : Dn cX5_waysForFew 43 (.lmul) 1 44 := by decide +kernel
theorem dX5_waysForFew_44 : Dn cX5_waysForFew 44 (.ladd) 1 45 := by decide +kernel
theorem dX5_waysForFew_45 : Dn cX5_waysForFew 45 (.lstore 4) 2 47 := by decide +kernel
theorem dX5_waysForFew_47 : Dn cX5_waysForFew 47 (.iinc 6 1) 3 50 := by decide +kernel
theorem dX5_waysForFew_50 : Db cX5_waysForFew 50 (.goto (-44)) (-44) 53 6 := by decide +kernel
theorem dX5_waysForFew_53 : Dn cX5_waysForFew 53 (.lload 4) 2 55 := by decide +kernel
theorem dX5_waysForFew_55 : Dn cX5_waysForFew 55 (.lreturn) 1 56 := by decide +kernel
theorem dX6_init_0 : Dn cX6_init 0 (.aload_n 0) 1 1 := by decide +kernel
theorem dX6_init_1 : Dn cX6_init 1 (.invokespecial 3) 3 4 := by decide +kernel
theorem dX6_init_4 : Dn cX6_init 4 (.aload_n 0) 1 5 := by decide +kernel
theorem dX6_init_5 : Dn cX6_init 5 (.iconst 0) 1 6 := by decide +kernel
theorem dX6_init_6 : Dn cX6_init 6 (.putfield 9) 3 9 := by decide +kernel
theorem dX6_init_9 : Dn cX6_init 9 (.aload_n 0) 1 10 := by decide +kernel
theorem dX6_init_10 : Dn cX6_init 10 (.bipush 40) 2 12 := by decide +kernel
theorem dX6_init_12 : Dn cX6_init 12 (.newarray .int) 2 14 := by decide +kernel
theorem dX6_init_14 : Dn cX6_init 14 (.putfield 15) 3 17 := by decide +kernel
theorem dX6_init_17 : Dn cX6_init 17 (.aload_n 0) 1 18 := by decide +kernel
theorem dX6_init_18 : Dn cX6_init 18 (.bipush 40) 2 20 := by decide +kernel
theorem dX6_init_20 : Dn cX6_init 20 (.newarray .int) 2 22 := by decide +kernel
theorem dX6_init_22 : Dn cX6_init 22 (.putfield 19) 3 25 := by decide +kernel
theorem dX6_init_25 : Dn cX6_init 25 (.aload_n 0) 1 26 := by decide +kernel
theorem dX6_init_26 : Dn cX6_init 26 (.bipush 40) 2 28 := by decide +kernel
theorem dX6_init_28 : Dn cX6_init 28 (.newarray .int) 2 30 := by decide +kernel
theorem dX6_init_30 : Dn cX6_init 30 (.putfield 22) 3 33 := by decide +kernel
theorem dX6_init_33 : Dn cX6_init 33 (.aload_n 0) 1 34 := by decide +kernel
theorem dX6_init_34 : Dn cX6_init 34 (.bipush 40) 2 36 := by decide +kernel
theorem dX6_init_36 : Dn cX6_init 36 (.newarray .int) 2 38 := by decide +kernel
theorem dX6_init_38 : Dn cX6_init 38 (.putfield 25) 3 41 := by decide +kernel
theorem dX6_init_41 : Dn cX6_init 41 (.aload_n 0) 1 42 := by decide +kernel
theorem dX6_init_42 : Dn cX6_init 42 (.bipush 40) 2 44 := by decide +kernel
theorem dX6_init_44 : Dn cX6_init 44 (.newarray .int) 2 46 := by decide +kernel
theorem dX6_init_46 : Dn cX6_init 46 (.putfield 28) 3 49 := by decide +kernel
theorem dX6_init_49 : Dn cX6_init 49 (.aload_n 0) 1 50 := by decide +kernel
theorem dX6_init_50 : Dn cX6_init 50 (.bipush 40) 2 52 := by decide +kernel
theorem dX6_init_52 : Dn cX6_init 52 (.newarray .int) 2 54 := by decide +kernel
theorem dX6_init_54 : Dn cX6_init 54 (.putfield 31) 3 57 := by decide +kernel
theorem dX6_init_57 : Dn cX6_init 57 (.aload_n 0) 1 58 := by decide +kernel
theorem dX6_init_58 : Dn cX6_init 58 (.bipush 40) 2 60 := by decide +kernel
theorem dX6_init_60 : Dn cX6_init 60 (.newarray .boolean) 2 62 := by decide +kernel
theorem dX6_init_62 : Dn cX6_init 62 (.putfield 34) 3 65 := by decide +kernel
theorem dX6_init_65 : Dn cX6_init 65 (.aload_n 0) 1 66 := by decide +kernel
theorem dX6_init_66 : Dn cX6_init 66 (.bipush 40) 2 68 := by decide +kernel
theorem dX6_init_68 : Dn cX6_init 68 (.newarray .int) 2 70 := by decide +kernel
theorem dX6_init_70 : Dn cX6_init 70 (.putfield 38) 3 73 := by decide +kernel
theorem dX6_init_73 : Dn cX6_init 73 (.return_) 1 74 := by decide +kernel
theorem dX6_isFull_0 : Dn cX6_isFull 0 (.aload_n 0) 1 1 := by decide +kernel
theorem dX6_isFull_1 : Dn cX6_isFull 1 (.getfield 9) 3 4 := by decide +kernel
theorem dX6_isFull_4 : Dn cX6_isFull 4 (.bipush 40) 2 6 := by decide +kernel
theorem dX6_isFull_6 : Db cX6_isFull 6 (.if_icmp .lt 7) (7) 9 13 := by decide +kernel
theorem dX6_isFull_9 : Dn cX6_isFull 9 (.iconst 1) 1 10 := by decide +kernel
theorem dX6_isFull_10 : Db cX6_isFull 10 (.goto 4) (4) 13 14 := by decide +kernel
theorem dX6_isFull_13 : Dn cX6_isFull 13 (.iconst 0) 1 14 := by decide +kernel
theorem dX6_isFull_14 : Dn cX6_isFull 14 (.ireturn) 1 15 := by decide +kernel
theorem dX6_has_0 : Dn cX6_has 0 (.iload_n 1) 1 1 := by decide +kernel
theorem dX6_has_1 : Db cX6_has 1 (.ifCond .lt 15) (15) 4 16 := by decide +kernel
theorem dX6_has_4 : Dn cX6_has 4 (.iload_n 1) 1 5 := by decide +kernel
theorem dX6_has_5 : Dn cX6_has 5 (.aload_n 0) 1 6 := by decide +kernel
theorem dX6_has_6 : Dn cX6_has 6 (.getfield 9) 3 9 := by decide +kernel
theorem dX6_has_9 : Db cX6_has 9 (.if_icmp .ge 7) (7) 12 16 := by decide +kernel
theorem dX6_has_12 : Dn cX6_has 12 (.iconst 1) 1 13 := by decide +kernel
theorem dX6_has_13 : Db cX6_has 13 (.goto 4) (4) 16 17 := by decide +kernel
theorem dX6_has_16 : Dn cX6_has 16 (.iconst 0) 1 17 := by decide +kernel
theorem dX6_has_17 : Dn cX6_has 17 (.ireturn) 1 18 := by decide +kernel
theorem dX6_add_0 : Dn cX6_add 0 (.aload_n 0) 1 1 := by decide +kernel
theorem dX6_add_1 : Dn cX6_add 1 (.getfield 9) 3 4 := by decide +kernel
theorem dX6_add_4 : Dn cX6_add 4 (.istore 7) 2 6 := by decide +kernel
theorem dX6_add_6 : Dn cX6_add 6 (.aload_n 0) 1 7 := by decide +kernel
theorem dX6_add_7 : Dn cX6_add 7 (.getfield 15) 3 10 := by decide +kernel
theorem dX6_add_10 : Dn cX6_add 10 (.iload 7) 2 12 := by decide +kernel
theorem dX6_add_12 : Dn cX6_add 12 (.iload_n 1) 1 13 := by decide +kernel
theorem dX6_add_13 : Dn cX6_add 13 (.iastore) 1 14 := by decide +kernel
theorem dX6_add_14 : Dn cX6_add 14 (.aload_n 0) 1 15 := by decide +kernel
theorem dX6_add_15 : Dn cX6_add 15 (.getfield 19) 3 18 := by decide +kernel
theorem dX6_add_18 : Dn cX6_add 18 (.iload 7) 2 20 := by decide +kernel
theorem dX6_add_20 : Dn cX6_add 20 (.iload_n 2) 1 21 := by decide +kernel
theorem dX6_add_21 : Dn cX6_add 21 (.iastore) 1 22 := by decide +kernel
theorem dX6_add_22 : Dn cX6_add 22 (.aload_n 0) 1 23 := by decide +kernel
theorem dX6_add_23 : Dn cX6_add 23 (.getfield 22) 3 26 := by decide +kernel
theorem dX6_add_26 : Dn cX6_add 26 (.iload 7) 2 28 := by decide +kernel
theorem dX6_add_28 : Dn cX6_add 28 (.iload_n 3) 1 29 := by decide +kernel
theorem dX6_add_29 : Dn cX6_add 29 (.iastore) 1 30 := by decide +kernel
theorem dX6_add_30 : Dn cX6_add 30 (.aload_n 0) 1 31 := by decide +kernel
theorem dX6_add_31 : Dn cX6_add 31 (.getfield 25) 3 34 := by decide +kernel
theorem dX6_add_34 : Dn cX6_add 34 (.iload 7) 2 36 := by decide +kernel
theorem dX6_add_36 : Dn cX6_add 36 (.iload 4) 2 38 := by decide +kernel
theorem dX6_add_38 : Dn cX6_add 38 (.iastore) 1 39 := by decide +kernel
theorem dX6_add_39 : Dn cX6_add 39 (.aload_n 0) 1 40 := by decide +kernel
theorem dX6_add_40 : Dn cX6_add 40 (.getfield 28) 3 43 := by decide +kernel
theorem dX6_add_43 : Dn cX6_add 43 (.iload 7) 2 45 := by decide +kernel
theorem dX6_add_45 : Dn cX6_add 45 (.iload 5) 2 47 := by decide +kernel
theorem dX6_add_47 : Dn cX6_add 47 (.iastore) 1 48 := by decide +kernel
theorem dX6_add_48 : Dn cX6_add 48 (.aload_n 0) 1 49 := by decide +kernel
theorem dX6_add_49 : Dn cX6_add 49 (.getfield 31) 3 52 := by decide +kernel
theorem dX6_add_52 : Dn cX6_add 52 (.iload 7) 2 54 := by decide +kernel
theorem dX6_add_54 : Dn cX6_add 54 (.iload 6) 2 56 := by decide +kernel
theorem dX6_add_56 : Dn cX6_add 56 (.iastore) 1 57 := by decide +kernel
theorem dX6_add_57 : Dn cX6_add 57 (.aload_n 0) 1 58 := by decide +kernel
theorem dX6_add_58 : Dn cX6_add 58 (.getfield 34) 3 61 := by decide +kernel
theorem dX6_add_61 : Dn cX6_add 61 (.iload 7) 2 63 := by decide +kernel
theorem dX6_add_63 : Dn cX6_add 63 (.iconst 0) 1 64 := by decide +kernel
theorem dX6_add_64 : Dn cX6_add 64 (.bastore) 1 65 := by decide +kernel
theorem dX6_add_65 : Dn cX6_add 65 (.aload_n 0) 1 66 := by decide +kernel
theorem dX6_add_66 : Dn cX6_add 66 (.iload 7) 2 68 := by decide +kernel
theorem dX6_add_68 : Dn cX6_add 68 (.invokevirtual 41) 3 71 := by decide +kernel
theorem dX6_add_71 : Dn cX6_add 71 (.aload_n 0) 1 72 := by decide +kernel
theorem dX6_add_72 : Dn cX6_add 72 (.dup) 1 73 := by decide +kernel
theorem dX6_add_73 : Dn cX6_add 73 (.getfield 9) 3 76 := by decide +kernel
theorem dX6_add_76 : Dn cX6_add 76 (.iconst 1) 1 77 := by decide +kernel
theorem dX6_add_77 : Dn cX6_add 77 (.iadd) 1 78 := by decide +kernel
theorem dX6_add_78 : Dn cX6_add 78 (.putfield 9) 3 81 := by decide +kernel
theorem dX6_add_81 : Dn cX6_add 81 (.iload 7) 2 83 := by decide +kernel
theorem dX6_add_83 : Dn cX6_add 83 (.ireturn) 1 84 := by decide +kernel
theorem dX6_putInOrder_0 : Dn cX6_putInOrder 0 (.iload_n 1) 1 1 := by decide +kernel
theorem dX6_putInOrder_1 : Dn cX6_putInOrder 1 (.istore_n 2) 1 2 := by decide +kernel
theorem dX6_putInOrder_2 : Dn cX6_putInOrder 2 (.iload_n 2) 1 3 := by decide +kernel
theorem dX6_putInOrder_3 : Db cX6_putInOrder 3 (.ifCond .le 45) (45) 6 48 := by decide +kernel
theorem dX6_putInOrder_6 : Dn cX6_putInOrder 6 (.aload_n 0) 1 7 := by decide +kernel
theorem dX6_putInOrder_7 : Dn cX6_putInOrder 7 (.getfield 19) 3 10 := by decide +kernel
theorem dX6_putInOrder_10 : Dn cX6_putInOrder 10 (.aload_n 0) 1 11 := by decide +kernel
theorem dX6_putInOrder_11 : Dn cX6_putInOrder 11 (.getfield 38) 3 14 := by decide +kernel
theorem dX6_putInOrder_14 : Dn cX6_putInOrder 14 (.iload_n 2) 1 15 := by decide +kernel
theorem dX6_putInOrder_15 : Dn cX6_putInOrder 15 (.iconst 1) 1 16 := by decide +kernel
theorem dX6_putInOrder_16 : Dn cX6_putInOrder 16 (.isub) 1 17 := by decide +kernel
theorem dX6_putInOrder_17 : Dn cX6_putInOrder 17 (.iaload) 1 18 := by decide +kernel
theorem dX6_putInOrder_18 : Dn cX6_putInOrder 18 (.iaload) 1 19 := by decide +kernel
theorem dX6_putInOrder_19 : Dn cX6_putInOrder 19 (.aload_n 0) 1 20 := by decide +kernel
theorem dX6_putInOrder_20 : Dn cX6_putInOrder 20 (.getfield 19) 3 23 := by decide +kernel
theorem dX6_putInOrder_23 : Dn cX6_putInOrder 23 (.iload_n 1) 1 24 := by decide +kernel
theorem dX6_putInOrder_24 : Dn cX6_putInOrder 24 (.iaload) 1 25 := by decide +kernel
theorem dX6_putInOrder_25 : Db cX6_putInOrder 25 (.if_icmp .le 23) (23) 28 48 := by decide +kernel
theorem dX6_putInOrder_28 : Dn cX6_putInOrder 28 (.aload_n 0) 1 29 := by decide +kernel
theorem dX6_putInOrder_29 : Dn cX6_putInOrder 29 (.getfield 38) 3 32 := by decide +kernel
theorem dX6_putInOrder_32 : Dn cX6_putInOrder 32 (.iload_n 2) 1 33 := by decide +kernel
theorem dX6_putInOrder_33 : Dn cX6_putInOrder 33 (.aload_n 0) 1 34 := by decide +kernel
theorem dX6_putInOrder_34 : Dn cX6_putInOrder 34 (.getfield 38) 3 37 := by decide +kernel
theorem dX6_putInOrder_37 : Dn cX6_putInOrder 37 (.iload_n 2) 1 38 := by decide +kernel
theorem dX6_putInOrder_38 : Dn cX6_putInOrder 38 (.iconst 1) 1 39 := by decide +kernel
theorem dX6_putInOrder_39 : Dn cX6_putInOrder 39 (.isub) 1 40 := by decide +kernel
theorem dX6_putInOrder_40 : Dn cX6_putInOrder 40 (.iaload) 1 41 := by decide +kernel
theorem dX6_putInOrder_41 : Dn cX6_putInOrder 41 (.iastore) 1 42 := by decide +kernel
theorem dX6_putInOrder_42 : Dn cX6_putInOrder 42 (.iinc 2 (-1)) 3 45 := by decide +kernel
theorem dX6_putInOrder_45 : Db cX6_putInOrder 45 (.goto (-43)) (-43) 48 2 := by decide +kernel
theorem dX6_putInOrder_48 : Dn cX6_putInOrder 48 (.aload_n 0) 1 49 := by decide +kernel
theorem dX6_putInOrder_49 : Dn cX6_putInOrder 49 (.getfield 38) 3 52 := by decide +kernel
theorem dX6_putInOrder_52 : Dn cX6_putInOrder 52 (.iload_n 2) 1 53 := by decide +kernel
theorem dX6_putInOrder_53 : Dn cX6_putInOrder 53 (.iload_n 1) 1 54 := by decide +kernel
theorem dX6_putInOrder_54 : Dn cX6_putInOrder 54 (.iastore) 1 55 := by decide +kernel
theorem dX6_putInOrder_55 : Dn cX6_putInOrder 55 (.return_) 1 56 := by decide +kernel
theorem dX6_placeOf_0 : Dn cX6_placeOf 0 (.iconst 0) 1 1 := by decide +kernel
theorem dX6_placeOf_1 : Dn cX6_placeOf 1 (.istore_n 2) 1 2 := by decide +kernel
theorem dX6_placeOf_2 : Dn cX6_placeOf 2 (.iload_n 2) 1 3 := by decide +kernel
theorem dX6_placeOf_3 : Dn cX6_placeOf 3 (.aload_n 0) 1 4 := by decide +kernel
theorem dX6_placeOf_4 : Dn cX6_placeOf 4 (.getfield 9) 3 7 := by decide +kernel
theorem dX6_placeOf_7 : Db cX6_placeOf 7 (.if_icmp .ge 19) (19) 10 26 := by decide +kernel
theorem dX6_placeOf_10 : Dn cX6_placeOf 10 (.aload_n 0) 1 11 := by decide +kernel
theorem dX6_placeOf_11 : Dn cX6_placeOf 11 (.getfield 38) 3 14 := by decide +kernel
theorem dX6_placeOf_14 : Dn cX6_placeOf 14 (.iload_n 2) 1 15 := by decide +kernel
theorem dX6_placeOf_15 : Dn cX6_placeOf 15 (.iaload) 1 16 := by decide +kernel
theorem dX6_placeOf_16 : Dn cX6_placeOf 16 (.iload_n 1) 1 17 := by decide +kernel
theorem dX6_placeOf_17 : Db cX6_placeOf 17 (.if_icmp .eq 9) (9) 20 26 := by decide +kernel
theorem dX6_placeOf_20 : Dn cX6_placeOf 20 (.iinc 2 1) 3 23 := by decide +kernel
theorem dX6_placeOf_23 : Db cX6_placeOf 23 (.goto (-21)) (-21) 26 2 := by decide +kernel
theorem dX6_placeOf_26 : Dn cX6_placeOf 26 (.iload_n 2) 1 27 := by decide +kernel
theorem dX6_placeOf_27 : Dn cX6_placeOf 27 (.ireturn) 1 28 := by decide +kernel
theorem dX6_isCounted_0 : Dn cX6_isCounted 0 (.aload_n 0) 1 1 := by decide +kernel
theorem dX6_isCounted_1 : Dn cX6_isCounted 1 (.getfield 34) 3 4 := by decide +kernel
theorem dX6_isCounted_4 : Dn cX6_isCounted 4 (.iload_n 1) 1 5 := by decide +kernel
theorem dX6_isCounted_5 : Dn cX6_isCounted 5 (.baload) 1 6 := by decide +kernel
theorem dX6_isCounted_6 : Db cX6_isCounted 6 (.ifCond .ne 32) (32) 9 38 := by decide +kernel
theorem dX6_isCounted_9 : Dn cX6_isCounted 9 (.aload_n 0) 1 10 := by decide +kernel
theorem dX6_isCounted_10 : Dn cX6_isCounted 10 (.getfield 31) 3 13 := by decide +kernel
theorem dX6_isCounted_13 : Dn cX6_isCounted 13 (.iload_n 1) 1 14 := by decide +kernel
theorem dX6_isCounted_14 : Dn cX6_isCounted 14 (.iaload) 1 15 := by decide +kernel
theorem dX6_isCounted_15 : Dn cX6_isCounted 15 (.iload_n 3) 1 16 := by decide +kernel
theorem dX6_isCounted_16 : Db cX6_isCounted 16 (.if_icmp .gt 22) (22) 19 38 := by decide +kernel
theorem dX6_isCounted_19 : Dn cX6_isCounted 19 (.iload_n 2) 1 20 := by decide +kernel
theorem dX6_isCounted_20 : Dn cX6_isCounted 20 (.iconst (-1)) 1 21 := by decide +kernel
theorem dX6_isCounted_21 : Db cX6_isCounted 21 (.if_icmp .eq 13) (13) 24 34 := by decide +kernel
theorem dX6_isCounted_24 : Dn cX6_isCounted 24 (.aload_n 0) 1 25 := by decide +kernel
theorem dX6_isCounted_25 : Dn cX6_isCounted 25 (.getfield 15) 3 28 := by decide +kernel
theorem dX6_isCounted_28 : Dn cX6_isCounted 28 (.iload_n 1) 1 29 := by decide +kernel
theorem dX6_isCounted_29 : Dn cX6_isCounted 29 (.iaload) 1 30 := by decide +kernel
theorem dX6_isCounted_30 : Dn cX6_isCounted 30 (.iload_n 2) 1 31 := by decide +kernel
theorem dX6_isCounted_31 : Db cX6_isCounted 31 (.if_icmp .ne 7) (7) 34 38 := by decide +kernel
theorem dX6_isCounted_34 : Dn cX6_isCounted 34 (.iconst 1) 1 35 := by decide +kernel
theorem dX6_isCounted_35 : Db cX6_isCounted 35 (.goto 4) (4) 38 39 := by decide +kernel
theorem dX6_isCounted_38 : Dn cX6_isCounted 38 (.iconst 0) 1 39 := by decide +kernel
theorem dX6_isCounted_39 : Dn cX6_isCounted 39 (.ireturn) 1 40 := by decide +kernel
theorem dX6_isGreat_0 : Dn cX6_isGreat 0 (.aload_n 0) 1 1 := by decide +kernel
theorem dX6_isGreat_1 : Dn cX6_isGreat 1 (.getfield 34) 3 4 := by decide +kernel
theorem dX6_isGreat_4 : Dn cX6_isGreat 4 (.iload_n 1) 1 5 := by decide +kernel
theorem dX6_isGreat_5 : Dn cX6_isGreat 5 (.baload) 1 6 := by decide +kernel
theorem dX6_isGreat_6 : Db cX6_isGreat 6 (.ifCond .ne 17) (17) 9 23 := by decide +kernel
theorem dX6_isGreat_9 : Dn cX6_isGreat 9 (.aload_n 0) 1 10 := by decide +kernel
theorem dX6_isGreat_10 : Dn cX6_isGreat 10 (.getfield 28) 3 13 := by decide +kernel
theorem dX6_isGreat_13 : Dn cX6_isGreat 13 (.iload_n 1) 1 14 := by decide +kernel
theorem dX6_isGreat_14 : Dn cX6_isGreat 14 (.iaload) 1 15 := by decide +kernel
theorem dX6_isGreat_15 : Dn cX6_isGreat 15 (.iload_n 2) 1 16 := by decide +kernel
theorem dX6_isGreat_16 : Db cX6_isGreat 16 (.if_icmp .lt 7) (7) 19 23 := by decide +kernel
theorem dX6_isGreat_19 : Dn cX6_isGreat 19 (.iconst 1) 1 20 := by decide +kernel
theorem dX6_isGreat_20 : Db cX6_isGreat 20 (.goto 4) (4) 23 24 := by decide +kernel
theorem dX6_isGreat_23 : Dn cX6_isGreat 23 (.iconst 0) 1 24 := by decide +kernel
theorem dX6_isGreat_24 : Dn cX6_isGreat 24 (.ireturn) 1 25 := by decide +kernel
theorem dX6_strikes_0 : Dn cX6_strikes 0 (.iconst 0) 1 1 := by decide +kernel
theorem dX6_strikes_1 : Dn cX6_strikes 1 (.istore_n 3) 1 2 := by decide +kernel
theorem dX6_strikes_2 : Dn cX6_strikes 2 (.iload_n 3) 1 3 := by decide +kernel
theorem dX6_strikes_3 : Dn cX6_strikes 3 (.aload_n 0) 1 4 := by decide +kernel
theorem dX6_strikes_4 : Dn cX6_strikes 4 (.getfield 9) 3 7 := by decide +kernel
theorem dX6_strikes_7 : Db cX6_strikes 7 (.if_icmp .ge 30) (30) 10 37 := by decide +kernel
theorem dX6_strikes_10 : Dn cX6_strikes 10 (.aload_n 0) 1 11 := by decide +kernel
theorem dX6_strikes_11 : Dn cX6_strikes 11 (.getfield 19) 3 14 := by decide +kernel
theorem dX6_strikes_14 : Dn cX6_strikes 14 (.iload_n 3) 1 15 := by decide +kernel
theorem dX6_strikes_15 : Dn cX6_strikes 15 (.iaload) 1 16 := by decide +kernel
theorem dX6_strikes_16 : Dn cX6_strikes 16 (.iload_n 1) 1 17 := by decide +kernel
theorem dX6_strikes_17 : Db cX6_strikes 17 (.if_icmp .ne 14) (14) 20 31 := by decide +kernel
theorem dX6_strikes_20 : Dn cX6_strikes 20 (.aload_n 0) 1 21 := by decide +kernel
theorem dX6_strikes_21 : Dn cX6_strikes 21 (.iload_n 3) 1 22 := by decide +kernel
theorem dX6_strikes_22 : Dn cX6_strikes 22 (.iload_n 2) 1 23 := by decide +kernel
theorem dX6_strikes_23 : Dn cX6_strikes 23 (.invokevirtual 45) 3 26 := by decide +kernel
theorem dX6_strikes_26 : Db cX6_strikes 26 (.ifCond .eq 5) (5) 29 31 := by decide +kernel
theorem dX6_strikes_29 : Dn cX6_strikes 29 (.iconst 1) 1 30 := by decide +kernel
theorem dX6_strikes_30 : Dn cX6_strikes 30 (.ireturn) 1 31 := by decide +kernel
theorem dX6_strikes_31 : Dn cX6_strikes 31 (.iinc 3 1) 3 34 := by decide +kernel
theorem dX6_strikes_34 : Db cX6_strikes 34 (.goto (-32)) (-32) 37 2 := by decide +kernel
theorem dX6_strikes_37 : Dn cX6_strikes 37 (.iconst 0) 1 38 := by decide +kernel
theorem dX6_strikes_38 : Dn cX6_strikes 38 (.ireturn) 1 39 := by decide +kernel
theorem dX6_howManyIn_0 : Dn cX6_howManyIn 0 (.iconst 0) 1 1 := by decide +kernel
theorem dX6_howManyIn_1 : Dn cX6_howManyIn 1 (.istore_n 2) 1 2 := by decide +kernel
theorem dX6_howManyIn_2 : Dn cX6_howManyIn 2 (.iconst 0) 1 3 := by decide +kernel
theorem dX6_howManyIn_3 : Dn cX6_howManyIn 3 (.istore_n 3) 1 4 := by decide +kernel
theorem dX6_howManyIn_4 : Dn cX6_howManyIn 4 (.iload_n 3) 1 5 := by decide +kernel
theorem dX6_howManyIn_5 : Dn cX6_howManyIn 5 (.aload_n 0) 1 6 := by decide +kernel
theorem dX6_howManyIn_6 : Dn cX6_howManyIn 6 (.getfield 9) 3 9 := by decide +kernel
theorem dX6_howManyIn_9 : Db cX6_howManyIn 9 (.if_icmp .ge 22) (22) 12 31 := by decide +kernel
theorem dX6_howManyIn_12 : Dn cX6_howManyIn 12 (.aload_n 0) 1 13 := by decide +kernel
theorem dX6_howManyIn_13 : Dn cX6_howManyIn 13 (.getfield 15) 3 16 := by decide +kernel
theorem dX6_howManyIn_16 : Dn cX6_howManyIn 16 (.iload_n 3) 1 17 := by decide +kernel
theorem dX6_howManyIn_17 : Dn cX6_howManyIn 17 (.iaload) 1 18 := by decide +kernel
theorem dX6_howManyIn_18 : Dn cX6_howManyIn 18 (.iload_n 1) 1 19 := by decide +kernel
theorem dX6_howManyIn_19 : Db cX6_howManyIn 19 (.if_icmp .ne 6) (6) 22 25 := by decide +kernel
theorem dX6_howManyIn_22 : Dn cX6_howManyIn 22 (.iinc 2 1) 3 25 := by decide +kernel
theorem dX6_howManyIn_25 : Dn cX6_howManyIn 25 (.iinc 3 1) 3 28 := by decide +kernel
theorem dX6_howManyIn_28 : Db cX6_howManyIn 28 (.goto (-24)) (-24) 31 4 := by decide +kernel
theorem dX6_howManyIn_31 : Dn cX6_howManyIn 31 (.iload_n 2) 1 32 := by decide +kernel
theorem dX6_howManyIn_32 : Dn cX6_howManyIn 32 (.ireturn) 1 33 := by decide +kernel
theorem dX6_howManyBlasts_0 : Dn cX6_howManyBlasts 0 (.iconst 0) 1 1 := by decide +kernel
theorem dX6_howManyBlasts_1 : Dn cX6_howManyBlasts 1 (.istore_n 1) 1 2 := by decide +kernel
theorem dX6_howManyBlasts_2 : Dn cX6_howManyBlasts 2 (.iconst 0) 1 3 := by decide +kernel
theorem dX6_howManyBlasts_3 : Dn cX6_howManyBlasts 3 (.istore_n 2) 1 4 := by decide +kernel
theorem dX6_howManyBlasts_4 : Dn cX6_howManyBlasts 4 (.iload_n 2) 1 5 := by decide +kernel
theorem dX6_howManyBlasts_5 : Dn cX6_howManyBlasts 5 (.aload_n 0) 1 6 := by decide +kernel
theorem dX6_howManyBlasts_6 : Dn cX6_howManyBlasts 6 (.getfield 9) 3 9 := by decide +kernel
theorem dX6_howManyBlasts_9 : Db cX6_howManyBlasts 9 (.if_icmp .ge 21) (21) 12 30 := by decide +kernel
theorem dX6_howManyBlasts_12 : Dn cX6_howManyBlasts 12 (.aload_n 0) 1 13 := by decide +kernel
theorem dX6_howManyBlasts_13 : Dn cX6_howManyBlasts 13 (.getfield 34) 3 16 := by decide +kernel
theorem dX6_howManyBlasts_16 : Dn cX6_howManyBlasts 16 (.iload_n 2) 1 17 := by decide +kernel
theorem dX6_howManyBlasts_17 : Dn cX6_howManyBlasts 17 (.baload) 1 18 := by decide +kernel
theorem dX6_howManyBlasts_18 : Db cX6_howManyBlasts 18 (.ifCond .eq 6) (6) 21 24 := by decide +kernel
theorem dX6_howManyBlasts_21 : Dn cX6_howManyBlasts 21 (.iinc 1 1) 3 24 := by decide +kernel
theorem dX6_howManyBlasts_24 : Dn cX6_howManyBlasts 24 (.iinc 2 1) 3 27 := by decide +kernel
theorem dX6_howManyBlasts_27 : Db cX6_howManyBlasts 27 (.goto (-23)) (-23) 30 4 := by decide +kernel
theorem dX6_howManyBlasts_30 : Dn cX6_howManyBlasts 30 (.iload_n 1) 1 31 := by decide +kernel
theorem dX6_howManyBlasts_31 : Dn cX6_howManyBlasts 31 (.ireturn) 1 32 := by decide +kernel
theorem dX7_init_0 : Dn cX7_init 0 (.aload_n 0) 1 1 := by decide +kernel
theorem dX7_init_1 : Dn cX7_init 1 (.invokespecial 3) 3 4 := by decide +kernel
theorem dX7_init_4 : Dn cX7_init 4 (.aload_n 0) 1 5 := by decide +kernel
theorem dX7_init_5 : Dn cX7_init 5 (.sipush 4000) 3 8 := by decide +kernel
theorem dX7_init_8 : Dn cX7_init 8 (.newarray .boolean) 2 10 := by decide +kernel
theorem dX7_init_10 : Dn cX7_init 10 (.putfield 9) 3 13 := by decide +kernel
theorem dX7_init_13 : Dn cX7_init 13 (.aload_n 0) 1 14 := by decide +kernel
theorem dX7_init_14 : Dn cX7_init 14 (.bipush 11) 2 16 := by decide +kernel
theorem dX7_init_16 : Dn cX7_init 16 (.newarray .long) 2 18 := by decide +kernel
theorem dX7_init_18 : Dn cX7_init 18 (.putfield 15) 3 21 := by decide +kernel
theorem dX7_init_21 : Dn cX7_init 21 (.return_) 1 22 := by decide +kernel
theorem dX7_work_0 : Dn cX7_work 0 (.iconst 0) 1 1 := by decide +kernel
theorem dX7_work_1 : Dn cX7_work 1 (.istore 7) 2 3 := by decide +kernel
theorem dX7_work_3 : Dn cX7_work 3 (.iload 7) 2 5 := by decide +kernel
theorem dX7_work_5 : Dn cX7_work 5 (.bipush 10) 2 7 := by decide +kernel
theorem dX7_work_7 : Db cX7_work 7 (.if_icmp .gt 17) (17) 10 24 := by decide +kernel
theorem dX7_work_10 : Dn cX7_work 10 (.aload_n 0) 1 11 := by decide +kernel
theorem dX7_work_11 : Dn cX7_work 11 (.getfield 15) 3 14 := by decide +kernel
theorem dX7_work_14 : Dn cX7_work 14 (.iload 7) 2 16 := by decide +kernel
theorem dX7_work_16 : Dn cX7_work 16 (.lconst 0) 1 17 := by decide +kernel
theorem dX7_work_17 : Dn cX7_work 17 (.lastore) 1 18 := by decide +kernel
theorem dX7_work_18 : Dn cX7_work 18 (.iinc 7 1) 3 21 := by decide +kernel
theorem dX7_work_21 : Db cX7_work 21 (.goto (-18)) (-18) 24 3 := by decide +kernel
theorem dX7_work_24 : Dn cX7_work 24 (.aload_n 0) 1 25 := by decide +kernel
theorem dX7_work_25 : Dn cX7_work 25 (.aload_n 1) 1 26 := by decide +kernel
theorem dX7_work_26 : Dn cX7_work 26 (.iload 4) 2 28 := by decide +kernel
theorem dX7_work_28 : Dn cX7_work 28 (.iload 5) 2 30 := by decide +kernel
theorem dX7_work_30 : Dn cX7_work 30 (.iload 6) 2 32 := by decide +kernel
theorem dX7_work_32 : Dn cX7_work 32 (.invokevirtual 19) 3 35 := by decide +kernel
theorem dX7_work_35 : Dn cX7_work 35 (.aload_n 0) 1 36 := by decide +kernel
theorem dX7_work_36 : Dn cX7_work 36 (.aload_n 1) 1 37 := by decide +kernel
theorem dX7_work_37 : Dn cX7_work 37 (.aload_n 2) 1 38 := by decide +kernel
theorem dX7_work_38 : Dn cX7_work 38 (.iload 5) 2 40 := by decide +kernel
theorem dX7_work_40 : Dn cX7_work 40 (.iload 6) 2 42 := by decide +kernel
theorem dX7_work_42 : Dn cX7_work 42 (.invokevirtual 23) 3 45 := by decide +kernel
theorem dX7_work_45 : Dn cX7_work 45 (.aload_n 0) 1 46 := by decide +kernel
theorem dX7_work_46 : Dn cX7_work 46 (.aload_n 1) 1 47 := by decide +kernel
theorem dX7_work_47 : Dn cX7_work 47 (.aload_n 3) 1 48 := by decide +kernel
theorem dX7_work_48 : Dn cX7_work 48 (.iload 5) 2 50 := by decide +kernel
theorem dX7_work_50 : Dn cX7_work 50 (.iload 6) 2 52 := by decide +kernel
theorem dX7_work_52 : Dn cX7_work 52 (.invokevirtual 23) 3 55 := by decide +kernel
theorem dX7_work_55 : Dn cX7_work 55 (.iload 5) 2 57 := by decide +kernel
theorem dX7_work_57 : Dn cX7_work 57 (.istore 7) 2 59 := by decide +kernel
theorem dX7_work_59 : Dn cX7_work 59 (.iload 5) 2 61 := by decide +kernel
theorem dX7_work_61 : Dn cX7_work 61 (.iconst 1) 1 62 := by decide +kernel
theorem dX7_work_62 : Dn cX7_work 62 (.iadd) 1 63 := by decide +kernel
theorem dX7_work_63 : Dn cX7_work 63 (.istore 8) 2 65 := by decide +kernel
theorem dX7_work_65 : Dn cX7_work 65 (.iload 8) 2 67 := by decide +kernel
theorem dX7_work_67 : Dn cX7_work 67 (.iload 6) 2 69 := by decide +kernel
theorem dX7_work_69 : Db cX7_work 69 (.if_icmp .gt 47) (47) 72 116 := by decide +kernel
theorem dX7_work_72 : Dn cX7_work 72 (.aload_n 0) 1 73 := by decide +kernel
theorem dX7_work_73 : Dn cX7_work 73 (.getfield 9) 3 76 := by decide +kernel
theorem dX7_work_76 : Dn cX7_work 76 (.iload 8) 2 78 := by decide +kernel
theorem dX7_work_78 : Dn cX7_work 78 (.baload) 1 79 := by decide +kernel
theorem dX7_work_79 : Db cX7_work 79 (.ifCond .eq 31) (31) 82 110 := by decide +kernel
theorem dX7_work_82 : Dn cX7_work 82 (.aload_n 0) 1 83 := by decide +kernel
theorem dX7_work_83 : Dn cX7_work 83 (.getfield 9) 3 86 := by decide +kernel
theorem dX7_work_86 : Dn cX7_work 86 (.iload 8) 2 88 := by decide +kernel
theorem dX7_work_88 : Dn cX7_work 88 (.iconst 0) 1 89 := by decide +kernel
theorem dX7_work_89 : Dn cX7_work 89 (.bastore) 1 90 := by decide +kernel
theorem dX7_work_90 : Dn cX7_work 90 (.aload_n 0) 1 91 := by decide +kernel
theorem dX7_work_91 : Dn cX7_work 91 (.aload_n 1) 1 92 := by decide +kernel
theorem dX7_work_92 : Dn cX7_work 92 (.aload_n 2) 1 93 := by decide +kernel
theorem dX7_work_93 : Dn cX7_work 93 (.aload_n 3) 1 94 := by decide +kernel
theorem dX7_work_94 : Dn cX7_work 94 (.iload 4) 2 96 := by decide +kernel
theorem dX7_work_96 : Dn cX7_work 96 (.iload 7) 2 98 := by decide +kernel
theorem dX7_work_98 : Dn cX7_work 98 (.iload 8) 2 100 := by decide +kernel
theorem dX7_work_100 : Dn cX7_work 100 (.iload 7) 2 102 := by decide +kernel
theorem dX7_work_102 : Dn cX7_work 102 (.isub) 1 103 := by decide +kernel
theorem dX7_work_103 : Dn cX7_work 103 (.invokevirtual 27) 3 106 := by decide +kernel
theorem dX7_work_106 : Dn cX7_work 106 (.iload 8) 2 108 := by decide +kernel
theorem dX7_work_108 : Dn cX7_work 108 (.istore 7) 2 110 := by decide +kernel
theorem dX7_work_110 : Dn cX7_work 110 (.iinc 8 1) 3 113 := by decide +kernel
theorem dX7_work_113 : Db cX7_work 113 (.goto (-48)) (-48) 116 65 := by decide +kernel
theorem dX7_work_116 : Dn cX7_work 116 (.aload_n 0) 1 117 := by decide +kernel
theorem dX7_work_117 : Dn cX7_work 117 (.aload_n 1) 1 118 := by decide +kernel
theorem dX7_work_118 : Dn cX7_work 118 (.aload_n 2) 1 119 := by decide +kernel
theorem dX7_work_119 : Dn cX7_work 119 (.aload_n 3) 1 120 := by decide +kernel
theorem dX7_work_120 : Dn cX7_work 120 (.iload 4) 2 122 := by decide +kernel
theorem dX7_work_122 : Dn cX7_work 122 (.iload 7) 2 124 := by decide +kernel
theorem dX7_work_124 : Dn cX7_work 124 (.iload 6) 2 126 := by decide +kernel
theorem dX7_work_126 : Dn cX7_work 126 (.iconst 1) 1 127 := by decide +kernel
theorem dX7_work_127 : Dn cX7_work 127 (.iadd) 1 128 := by decide +kernel
theorem dX7_work_128 : Dn cX7_work 128 (.iload 7) 2 130 := by decide +kernel
theorem dX7_work_130 : Dn cX7_work 130 (.isub) 1 131 := by decide +kernel
theorem dX7_work_131 : Dn cX7_work 131 (.invokevirtual 27) 3 134 := by decide +kernel
theorem dX7_work_134 : Dn cX7_work 134 (.return_) 1 135 := by decide +kernel
theorem dX7_leastMix_0 : Dn cX7_leastMix 0 (.iconst 0) 1 1 := by decide +kernel
theorem dX7_leastMix_1 : Dn cX7_leastMix 1 (.istore_n 1) 1 2 := by decide +kernel
theorem dX7_leastMix_2 : Dn cX7_leastMix 2 (.iconst 1) 1 3 := by decide +kernel
theorem dX7_leastMix_3 : Dn cX7_leastMix 3 (.istore_n 2) 1 4 := by decide +kernel
theorem dX7_leastMix_4 : Dn cX7_leastMix 4 (.iload_n 2) 1 5 := by decide +kernel
theorem dX7_leastMix_5 : Dn cX7_leastMix 5 (.bipush 10) 2 7 := by decide +kernel
theorem dX7_leastMix_7 : Db cX7_leastMix 7 (.if_icmp .gt 27) (27) 10 34 := by decide +kernel
theorem dX7_leastMix_10 : Dn cX7_leastMix 10 (.aload_n 0) 1 11 := by decide +kernel
theorem dX7_leastMix_11 : Dn cX7_leastMix 11 (.getfield 15) 3 14 := by decide +kernel
theorem dX7_leastMix_14 : Dn cX7_leastMix 14 (.iload_n 2) 1 15 := by decide +kernel
theorem dX7_leastMix_15 : Dn cX7_leastMix 15 (.laload) 1 16 := by decide +kernel
theorem dX7_leastMix_16 : Dn cX7_leastMix 16 (.aload_n 0) 1 17 := by decide +kernel
theorem dX7_leastMix_17 : Dn cX7_leastMix 17 (.getfield 15) 3 20 := by decide +kernel
theorem dX7_leastMix_20 : Dn cX7_leastMix 20 (.iload_n 1) 1 21 := by decide +kernel
theorem dX7_leastMix_21 : Dn cX7_leastMix 21 (.laload) 1 22 := by decide +kernel
theorem dX7_leastMix_22 : Dn cX7_leastMix 22 (.lcmp) 1 23 := by decide +kernel
theorem dX7_leastMix_23 : Db cX7_leastMix 23 (.ifCond .ge 5) (5) 26 28 := by decide +kernel
theorem dX7_leastMix_26 : Dn cX7_leastMix 26 (.iload_n 2) 1 27 := by decide +kernel
theorem dX7_leastMix_27 : Dn cX7_leastMix 27 (.istore_n 1) 1 28 := by decide +kernel
theorem dX7_leastMix_28 : Dn cX7_leastMix 28 (.iinc 2 1) 3 31 := by decide +kernel
theorem dX7_leastMix_31 : Db cX7_leastMix 31 (.goto (-27)) (-27) 34 4 := by decide +kernel
theorem dX7_leastMix_34 : Dn cX7_leastMix 34 (.iload_n 1) 1 35 := by decide +kernel
theorem dX7_leastMix_35 : Dn cX7_leastMix 35 (.ireturn) 1 36 := by decide +kernel
theorem dX7_mark_0 : Dn cX7_mark 0 (.iload_n 1) 1 1 := by decide +kernel
theorem dX7_mark_1 : Dn cX7_mark 1 (.iload_n 2) 1 2 := by decide +kernel
theorem dX7_mark_2 : Db cX7_mark 2 (.if_icmp .le 15) (15) 5 17 := by decide +kernel
theorem dX7_mark_5 : Dn cX7_mark 5 (.iload_n 1) 1 6 := by decide +kernel
theorem dX7_mark_6 : Dn cX7_mark 6 (.iload_n 3) 1 7 := by decide +kernel
theorem dX7_mark_7 : Db cX7_mark 7 (.if_icmp .gt 10) (10) 10 17 := by decide +kernel
theorem dX7_mark_10 : Dn cX7_mark 10 (.aload_n 0) 1 11 := by decide +kernel
theorem dX7_mark_11 : Dn cX7_mark 11 (.getfield 9) 3 14 := by decide +kernel
theorem dX7_mark_14 : Dn cX7_mark 14 (.iload_n 1) 1 15 := by decide +kernel
theorem dX7_mark_15 : Dn cX7_mark 15 (.iconst 1) 1 16 := by decide +kernel
theorem dX7_mark_16 : Dn cX7_mark 16 (.bastore) 1 17 := by decide +kernel
theorem dX7_mark_17 : Dn cX7_mark 17 (.return_) 1 18 := by decide +kernel
theorem dX7_markStrikes_0 : Dn cX7_markStrikes 0 (.iconst 0) 1 1 := by decide +kernel
theorem dX7_markStrikes_1 : Dn cX7_markStrikes 1 (.istore 5) 2 3 := by decide +kernel
theorem dX7_markStrikes_3 : Dn cX7_markStrikes 3 (.iload 5) 2 5 := by decide +kernel
theorem dX7_markStrikes_5 : Dn cX7_markStrikes 5 (.aload_n 1) 1 6 := by decide +kernel
theorem dX7_markStrikes_6 : Dn cX7_markStrikes 6 (.getfield 31) 3 9 := by decide +kernel
theorem dX7_markStrikes_9 : Db cX7_markStrikes 9 (.if_icmp .ge 49) (49) 12 58 := by decide +kernel
theorem dX7_markStrikes_12 : Dn cX7_markStrikes 12 (.aload_n 1) 1 13 := by decide +kernel
theorem dX7_markStrikes_13 : Dn cX7_markStrikes 13 (.iload 5) 2 15 := by decide +kernel
theorem dX7_markStrikes_15 : Dn cX7_markStrikes 15 (.iload_n 2) 1 16 := by decide +kernel
theorem dX7_markStrikes_16 : Dn cX7_markStrikes 16 (.invokevirtual 37) 3 19 := by decide +kernel
theorem dX7_markStrikes_19 : Db cX7_markStrikes 19 (.ifCond .eq 33) (33) 22 52 := by decide +kernel
theorem dX7_markStrikes_22 : Dn cX7_markStrikes 22 (.aload_n 0) 1 23 := by decide +kernel
theorem dX7_markStrikes_23 : Dn cX7_markStrikes 23 (.aload_n 1) 1 24 := by decide +kernel
theorem dX7_markStrikes_24 : Dn cX7_markStrikes 24 (.getfield 41) 3 27 := by decide +kernel
theorem dX7_markStrikes_27 : Dn cX7_markStrikes 27 (.iload 5) 2 29 := by decide +kernel
theorem dX7_markStrikes_29 : Dn cX7_markStrikes 29 (.iaload) 1 30 := by decide +kernel
theorem dX7_markStrikes_30 : Dn cX7_markStrikes 30 (.iload_n 3) 1 31 := by decide +kernel
theorem dX7_markStrikes_31 : Dn cX7_markStrikes 31 (.iload 4) 2 33 := by decide +kernel
theorem dX7_markStrikes_33 : Dn cX7_markStrikes 33 (.invokevirtual 45) 3 36 := by decide +kernel
theorem dX7_markStrikes_36 : Dn cX7_markStrikes 36 (.aload_n 0) 1 37 := by decide +kernel
theorem dX7_markStrikes_37 : Dn cX7_markStrikes 37 (.aload_n 1) 1 38 := by decide +kernel
theorem dX7_markStrikes_38 : Dn cX7_markStrikes 38 (.getfield 41) 3 41 := by decide +kernel
theorem dX7_markStrikes_41 : Dn cX7_markStrikes 41 (.iload 5) 2 43 := by decide +kernel
theorem dX7_markStrikes_43 : Dn cX7_markStrikes 43 (.iaload) 1 44 := by decide +kernel
theorem dX7_markStrikes_44 : Dn cX7_markStrikes 44 (.iconst 1) 1 45 := by decide +kernel
theorem dX7_markStrikes_45 : Dn cX7_markStrikes 45 (.iadd) 1 46 := by decide +kernel
theorem dX7_markStrikes_46 : Dn cX7_markStrikes 46 (.iload_n 3) 1 47 := by decide +kernel
theorem dX7_markStrikes_47 : Dn cX7_markStrikes 47 (.iload 4) 2 49 := by decide +kernel
theorem dX7_markStrikes_49 : Dn cX7_markStrikes 49 (.invokevirtual 45) 3 52 := by decide +kernel
theorem dX7_markStrikes_52 : Dn cX7_markStrikes 52 (.iinc 5 1) 3 55 := by decide +kernel
theorem dX7_markStrikes_55 : Db cX7_markStrikes 55 (.goto (-52)) (-52) 58 3 := by decide +kernel
theorem dX7_markStrikes_58 : Dn cX7_markStrikes 58 (.return_) 1 59 := by decide +kernel
theorem dX7_markRules_0 : Dn cX7_markRules 0 (.iconst 0) 1 1 := by decide +kernel
theorem dX7_markRules_1 : Dn cX7_markRules 1 (.istore 5) 2 3 := by decide +kernel
theorem dX7_markRules_3 : Dn cX7_markRules 3 (.iload 5) 2 5 := by decide +kernel
theorem dX7_markRules_5 : Dn cX7_markRules 5 (.aload_n 2) 1 6 := by decide +kernel
theorem dX7_markRules_6 : Dn cX7_markRules 6 (.getfield 49) 3 9 := by decide +kernel
theorem dX7_markRules_9 : Db cX7_markRules 9 (.if_icmp .ge 83) (83) 12 92 := by decide +kernel
theorem dX7_markRules_12 : Dn cX7_markRules 12 (.iconst 0) 1 13 := by decide +kernel
theorem dX7_markRules_13 : Dn cX7_markRules 13 (.istore 6) 2 15 := by decide +kernel
theorem dX7_markRules_15 : Dn cX7_markRules 15 (.iload 6) 2 17 := by decide +kernel
theorem dX7_markRules_17 : Dn cX7_markRules 17 (.aload_n 1) 1 18 := by decide +kernel
theorem dX7_markRules_18 : Dn cX7_markRules 18 (.getfield 31) 3 21 := by decide +kernel
theorem dX7_markRules_21 : Db cX7_markRules 21 (.if_icmp .ge 65) (65) 24 86 := by decide +kernel
theorem dX7_markRules_24 : Dn cX7_markRules 24 (.aload_n 1) 1 25 := by decide +kernel
theorem dX7_markRules_25 : Dn cX7_markRules 25 (.iload 6) 2 27 := by decide +kernel
theorem dX7_markRules_27 : Dn cX7_markRules 27 (.aload_n 2) 1 28 := by decide +kernel
theorem dX7_markRules_28 : Dn cX7_markRules 28 (.getfield 54) 3 31 := by decide +kernel
theorem dX7_markRules_31 : Dn cX7_markRules 31 (.iload 5) 2 33 := by decide +kernel
theorem dX7_markRules_33 : Dn cX7_markRules 33 (.iaload) 1 34 := by decide +kernel
theorem dX7_markRules_34 : Dn cX7_markRules 34 (.invokevirtual 37) 3 37 := by decide +kernel
theorem dX7_markRules_37 : Db cX7_markRules 37 (.ifCond .eq 43) (43) 40 80 := by decide +kernel
theorem dX7_markRules_40 : Dn cX7_markRules 40 (.aload_n 0) 1 41 := by decide +kernel
theorem dX7_markRules_41 : Dn cX7_markRules 41 (.aload_n 1) 1 42 := by decide +kernel
theorem dX7_markRules_42 : Dn cX7_markRules 42 (.getfield 57) 3 45 := by decide +kernel
theorem dX7_markRules_45 : Dn cX7_markRules 45 (.iload 6) 2 47 := by decide +kernel
theorem dX7_markRules_47 : Dn cX7_markRules 47 (.iaload) 1 48 := by decide +kernel
theorem dX7_markRules_48 : Dn cX7_markRules 48 (.iconst 1) 1 49 := by decide +kernel
theorem dX7_markRules_49 : Dn cX7_markRules 49 (.iadd) 1 50 := by decide +kernel
theorem dX7_markRules_50 : Dn cX7_markRules 50 (.iload_n 3) 1 51 := by decide +kernel
theorem dX7_markRules_51 : Dn cX7_markRules 51 (.iload 4) 2 53 := by decide +kernel
theorem dX7_markRules_53 : Dn cX7_markRules 53 (.invokevirtual 45) 3 56 := by decide +kernel
theorem dX7_markRules_56 : Dn cX7_markRules 56 (.aload_n 0) 1 57 := by decide +kernel
theorem dX7_markRules_57 : Dn cX7_markRules 57 (.aload_n 1) 1 58 := by decide +kernel
theorem dX7_markRules_58 : Dn cX7_markRules 58 (.getfield 41) 3 61 := by decide +kernel
theorem dX7_markRules_61 : Dn cX7_markRules 61 (.iload 6) 2 63 := by decide +kernel
theorem dX7_markRules_63 : Dn cX7_markRules 63 (.iaload) 1 64 := by decide +kernel
theorem dX7_markRules_64 : Dn cX7_markRules 64 (.aload_n 2) 1 65 := by decide +kernel
theorem dX7_markRules_65 : Dn cX7_markRules 65 (.getfield 60) 3 68 := by decide +kernel
theorem dX7_markRules_68 : Dn cX7_markRules 68 (.iload 5) 2 70 := by decide +kernel
theorem dX7_markRules_70 : Dn cX7_markRules 70 (.iaload) 1 71 := by decide +kernel
theorem dX7_markRules_71 : Dn cX7_markRules 71 (.iadd) 1 72 := by decide +kernel
theorem dX7_markRules_72 : Dn cX7_markRules 72 (.iconst 1) 1 73 := by decide +kernel
theorem dX7_markRules_73 : Dn cX7_markRules 73 (.iadd) 1 74 := by decide +kernel
theorem dX7_markRules_74 : Dn cX7_markRules 74 (.iload_n 3) 1 75 := by decide +kernel
theorem dX7_markRules_75 : Dn cX7_markRules 75 (.iload 4) 2 77 := by decide +kernel
theorem dX7_markRules_77 : Dn cX7_markRules 77 (.invokevirtual 45) 3 80 := by decide +kernel
theorem dX7_markRules_80 : Dn cX7_markRules 80 (.iinc 6 1) 3 83 := by decide +kernel
theorem dX7_markRules_83 : Db cX7_markRules 83 (.goto (-68)) (-68) 86 15 := by decide +kernel
theorem dX7_markRules_86 : Dn cX7_markRules 86 (.iinc 5 1) 3 89 := by decide +kernel
theorem dX7_markRules_89 : Db cX7_markRules 89 (.goto (-86)) (-86) 92 3 := by decide +kernel
theorem dX7_markRules_92 : Dn cX7_markRules 92 (.return_) 1 93 := by decide +kernel
theorem dX7_addStretch_0 : Dn cX7_addStretch 0 (.aload_n 2) 1 1 := by decide +kernel
theorem dX7_addStretch_1 : Dn cX7_addStretch 1 (.aload_n 1) 1 2 := by decide +kernel
theorem dX7_addStretch_2 : Dn cX7_addStretch 2 (.iload 5) 2 4 := by decide +kernel
theorem dX7_addStretch_4 : Dn cX7_addStretch 4 (.invokevirtual 63) 3 7 := by decide +kernel
theorem dX7_addStretch_7 : Dn cX7_addStretch 7 (.istore 7) 2 9 := by decide +kernel
theorem dX7_addStretch_9 : Dn cX7_addStretch 9 (.aload_n 3) 1 10 := by decide +kernel
theorem dX7_addStretch_10 : Dn cX7_addStretch 10 (.aload_n 1) 1 11 := by decide +kernel
theorem dX7_addStretch_11 : Dn cX7_addStretch 11 (.iload 5) 2 13 := by decide +kernel
theorem dX7_addStretch_13 : Dn cX7_addStretch 13 (.invokevirtual 63) 3 16 := by decide +kernel
theorem dX7_addStretch_16 : Dn cX7_addStretch 16 (.istore 8) 2 18 := by decide +kernel
theorem dX7_addStretch_18 : Dn cX7_addStretch 18 (.aload_n 1) 1 19 := by decide +kernel
theorem dX7_addStretch_19 : Dn cX7_addStretch 19 (.iload 5) 2 21 := by decide +kernel
theorem dX7_addStretch_21 : Dn cX7_addStretch 21 (.iload 4) 2 23 := by decide +kernel
theorem dX7_addStretch_23 : Dn cX7_addStretch 23 (.invokevirtual 67) 3 26 := by decide +kernel
theorem dX7_addStretch_26 : Db cX7_addStretch 26 (.ifCond .eq 9) (9) 29 35 := by decide +kernel
theorem dX7_addStretch_29 : Dn cX7_addStretch 29 (.sipush 1000) 3 32 := by decide +kernel
theorem dX7_addStretch_32 : Db cX7_addStretch 32 (.goto 4) (4) 35 36 := by decide +kernel
theorem dX7_addStretch_35 : Dn cX7_addStretch 35 (.iconst 0) 1 36 := by decide +kernel
theorem dX7_addStretch_36 : Dn cX7_addStretch 36 (.istore 9) 2 38 := by decide +kernel
theorem dX7_addStretch_38 : Dn cX7_addStretch 38 (.iconst 0) 1 39 := by decide +kernel
theorem dX7_addStretch_39 : Dn cX7_addStretch 39 (.istore 10) 2 41 := by decide +kernel
theorem dX7_addStretch_41 : Dn cX7_addStretch 41 (.iload 10) 2 43 := by decide +kernel
theorem dX7_addStretch_43 : Dn cX7_addStretch 43 (.bipush 10) 2 45 := by decide +kernel
theorem dX7_addStretch_45 : Db cX7_addStretch 45 (.if_icmp .gt 51) (51) 48 96 := by decide +kernel
theorem dX7_addStretch_48 : Dn cX7_addStretch 48 (.iload 10) 2 50 := by decide +kernel
theorem dX7_addStretch_50 : Dn cX7_addStretch 50 (.iload 7) 2 52 := by decide +kernel
theorem dX7_addStretch_52 : Dn cX7_addStretch 52 (.imul) 1 53 := by decide +kernel
theorem dX7_addStretch_53 : Dn cX7_addStretch 53 (.bipush 10) 2 55 := by decide +kernel
theorem dX7_addStretch_55 : Dn cX7_addStretch 55 (.iload 10) 2 57 := by decide +kernel
theorem dX7_addStretch_57 : Dn cX7_addStretch 57 (.isub) 1 58 := by decide +kernel
theorem dX7_addStretch_58 : Dn cX7_addStretch 58 (.iload 8) 2 60 := by decide +kernel
theorem dX7_addStretch_60 : Dn cX7_addStretch 60 (.imul) 1 61 := by decide +kernel
theorem dX7_addStretch_61 : Dn cX7_addStretch 61 (.iadd) 1 62 := by decide +kernel
theorem dX7_addStretch_62 : Dn cX7_addStretch 62 (.bipush 10) 2 64 := by decide +kernel
theorem dX7_addStretch_64 : Dn cX7_addStretch 64 (.idiv) 1 65 := by decide +kernel
theorem dX7_addStretch_65 : Dn cX7_addStretch 65 (.iload 9) 2 67 := by decide +kernel
theorem dX7_addStretch_67 : Dn cX7_addStretch 67 (.isub) 1 68 := by decide +kernel
theorem dX7_addStretch_68 : Dn cX7_addStretch 68 (.i2l) 1 69 := by decide +kernel
theorem dX7_addStretch_69 : Dn cX7_addStretch 69 (.lstore 11) 2 71 := by decide +kernel
theorem dX7_addStretch_71 : Dn cX7_addStretch 71 (.aload_n 0) 1 72 := by decide +kernel
theorem dX7_addStretch_72 : Dn cX7_addStretch 72 (.getfield 15) 3 75 := by decide +kernel
theorem dX7_addStretch_75 : Dn cX7_addStretch 75 (.iload 10) 2 77 := by decide +kernel
theorem dX7_addStretch_77 : Dn cX7_addStretch 77 (.dup2) 1 78 := by decide +kernel
theorem dX7_addStretch_78 : Dn cX7_addStretch 78 (.laload) 1 79 := by decide +kernel
theorem dX7_addStretch_79 : Dn cX7_addStretch 79 (.iload 6) 2 81 := by decide +kernel
theorem dX7_addStretch_81 : Dn cX7_addStretch 81 (.i2l) 1 82 := by decide +kernel
theorem dX7_addStretch_82 : Dn cX7_addStretch 82 (.lload 11) 2 84 := by decide +kernel
theorem dX7_addStretch_84 : Dn cX7_addStretch 84 (.lmul) 1 85 := by decide +kernel
theorem dX7_addStretch_85 : Dn cX7_addStretch 85 (.lload 11) 2 87 := by decide +kernel
theorem dX7_addStretch_87 : Dn cX7_addStretch 87 (.lmul) 1 88 := by decide +kernel
theorem dX7_addStretch_88 : Dn cX7_addStretch 88 (.ladd) 1 89 := by decide +kernel
theorem dX7_addStretch_89 : Dn cX7_addStretch 89 (.lastore) 1 90 := by decide +kernel
theorem dX7_addStretch_90 : Dn cX7_addStretch 90 (.iinc 10 1) 3 93 := by decide +kernel
theorem dX7_addStretch_93 : Db cX7_addStretch 93 (.goto (-52)) (-52) 96 41 := by decide +kernel
theorem dX7_addStretch_96 : Dn cX7_addStretch 96 (.return_) 1 97 := by decide +kernel
theorem dX8_init_0 : Dn cX8_init 0 (.aload_n 0) 1 1 := by decide +kernel
theorem dX8_init_1 : Dn cX8_init 1 (.invokespecial 3) 3 4 := by decide +kernel
theorem dX8_init_4 : Dn cX8_init 4 (.aload_n 0) 1 5 := by decide +kernel
theorem dX8_init_5 : Dn cX8_init 5 (.iconst 0) 1 6 := by decide +kernel
theorem dX8_init_6 : Dn cX8_init 6 (.putfield 9) 3 9 := by decide +kernel
theorem dX8_init_9 : Dn cX8_init 9 (.aload_n 0) 1 10 := by decide +kernel
theorem dX8_init_10 : Dn cX8_init 10 (.bipush 48) 2 12 := by decide +kernel
theorem dX8_init_12 : Dn cX8_init 12 (.newarray .int) 2 14 := by decide +kernel
theorem dX8_init_14 : Dn cX8_init 14 (.putfield 15) 3 17 := by decide +kernel
theorem dX8_init_17 : Dn cX8_init 17 (.return_) 1 18 := by decide +kernel
theorem dX8_isFull_0 : Dn cX8_isFull 0 (.aload_n 0) 1 1 := by decide +kernel
theorem dX8_isFull_1 : Dn cX8_isFull 1 (.getfield 9) 3 4 := by decide +kernel
theorem dX8_isFull_4 : Dn cX8_isFull 4 (.bipush 48) 2 6 := by decide +kernel
theorem dX8_isFull_6 : Db cX8_isFull 6 (.if_icmp .lt 7) (7) 9 13 := by decide +kernel
theorem dX8_isFull_9 : Dn cX8_isFull 9 (.iconst 1) 1 10 := by decide +kernel
theorem dX8_isFull_10 : Db cX8_isFull 10 (.goto 4) (4) 13 14 := by decide +kernel
theorem dX8_isFull_13 : Dn cX8_isFull 13 (.iconst 0) 1 14 := by decide +kernel
theorem dX8_isFull_14 : Dn cX8_isFull 14 (.ireturn) 1 15 := by decide +kernel
theorem dX8_add_0 : Dn cX8_add 0 (.aload_n 0) 1 1 := by decide +kernel
theorem dX8_add_1 : Dn cX8_add 1 (.getfield 15) 3 4 := by decide +kernel
theorem dX8_add_4 : Dn cX8_add 4 (.aload_n 0) 1 5 := by decide +kernel
theorem dX8_add_5 : Dn cX8_add 5 (.getfield 9) 3 8 := by decide +kernel
theorem dX8_add_8 : Dn cX8_add 8 (.iload_n 1) 1 9 := by decide +kernel
theorem dX8_add_9 : Dn cX8_add 9 (.iastore) 1 10 := by decide +kernel
theorem dX8_add_10 : Dn cX8_add 10 (.aload_n 0) 1 11 := by decide +kernel
theorem dX8_add_11 : Dn cX8_add 11 (.dup) 1 12 := by decide +kernel
theorem dX8_add_12 : Dn cX8_add 12 (.getfield 9) 3 15 := by decide +kernel
theorem dX8_add_15 : Dn cX8_add 15 (.iconst 1) 1 16 := by decide +kernel
theorem dX8_add_16 : Dn cX8_add 16 (.iadd) 1 17 := by decide +kernel
theorem dX8_add_17 : Dn cX8_add 17 (.putfield 9) 3 20 := by decide +kernel
theorem dX8_add_20 : Dn cX8_add 20 (.aload_n 0) 1 21 := by decide +kernel
theorem dX8_add_21 : Dn cX8_add 21 (.getfield 9) 3 24 := by decide +kernel
theorem dX8_add_24 : Dn cX8_add 24 (.ireturn) 1 25 := by decide +kernel
theorem dX8_isDigit_0 : Dn cX8_isDigit 0 (.iload_n 0) 1 1 := by decide +kernel
theorem dX8_isDigit_1 : Dn cX8_isDigit 1 (.bipush 48) 2 3 := by decide +kernel
theorem dX8_isDigit_3 : Db cX8_isDigit 3 (.if_icmp .lt 13) (13) 6 16 := by decide +kernel
theorem dX8_isDigit_6 : Dn cX8_isDigit 6 (.iload_n 0) 1 7 := by decide +kernel
theorem dX8_isDigit_7 : Dn cX8_isDigit 7 (.bipush 57) 2 9 := by decide +kernel
theorem dX8_isDigit_9 : Db cX8_isDigit 9 (.if_icmp .gt 7) (7) 12 16 := by decide +kernel
theorem dX8_isDigit_12 : Dn cX8_isDigit 12 (.iconst 1) 1 13 := by decide +kernel
theorem dX8_isDigit_13 : Db cX8_isDigit 13 (.goto 4) (4) 16 17 := by decide +kernel
theorem dX8_isDigit_16 : Dn cX8_isDigit 16 (.iconst 0) 1 17 := by decide +kernel
theorem dX8_isDigit_17 : Dn cX8_isDigit 17 (.ireturn) 1 18 := by decide +kernel
theorem dX8_faultyPlace_0 : Dn cX8_faultyPlace 0 (.iconst 0) 1 1 := by decide +kernel
theorem dX8_faultyPlace_1 : Dn cX8_faultyPlace 1 (.istore_n 1) 1 2 := by decide +kernel
theorem dX8_faultyPlace_2 : Dn cX8_faultyPlace 2 (.iconst 0) 1 3 := by decide +kernel
theorem dX8_faultyPlace_3 : Dn cX8_faultyPlace 3 (.istore_n 2) 1 4 := by decide +kernel
theorem dX8_faultyPlace_4 : Dn cX8_faultyPlace 4 (.iconst 0) 1 5 := by decide +kernel
theorem dX8_faultyPlace_5 : Dn cX8_faultyPlace 5 (.istore_n 3) 1 6 := by decide +kernel
theorem dX8_faultyPlace_6 : Dn cX8_faultyPlace 6 (.iload_n 3) 1 7 := by decide +kernel
theorem dX8_faultyPlace_7 : Dn cX8_faultyPlace 7 (.aload_n 0) 1 8 := by decide +kernel
theorem dX8_faultyPlace_8 : Dn cX8_faultyPlace 8 (.getfield 9) 3 11 := by decide +kernel
theorem dX8_faultyPlace_11 : Db cX8_faultyPlace 11 (.if_icmp .ge 98) (98) 14 109 := by decide +kernel
theorem dX8_faultyPlace_14 : Dn cX8_faultyPlace 14 (.aload_n 0) 1 15 := by decide +kernel
theorem dX8_faultyPlace_15 : Dn cX8_faultyPlace 15 (.getfield 15) 3 18 := by decide +kernel
theorem dX8_faultyPlace_18 : Dn cX8_faultyPlace 18 (.iload_n 3) 1 19 := by decide +kernel
theorem dX8_faultyPlace_19 : Dn cX8_faultyPlace 19 (.iaload) 1 20 := by decide +kernel
theorem dX8_faultyPlace_20 : Dn cX8_faultyPlace 20 (.invokestatic 19) 3 23 := by decide +kernel
theorem dX8_faultyPlace_23 : Db cX8_faultyPlace 23 (.ifCond .eq 12) (12) 26 35 := by decide +kernel
theorem dX8_faultyPlace_26 : Dn cX8_faultyPlace 26 (.iload_n 2) 1 27 := by decide +kernel
theorem dX8_faultyPlace_27 : Dn cX8_faultyPlace 27 (.iconst 4) 1 28 := by decide +kernel
theorem dX8_faultyPlace_28 : Db cX8_faultyPlace 28 (.if_icmp .ge 7) (7) 31 35 := by decide +kernel
theorem dX8_faultyPlace_31 : Dn cX8_faultyPlace 31 (.iconst 1) 1 32 := by decide +kernel
theorem dX8_faultyPlace_32 : Db cX8_faultyPlace 32 (.goto 4) (4) 35 36 := by decide +kernel
theorem dX8_faultyPlace_35 : Dn cX8_faultyPlace 35 (.iconst 0) 1 36 := by decide +kernel
theorem dX8_faultyPlace_36 : Dn cX8_faultyPlace 36 (.istore 4) 2 38 := by decide +kernel
theorem dX8_faultyPlace_38 : Dn cX8_faultyPlace 38 (.iload_n 2) 1 39 := by decide +kernel
theorem dX8_faultyPlace_39 : Db cX8_faultyPlace 39 (.ifCond .le 21) (21) 42 60 := by decide +kernel
theorem dX8_faultyPlace_42 : Dn cX8_faultyPlace 42 (.aload_n 0) 1 43 := by decide +kernel
theorem dX8_faultyPlace_43 : Dn cX8_faultyPlace 43 (.getfield 15) 3 46 := by decide +kernel
theorem dX8_faultyPlace_46 : Dn cX8_faultyPlace 46 (.iload_n 3) 1 47 := by decide +kernel
theorem dX8_faultyPlace_47 : Dn cX8_faultyPlace 47 (.iaload) 1 48 := by decide +kernel
theorem dX8_faultyPlace_48 : Dn cX8_faultyPlace 48 (.getstatic 23) 3 51 := by decide +kernel
theorem dX8_faultyPlace_51 : Dn cX8_faultyPlace 51 (.iload_n 1) 1 52 := by decide +kernel
theorem dX8_faultyPlace_52 : Dn cX8_faultyPlace 52 (.caload) 1 53 := by decide +kernel
theorem dX8_faultyPlace_53 : Db cX8_faultyPlace 53 (.if_icmp .ne 7) (7) 56 60 := by decide +kernel
theorem dX8_faultyPlace_56 : Dn cX8_faultyPlace 56 (.iconst 1) 1 57 := by decide +kernel
theorem dX8_faultyPlace_57 : Db cX8_faultyPlace 57 (.goto 4) (4) 60 61 := by decide +kernel
theorem dX8_faultyPlace_60 : Dn cX8_faultyPlace 60 (.iconst 0) 1 61 := by decide +kernel
theorem dX8_faultyPlace_61 : Dn cX8_faultyPlace 61 (.istore 5) 2 63 := by decide +kernel
theorem dX8_faultyPlace_63 : Dn cX8_faultyPlace 63 (.iload 4) 2 65 := by decide +kernel
theorem dX8_faultyPlace_65 : Db cX8_faultyPlace 65 (.ifCond .ne 10) (10) 68 75 := by decide +kernel
theorem dX8_faultyPlace_68 : Dn cX8_faultyPlace 68 (.iload 5) 2 70 := by decide +kernel
theorem dX8_faultyPlace_70 : Db cX8_faultyPlace 70 (.ifCond .ne 5) (5) 73 75 := by decide +kernel
theorem dX8_faultyPlace_73 : Dn cX8_faultyPlace 73 (.iload_n 3) 1 74 := by decide +kernel
theorem dX8_faultyPlace_74 : Dn cX8_faultyPlace 74 (.ireturn) 1 75 := by decide +kernel
theorem dX8_faultyPlace_75 : Dn cX8_faultyPlace 75 (.iload 5) 2 77 := by decide +kernel
theorem dX8_faultyPlace_77 : Db cX8_faultyPlace 77 (.ifCond .eq 7) (7) 80 84 := by decide +kernel
theorem dX8_faultyPlace_80 : Dn cX8_faultyPlace 80 (.iconst 0) 1 81 := by decide +kernel
theorem dX8_faultyPlace_81 : Db cX8_faultyPlace 81 (.goto 6) (6) 84 87 := by decide +kernel
theorem dX8_faultyPlace_84 : Dn cX8_faultyPlace 84 (.iload_n 2) 1 85 := by decide +kernel
theorem dX8_faultyPlace_85 : Dn cX8_faultyPlace 85 (.iconst 1) 1 86 := by decide +kernel
theorem dX8_faultyPlace_86 : Dn cX8_faultyPlace 86 (.iadd) 1 87 := by decide +kernel
theorem dX8_faultyPlace_87 : Dn cX8_faultyPlace 87 (.istore_n 2) 1 88 := by decide +kernel
theorem dX8_faultyPlace_88 : Dn cX8_faultyPlace 88 (.iload 5) 2 90 := by decide +kernel
theorem dX8_faultyPlace_90 : Db cX8_faultyPlace 90 (.ifCond .eq 11) (11) 93 101 := by decide +kernel
theorem dX8_faultyPlace_93 : Dn cX8_faultyPlace 93 (.iload_n 1) 1 94 := by decide +kernel
theorem dX8_faultyPlace_94 : Dn cX8_faultyPlace 94 (.iconst 1) 1 95 := by decide +kernel
theorem dX8_faultyPlace_95 : Dn cX8_faultyPlace 95 (.iadd) 1 96 := by decide +kernel
theorem dX8_faultyPlace_96 : Dn cX8_faultyPlace 96 (.iconst 4) 1 97 := by decide +kernel
theorem dX8_faultyPlace_97 : Dn cX8_faultyPlace 97 (.irem) 1 98 := by decide +kernel
theorem dX8_faultyPlace_98 : Db cX8_faultyPlace 98 (.goto 4) (4) 101 102 := by decide +kernel
theorem dX8_faultyPlace_101 : Dn cX8_faultyPlace 101 (.iload_n 1) 1 102 := by decide +kernel
theorem dX8_faultyPlace_102 : Dn cX8_faultyPlace 102 (.istore_n 1) 1 103 := by decide +kernel
theorem dX8_faultyPlace_103 : Dn cX8_faultyPlace 103 (.iinc 3 1) 3 106 := by decide +kernel
theorem dX8_faultyPlace_106 : Db cX8_faultyPlace 106 (.goto (-100)) (-100) 109 6 := by decide +kernel
theorem dX8_faultyPlace_109 : Dn cX8_faultyPlace 109 (.iload_n 1) 1 110 := by decide +kernel
theorem dX8_faultyPlace_110 : Db cX8_faultyPlace 110 (.ifCond .ne 12) (12) 113 122 := by decide +kernel
theorem dX8_faultyPlace_113 : Dn cX8_faultyPlace 113 (.iload_n 2) 1 114 := by decide +kernel
theorem dX8_faultyPlace_114 : Db cX8_faultyPlace 114 (.ifCond .le 8) (8) 117 122 := by decide +kernel
theorem dX8_faultyPlace_117 : Dn cX8_faultyPlace 117 (.bipush (-6)) 2 119 := by decide +kernel
theorem dX8_faultyPlace_119 : Db cX8_faultyPlace 119 (.goto 7) (7) 122 126 := by decide +kernel
theorem dX8_faultyPlace_122 : Dn cX8_faultyPlace 122 (.aload_n 0) 1 123 := by decide +kernel
theorem dX8_faultyPlace_123 : Dn cX8_faultyPlace 123 (.getfield 9) 3 126 := by decide +kernel
theorem dX8_faultyPlace_126 : Dn cX8_faultyPlace 126 (.ireturn) 1 127 := by decide +kernel
theorem dX8_read_0 : Dn cX8_read 0 (.new 27) 3 3 := by decide +kernel
theorem dX8_read_3 : Dn cX8_read 3 (.dup) 1 4 := by decide +kernel
theorem dX8_read_4 : Dn cX8_read 4 (.invokespecial 29) 3 7 := by decide +kernel
theorem dX8_read_7 : Dn cX8_read 7 (.astore_n 1) 1 8 := by decide +kernel
theorem dX8_read_8 : Dn cX8_read 8 (.iconst 0) 1 9 := by decide +kernel
theorem dX8_read_9 : Dn cX8_read 9 (.istore_n 2) 1 10 := by decide +kernel
theorem dX8_read_10 : Dn cX8_read 10 (.iconst 0) 1 11 := by decide +kernel
theorem dX8_read_11 : Dn cX8_read 11 (.istore_n 3) 1 12 := by decide +kernel
theorem dX8_read_12 : Dn cX8_read 12 (.iconst 0) 1 13 := by decide +kernel
theorem dX8_read_13 : Dn cX8_read 13 (.istore 4) 2 15 := by decide +kernel
theorem dX8_read_15 : Dn cX8_read 15 (.iload 4) 2 17 := by decide +kernel
theorem dX8_read_17 : Dn cX8_read 17 (.aload_n 0) 1 18 := by decide +kernel
theorem dX8_read_18 : Dn cX8_read 18 (.getfield 9) 3 21 := by decide +kernel
theorem dX8_read_21 : Db cX8_read 21 (.if_icmp .ge 55) (55) 24 76 := by decide +kernel
theorem dX8_read_24 : Dn cX8_read 24 (.aload_n 0) 1 25 := by decide +kernel
theorem dX8_read_25 : Dn cX8_read 25 (.getfield 15) 3 28 := by decide +kernel
theorem dX8_read_28 : Dn cX8_read 28 (.iload 4) 2 30 := by decide +kernel
theorem dX8_read_30 : Dn cX8_read 30 (.iaload) 1 31 := by decide +kernel
theorem dX8_read_31 : Dn cX8_read 31 (.invokestatic 19) 3 34 := by decide +kernel
theorem dX8_read_34 : Db cX8_read 34 (.ifCond .eq 22) (22) 37 56 := by decide +kernel
theorem dX8_read_37 : Dn cX8_read 37 (.iload_n 3) 1 38 := by decide +kernel
theorem dX8_read_38 : Dn cX8_read 38 (.bipush 10) 2 40 := by decide +kernel
theorem dX8_read_40 : Dn cX8_read 40 (.imul) 1 41 := by decide +kernel
theorem dX8_read_41 : Dn cX8_read 41 (.aload_n 0) 1 42 := by decide +kernel
theorem dX8_read_42 : Dn cX8_read 42 (.getfield 15) 3 45 := by decide +kernel
theorem dX8_read_45 : Dn cX8_read 45 (.iload 4) 2 47 := by decide +kernel
theorem dX8_read_47 : Dn cX8_read 47 (.iaload) 1 48 := by decide +kernel
theorem dX8_read_48 : Dn cX8_read 48 (.iadd) 1 49 := by decide +kernel
theorem dX8_read_49 : Dn cX8_read 49 (.bipush 48) 2 51 := by decide +kernel
theorem dX8_read_51 : Dn cX8_read 51 (.isub) 1 52 := by decide +kernel
theorem dX8_read_52 : Dn cX8_read 52 (.istore_n 3) 1 53 := by decide +kernel
theorem dX8_read_53 : Db cX8_read 53 (.goto 17) (17) 56 70 := by decide +kernel
theorem dX8_read_56 : Dn cX8_read 56 (.aload_n 1) 1 57 := by decide +kernel
theorem dX8_read_57 : Dn cX8_read 57 (.iload_n 2) 1 58 := by decide +kernel
theorem dX8_read_58 : Dn cX8_read 58 (.iload_n 3) 1 59 := by decide +kernel
theorem dX8_read_59 : Dn cX8_read 59 (.invokevirtual 30) 3 62 := by decide +kernel
theorem dX8_read_62 : Dn cX8_read 62 (.iload_n 2) 1 63 := by decide +kernel
theorem dX8_read_63 : Dn cX8_read 63 (.iconst 1) 1 64 := by decide +kernel
theorem dX8_read_64 : Dn cX8_read 64 (.iadd) 1 65 := by decide +kernel
theorem dX8_read_65 : Dn cX8_read 65 (.iconst 4) 1 66 := by decide +kernel
theorem dX8_read_66 : Dn cX8_read 66 (.irem) 1 67 := by decide +kernel
theorem dX8_read_67 : Dn cX8_read 67 (.istore_n 2) 1 68 := by decide +kernel
theorem dX8_read_68 : Dn cX8_read 68 (.iconst 0) 1 69 := by decide +kernel
theorem dX8_read_69 : Dn cX8_read 69 (.istore_n 3) 1 70 := by decide +kernel
theorem dX8_read_70 : Dn cX8_read 70 (.iinc 4 1) 3 73 := by decide +kernel
theorem dX8_read_73 : Db cX8_read 73 (.goto (-58)) (-58) 76 15 := by decide +kernel
theorem dX8_read_76 : Dn cX8_read 76 (.aload_n 1) 1 77 := by decide +kernel
theorem dX8_read_77 : Dn cX8_read 77 (.iload_n 3) 1 78 := by decide +kernel
theorem dX8_read_78 : Dn cX8_read 78 (.putfield 34) 3 81 := by decide +kernel
theorem dX8_read_81 : Dn cX8_read 81 (.aload_n 1) 1 82 := by decide +kernel
theorem dX8_read_82 : Dn cX8_read 82 (.areturn) 1 83 := by decide +kernel
theorem dX9_init_0 : Dn cX9_init 0 (.aload_n 0) 1 1 := by decide +kernel
theorem dX9_init_1 : Dn cX9_init 1 (.invokespecial 1) 3 4 := by decide +kernel
theorem dX9_init_4 : Dn cX9_init 4 (.aload_n 0) 1 5 := by decide +kernel
theorem dX9_init_5 : Dn cX9_init 5 (.iconst 5) 1 6 := by decide +kernel
theorem dX9_init_6 : Dn cX9_init 6 (.newarray .int) 2 8 := by decide +kernel
theorem dX9_init_8 : Dn cX9_init 8 (.dup) 1 9 := by decide +kernel
theorem dX9_init_9 : Dn cX9_init 9 (.iconst 0) 1 10 := by decide +kernel
theorem dX9_init_10 : Dn cX9_init 10 (.iconst 1) 1 11 := by decide +kernel
theorem dX9_init_11 : Dn cX9_init 11 (.iastore) 1 12 := by decide +kernel
theorem dX9_init_12 : Dn cX9_init 12 (.dup) 1 13 := by decide +kernel
theorem dX9_init_13 : Dn cX9_init 13 (.iconst 1) 1 14 := by decide +kernel
theorem dX9_init_14 : Dn cX9_init 14 (.iconst 1) 1 15 := by decide +kernel
theorem dX9_init_15 : Dn cX9_init 15 (.iastore) 1 16 := by decide +kernel
theorem dX9_init_16 : Dn cX9_init 16 (.dup) 1 17 := by decide +kernel
theorem dX9_init_17 : Dn cX9_init 17 (.iconst 2) 1 18 := by decide +kernel
theorem dX9_init_18 : Dn cX9_init 18 (.iconst 5) 1 19 := by decide +kernel
theorem dX9_init_19 : Dn cX9_init 19 (.iastore) 1 20 := by decide +kernel
theorem dX9_init_20 : Dn cX9_init 20 (.dup) 1 21 := by decide +kernel
theorem dX9_init_21 : Dn cX9_init 21 (.iconst 3) 1 22 := by decide +kernel
theorem dX9_init_22 : Dn cX9_init 22 (.bipush 100) 2 24 := by decide +kernel
theorem dX9_init_24 : Dn cX9_init 24 (.iastore) 1 25 := by decide +kernel
theorem dX9_init_25 : Dn cX9_init 25 (.dup) 1 26 := by decide +kernel
theorem dX9_init_26 : Dn cX9_init 26 (.iconst 4) 1 27 := by decide +kernel
theorem dX9_init_27 : Dn cX9_init 27 (.iconst 5) 1 28 := by decide +kernel
theorem dX9_init_28 : Dn cX9_init 28 (.iastore) 1 29 := by decide +kernel
theorem dX9_init_29 : Dn cX9_init 29 (.putfield 7) 3 32 := by decide +kernel
theorem dX9_init_32 : Dn cX9_init 32 (.aload_n 0) 1 33 := by decide +kernel
theorem dX9_init_33 : Dn cX9_init 33 (.new 13) 3 36 := by decide +kernel
theorem dX9_init_36 : Dn cX9_init 36 (.dup) 1 37 := by decide +kernel
theorem dX9_init_37 : Dn cX9_init 37 (.invokespecial 15) 3 40 := by decide +kernel
theorem dX9_init_40 : Dn cX9_init 40 (.putfield 16) 3 43 := by decide +kernel
theorem dX9_init_43 : Dn cX9_init 43 (.aload_n 0) 1 44 := by decide +kernel
theorem dX9_init_44 : Dn cX9_init 44 (.new 20) 3 47 := by decide +kernel
theorem dX9_init_47 : Dn cX9_init 47 (.dup) 1 48 := by decide +kernel
theorem dX9_init_48 : Dn cX9_init 48 (.invokespecial 22) 3 51 := by decide +kernel
theorem dX9_init_51 : Dn cX9_init 51 (.putfield 23) 3 54 := by decide +kernel
theorem dX9_init_54 : Dn cX9_init 54 (.aload_n 0) 1 55 := by decide +kernel
theorem dX9_init_55 : Dn cX9_init 55 (.new 27) 3 58 := by decide +kernel
theorem dX9_init_58 : Dn cX9_init 58 (.dup) 1 59 := by decide +kernel
theorem dX9_init_59 : Dn cX9_init 59 (.invokespecial 29) 3 62 := by decide +kernel
theorem dX9_init_62 : Dn cX9_init 62 (.putfield 30) 3 65 := by decide +kernel
theorem dX9_init_65 : Dn cX9_init 65 (.aload_n 0) 1 66 := by decide +kernel
theorem dX9_init_66 : Dn cX9_init 66 (.new 34) 3 69 := by decide +kernel
theorem dX9_init_69 : Dn cX9_init 69 (.dup) 1 70 := by decide +kernel
theorem dX9_init_70 : Dn cX9_init 70 (.invokespecial 36) 3 73 := by decide +kernel
theorem dX9_init_73 : Dn cX9_init 73 (.putfield 37) 3 76 := by decide +kernel
theorem dX9_init_76 : Dn cX9_init 76 (.aload_n 0) 1 77 := by decide +kernel
theorem dX9_init_77 : Dn cX9_init 77 (.new 41) 3 80 := by decide +kernel
theorem dX9_init_80 : Dn cX9_init 80 (.dup) 1 81 := by decide +kernel
theorem dX9_init_81 : Dn cX9_init 81 (.invokespecial 43) 3 84 := by decide +kernel
theorem dX9_init_84 : Dn cX9_init 84 (.putfield 44) 3 87 := by decide +kernel
theorem dX9_init_87 : Dn cX9_init 87 (.aload_n 0) 1 88 := by decide +kernel
theorem dX9_init_88 : Dn cX9_init 88 (.bipush 6) 2 90 := by decide +kernel
theorem dX9_init_90 : Dn cX9_init 90 (.anewarray 48) 3 93 := by decide +kernel
theorem dX9_init_93 : Dn cX9_init 93 (.putfield 50) 3 96 := by decide +kernel
theorem dX9_init_96 : Dn cX9_init 96 (.aload_n 0) 1 97 := by decide +kernel
theorem dX9_init_97 : Dn cX9_init 97 (.iconst 0) 1 98 := by decide +kernel
theorem dX9_init_98 : Dn cX9_init 98 (.putfield 54) 3 101 := by decide +kernel
theorem dX9_init_101 : Dn cX9_init 101 (.aload_n 0) 1 102 := by decide +kernel
theorem dX9_init_102 : Dn cX9_init 102 (.new 58) 3 105 := by decide +kernel
theorem dX9_init_105 : Dn cX9_init 105 (.dup) 1 106 := by decide +kernel
theorem dX9_init_106 : Dn cX9_init 106 (.invokespecial 60) 3 109 := by decide +kernel
theorem dX9_init_109 : Dn cX9_init 109 (.putfield 61) 3 112 := by decide +kernel
theorem dX9_init_112 : Dn cX9_init 112 (.aload_n 0) 1 113 := by decide +kernel
theorem dX9_init_113 : Dn cX9_init 113 (.new 65) 3 116 := by decide +kernel
theorem dX9_init_116 : Dn cX9_init 116 (.dup) 1 117 := by decide +kernel
theorem dX9_init_117 : Dn cX9_init 117 (.invokespecial 67) 3 120 := by decide +kernel
theorem dX9_init_120 : Dn cX9_init 120 (.putfield 68) 3 123 := by decide +kernel
theorem dX9_init_123 : Dn cX9_init 123 (.return_) 1 124 := by decide +kernel
theorem dX9_quake_0 : Dn cX9_quake 0 (.iload_n 1) 1 1 := by decide +kernel
theorem dX9_quake_1 : Dn cX9_quake 1 (.invokestatic 72) 3 4 := by decide +kernel
theorem dX9_quake_4 : Db cX9_quake 4 (.ifCond .eq 12) (12) 7 16 := by decide +kernel
theorem dX9_quake_7 : Dn cX9_quake 7 (.iload_n 3) 1 8 := by decide +kernel
theorem dX9_quake_8 : Dn cX9_quake 8 (.iload 4) 2 10 := by decide +kernel
theorem dX9_quake_10 : Dn cX9_quake 10 (.invokestatic 76) 3 13 := by decide +kernel
theorem dX9_quake_13 : Db cX9_quake 13 (.ifCond .ne 5) (5) 16 18 := by decide +kernel
theorem dX9_quake_16 : Dn cX9_quake 16 (.iconst (-1)) 1 17 := by decide +kernel
theorem dX9_quake_17 : Dn cX9_quake 17 (.ireturn) 1 18 := by decide +kernel
theorem dX9_quake_18 : Dn cX9_quake 18 (.iload_n 2) 1 19 := by decide +kernel
theorem dX9_quake_19 : Dn cX9_quake 19 (.invokestatic 80) 3 22 := by decide +kernel
theorem dX9_quake_22 : Db cX9_quake 22 (.ifCond .eq 25) (25) 25 47 := by decide +kernel
theorem dX9_quake_25 : Dn cX9_quake 25 (.iload 5) 2 27 := by decide +kernel
theorem dX9_quake_27 : Dn cX9_quake 27 (.invokestatic 83) 3 30 := by decide +kernel
theorem dX9_quake_30 : Db cX9_quake 30 (.ifCond .eq 17) (17) 33 47 := by decide +kernel
theorem dX9_quake_33 : Dn cX9_quake 33 (.iload 6) 2 35 := by decide +kernel
theorem dX9_quake_35 : Dn cX9_quake 35 (.invokestatic 80) 3 38 := by decide +kernel
theorem dX9_quake_38 : Db cX9_quake 38 (.ifCond .eq 9) (9) 41 47 := by decide +kernel
theorem dX9_quake_41 : Dn cX9_quake 41 (.iload 6) 2 43 := by decide +kernel
theorem dX9_quake_43 : Dn cX9_quake 43 (.iload_n 2) 1 44 := by decide +kernel
theorem dX9_quake_44 : Db cX9_quake 44 (.if_icmp .ge 6) (6) 47 50 := by decide +kernel
theorem dX9_quake_47 : Dn cX9_quake 47 (.bipush (-2)) 2 49 := by decide +kernel
theorem dX9_quake_49 : Dn cX9_quake 49 (.ireturn) 1 50 := by decide +kernel
theorem dX9_quake_50 : Dn cX9_quake 50 (.aload_n 0) 1 51 := by decide +kernel
theorem dX9_quake_51 : Dn cX9_quake 51 (.getfield 16) 3 54 := by decide +kernel
theorem dX9_quake_54 : Dn cX9_quake 54 (.invokevirtual 86) 3 57 := by decide +kernel
theorem dX9_quake_57 : Db cX9_quake 57 (.ifCond .eq 6) (6) 60 63 := by decide +kernel
theorem dX9_quake_60 : Dn cX9_quake 60 (.bipush (-4)) 2 62 := by decide +kernel
theorem dX9_quake_62 : Dn cX9_quake 62 (.ireturn) 1 63 := by decide +kernel
theorem dX9_quake_63 : Dn cX9_quake 63 (.aload_n 0) 1 64 := by decide +kernel
theorem dX9_quake_64 : Dn cX9_quake 64 (.getfield 16) 3 67 := by decide +kernel
theorem dX9_quake_67 : Dn cX9_quake 67 (.iload_n 1) 1 68 := by decide +kernel
theorem dX9_quake_68 : Dn cX9_quake 68 (.iload_n 2) 1 69 := by decide +kernel
theorem dX9_quake_69 : Dn cX9_quake 69 (.iload_n 3) 1 70 := by decide +kernel
theorem dX9_quake_70 : Dn cX9_quake 70 (.iload 4) 2 72 := by decide +kernel
theorem dX9_quake_72 : Dn cX9_quake 72 (.iload 5) 2 74 := by decide +kernel
theorem dX9_quake_74 : Dn cX9_quake 74 (.iload 6) 2 76 := by decide +kernel
theorem dX9_quake_76 : Dn cX9_quake 76 (.invokevirtual 90) 3 79 := by decide +kernel
theorem dX9_quake_79 : Dn cX9_quake 79 (.ireturn) 1 80 := by decide +kernel
theorem dX9_blast_0 : Dn cX9_blast 0 (.aload_n 0) 1 1 := by decide +kernel
theorem dX9_blast_1 : Dn cX9_blast 1 (.getfield 16) 3 4 := by decide +kernel
theorem dX9_blast_4 : Dn cX9_blast 4 (.iload_n 1) 1 5 := by decide +kernel
theorem dX9_blast_5 : Dn cX9_blast 5 (.invokevirtual 94) 3 8 := by decide +kernel
theorem dX9_blast_8 : Db cX9_blast 8 (.ifCond .ne 5) (5) 11 13 := by decide +kernel
theorem dX9_blast_11 : Dn cX9_blast 11 (.iconst (-1)) 1 12 := by decide +kernel
theorem dX9_blast_12 : Dn cX9_blast 12 (.ireturn) 1 13 := by decide +kernel
theorem dX9_blast_13 : Dn cX9_blast 13 (.aload_n 0) 1 14 := by decide +kernel
theorem dX9_blast_14 : Dn cX9_blast 14 (.getfield 16) 3 17 := by decide +kernel
theorem dX9_blast_17 : Dn cX9_blast 17 (.getfield 97) 3 20 := by decide +kernel
theorem dX9_blast_20 : Dn cX9_blast 20 (.iload_n 1) 1 21 := by decide +kernel
theorem dX9_blast_21 : Dn cX9_blast 21 (.baload) 1 22 := by decide +kernel
theorem dX9_blast_22 : Dn cX9_blast 22 (.istore_n 3) 1 23 := by decide +kernel
theorem dX9_blast_23 : Dn cX9_blast 23 (.aload_n 0) 1 24 := by decide +kernel
theorem dX9_blast_24 : Dn cX9_blast 24 (.getfield 16) 3 27 := by decide +kernel
theorem dX9_blast_27 : Dn cX9_blast 27 (.getfield 97) 3 30 := by decide +kernel
theorem dX9_blast_30 : Dn cX9_blast 30 (.iload_n 1) 1 31 := by decide +kernel
theorem dX9_blast_31 : Dn cX9_blast 31 (.iload_n 2) 1 32 := by decide +kernel
theorem dX9_blast_32 : Dn cX9_blast 32 (.bastore) 1 33 := by decide +kernel
theorem dX9_blast_33 : Dn cX9_blast 33 (.iload_n 3) 1 34 := by decide +kernel
theorem dX9_blast_34 : Dn cX9_blast 34 (.invokestatic 101) 3 37 := by decide +kernel
theorem dX9_blast_37 : Dn cX9_blast 37 (.ireturn) 1 38 := by decide +kernel
theorem dX9_mend_0 : Dn cX9_mend 0 (.aload_n 0) 1 1 := by decide +kernel
theorem dX9_mend_1 : Dn cX9_mend 1 (.getfield 16) 3 4 := by decide +kernel
theorem dX9_mend_4 : Dn cX9_mend 4 (.iload_n 1) 1 5 := by decide +kernel
theorem dX9_mend_5 : Dn cX9_mend 5 (.invokevirtual 94) 3 8 := by decide +kernel
theorem dX9_mend_8 : Db cX9_mend 8 (.ifCond .ne 5) (5) 11 13 := by decide +kernel
theorem dX9_mend_11 : Dn cX9_mend 11 (.iconst (-1)) 1 12 := by decide +kernel
theorem dX9_mend_12 : Dn cX9_mend 12 (.ireturn) 1 13 := by decide +kernel
theorem dX9_mend_13 : Dn cX9_mend 13 (.iload_n 2) 1 14 := by decide +kernel
theorem dX9_mend_14 : Dn cX9_mend 14 (.invokestatic 83) 3 17 := by decide +kernel
theorem dX9_mend_17 : Db cX9_mend 17 (.ifCond .ne 6) (6) 20 23 := by decide +kernel
theorem dX9_mend_20 : Dn cX9_mend 20 (.bipush (-2)) 2 22 := by decide +kernel
theorem dX9_mend_22 : Dn cX9_mend 22 (.ireturn) 1 23 := by decide +kernel
theorem dX9_mend_23 : Dn cX9_mend 23 (.aload_n 0) 1 24 := by decide +kernel
theorem dX9_mend_24 : Dn cX9_mend 24 (.getfield 16) 3 27 := by decide +kernel
theorem dX9_mend_27 : Dn cX9_mend 27 (.getfield 105) 3 30 := by decide +kernel
theorem dX9_mend_30 : Dn cX9_mend 30 (.iload_n 1) 1 31 := by decide +kernel
theorem dX9_mend_31 : Dn cX9_mend 31 (.iaload) 1 32 := by decide +kernel
theorem dX9_mend_32 : Dn cX9_mend 32 (.istore_n 3) 1 33 := by decide +kernel
theorem dX9_mend_33 : Dn cX9_mend 33 (.aload_n 0) 1 34 := by decide +kernel
theorem dX9_mend_34 : Dn cX9_mend 34 (.getfield 16) 3 37 := by decide +kernel
theorem dX9_mend_37 : Dn cX9_mend 37 (.getfield 105) 3 40 := by decide +kernel
theorem dX9_mend_40 : Dn cX9_mend 40 (.iload_n 1) 1 41 := by decide +kernel
theorem dX9_mend_41 : Dn cX9_mend 41 (.iload_n 2) 1 42 := by decide +kernel
theorem dX9_mend_42 : Dn cX9_mend 42 (.iastore) 1 43 := by decide +kernel
theorem dX9_mend_43 : Dn cX9_mend 43 (.iload_n 3) 1 44 := by decide +kernel
theorem dX9_mend_44 : Dn cX9_mend 44 (.ireturn) 1 45 := by decide +kernel
theorem dX9_about_0 : Dn cX9_about 0 (.aload_n 0) 1 1 := by decide +kernel
theorem dX9_about_1 : Dn cX9_about 1 (.getfield 16) 3 4 := by decide +kernel
theorem dX9_about_4 : Dn cX9_about 4 (.iload_n 1) 1 5 := by decide +kernel
theorem dX9_about_5 : Dn cX9_about 5 (.invokevirtual 94) 3 8 := by decide +kernel
theorem dX9_about_8 : Db cX9_about 8 (.ifCond .ne 5) (5) 11 13 := by decide +kernel
theorem dX9_about_11 : Dn cX9_about 11 (.iconst (-1)) 1 12 := by decide +kernel
theorem dX9_about_12 : Dn cX9_about 12 (.ireturn) 1 13 := by decide +kernel
theorem dX9_about_13 : Dn cX9_about 13 (.iload_n 2) 1 14 := by decide +kernel
theorem dX9_about_14 : Dn cX9_about 14 (.tableswitch 128 0 7 #[46, 56, 66, 76, 86, 96, 106, 119]) 46 60 := by decide +kernel
theorem dX9_about_60 : Dn cX9_about 60 (.aload_n 0) 1 61 := by decide +kernel
theorem dX9_about_61 : Dn cX9_about 61 (.getfield 16) 3 64 := by decide +kernel
theorem dX9_about_64 : Dn cX9_about 64 (.getfield 108) 3 67 := by decide +kernel
theorem dX9_about_67 : Dn cX9_about 67 (.iload_n 1) 1 68 := by decide +kernel
theorem dX9_about_68 : Dn cX9_about 68 (.iaload) 1 69 := by decide +kernel
theorem dX9_about_69 : Dn cX9_about 69 (.ireturn) 1 70 := by decide +kernel
theorem dX9_about_70 : Dn cX9_about 70 (.aload_n 0) 1 71 := by decide +kernel
theorem dX9_about_71 : Dn cX9_about 71 (.getfield 16) 3 74 := by decide +kernel
theorem dX9_about_74 : Dn cX9_about 74 (.getfield 111) 3 77 := by decide +kernel
theorem dX9_about_77 : Dn cX9_about 77 (.iload_n 1) 1 78 := by decide +kernel
theorem dX9_about_78 : Dn cX9_about 78 (.iaload) 1 79 := by decide +kernel
theorem dX9_about_79 : Dn cX9_about 79 (.ireturn) 1 80 := by decide +kernel
theorem dX9_about_80 : Dn cX9_about 80 (.aload_n 0) 1 81 := by decide +kernel
theorem dX9_about_81 : Dn cX9_about 81 (.getfield 16) 3 84 := by decide +kernel
theorem dX9_about_84 : Dn cX9_about 84 (.getfield 114) 3 87 := by decide +kernel
theorem dX9_about_87 : Dn cX9_about 87 (.iload_n 1) 1 88 := by decide +kernel
theorem dX9_about_88 : Dn cX9_about 88 (.iaload) 1 89 := by decide +kernel
theorem dX9_about_89 : Dn cX9_about 89 (.ireturn) 1 90 := by decide +kernel
theorem dX9_about_90 : Dn cX9_about 90 (.aload_n 0) 1 91 := by decide +kernel
theorem dX9_about_91 : Dn cX9_about 91 (.getfield 16) 3 94 := by decide +kernel
theorem dX9_about_94 : Dn cX9_about 94 (.getfield 117) 3 97 := by decide +kernel
theorem dX9_about_97 : Dn cX9_about 97 (.iload_n 1) 1 98 := by decide +kernel
theorem dX9_about_98 : Dn cX9_about 98 (.iaload) 1 99 := by decide +kernel
theorem dX9_about_99 : Dn cX9_about 99 (.ireturn) 1 100 := by decide +kernel
theorem dX9_about_100 : Dn cX9_about 100 (.aload_n 0) 1 101 := by decide +kernel
theorem dX9_about_101 : Dn cX9_about 101 (.getfield 16) 3 104 := by decide +kernel
theorem dX9_about_104 : Dn cX9_about 104 (.getfield 105) 3 107 := by decide +kernel
theorem dX9_about_107 : Dn cX9_about 107 (.iload_n 1) 1 108 := by decide +kernel
theorem dX9_about_108 : Dn cX9_about 108 (.iaload) 1 109 := by decide +kernel
theorem dX9_about_109 : Dn cX9_about 109 (.ireturn) 1 110 := by decide +kernel
theorem dX9_about_110 : Dn cX9_about 110 (.aload_n 0) 1 111 := by decide +kernel
theorem dX9_about_111 : Dn cX9_about 111 (.getfield 16) 3 114 := by decide +kernel
theorem dX9_about_114 : Dn cX9_about 114 (.getfield 120) 3 117 := by decide +kernel
theorem dX9_about_117 : Dn cX9_about 117 (.iload_n 1) 1 118 := by decide +kernel
theorem dX9_about_118 : Dn cX9_about 118 (.iaload) 1 119 := by decide +kernel
theorem dX9_about_119 : Dn cX9_about 119 (.ireturn) 1 120 := by decide +kernel
theorem dX9_about_120 : Dn cX9_about 120 (.aload_n 0) 1 121 := by decide +kernel
theorem dX9_about_121 : Dn cX9_about 121 (.getfield 16) 3 124 := by decide +kernel
theorem dX9_about_124 : Dn cX9_about 124 (.getfield 97) 3 127 := by decide +kernel
theorem dX9_about_127 : Dn cX9_about 127 (.iload_n 1) 1 128 := by decide +kernel
theorem dX9_about_128 : Dn cX9_about 128 (.baload) 1 129 := by decide +kernel
theorem dX9_about_129 : Dn cX9_about 129 (.invokestatic 101) 3 132 := by decide +kernel
theorem dX9_about_132 : Dn cX9_about 132 (.ireturn) 1 133 := by decide +kernel
theorem dX9_about_133 : Dn cX9_about 133 (.aload_n 0) 1 134 := by decide +kernel
theorem dX9_about_134 : Dn cX9_about 134 (.getfield 16) 3 137 := by decide +kernel
theorem dX9_about_137 : Dn cX9_about 137 (.iload_n 1) 1 138 := by decide +kernel
theorem dX9_about_138 : Dn cX9_about 138 (.invokevirtual 123) 3 141 := by decide +kernel
theorem dX9_about_141 : Dn cX9_about 141 (.ireturn) 1 142 := by decide +kernel
theorem dX9_about_142 : Dn cX9_about 142 (.bipush (-2)) 2 144 := by decide +kernel
theorem dX9_about_144 : Dn cX9_about 144 (.ireturn) 1 145 := by decide +kernel
theorem dX9_set_0 : Dn cX9_set 0 (.iload_n 1) 1 1 := by decide +kernel
theorem dX9_set_1 : Dn cX9_set 1 (.iconst 0) 1 2 := by decide +kernel
theorem dX9_set_2 : Dn cX9_set 2 (.iconst 4) 1 3 := by decide +kernel
theorem dX9_set_3 : Dn cX9_set 3 (.invokestatic 127) 3 6 := by decide +kernel
theorem dX9_set_6 : Db cX9_set 6 (.ifCond .eq 20) (20) 9 26 := by decide +kernel
theorem dX9_set_9 : Dn cX9_set 9 (.iload_n 2) 1 10 := by decide +kernel
theorem dX9_set_10 : Dn cX9_set 10 (.getstatic 131) 3 13 := by decide +kernel
theorem dX9_set_13 : Dn cX9_set 13 (.iload_n 1) 1 14 := by decide +kernel
theorem dX9_set_14 : Dn cX9_set 14 (.iaload) 1 15 := by decide +kernel
theorem dX9_set_15 : Dn cX9_set 15 (.getstatic 134) 3 18 := by decide +kernel
theorem dX9_set_18 : Dn cX9_set 18 (.iload_n 1) 1 19 := by decide +kernel
theorem dX9_set_19 : Dn cX9_set 19 (.iaload) 1 20 := by decide +kernel
theorem dX9_set_20 : Dn cX9_set 20 (.invokestatic 127) 3 23 := by decide +kernel
theorem dX9_set_23 : Db cX9_set 23 (.ifCond .ne 6) (6) 26 29 := by decide +kernel
theorem dX9_set_26 : Dn cX9_set 26 (.bipush (-2)) 2 28 := by decide +kernel
theorem dX9_set_28 : Dn cX9_set 28 (.ireturn) 1 29 := by decide +kernel
theorem dX9_set_29 : Dn cX9_set 29 (.aload_n 0) 1 30 := by decide +kernel
theorem dX9_set_30 : Dn cX9_set 30 (.getfield 7) 3 33 := by decide +kernel
theorem dX9_set_33 : Dn cX9_set 33 (.iload_n 1) 1 34 := by decide +kernel
theorem dX9_set_34 : Dn cX9_set 34 (.iaload) 1 35 := by decide +kernel
theorem dX9_set_35 : Dn cX9_set 35 (.istore_n 3) 1 36 := by decide +kernel
theorem dX9_set_36 : Dn cX9_set 36 (.aload_n 0) 1 37 := by decide +kernel
theorem dX9_set_37 : Dn cX9_set 37 (.getfield 7) 3 40 := by decide +kernel
theorem dX9_set_40 : Dn cX9_set 40 (.iload_n 1) 1 41 := by decide +kernel
theorem dX9_set_41 : Dn cX9_set 41 (.iload_n 2) 1 42 := by decide +kernel
theorem dX9_set_42 : Dn cX9_set 42 (.iastore) 1 43 := by decide +kernel
theorem dX9_set_43 : Dn cX9_set 43 (.iload_n 3) 1 44 := by decide +kernel
theorem dX9_set_44 : Dn cX9_set 44 (.ireturn) 1 45 := by decide +kernel
theorem dX9_join_0 : Dn cX9_join 0 (.iload_n 1) 1 1 := by decide +kernel
theorem dX9_join_1 : Dn cX9_join 1 (.invokestatic 72) 3 4 := by decide +kernel
theorem dX9_join_4 : Db cX9_join 4 (.ifCond .eq 15) (15) 7 19 := by decide +kernel
theorem dX9_join_7 : Dn cX9_join 7 (.iload_n 2) 1 8 := by decide +kernel
theorem dX9_join_8 : Dn cX9_join 8 (.invokestatic 72) 3 11 := by decide +kernel
theorem dX9_join_11 : Db cX9_join 11 (.ifCond .eq 8) (8) 14 19 := by decide +kernel
theorem dX9_join_14 : Dn cX9_join 14 (.iload_n 1) 1 15 := by decide +kernel
theorem dX9_join_15 : Dn cX9_join 15 (.iload_n 2) 1 16 := by decide +kernel
theorem dX9_join_16 : Db cX9_join 16 (.if_icmp .ne 5) (5) 19 21 := by decide +kernel
theorem dX9_join_19 : Dn cX9_join 19 (.iconst (-1)) 1 20 := by decide +kernel
theorem dX9_join_20 : Dn cX9_join 20 (.ireturn) 1 21 := by decide +kernel
theorem dX9_join_21 : Dn cX9_join 21 (.iload_n 3) 1 22 := by decide +kernel
theorem dX9_join_22 : Dn cX9_join 22 (.iconst (-1)) 1 23 := by decide +kernel
theorem dX9_join_23 : Db cX9_join 23 (.if_icmp .eq 9) (9) 26 32 := by decide +kernel
theorem dX9_join_26 : Dn cX9_join 26 (.iload_n 3) 1 27 := by decide +kernel
theorem dX9_join_27 : Dn cX9_join 27 (.bipush (-2)) 2 29 := by decide +kernel
theorem dX9_join_29 : Db cX9_join 29 (.if_icmp .ne 7) (7) 32 36 := by decide +kernel
theorem dX9_join_32 : Dn cX9_join 32 (.iconst 1) 1 33 := by decide +kernel
theorem dX9_join_33 : Db cX9_join 33 (.goto 4) (4) 36 37 := by decide +kernel
theorem dX9_join_36 : Dn cX9_join 36 (.iconst 0) 1 37 := by decide +kernel
theorem dX9_join_37 : Dn cX9_join 37 (.istore 4) 2 39 := by decide +kernel
theorem dX9_join_39 : Dn cX9_join 39 (.iload 4) 2 41 := by decide +kernel
theorem dX9_join_41 : Db cX9_join 41 (.ifCond .ne 29) (29) 44 70 := by decide +kernel
theorem dX9_join_44 : Dn cX9_join 44 (.aload_n 0) 1 45 := by decide +kernel
theorem dX9_join_45 : Dn cX9_join 45 (.getfield 16) 3 48 := by decide +kernel
theorem dX9_join_48 : Dn cX9_join 48 (.iload_n 3) 1 49 := by decide +kernel
theorem dX9_join_49 : Dn cX9_join 49 (.invokevirtual 94) 3 52 := by decide +kernel
theorem dX9_join_52 : Db cX9_join 52 (.ifCond .eq 16) (16) 55 68 := by decide +kernel
theorem dX9_join_55 : Dn cX9_join 55 (.aload_n 0) 1 56 := by decide +kernel
theorem dX9_join_56 : Dn cX9_join 56 (.getfield 16) 3 59 := by decide +kernel
theorem dX9_join_59 : Dn cX9_join 59 (.getfield 108) 3 62 := by decide +kernel
theorem dX9_join_62 : Dn cX9_join 62 (.iload_n 3) 1 63 := by decide +kernel
theorem dX9_join_63 : Dn cX9_join 63 (.iaload) 1 64 := by decide +kernel
theorem dX9_join_64 : Dn cX9_join 64 (.iload_n 1) 1 65 := by decide +kernel
theorem dX9_join_65 : Db cX9_join 65 (.if_icmp .eq 5) (5) 68 70 := by decide +kernel
theorem dX9_join_68 : Dn cX9_join 68 (.iconst (-1)) 1 69 := by decide +kernel
theorem dX9_join_69 : Dn cX9_join 69 (.ireturn) 1 70 := by decide +kernel
theorem dX9_join_70 : Dn cX9_join 70 (.aload_n 0) 1 71 := by decide +kernel
theorem dX9_join_71 : Dn cX9_join 71 (.getfield 16) 3 74 := by decide +kernel
theorem dX9_join_74 : Dn cX9_join 74 (.iload_n 1) 1 75 := by decide +kernel
theorem dX9_join_75 : Dn cX9_join 75 (.invokevirtual 137) 3 78 := by decide +kernel
theorem dX9_join_78 : Dn cX9_join 78 (.bipush 12) 2 80 := by decide +kernel
theorem dX9_join_80 : Db cX9_join 80 (.if_icmp .gt 16) (16) 83 96 := by decide +kernel
theorem dX9_join_83 : Dn cX9_join 83 (.aload_n 0) 1 84 := by decide +kernel
theorem dX9_join_84 : Dn cX9_join 84 (.getfield 16) 3 87 := by decide +kernel
theorem dX9_join_87 : Dn cX9_join 87 (.iload_n 2) 1 88 := by decide +kernel
theorem dX9_join_88 : Dn cX9_join 88 (.invokevirtual 137) 3 91 := by decide +kernel
theorem dX9_join_91 : Dn cX9_join 91 (.bipush 12) 2 93 := by decide +kernel
theorem dX9_join_93 : Db cX9_join 93 (.if_icmp .le 6) (6) 96 99 := by decide +kernel
theorem dX9_join_96 : Dn cX9_join 96 (.bipush (-5)) 2 98 := by decide +kernel
theorem dX9_join_98 : Dn cX9_join 98 (.ireturn) 1 99 := by decide +kernel
theorem dX9_join_99 : Dn cX9_join 99 (.aload_n 0) 1 100 := by decide +kernel
theorem dX9_join_100 : Dn cX9_join 100 (.getfield 23) 3 103 := by decide +kernel
theorem dX9_join_103 : Dn cX9_join 103 (.aload_n 0) 1 104 := by decide +kernel
theorem dX9_join_104 : Dn cX9_join 104 (.getfield 16) 3 107 := by decide +kernel
theorem dX9_join_107 : Dn cX9_join 107 (.iload_n 1) 1 108 := by decide +kernel
theorem dX9_join_108 : Dn cX9_join 108 (.iload_n 2) 1 109 := by decide +kernel
theorem dX9_join_109 : Dn cX9_join 109 (.aload_n 0) 1 110 := by decide +kernel
theorem dX9_join_110 : Dn cX9_join 110 (.getfield 7) 3 113 := by decide +kernel
theorem dX9_join_113 : Dn cX9_join 113 (.iconst 0) 1 114 := by decide +kernel
theorem dX9_join_114 : Dn cX9_join 114 (.iaload) 1 115 := by decide +kernel
theorem dX9_join_115 : Dn cX9_join 115 (.aload_n 0) 1 116 := by decide +kernel
theorem dX9_join_116 : Dn cX9_join 116 (.getfield 7) 3 119 := by decide +kernel
theorem dX9_join_119 : Dn cX9_join 119 (.iconst 1) 1 120 := by decide +kernel
theorem dX9_join_120 : Dn cX9_join 120 (.iaload) 1 121 := by decide +kernel
theorem dX9_join_121 : Dn cX9_join 121 (.aload_n 0) 1 122 := by decide +kernel
theorem dX9_join_122 : Dn cX9_join 122 (.getfield 7) 3 125 := by decide +kernel
theorem dX9_join_125 : Dn cX9_join 125 (.iconst 2) 1 126 := by decide +kernel
theorem dX9_join_126 : Dn cX9_join 126 (.iaload) 1 127 := by decide +kernel
theorem dX9_join_127 : Dn cX9_join 127 (.invokevirtual 140) 3 130 := by decide +kernel
theorem dX9_join_130 : Dn cX9_join 130 (.iload_n 3) 1 131 := by decide +kernel
theorem dX9_join_131 : Dn cX9_join 131 (.iconst (-1)) 1 132 := by decide +kernel
theorem dX9_join_132 : Db cX9_join 132 (.if_icmp .ne 11) (11) 135 143 := by decide +kernel
theorem dX9_join_135 : Dn cX9_join 135 (.aload_n 0) 1 136 := by decide +kernel
theorem dX9_join_136 : Dn cX9_join 136 (.getfield 23) 3 139 := by decide +kernel
theorem dX9_join_139 : Dn cX9_join 139 (.getfield 144) 3 142 := by decide +kernel
theorem dX9_join_142 : Dn cX9_join 142 (.ireturn) 1 143 := by decide +kernel
theorem dX9_join_143 : Dn cX9_join 143 (.iload_n 3) 1 144 := by decide +kernel
theorem dX9_join_144 : Dn cX9_join 144 (.bipush (-2)) 2 146 := by decide +kernel
theorem dX9_join_146 : Db cX9_join 146 (.if_icmp .ne 13) (13) 149 159 := by decide +kernel
theorem dX9_join_149 : Dn cX9_join 149 (.aload_n 0) 1 150 := by decide +kernel
theorem dX9_join_150 : Dn cX9_join 150 (.getfield 23) 3 153 := by decide +kernel
theorem dX9_join_153 : Dn cX9_join 153 (.getfield 147) 3 156 := by decide +kernel
theorem dX9_join_156 : Db cX9_join 156 (.goto 11) (11) 159 167 := by decide +kernel
theorem dX9_join_159 : Dn cX9_join 159 (.aload_n 0) 1 160 := by decide +kernel
theorem dX9_join_160 : Dn cX9_join 160 (.getfield 23) 3 163 := by decide +kernel
theorem dX9_join_163 : Dn cX9_join 163 (.iload_n 3) 1 164 := by decide +kernel
theorem dX9_join_164 : Dn cX9_join 164 (.invokevirtual 150) 3 167 := by decide +kernel
theorem dX9_join_167 : Dn cX9_join 167 (.ireturn) 1 168 := by decide +kernel
theorem dX9_often_0 : Dn cX9_often 0 (.iload_n 1) 1 1 := by decide +kernel
theorem dX9_often_1 : Dn cX9_often 1 (.invokestatic 153) 3 4 := by decide +kernel
theorem dX9_often_4 : Db cX9_often 4 (.ifCond .ne 5) (5) 7 9 := by decide +kernel
theorem dX9_often_7 : Dn cX9_often 7 (.iconst (-1)) 1 8 := by decide +kernel
theorem dX9_often_8 : Dn cX9_often 8 (.ireturn) 1 9 := by decide +kernel
theorem dX9_often_9 : Dn cX9_often 9 (.iload_n 2) 1 10 := by decide +kernel
theorem dX9_often_10 : Dn cX9_often 10 (.invokestatic 80) 3 13 := by decide +kernel
theorem dX9_often_13 : Db cX9_often 13 (.ifCond .eq 10) (10) 16 23 := by decide +kernel
theorem dX9_often_16 : Dn cX9_often 16 (.iload_n 3) 1 17 := by decide +kernel
theorem dX9_often_17 : Dn cX9_often 17 (.invokestatic 83) 3 20 := by decide +kernel
theorem dX9_often_20 : Db cX9_often 20 (.ifCond .ne 6) (6) 23 26 := by decide +kernel
theorem dX9_often_23 : Dn cX9_often 23 (.bipush (-2)) 2 25 := by decide +kernel
theorem dX9_often_25 : Dn cX9_often 25 (.ireturn) 1 26 := by decide +kernel
theorem dX9_often_26 : Dn cX9_often 26 (.aload_n 0) 1 27 := by decide +kernel
theorem dX9_often_27 : Dn cX9_often 27 (.getfield 30) 3 30 := by decide +kernel
theorem dX9_often_30 : Dn cX9_often 30 (.aload_n 0) 1 31 := by decide +kernel
theorem dX9_often_31 : Dn cX9_often 31 (.getfield 16) 3 34 := by decide +kernel
theorem dX9_often_34 : Dn cX9_often 34 (.iload_n 1) 1 35 := by decide +kernel
theorem dX9_often_35 : Dn cX9_often 35 (.iload_n 2) 1 36 := by decide +kernel
theorem dX9_often_36 : Dn cX9_often 36 (.iload_n 3) 1 37 := by decide +kernel
theorem dX9_often_37 : Dn cX9_often 37 (.invokevirtual 156) 3 40 := by decide +kernel
theorem dX9_often_40 : Dn cX9_often 40 (.ireturn) 1 41 := by decide +kernel
theorem dX9_whole_0 : Dn cX9_whole 0 (.iload_n 1) 1 1 := by decide +kernel
theorem dX9_whole_1 : Dn cX9_whole 1 (.invokestatic 153) 3 4 := by decide +kernel
theorem dX9_whole_4 : Db cX9_whole 4 (.ifCond .ne 5) (5) 7 9 := by decide +kernel
theorem dX9_whole_7 : Dn cX9_whole 7 (.iconst (-1)) 1 8 := by decide +kernel
theorem dX9_whole_8 : Dn cX9_whole 8 (.ireturn) 1 9 := by decide +kernel
theorem dX9_whole_9 : Dn cX9_whole 9 (.iload_n 2) 1 10 := by decide +kernel
theorem dX9_whole_10 : Dn cX9_whole 10 (.invokestatic 80) 3 13 := by decide +kernel
theorem dX9_whole_13 : Db cX9_whole 13 (.ifCond .ne 6) (6) 16 19 := by decide +kernel
theorem dX9_whole_16 : Dn cX9_whole 16 (.bipush (-2)) 2 18 := by decide +kernel
theorem dX9_whole_18 : Dn cX9_whole 18 (.ireturn) 1 19 := by decide +kernel
theorem dX9_whole_19 : Dn cX9_whole 19 (.aload_n 0) 1 20 := by decide +kernel
theorem dX9_whole_20 : Dn cX9_whole 20 (.getfield 30) 3 23 := by decide +kernel
theorem dX9_whole_23 : Dn cX9_whole 23 (.aload_n 0) 1 24 := by decide +kernel
theorem dX9_whole_24 : Dn cX9_whole 24 (.getfield 16) 3 27 := by decide +kernel
theorem dX9_whole_27 : Dn cX9_whole 27 (.iload_n 1) 1 28 := by decide +kernel
theorem dX9_whole_28 : Dn cX9_whole 28 (.iload_n 2) 1 29 := by decide +kernel
theorem dX9_whole_29 : Dn cX9_whole 29 (.invokevirtual 160) 3 32 := by decide +kernel
theorem dX9_whole_32 : Dn cX9_whole 32 (.ireturn) 1 33 := by decide +kernel
theorem dX9_slope_0 : Dn cX9_slope 0 (.iload_n 1) 1 1 := by decide +kernel
theorem dX9_slope_1 : Dn cX9_slope 1 (.invokestatic 153) 3 4 := by decide +kernel
theorem dX9_slope_4 : Db cX9_slope 4 (.ifCond .ne 7) (7) 7 11 := by decide +kernel
theorem dX9_slope_7 : Dn cX9_slope 7 (.ldc2_w 164) 3 10 := by decide +kernel
theorem dX9_slope_10 : Dn cX9_slope 10 (.lreturn) 1 11 := by decide +kernel
theorem dX9_slope_11 : Dn cX9_slope 11 (.iload_n 2) 1 12 := by decide +kernel
theorem dX9_slope_12 : Dn cX9_slope 12 (.invokestatic 80) 3 15 := by decide +kernel
theorem dX9_slope_15 : Db cX9_slope 15 (.ifCond .eq 18) (18) 18 33 := by decide +kernel
theorem dX9_slope_18 : Dn cX9_slope 18 (.iload_n 3) 1 19 := by decide +kernel
theorem dX9_slope_19 : Dn cX9_slope 19 (.invokestatic 83) 3 22 := by decide +kernel
theorem dX9_slope_22 : Db cX9_slope 22 (.ifCond .eq 11) (11) 25 33 := by decide +kernel
theorem dX9_slope_25 : Dn cX9_slope 25 (.iload 4) 2 27 := by decide +kernel
theorem dX9_slope_27 : Dn cX9_slope 27 (.invokestatic 166) 3 30 := by decide +kernel
theorem dX9_slope_30 : Db cX9_slope 30 (.ifCond .ne 7) (7) 33 37 := by decide +kernel
theorem dX9_slope_33 : Dn cX9_slope 33 (.ldc2_w 169) 3 36 := by decide +kernel
theorem dX9_slope_36 : Dn cX9_slope 36 (.lreturn) 1 37 := by decide +kernel
theorem dX9_slope_37 : Dn cX9_slope 37 (.aload_n 0) 1 38 := by decide +kernel
theorem dX9_slope_38 : Dn cX9_slope 38 (.getfield 30) 3 41 := by decide +kernel
theorem dX9_slope_41 : Dn cX9_slope 41 (.aload_n 0) 1 42 := by decide +kernel
theorem dX9_slope_42 : Dn cX9_slope 42 (.getfield 16) 3 45 := by decide +kernel
theorem dX9_slope_45 : Dn cX9_slope 45 (.iload_n 1) 1 46 := by decide +kernel
theorem dX9_slope_46 : Dn cX9_slope 46 (.iload_n 2) 1 47 := by decide +kernel
theorem dX9_slope_47 : Dn cX9_slope 47 (.iload_n 3) 1 48 := by decide +kernel
theorem dX9_slope_48 : Dn cX9_slope 48 (.invokevirtual 156) 3 51 := by decide +kernel
theorem dX9_slope_51 : Dn cX9_slope 51 (.istore 5) 2 53 := by decide +kernel
theorem dX9_slope_53 : Dn cX9_slope 53 (.iload 5) 2 55 := by decide +kernel
theorem dX9_slope_55 : Db cX9_slope 55 (.ifCond .ne 7) (7) 58 62 := by decide +kernel
theorem dX9_slope_58 : Dn cX9_slope 58 (.ldc2_w 171) 3 61 := by decide +kernel
theorem dX9_slope_61 : Dn cX9_slope 61 (.lreturn) 1 62 := by decide +kernel
theorem dX9_slope_62 : Dn cX9_slope 62 (.aload_n 0) 1 63 := by decide +kernel
theorem dX9_slope_63 : Dn cX9_slope 63 (.getfield 30) 3 66 := by decide +kernel
theorem dX9_slope_66 : Dn cX9_slope 66 (.aload_n 0) 1 67 := by decide +kernel
theorem dX9_slope_67 : Dn cX9_slope 67 (.getfield 16) 3 70 := by decide +kernel
theorem dX9_slope_70 : Dn cX9_slope 70 (.iload_n 1) 1 71 := by decide +kernel
theorem dX9_slope_71 : Dn cX9_slope 71 (.iload_n 2) 1 72 := by decide +kernel
theorem dX9_slope_72 : Dn cX9_slope 72 (.iload_n 3) 1 73 := by decide +kernel
theorem dX9_slope_73 : Dn cX9_slope 73 (.invokevirtual 173) 3 76 := by decide +kernel
theorem dX9_slope_76 : Dn cX9_slope 76 (.istore 6) 2 78 := by decide +kernel
theorem dX9_slope_78 : Dn cX9_slope 78 (.ldc2_w 176) 3 81 := by decide +kernel
theorem dX9_slope_81 : Dn cX9_slope 81 (.iload 5) 2 83 := by decide +kernel
theorem dX9_slope_83 : Dn cX9_slope 83 (.i2l) 1 84 := by decide +kernel
theorem dX9_slope_84 : Dn cX9_slope 84 (.lmul) 1 85 := by decide +kernel
theorem dX9_slope_85 : Dn cX9_slope 85 (.iload 5) 2 87 := by decide +kernel
theorem dX9_slope_87 : Dn cX9_slope 87 (.i2l) 1 88 := by decide +kernel
theorem dX9_slope_88 : Dn cX9_slope 88 (.ldc2_w 176) 3 91 := by decide +kernel
theorem dX9_slope_91 : Dn cX9_slope 91 (.iload 6) 2 93 := by decide +kernel
theorem dX9_slope_93 : Dn cX9_slope 93 (.i2l) 1 94 := by decide +kernel
theorem dX9_slope_94 : Dn cX9_slope 94 (.lmul) 1 95 := by decide +kernel
theorem dX9_slope_95 : Dn cX9_slope 95 (.ladd) 1 96 := by decide +kernel
theorem dX9_slope_96 : Dn cX9_slope 96 (.iload 4) 2 98 := by decide +kernel
theorem dX9_slope_98 : Dn cX9_slope 98 (.invokestatic 178) 3 101 := by decide +kernel
theorem dX9_slope_101 : Dn cX9_slope 101 (.lreturn) 1 102 := by decide +kernel
theorem dX9_alike_0 : Dn cX9_alike 0 (.iload_n 1) 1 1 := by decide +kernel
theorem dX9_alike_1 : Dn cX9_alike 1 (.invokestatic 72) 3 4 := by decide +kernel
theorem dX9_alike_4 : Db cX9_alike 4 (.ifCond .eq 15) (15) 7 19 := by decide +kernel
theorem dX9_alike_7 : Dn cX9_alike 7 (.iload_n 2) 1 8 := by decide +kernel
theorem dX9_alike_8 : Dn cX9_alike 8 (.invokestatic 72) 3 11 := by decide +kernel
theorem dX9_alike_11 : Db cX9_alike 11 (.ifCond .eq 8) (8) 14 19 := by decide +kernel
theorem dX9_alike_14 : Dn cX9_alike 14 (.iload_n 1) 1 15 := by decide +kernel
theorem dX9_alike_15 : Dn cX9_alike 15 (.iload_n 2) 1 16 := by decide +kernel
theorem dX9_alike_16 : Db cX9_alike 16 (.if_icmp .ne 7) (7) 19 23 := by decide +kernel
theorem dX9_alike_19 : Dn cX9_alike 19 (.ldc2_w 164) 3 22 := by decide +kernel
theorem dX9_alike_22 : Dn cX9_alike 22 (.lreturn) 1 23 := by decide +kernel
theorem dX9_alike_23 : Dn cX9_alike 23 (.iload_n 3) 1 24 := by decide +kernel
theorem dX9_alike_24 : Dn cX9_alike 24 (.invokestatic 83) 3 27 := by decide +kernel
theorem dX9_alike_27 : Db cX9_alike 27 (.ifCond .eq 11) (11) 30 38 := by decide +kernel
theorem dX9_alike_30 : Dn cX9_alike 30 (.iload 4) 2 32 := by decide +kernel
theorem dX9_alike_32 : Dn cX9_alike 32 (.invokestatic 166) 3 35 := by decide +kernel
theorem dX9_alike_35 : Db cX9_alike 35 (.ifCond .ne 7) (7) 38 42 := by decide +kernel
theorem dX9_alike_38 : Dn cX9_alike 38 (.ldc2_w 169) 3 41 := by decide +kernel
theorem dX9_alike_41 : Dn cX9_alike 41 (.lreturn) 1 42 := by decide +kernel
theorem dX9_alike_42 : Dn cX9_alike 42 (.aload_n 0) 1 43 := by decide +kernel
theorem dX9_alike_43 : Dn cX9_alike 43 (.getfield 30) 3 46 := by decide +kernel
theorem dX9_alike_46 : Dn cX9_alike 46 (.aload_n 0) 1 47 := by decide +kernel
theorem dX9_alike_47 : Dn cX9_alike 47 (.getfield 16) 3 50 := by decide +kernel
theorem dX9_alike_50 : Dn cX9_alike 50 (.iload_n 1) 1 51 := by decide +kernel
theorem dX9_alike_51 : Dn cX9_alike 51 (.sipush 3999) 3 54 := by decide +kernel
theorem dX9_alike_54 : Dn cX9_alike 54 (.iconst 0) 1 55 := by decide +kernel
theorem dX9_alike_55 : Dn cX9_alike 55 (.invokevirtual 156) 3 58 := by decide +kernel
theorem dX9_alike_58 : Dn cX9_alike 58 (.istore 5) 2 60 := by decide +kernel
theorem dX9_alike_60 : Dn cX9_alike 60 (.aload_n 0) 1 61 := by decide +kernel
theorem dX9_alike_61 : Dn cX9_alike 61 (.getfield 30) 3 64 := by decide +kernel
theorem dX9_alike_64 : Dn cX9_alike 64 (.aload_n 0) 1 65 := by decide +kernel
theorem dX9_alike_65 : Dn cX9_alike 65 (.getfield 16) 3 68 := by decide +kernel
theorem dX9_alike_68 : Dn cX9_alike 68 (.iload_n 2) 1 69 := by decide +kernel
theorem dX9_alike_69 : Dn cX9_alike 69 (.sipush 3999) 3 72 := by decide +kernel
theorem dX9_alike_72 : Dn cX9_alike 72 (.iconst 0) 1 73 := by decide +kernel
theorem dX9_alike_73 : Dn cX9_alike 73 (.invokevirtual 156) 3 76 := by decide +kernel
theorem dX9_alike_76 : Dn cX9_alike 76 (.istore 6) 2 78 := by decide +kernel
theorem dX9_alike_78 : Dn cX9_alike 78 (.aload_n 0) 1 79 := by decide +kernel
theorem dX9_alike_79 : Dn cX9_alike 79 (.getfield 30) 3 82 := by decide +kernel
theorem dX9_alike_82 : Dn cX9_alike 82 (.aload_n 0) 1 83 := by decide +kernel
theorem dX9_alike_83 : Dn cX9_alike 83 (.getfield 16) 3 86 := by decide +kernel
theorem dX9_alike_86 : Dn cX9_alike 86 (.iload_n 1) 1 87 := by decide +kernel
theorem dX9_alike_87 : Dn cX9_alike 87 (.sipush 3999) 3 90 := by decide +kernel
theorem dX9_alike_90 : Dn cX9_alike 90 (.iload_n 3) 1 91 := by decide +kernel
theorem dX9_alike_91 : Dn cX9_alike 91 (.invokevirtual 156) 3 94 := by decide +kernel
theorem dX9_alike_94 : Dn cX9_alike 94 (.istore 7) 2 96 := by decide +kernel
theorem dX9_alike_96 : Dn cX9_alike 96 (.aload_n 0) 1 97 := by decide +kernel
theorem dX9_alike_97 : Dn cX9_alike 97 (.getfield 30) 3 100 := by decide +kernel
theorem dX9_alike_100 : Dn cX9_alike 100 (.aload_n 0) 1 101 := by decide +kernel
theorem dX9_alike_101 : Dn cX9_alike 101 (.getfield 16) 3 104 := by decide +kernel
theorem dX9_alike_104 : Dn cX9_alike 104 (.iload_n 2) 1 105 := by decide +kernel
theorem dX9_alike_105 : Dn cX9_alike 105 (.sipush 3999) 3 108 := by decide +kernel
theorem dX9_alike_108 : Dn cX9_alike 108 (.iload_n 3) 1 109 := by decide +kernel
theorem dX9_alike_109 : Dn cX9_alike 109 (.invokevirtual 156) 3 112 := by decide +kernel
theorem dX9_alike_112 : Dn cX9_alike 112 (.istore 8) 2 114 := by decide +kernel
theorem dX9_alike_114 : Dn cX9_alike 114 (.iload 5) 2 116 := by decide +kernel
theorem dX9_alike_116 : Dn cX9_alike 116 (.iload 6) 2 118 := by decide +kernel
theorem dX9_alike_118 : Dn cX9_alike 118 (.iload 7) 2 120 := by decide +kernel
theorem dX9_alike_120 : Dn cX9_alike 120 (.iload 8) 2 122 := by decide +kernel
theorem dX9_alike_122 : Dn cX9_alike 122 (.iadd) 1 123 := by decide +kernel
theorem dX9_alike_123 : Dn cX9_alike 123 (.iload 7) 2 125 := by decide +kernel
theorem dX9_alike_125 : Dn cX9_alike 125 (.invokestatic 184) 3 128 := by decide +kernel
theorem dX9_alike_128 : Dn cX9_alike 128 (.lstore 9) 2 130 := by decide +kernel
theorem dX9_alike_130 : Dn cX9_alike 130 (.lload 9) 2 132 := by decide +kernel
theorem dX9_alike_132 : Dn cX9_alike 132 (.iload 5) 2 134 := by decide +kernel
theorem dX9_alike_134 : Dn cX9_alike 134 (.iload 6) 2 136 := by decide +kernel
theorem dX9_alike_136 : Dn cX9_alike 136 (.iadd) 1 137 := by decide +kernel
theorem dX9_alike_137 : Dn cX9_alike 137 (.iload 5) 2 139 := by decide +kernel
theorem dX9_alike_139 : Dn cX9_alike 139 (.invokestatic 188) 3 142 := by decide +kernel
theorem dX9_alike_142 : Dn cX9_alike 142 (.iload 4) 2 144 := by decide +kernel
theorem dX9_alike_144 : Dn cX9_alike 144 (.invokestatic 178) 3 147 := by decide +kernel
theorem dX9_alike_147 : Dn cX9_alike 147 (.lreturn) 1 148 := by decide +kernel
theorem dX9_few_0 : Dn cX9_few 0 (.iload_n 1) 1 1 := by decide +kernel
theorem dX9_few_1 : Dn cX9_few 1 (.iconst 1) 1 2 := by decide +kernel
theorem dX9_few_2 : Dn cX9_few 2 (.bipush 8) 2 4 := by decide +kernel
theorem dX9_few_4 : Dn cX9_few 4 (.invokestatic 127) 3 7 := by decide +kernel
theorem dX9_few_7 : Db cX9_few 7 (.ifCond .eq 34) (34) 10 41 := by decide +kernel
theorem dX9_few_10 : Dn cX9_few 10 (.iload 4) 2 12 := by decide +kernel
theorem dX9_few_12 : Dn cX9_few 12 (.iconst 2) 1 13 := by decide +kernel
theorem dX9_few_13 : Dn cX9_few 13 (.bipush 100) 2 15 := by decide +kernel
theorem dX9_few_15 : Dn cX9_few 15 (.invokestatic 127) 3 18 := by decide +kernel
theorem dX9_few_18 : Db cX9_few 18 (.ifCond .eq 23) (23) 21 41 := by decide +kernel
theorem dX9_few_21 : Dn cX9_few 21 (.iload_n 3) 1 22 := by decide +kernel
theorem dX9_few_22 : Dn cX9_few 22 (.iconst 1) 1 23 := by decide +kernel
theorem dX9_few_23 : Dn cX9_few 23 (.iload 4) 2 25 := by decide +kernel
theorem dX9_few_25 : Dn cX9_few 25 (.iconst 1) 1 26 := by decide +kernel
theorem dX9_few_26 : Dn cX9_few 26 (.isub) 1 27 := by decide +kernel
theorem dX9_few_27 : Dn cX9_few 27 (.invokestatic 127) 3 30 := by decide +kernel
theorem dX9_few_30 : Db cX9_few 30 (.ifCond .eq 11) (11) 33 41 := by decide +kernel
theorem dX9_few_33 : Dn cX9_few 33 (.iload 5) 2 35 := by decide +kernel
theorem dX9_few_35 : Dn cX9_few 35 (.invokestatic 166) 3 38 := by decide +kernel
theorem dX9_few_38 : Db cX9_few 38 (.ifCond .ne 7) (7) 41 45 := by decide +kernel
theorem dX9_few_41 : Dn cX9_few 41 (.ldc2_w 169) 3 44 := by decide +kernel
theorem dX9_few_44 : Dn cX9_few 44 (.lreturn) 1 45 := by decide +kernel
theorem dX9_few_45 : Dn cX9_few 45 (.iload_n 1) 1 46 := by decide +kernel
theorem dX9_few_46 : Dn cX9_few 46 (.iload_n 2) 1 47 := by decide +kernel
theorem dX9_few_47 : Dn cX9_few 47 (.iload_n 3) 1 48 := by decide +kernel
theorem dX9_few_48 : Dn cX9_few 48 (.iload 4) 2 50 := by decide +kernel
theorem dX9_few_50 : Dn cX9_few 50 (.invokestatic 192) 3 53 := by decide +kernel
theorem dX9_few_53 : Dn cX9_few 53 (.iload 4) 2 55 := by decide +kernel
theorem dX9_few_55 : Dn cX9_few 55 (.iload_n 1) 1 56 := by decide +kernel
theorem dX9_few_56 : Dn cX9_few 56 (.invokestatic 195) 3 59 := by decide +kernel
theorem dX9_few_59 : Dn cX9_few 59 (.iload 5) 2 61 := by decide +kernel
theorem dX9_few_61 : Dn cX9_few 61 (.invokestatic 178) 3 64 := by decide +kernel
theorem dX9_few_64 : Dn cX9_few 64 (.lreturn) 1 65 := by decide +kernel
theorem dX9_step_0 : Dn cX9_step 0 (.aload_n 0) 1 1 := by decide +kernel
theorem dX9_step_1 : Dn cX9_step 1 (.getfield 37) 3 4 := by decide +kernel
theorem dX9_step_4 : Dn cX9_step 4 (.iload_n 1) 1 5 := by decide +kernel
theorem dX9_step_5 : Dn cX9_step 5 (.invokevirtual 198) 3 8 := by decide +kernel
theorem dX9_step_8 : Dn cX9_step 8 (.astore 4) 2 10 := by decide +kernel
theorem dX9_step_10 : Dn cX9_step 10 (.aload 4) 2 12 := by decide +kernel
theorem dX9_step_12 : Db cX9_step 12 (.ifnull 26) (26) 15 38 := by decide +kernel
theorem dX9_step_15 : Dn cX9_step 15 (.iload_n 2) 1 16 := by decide +kernel
theorem dX9_step_16 : Dn cX9_step 16 (.iconst 0) 1 17 := by decide +kernel
theorem dX9_step_17 : Dn cX9_step 17 (.aload 4) 2 19 := by decide +kernel
theorem dX9_step_19 : Dn cX9_step 19 (.arraylength) 1 20 := by decide +kernel
theorem dX9_step_20 : Dn cX9_step 20 (.iconst 1) 1 21 := by decide +kernel
theorem dX9_step_21 : Dn cX9_step 21 (.isub) 1 22 := by decide +kernel
theorem dX9_step_22 : Dn cX9_step 22 (.invokestatic 127) 3 25 := by decide +kernel
theorem dX9_step_25 : Db cX9_step 25 (.ifCond .eq 13) (13) 28 38 := by decide +kernel
theorem dX9_step_28 : Dn cX9_step 28 (.iload_n 3) 1 29 := by decide +kernel
theorem dX9_step_29 : Dn cX9_step 29 (.iconst 0) 1 30 := by decide +kernel
theorem dX9_step_30 : Dn cX9_step 30 (.bipush 100) 2 32 := by decide +kernel
theorem dX9_step_32 : Dn cX9_step 32 (.invokestatic 127) 3 35 := by decide +kernel
theorem dX9_step_35 : Db cX9_step 35 (.ifCond .ne 6) (6) 38 41 := by decide +kernel
theorem dX9_step_38 : Dn cX9_step 38 (.bipush (-2)) 2 40 := by decide +kernel
theorem dX9_step_40 : Dn cX9_step 40 (.ireturn) 1 41 := by decide +kernel
theorem dX9_step_41 : Dn cX9_step 41 (.aload 4) 2 43 := by decide +kernel
theorem dX9_step_43 : Dn cX9_step 43 (.iload_n 2) 1 44 := by decide +kernel
theorem dX9_step_44 : Dn cX9_step 44 (.iaload) 1 45 := by decide +kernel
theorem dX9_step_45 : Dn cX9_step 45 (.istore 5) 2 47 := by decide +kernel
theorem dX9_step_47 : Dn cX9_step 47 (.aload 4) 2 49 := by decide +kernel
theorem dX9_step_49 : Dn cX9_step 49 (.iload_n 2) 1 50 := by decide +kernel
theorem dX9_step_50 : Dn cX9_step 50 (.iload_n 3) 1 51 := by decide +kernel
theorem dX9_step_51 : Dn cX9_step 51 (.iastore) 1 52 := by decide +kernel
theorem dX9_step_52 : Dn cX9_step 52 (.iload 5) 2 54 := by decide +kernel
theorem dX9_step_54 : Dn cX9_step 54 (.ireturn) 1 55 := by decide +kernel
theorem dX9_share_0 : Dn cX9_share 0 (.aload_n 0) 1 1 := by decide +kernel
theorem dX9_share_1 : Dn cX9_share 1 (.getfield 16) 3 4 := by decide +kernel
theorem dX9_share_4 : Dn cX9_share 4 (.iload_n 1) 1 5 := by decide +kernel
theorem dX9_share_5 : Dn cX9_share 5 (.invokevirtual 94) 3 8 := by decide +kernel
theorem dX9_share_8 : Db cX9_share 8 (.ifCond .eq 19) (19) 11 27 := by decide +kernel
theorem dX9_share_11 : Dn cX9_share 11 (.iload_n 2) 1 12 := by decide +kernel
theorem dX9_share_12 : Dn cX9_share 12 (.iconst (-1)) 1 13 := by decide +kernel
theorem dX9_share_13 : Db cX9_share 13 (.if_icmp .eq 18) (18) 16 31 := by decide +kernel
theorem dX9_share_16 : Dn cX9_share 16 (.aload_n 0) 1 17 := by decide +kernel
theorem dX9_share_17 : Dn cX9_share 17 (.getfield 16) 3 20 := by decide +kernel
theorem dX9_share_20 : Dn cX9_share 20 (.iload_n 2) 1 21 := by decide +kernel
theorem dX9_share_21 : Dn cX9_share 21 (.invokevirtual 94) 3 24 := by decide +kernel
theorem dX9_share_24 : Db cX9_share 24 (.ifCond .ne 7) (7) 27 31 := by decide +kernel
theorem dX9_share_27 : Dn cX9_share 27 (.ldc2_w 164) 3 30 := by decide +kernel
theorem dX9_share_30 : Dn cX9_share 30 (.lreturn) 1 31 := by decide +kernel
theorem dX9_share_31 : Dn cX9_share 31 (.iload_n 3) 1 32 := by decide +kernel
theorem dX9_share_32 : Dn cX9_share 32 (.invokestatic 80) 3 35 := by decide +kernel
theorem dX9_share_35 : Db cX9_share 35 (.ifCond .eq 11) (11) 38 46 := by decide +kernel
theorem dX9_share_38 : Dn cX9_share 38 (.iload 4) 2 40 := by decide +kernel
theorem dX9_share_40 : Dn cX9_share 40 (.invokestatic 166) 3 43 := by decide +kernel
theorem dX9_share_43 : Db cX9_share 43 (.ifCond .ne 7) (7) 46 50 := by decide +kernel
theorem dX9_share_46 : Dn cX9_share 46 (.ldc2_w 169) 3 49 := by decide +kernel
theorem dX9_share_49 : Dn cX9_share 49 (.lreturn) 1 50 := by decide +kernel
theorem dX9_share_50 : Dn cX9_share 50 (.aload_n 0) 1 51 := by decide +kernel
theorem dX9_share_51 : Dn cX9_share 51 (.getfield 16) 3 54 := by decide +kernel
theorem dX9_share_54 : Dn cX9_share 54 (.iload_n 1) 1 55 := by decide +kernel
theorem dX9_share_55 : Dn cX9_share 55 (.iconst (-1)) 1 56 := by decide +kernel
theorem dX9_share_56 : Dn cX9_share 56 (.iload_n 3) 1 57 := by decide +kernel
theorem dX9_share_57 : Dn cX9_share 57 (.invokevirtual 202) 3 60 := by decide +kernel
theorem dX9_share_60 : Db cX9_share 60 (.ifCond .ne 7) (7) 63 67 := by decide +kernel
theorem dX9_share_63 : Dn cX9_share 63 (.ldc2_w 171) 3 66 := by decide +kernel
theorem dX9_share_66 : Dn cX9_share 66 (.lreturn) 1 67 := by decide +kernel
theorem dX9_share_67 : Dn cX9_share 67 (.aload_n 0) 1 68 := by decide +kernel
theorem dX9_share_68 : Dn cX9_share 68 (.getfield 7) 3 71 := by decide +kernel
theorem dX9_share_71 : Dn cX9_share 71 (.iconst 3) 1 72 := by decide +kernel
theorem dX9_share_72 : Dn cX9_share 72 (.iaload) 1 73 := by decide +kernel
theorem dX9_share_73 : Dn cX9_share 73 (.istore 5) 2 75 := by decide +kernel
theorem dX9_share_75 : Dn cX9_share 75 (.iload_n 2) 1 76 := by decide +kernel
theorem dX9_share_76 : Dn cX9_share 76 (.iconst (-1)) 1 77 := by decide +kernel
theorem dX9_share_77 : Db cX9_share 77 (.if_icmp .ne 8) (8) 80 85 := by decide +kernel
theorem dX9_share_80 : Dn cX9_share 80 (.iload 5) 2 82 := by decide +kernel
theorem dX9_share_82 : Db cX9_share 82 (.goto 17) (17) 85 99 := by decide +kernel
theorem dX9_share_85 : Dn cX9_share 85 (.aload_n 0) 1 86 := by decide +kernel
theorem dX9_share_86 : Dn cX9_share 86 (.getfield 37) 3 89 := by decide +kernel
theorem dX9_share_89 : Dn cX9_share 89 (.aload_n 0) 1 90 := by decide +kernel
theorem dX9_share_90 : Dn cX9_share 90 (.getfield 16) 3 93 := by decide +kernel
theorem dX9_share_93 : Dn cX9_share 93 (.iload_n 1) 1 94 := by decide +kernel
theorem dX9_share_94 : Dn cX9_share 94 (.iload_n 2) 1 95 := by decide +kernel
theorem dX9_share_95 : Dn cX9_share 95 (.iload_n 3) 1 96 := by decide +kernel
theorem dX9_share_96 : Dn cX9_share 96 (.invokevirtual 205) 3 99 := by decide +kernel
theorem dX9_share_99 : Dn cX9_share 99 (.istore 6) 2 101 := by decide +kernel
theorem dX9_share_101 : Dn cX9_share 101 (.iload 6) 2 103 := by decide +kernel
theorem dX9_share_103 : Dn cX9_share 103 (.i2l) 1 104 := by decide +kernel
theorem dX9_share_104 : Dn cX9_share 104 (.aload_n 0) 1 105 := by decide +kernel
theorem dX9_share_105 : Dn cX9_share 105 (.getfield 37) 3 108 := by decide +kernel
theorem dX9_share_108 : Dn cX9_share 108 (.aload_n 0) 1 109 := by decide +kernel
theorem dX9_share_109 : Dn cX9_share 109 (.getfield 16) 3 112 := by decide +kernel
theorem dX9_share_112 : Dn cX9_share 112 (.iload_n 1) 1 113 := by decide +kernel
theorem dX9_share_113 : Dn cX9_share 113 (.iload_n 3) 1 114 := by decide +kernel
theorem dX9_share_114 : Dn cX9_share 114 (.iload 5) 2 116 := by decide +kernel
theorem dX9_share_116 : Dn cX9_share 116 (.invokevirtual 208) 3 119 := by decide +kernel
theorem dX9_share_119 : Dn cX9_share 119 (.i2l) 1 120 := by decide +kernel
theorem dX9_share_120 : Dn cX9_share 120 (.iload 4) 2 122 := by decide +kernel
theorem dX9_share_122 : Dn cX9_share 122 (.invokestatic 178) 3 125 := by decide +kernel
theorem dX9_share_125 : Dn cX9_share 125 (.lreturn) 1 126 := by decide +kernel
theorem dX9_mother_0 : Dn cX9_mother 0 (.aload_n 0) 1 1 := by decide +kernel
theorem dX9_mother_1 : Dn cX9_mother 1 (.iload_n 1) 1 2 := by decide +kernel
theorem dX9_mother_2 : Dn cX9_mother 2 (.iload_n 2) 1 3 := by decide +kernel
theorem dX9_mother_3 : Dn cX9_mother 3 (.iconst 1) 1 4 := by decide +kernel
theorem dX9_mother_4 : Dn cX9_mother 4 (.invokevirtual 211) 3 7 := by decide +kernel
theorem dX9_mother_7 : Dn cX9_mother 7 (.istore_n 3) 1 8 := by decide +kernel
theorem dX9_mother_8 : Dn cX9_mother 8 (.iload_n 3) 1 9 := by decide +kernel
theorem dX9_mother_9 : Db cX9_mother 9 (.ifCond .eq 5) (5) 12 14 := by decide +kernel
theorem dX9_mother_12 : Dn cX9_mother 12 (.iload_n 3) 1 13 := by decide +kernel
theorem dX9_mother_13 : Dn cX9_mother 13 (.ireturn) 1 14 := by decide +kernel
theorem dX9_mother_14 : Dn cX9_mother 14 (.aload_n 0) 1 15 := by decide +kernel
theorem dX9_mother_15 : Dn cX9_mother 15 (.getfield 37) 3 18 := by decide +kernel
theorem dX9_mother_18 : Dn cX9_mother 18 (.aload_n 0) 1 19 := by decide +kernel
theorem dX9_mother_19 : Dn cX9_mother 19 (.getfield 16) 3 22 := by decide +kernel
theorem dX9_mother_22 : Dn cX9_mother 22 (.iload_n 1) 1 23 := by decide +kernel
theorem dX9_mother_23 : Dn cX9_mother 23 (.iload_n 2) 1 24 := by decide +kernel
theorem dX9_mother_24 : Dn cX9_mother 24 (.aload_n 0) 1 25 := by decide +kernel
theorem dX9_mother_25 : Dn cX9_mother 25 (.getfield 7) 3 28 := by decide +kernel
theorem dX9_mother_28 : Dn cX9_mother 28 (.iconst 3) 1 29 := by decide +kernel
theorem dX9_mother_29 : Dn cX9_mother 29 (.iaload) 1 30 := by decide +kernel
theorem dX9_mother_30 : Dn cX9_mother 30 (.invokevirtual 215) 3 33 := by decide +kernel
theorem dX9_mother_33 : Dn cX9_mother 33 (.ireturn) 1 34 := by decide +kernel
theorem dX9_family_0 : Dn cX9_family 0 (.aload_n 0) 1 1 := by decide +kernel
theorem dX9_family_1 : Dn cX9_family 1 (.iload_n 1) 1 2 := by decide +kernel
theorem dX9_family_2 : Dn cX9_family 2 (.iload_n 2) 1 3 := by decide +kernel
theorem dX9_family_3 : Dn cX9_family 3 (.iload_n 3) 1 4 := by decide +kernel
theorem dX9_family_4 : Dn cX9_family 4 (.iconst 0) 1 5 := by decide +kernel
theorem dX9_family_5 : Dn cX9_family 5 (.iconst 3) 1 6 := by decide +kernel
theorem dX9_family_6 : Dn cX9_family 6 (.invokestatic 127) 3 9 := by decide +kernel
theorem dX9_family_9 : Dn cX9_family 9 (.invokevirtual 211) 3 12 := by decide +kernel
theorem dX9_family_12 : Dn cX9_family 12 (.istore 4) 2 14 := by decide +kernel
theorem dX9_family_14 : Dn cX9_family 14 (.iload 4) 2 16 := by decide +kernel
theorem dX9_family_16 : Db cX9_family 16 (.ifCond .eq 6) (6) 19 22 := by decide +kernel
theorem dX9_family_19 : Dn cX9_family 19 (.iload 4) 2 21 := by decide +kernel
theorem dX9_family_21 : Dn cX9_family 21 (.ireturn) 1 22 := by decide +kernel
theorem dX9_family_22 : Dn cX9_family 22 (.aload_n 0) 1 23 := by decide +kernel
theorem dX9_family_23 : Dn cX9_family 23 (.getfield 37) 3 26 := by decide +kernel
theorem dX9_family_26 : Dn cX9_family 26 (.aload_n 0) 1 27 := by decide +kernel
theorem dX9_family_27 : Dn cX9_family 27 (.getfield 16) 3 30 := by decide +kernel
theorem dX9_family_30 : Dn cX9_family 30 (.iload_n 2) 1 31 := by decide +kernel
theorem dX9_family_31 : Dn cX9_family 31 (.aload_n 0) 1 32 := by decide +kernel
theorem dX9_family_32 : Dn cX9_family 32 (.getfield 7) 3 35 := by decide +kernel
theorem dX9_family_35 : Dn cX9_family 35 (.iconst 3) 1 36 := by decide +kernel
theorem dX9_family_36 : Dn cX9_family 36 (.iaload) 1 37 := by decide +kernel
theorem dX9_family_37 : Dn cX9_family 37 (.invokevirtual 218) 3 40 := by decide +kernel
theorem dX9_family_40 : Dn cX9_family 40 (.aload_n 0) 1 41 := by decide +kernel
theorem dX9_family_41 : Dn cX9_family 41 (.getfield 37) 3 44 := by decide +kernel
theorem dX9_family_44 : Dn cX9_family 44 (.getfield 222) 3 47 := by decide +kernel
theorem dX9_family_47 : Dn cX9_family 47 (.iload_n 1) 1 48 := by decide +kernel
theorem dX9_family_48 : Dn cX9_family 48 (.iaload) 1 49 := by decide +kernel
theorem dX9_family_49 : Dn cX9_family 49 (.istore 5) 2 51 := by decide +kernel
theorem dX9_family_51 : Dn cX9_family 51 (.iload_n 3) 1 52 := by decide +kernel
theorem dX9_family_52 : Dn cX9_family 52 (.tableswitch 59 0 2 #[28, 31, 45]) 28 80 := by decide +kernel
theorem dX9_family_80 : Dn cX9_family 80 (.iload 5) 2 82 := by decide +kernel
theorem dX9_family_82 : Dn cX9_family 82 (.ireturn) 1 83 := by decide +kernel
theorem dX9_family_83 : Dn cX9_family 83 (.aload_n 0) 1 84 := by decide +kernel
theorem dX9_family_84 : Dn cX9_family 84 (.getfield 37) 3 87 := by decide +kernel
theorem dX9_family_87 : Dn cX9_family 87 (.aload_n 0) 1 88 := by decide +kernel
theorem dX9_family_88 : Dn cX9_family 88 (.getfield 16) 3 91 := by decide +kernel
theorem dX9_family_91 : Dn cX9_family 91 (.iload 5) 2 93 := by decide +kernel
theorem dX9_family_93 : Dn cX9_family 93 (.invokevirtual 225) 3 96 := by decide +kernel
theorem dX9_family_96 : Dn cX9_family 96 (.ireturn) 1 97 := by decide +kernel
theorem dX9_family_97 : Dn cX9_family 97 (.aload_n 0) 1 98 := by decide +kernel
theorem dX9_family_98 : Dn cX9_family 98 (.getfield 37) 3 101 := by decide +kernel
theorem dX9_family_101 : Dn cX9_family 101 (.aload_n 0) 1 102 := by decide +kernel
theorem dX9_family_102 : Dn cX9_family 102 (.getfield 16) 3 105 := by decide +kernel
theorem dX9_family_105 : Dn cX9_family 105 (.iload 5) 2 107 := by decide +kernel
theorem dX9_family_107 : Dn cX9_family 107 (.invokevirtual 229) 3 110 := by decide +kernel
theorem dX9_family_110 : Dn cX9_family 110 (.ireturn) 1 111 := by decide +kernel
theorem dX9_family_111 : Dn cX9_family 111 (.aload_n 0) 1 112 := by decide +kernel
theorem dX9_family_112 : Dn cX9_family 112 (.getfield 37) 3 115 := by decide +kernel
theorem dX9_family_115 : Dn cX9_family 115 (.getfield 232) 3 118 := by decide +kernel
theorem dX9_family_118 : Dn cX9_family 118 (.iload_n 1) 1 119 := by decide +kernel
theorem dX9_family_119 : Dn cX9_family 119 (.iaload) 1 120 := by decide +kernel
theorem dX9_family_120 : Dn cX9_family 120 (.ireturn) 1 121 := by decide +kernel
theorem dX9_families_0 : Dn cX9_families 0 (.iload_n 1) 1 1 := by decide +kernel
theorem dX9_families_1 : Dn cX9_families 1 (.invokestatic 80) 3 4 := by decide +kernel
theorem dX9_families_4 : Db cX9_families 4 (.ifCond .ne 6) (6) 7 10 := by decide +kernel
theorem dX9_families_7 : Dn cX9_families 7 (.bipush (-2)) 2 9 := by decide +kernel
theorem dX9_families_9 : Dn cX9_families 9 (.ireturn) 1 10 := by decide +kernel
theorem dX9_families_10 : Dn cX9_families 10 (.aload_n 0) 1 11 := by decide +kernel
theorem dX9_families_11 : Dn cX9_families 11 (.getfield 37) 3 14 := by decide +kernel
theorem dX9_families_14 : Dn cX9_families 14 (.aload_n 0) 1 15 := by decide +kernel
theorem dX9_families_15 : Dn cX9_families 15 (.getfield 16) 3 18 := by decide +kernel
theorem dX9_families_18 : Dn cX9_families 18 (.iload_n 1) 1 19 := by decide +kernel
theorem dX9_families_19 : Dn cX9_families 19 (.aload_n 0) 1 20 := by decide +kernel
theorem dX9_families_20 : Dn cX9_families 20 (.getfield 7) 3 23 := by decide +kernel
theorem dX9_families_23 : Dn cX9_families 23 (.iconst 3) 1 24 := by decide +kernel
theorem dX9_families_24 : Dn cX9_families 24 (.iaload) 1 25 := by decide +kernel
theorem dX9_families_25 : Dn cX9_families 25 (.invokevirtual 218) 3 28 := by decide +kernel
theorem dX9_families_28 : Dn cX9_families 28 (.iload_n 2) 1 29 := by decide +kernel
theorem dX9_families_29 : Dn cX9_families 29 (.iconst (-1)) 1 30 := by decide +kernel
theorem dX9_families_30 : Db cX9_families 30 (.if_icmp .ne 17) (17) 33 47 := by decide +kernel
theorem dX9_families_33 : Dn cX9_families 33 (.aload_n 0) 1 34 := by decide +kernel
theorem dX9_families_34 : Dn cX9_families 34 (.getfield 37) 3 37 := by decide +kernel
theorem dX9_families_37 : Dn cX9_families 37 (.aload_n 0) 1 38 := by decide +kernel
theorem dX9_families_38 : Dn cX9_families 38 (.getfield 16) 3 41 := by decide +kernel
theorem dX9_families_41 : Dn cX9_families 41 (.invokevirtual 235) 3 44 := by decide +kernel
theorem dX9_families_44 : Db cX9_families 44 (.goto 15) (15) 47 59 := by decide +kernel
theorem dX9_families_47 : Dn cX9_families 47 (.aload_n 0) 1 48 := by decide +kernel
theorem dX9_families_48 : Dn cX9_families 48 (.getfield 37) 3 51 := by decide +kernel
theorem dX9_families_51 : Dn cX9_families 51 (.aload_n 0) 1 52 := by decide +kernel
theorem dX9_families_52 : Dn cX9_families 52 (.getfield 16) 3 55 := by decide +kernel
theorem dX9_families_55 : Dn cX9_families 55 (.iload_n 2) 1 56 := by decide +kernel
theorem dX9_families_56 : Dn cX9_families 56 (.invokevirtual 239) 3 59 := by decide +kernel
theorem dX9_families_59 : Dn cX9_families 59 (.ireturn) 1 60 := by decide +kernel
theorem dX9_draw_0 : Dn cX9_draw 0 (.aload_n 0) 1 1 := by decide +kernel
theorem dX9_draw_1 : Dn cX9_draw 1 (.iload_n 2) 1 2 := by decide +kernel
theorem dX9_draw_2 : Dn cX9_draw 2 (.iload_n 3) 1 3 := by decide +kernel
theorem dX9_draw_3 : Dn cX9_draw 3 (.iload_n 1) 1 4 := by decide +kernel
theorem dX9_draw_4 : Dn cX9_draw 4 (.iconst 1) 1 5 := by decide +kernel
theorem dX9_draw_5 : Dn cX9_draw 5 (.ldc 242) 2 7 := by decide +kernel
theorem dX9_draw_7 : Dn cX9_draw 7 (.invokestatic 127) 3 10 := by decide +kernel
theorem dX9_draw_10 : Dn cX9_draw 10 (.invokevirtual 211) 3 13 := by decide +kernel
theorem dX9_draw_13 : Dn cX9_draw 13 (.istore 4) 2 15 := by decide +kernel
theorem dX9_draw_15 : Dn cX9_draw 15 (.iload 4) 2 17 := by decide +kernel
theorem dX9_draw_17 : Db cX9_draw 17 (.ifCond .eq 6) (6) 20 23 := by decide +kernel
theorem dX9_draw_20 : Dn cX9_draw 20 (.iload 4) 2 22 := by decide +kernel
theorem dX9_draw_22 : Dn cX9_draw 22 (.ireturn) 1 23 := by decide +kernel
theorem dX9_draw_23 : Dn cX9_draw 23 (.aload_n 0) 1 24 := by decide +kernel
theorem dX9_draw_24 : Dn cX9_draw 24 (.getfield 37) 3 27 := by decide +kernel
theorem dX9_draw_27 : Dn cX9_draw 27 (.aload_n 0) 1 28 := by decide +kernel
theorem dX9_draw_28 : Dn cX9_draw 28 (.getfield 16) 3 31 := by decide +kernel
theorem dX9_draw_31 : Dn cX9_draw 31 (.iload_n 1) 1 32 := by decide +kernel
theorem dX9_draw_32 : Dn cX9_draw 32 (.iload_n 2) 1 33 := by decide +kernel
theorem dX9_draw_33 : Dn cX9_draw 33 (.iload_n 3) 1 34 := by decide +kernel
theorem dX9_draw_34 : Dn cX9_draw 34 (.aload_n 0) 1 35 := by decide +kernel
theorem dX9_draw_35 : Dn cX9_draw 35 (.getfield 7) 3 38 := by decide +kernel
theorem dX9_draw_38 : Dn cX9_draw 38 (.iconst 3) 1 39 := by decide +kernel
theorem dX9_draw_39 : Dn cX9_draw 39 (.iaload) 1 40 := by decide +kernel
theorem dX9_draw_40 : Dn cX9_draw 40 (.invokevirtual 243) 3 43 := by decide +kernel
theorem dX9_draw_43 : Dn cX9_draw 43 (.ireturn) 1 44 := by decide +kernel
theorem dX9_rate_0 : Dn cX9_rate 0 (.iload_n 1) 1 1 := by decide +kernel
theorem dX9_rate_1 : Dn cX9_rate 1 (.iload_n 2) 1 2 := by decide +kernel
theorem dX9_rate_2 : Dn cX9_rate 2 (.invokestatic 76) 3 5 := by decide +kernel
theorem dX9_rate_5 : Db cX9_rate 5 (.ifCond .ne 5) (5) 8 10 := by decide +kernel
theorem dX9_rate_8 : Dn cX9_rate 8 (.iconst (-1)) 1 9 := by decide +kernel
theorem dX9_rate_9 : Dn cX9_rate 9 (.ireturn) 1 10 := by decide +kernel
theorem dX9_rate_10 : Dn cX9_rate 10 (.iload_n 3) 1 11 := by decide +kernel
theorem dX9_rate_11 : Dn cX9_rate 11 (.invokestatic 80) 3 14 := by decide +kernel
theorem dX9_rate_14 : Db cX9_rate 14 (.ifCond .eq 11) (11) 17 25 := by decide +kernel
theorem dX9_rate_17 : Dn cX9_rate 17 (.iload 4) 2 19 := by decide +kernel
theorem dX9_rate_19 : Dn cX9_rate 19 (.invokestatic 80) 3 22 := by decide +kernel
theorem dX9_rate_22 : Db cX9_rate 22 (.ifCond .ne 6) (6) 25 28 := by decide +kernel
theorem dX9_rate_25 : Dn cX9_rate 25 (.bipush (-2)) 2 27 := by decide +kernel
theorem dX9_rate_27 : Dn cX9_rate 27 (.ireturn) 1 28 := by decide +kernel
theorem dX9_rate_28 : Dn cX9_rate 28 (.aload_n 0) 1 29 := by decide +kernel
theorem dX9_rate_29 : Dn cX9_rate 29 (.getfield 7) 3 32 := by decide +kernel
theorem dX9_rate_32 : Dn cX9_rate 32 (.iconst 3) 1 33 := by decide +kernel
theorem dX9_rate_33 : Dn cX9_rate 33 (.iaload) 1 34 := by decide +kernel
theorem dX9_rate_34 : Dn cX9_rate 34 (.aload_n 0) 1 35 := by decide +kernel
theorem dX9_rate_35 : Dn cX9_rate 35 (.getfield 37) 3 38 := by decide +kernel
theorem dX9_rate_38 : Dn cX9_rate 38 (.aload_n 0) 1 39 := by decide +kernel
theorem dX9_rate_39 : Dn cX9_rate 39 (.getfield 16) 3 42 := by decide +kernel
theorem dX9_rate_42 : Dn cX9_rate 42 (.iload_n 1) 1 43 := by decide +kernel
theorem dX9_rate_43 : Dn cX9_rate 43 (.iload_n 2) 1 44 := by decide +kernel
theorem dX9_rate_44 : Dn cX9_rate 44 (.iload_n 3) 1 45 := by decide +kernel
theorem dX9_rate_45 : Dn cX9_rate 45 (.iload 4) 2 47 := by decide +kernel
theorem dX9_rate_47 : Dn cX9_rate 47 (.invokevirtual 247) 3 50 := by decide +kernel
theorem dX9_rate_50 : Dn cX9_rate 50 (.iadd) 1 51 := by decide +kernel
theorem dX9_rate_51 : Dn cX9_rate 51 (.ireturn) 1 52 := by decide +kernel
theorem dX9_say_0 : Dn cX9_say 0 (.iload_n 1) 1 1 := by decide +kernel
theorem dX9_say_1 : Dn cX9_say 1 (.bipush 33) 2 3 := by decide +kernel
theorem dX9_say_3 : Dn cX9_say 3 (.bipush 126) 2 5 := by decide +kernel
theorem dX9_say_5 : Dn cX9_say 5 (.invokestatic 127) 3 8 := by decide +kernel
theorem dX9_say_8 : Db cX9_say 8 (.ifCond .ne 6) (6) 11 14 := by decide +kernel
theorem dX9_say_11 : Dn cX9_say 11 (.bipush (-2)) 2 13 := by decide +kernel
theorem dX9_say_13 : Dn cX9_say 13 (.ireturn) 1 14 := by decide +kernel
theorem dX9_say_14 : Dn cX9_say 14 (.aload_n 0) 1 15 := by decide +kernel
theorem dX9_say_15 : Dn cX9_say 15 (.getfield 44) 3 18 := by decide +kernel
theorem dX9_say_18 : Dn cX9_say 18 (.invokevirtual 250) 3 21 := by decide +kernel
theorem dX9_say_21 : Db cX9_say 21 (.ifCond .eq 6) (6) 24 27 := by decide +kernel
theorem dX9_say_24 : Dn cX9_say 24 (.bipush (-4)) 2 26 := by decide +kernel
theorem dX9_say_26 : Dn cX9_say 26 (.ireturn) 1 27 := by decide +kernel
theorem dX9_say_27 : Dn cX9_say 27 (.aload_n 0) 1 28 := by decide +kernel
theorem dX9_say_28 : Dn cX9_say 28 (.getfield 44) 3 31 := by decide +kernel
theorem dX9_say_31 : Dn cX9_say 31 (.iload_n 1) 1 32 := by decide +kernel
theorem dX9_say_32 : Dn cX9_say 32 (.invokevirtual 251) 3 35 := by decide +kernel
theorem dX9_say_35 : Dn cX9_say 35 (.ireturn) 1 36 := by decide +kernel
theorem dX9_wipe_0 : Dn cX9_wipe 0 (.aload_n 0) 1 1 := by decide +kernel
theorem dX9_wipe_1 : Dn cX9_wipe 1 (.getfield 44) 3 4 := by decide +kernel
theorem dX9_wipe_4 : Dn cX9_wipe 4 (.getfield 253) 3 7 := by decide +kernel
theorem dX9_wipe_7 : Dn cX9_wipe 7 (.istore_n 1) 1 8 := by decide +kernel
theorem dX9_wipe_8 : Dn cX9_wipe 8 (.aload_n 0) 1 9 := by decide +kernel
theorem dX9_wipe_9 : Dn cX9_wipe 9 (.getfield 44) 3 12 := by decide +kernel
theorem dX9_wipe_12 : Dn cX9_wipe 12 (.iconst 0) 1 13 := by decide +kernel
theorem dX9_wipe_13 : Dn cX9_wipe 13 (.putfield 253) 3 16 := by decide +kernel
theorem dX9_wipe_16 : Dn cX9_wipe 16 (.iload_n 1) 1 17 := by decide +kernel
theorem dX9_wipe_17 : Dn cX9_wipe 17 (.ireturn) 1 18 := by decide +kernel
theorem dX9_fault_0 : Dn cX9_fault 0 (.aload_n 0) 1 1 := by decide +kernel
theorem dX9_fault_1 : Dn cX9_fault 1 (.getfield 44) 3 4 := by decide +kernel
theorem dX9_fault_4 : Dn cX9_fault 4 (.invokevirtual 256) 3 7 := by decide +kernel
theorem dX9_fault_7 : Dn cX9_fault 7 (.ireturn) 1 8 := by decide +kernel
theorem dX9_forecast_0 : Dn cX9_forecast 0 (.aload_n 0) 1 1 := by decide +kernel
theorem dX9_forecast_1 : Dn cX9_forecast 1 (.getfield 54) 3 4 := by decide +kernel
theorem dX9_forecast_4 : Dn cX9_forecast 4 (.bipush 6) 2 6 := by decide +kernel
theorem dX9_forecast_6 : Db cX9_forecast 6 (.if_icmp .lt 6) (6) 9 12 := by decide +kernel
theorem dX9_forecast_9 : Dn cX9_forecast 9 (.bipush (-4)) 2 11 := by decide +kernel
theorem dX9_forecast_11 : Dn cX9_forecast 11 (.ireturn) 1 12 := by decide +kernel
theorem dX9_forecast_12 : Dn cX9_forecast 12 (.aload_n 0) 1 13 := by decide +kernel
theorem dX9_forecast_13 : Dn cX9_forecast 13 (.getfield 44) 3 16 := by decide +kernel
theorem dX9_forecast_16 : Dn cX9_forecast 16 (.invokevirtual 256) 3 19 := by decide +kernel
theorem dX9_forecast_19 : Dn cX9_forecast 19 (.bipush (-6)) 2 21 := by decide +kernel
theorem dX9_forecast_21 : Db cX9_forecast 21 (.if_icmp .eq 6) (6) 24 27 := by decide +kernel
theorem dX9_forecast_24 : Dn cX9_forecast 24 (.bipush (-5)) 2 26 := by decide +kernel
theorem dX9_forecast_26 : Dn cX9_forecast 26 (.ireturn) 1 27 := by decide +kernel
theorem dX9_forecast_27 : Dn cX9_forecast 27 (.aload_n 0) 1 28 := by decide +kernel
theorem dX9_forecast_28 : Dn cX9_forecast 28 (.getfield 50) 3 31 := by decide +kernel
theorem dX9_forecast_31 : Dn cX9_forecast 31 (.aload_n 0) 1 32 := by decide +kernel
theorem dX9_forecast_32 : Dn cX9_forecast 32 (.getfield 54) 3 35 := by decide +kernel
theorem dX9_forecast_35 : Dn cX9_forecast 35 (.aload_n 0) 1 36 := by decide +kernel
theorem dX9_forecast_36 : Dn cX9_forecast 36 (.getfield 44) 3 39 := by decide +kernel
theorem dX9_forecast_39 : Dn cX9_forecast 39 (.invokevirtual 260) 3 42 := by decide +kernel
theorem dX9_forecast_42 : Dn cX9_forecast 42 (.aastore) 1 43 := by decide +kernel
theorem dX9_forecast_43 : Dn cX9_forecast 43 (.aload_n 0) 1 44 := by decide +kernel
theorem dX9_forecast_44 : Dn cX9_forecast 44 (.getfield 44) 3 47 := by decide +kernel
theorem dX9_forecast_47 : Dn cX9_forecast 47 (.iconst 0) 1 48 := by decide +kernel
theorem dX9_forecast_48 : Dn cX9_forecast 48 (.putfield 253) 3 51 := by decide +kernel
theorem dX9_forecast_51 : Dn cX9_forecast 51 (.aload_n 0) 1 52 := by decide +kernel
theorem dX9_forecast_52 : Dn cX9_forecast 52 (.dup) 1 53 := by decide +kernel
theorem dX9_forecast_53 : Dn cX9_forecast 53 (.getfield 54) 3 56 := by decide +kernel
theorem dX9_forecast_56 : Dn cX9_forecast 56 (.iconst 1) 1 57 := by decide +kernel
theorem dX9_forecast_57 : Dn cX9_forecast 57 (.iadd) 1 58 := by decide +kernel
theorem dX9_forecast_58 : Dn cX9_forecast 58 (.putfield 54) 3 61 := by decide +kernel
theorem dX9_forecast_61 : Dn cX9_forecast 61 (.aload_n 0) 1 62 := by decide +kernel
theorem dX9_forecast_62 : Dn cX9_forecast 62 (.getfield 54) 3 65 := by decide +kernel
theorem dX9_forecast_65 : Dn cX9_forecast 65 (.iconst 1) 1 66 := by decide +kernel
theorem dX9_forecast_66 : Dn cX9_forecast 66 (.isub) 1 67 := by decide +kernel
theorem dX9_forecast_67 : Dn cX9_forecast 67 (.ireturn) 1 68 := by decide +kernel
theorem dX9_tells_0 : Dn cX9_tells 0 (.aload_n 0) 1 1 := by decide +kernel
theorem dX9_tells_1 : Dn cX9_tells 1 (.iload_n 1) 1 2 := by decide +kernel
theorem dX9_tells_2 : Dn cX9_tells 2 (.invokevirtual 264) 3 5 := by decide +kernel
theorem dX9_tells_5 : Dn cX9_tells 5 (.astore_n 3) 1 6 := by decide +kernel
theorem dX9_tells_6 : Dn cX9_tells 6 (.aload_n 3) 1 7 := by decide +kernel
theorem dX9_tells_7 : Db cX9_tells 7 (.ifnonnull 5) (5) 10 12 := by decide +kernel
theorem dX9_tells_10 : Dn cX9_tells 10 (.iconst (-1)) 1 11 := by decide +kernel
theorem dX9_tells_11 : Dn cX9_tells 11 (.ireturn) 1 12 := by decide +kernel
theorem dX9_tells_12 : Dn cX9_tells 12 (.iload_n 2) 1 13 := by decide +kernel
theorem dX9_tells_13 : Dn cX9_tells 13 (.invokestatic 80) 3 16 := by decide +kernel
theorem dX9_tells_16 : Db cX9_tells 16 (.ifCond .eq 15) (15) 19 31 := by decide +kernel
theorem dX9_tells_19 : Dn cX9_tells 19 (.aload_n 3) 1 20 := by decide +kernel
theorem dX9_tells_20 : Dn cX9_tells 20 (.aload_n 0) 1 21 := by decide +kernel
theorem dX9_tells_21 : Dn cX9_tells 21 (.getfield 16) 3 24 := by decide +kernel
theorem dX9_tells_24 : Dn cX9_tells 24 (.iload_n 2) 1 25 := by decide +kernel
theorem dX9_tells_25 : Dn cX9_tells 25 (.invokevirtual 268) 3 28 := by decide +kernel
theorem dX9_tells_28 : Db cX9_tells 28 (.goto 5) (5) 31 33 := by decide +kernel
theorem dX9_tells_31 : Dn cX9_tells 31 (.bipush (-2)) 2 33 := by decide +kernel
theorem dX9_tells_33 : Dn cX9_tells 33 (.ireturn) 1 34 := by decide +kernel
theorem dX9_score_0 : Dn cX9_score 0 (.aload_n 0) 1 1 := by decide +kernel
theorem dX9_score_1 : Dn cX9_score 1 (.iload_n 1) 1 2 := by decide +kernel
theorem dX9_score_2 : Dn cX9_score 2 (.iload_n 1) 1 3 := by decide +kernel
theorem dX9_score_3 : Dn cX9_score 3 (.bipush 10) 2 5 := by decide +kernel
theorem dX9_score_5 : Dn cX9_score 5 (.iload_n 2) 1 6 := by decide +kernel
theorem dX9_score_6 : Dn cX9_score 6 (.iload_n 3) 1 7 := by decide +kernel
theorem dX9_score_7 : Dn cX9_score 7 (.iload 4) 2 9 := by decide +kernel
theorem dX9_score_9 : Dn cX9_score 9 (.invokevirtual 271) 3 12 := by decide +kernel
theorem dX9_score_12 : Dn cX9_score 12 (.lreturn) 1 13 := by decide +kernel
theorem dX9_mixed_0 : Dn cX9_mixed 0 (.aload_n 0) 1 1 := by decide +kernel
theorem dX9_mixed_1 : Dn cX9_mixed 1 (.iload_n 1) 1 2 := by decide +kernel
theorem dX9_mixed_2 : Dn cX9_mixed 2 (.iload_n 2) 1 3 := by decide +kernel
theorem dX9_mixed_3 : Dn cX9_mixed 3 (.iload_n 3) 1 4 := by decide +kernel
theorem dX9_mixed_4 : Dn cX9_mixed 4 (.iload 4) 2 6 := by decide +kernel
theorem dX9_mixed_6 : Dn cX9_mixed 6 (.iload 5) 2 8 := by decide +kernel
theorem dX9_mixed_8 : Dn cX9_mixed 8 (.iload 6) 2 10 := by decide +kernel
theorem dX9_mixed_10 : Dn cX9_mixed 10 (.invokevirtual 271) 3 13 := by decide +kernel
theorem dX9_mixed_13 : Dn cX9_mixed 13 (.lreturn) 1 14 := by decide +kernel
theorem dX9_best_0 : Dn cX9_best 0 (.aload_n 0) 1 1 := by decide +kernel
theorem dX9_best_1 : Dn cX9_best 1 (.iload_n 1) 1 2 := by decide +kernel
theorem dX9_best_2 : Dn cX9_best 2 (.iload_n 2) 1 3 := by decide +kernel
theorem dX9_best_3 : Dn cX9_best 3 (.bipush 10) 2 5 := by decide +kernel
theorem dX9_best_5 : Dn cX9_best 5 (.iload_n 3) 1 6 := by decide +kernel
theorem dX9_best_6 : Dn cX9_best 6 (.iload 4) 2 8 := by decide +kernel
theorem dX9_best_8 : Dn cX9_best 8 (.iload 5) 2 10 := by decide +kernel
theorem dX9_best_10 : Dn cX9_best 10 (.invokevirtual 271) 3 13 := by decide +kernel
theorem dX9_best_13 : Dn cX9_best 13 (.lstore 6) 2 15 := by decide +kernel
theorem dX9_best_15 : Dn cX9_best 15 (.lload 6) 2 17 := by decide +kernel
theorem dX9_best_17 : Dn cX9_best 17 (.lconst 0) 1 18 := by decide +kernel
theorem dX9_best_18 : Dn cX9_best 18 (.lcmp) 1 19 := by decide +kernel
theorem dX9_best_19 : Db cX9_best 19 (.ifCond .ge 13) (13) 22 32 := by decide +kernel
theorem dX9_best_22 : Dn cX9_best 22 (.lload 6) 2 24 := by decide +kernel
theorem dX9_best_24 : Dn cX9_best 24 (.ldc2_w 275) 3 27 := by decide +kernel
theorem dX9_best_27 : Dn cX9_best 27 (.lsub) 1 28 := by decide +kernel
theorem dX9_best_28 : Dn cX9_best 28 (.l2i) 1 29 := by decide +kernel
theorem dX9_best_29 : Db cX9_best 29 (.goto 10) (10) 32 39 := by decide +kernel
end
section
theorem dX9_best_32 : Dn cX9_best 32 (.aload_n 0) 1 33 := by decide +kernel
theorem dX9_best_33 : Dn cX9_best 33 (.getfield 61) 3 36 := by decide +kernel
theorem dX9_best_36 : Dn cX9_best 36 (.invokevirtual 277) 3 39 := by decide +kernel
theorem dX9_best_39 : Dn cX9_best 39 (.ireturn) 1 40 := by decide +kernel
theorem dX9_house_0 : Dn cX9_house 0 (.iload_n 1) 1 1 := by decide +kernel
theorem dX9_house_1 : Dn cX9_house 1 (.iload_n 2) 1 2 := by decide +kernel
theorem dX9_house_2 : Dn cX9_house 2 (.invokestatic 76) 3 5 := by decide +kernel
theorem dX9_house_5 : Db cX9_house 5 (.ifCond .ne 5) (5) 8 10 := by decide +kernel
theorem dX9_house_8 : Dn cX9_house 8 (.iconst (-1)) 1 9 := by decide +kernel
theorem dX9_house_9 : Dn cX9_house 9 (.ireturn) 1 10 := by decide +kernel
theorem dX9_house_10 : Dn cX9_house 10 (.iload_n 3) 1 11 := by decide +kernel
theorem dX9_house_11 : Dn cX9_house 11 (.iconst 0) 1 12 := by decide +kernel
theorem dX9_house_12 : Dn cX9_house 12 (.iconst 2) 1 13 := by decide +kernel
theorem dX9_house_13 : Dn cX9_house 13 (.invokestatic 127) 3 16 := by decide +kernel
theorem dX9_house_16 : Db cX9_house 16 (.ifCond .eq 26) (26) 19 42 := by decide +kernel
theorem dX9_house_19 : Dn cX9_house 19 (.iload 4) 2 21 := by decide +kernel
theorem dX9_house_21 : Dn cX9_house 21 (.iconst 0) 1 22 := by decide +kernel
theorem dX9_house_22 : Dn cX9_house 22 (.sipush 10000) 3 25 := by decide +kernel
theorem dX9_house_25 : Dn cX9_house 25 (.invokestatic 127) 3 28 := by decide +kernel
theorem dX9_house_28 : Db cX9_house 28 (.ifCond .eq 14) (14) 31 42 := by decide +kernel
theorem dX9_house_31 : Dn cX9_house 31 (.iload 5) 2 33 := by decide +kernel
theorem dX9_house_33 : Dn cX9_house 33 (.iconst 0) 1 34 := by decide +kernel
theorem dX9_house_34 : Dn cX9_house 34 (.bipush 100) 2 36 := by decide +kernel
theorem dX9_house_36 : Dn cX9_house 36 (.invokestatic 127) 3 39 := by decide +kernel
theorem dX9_house_39 : Db cX9_house 39 (.ifCond .ne 6) (6) 42 45 := by decide +kernel
theorem dX9_house_42 : Dn cX9_house 42 (.bipush (-2)) 2 44 := by decide +kernel
theorem dX9_house_44 : Dn cX9_house 44 (.ireturn) 1 45 := by decide +kernel
theorem dX9_house_45 : Dn cX9_house 45 (.aload_n 0) 1 46 := by decide +kernel
theorem dX9_house_46 : Dn cX9_house 46 (.getfield 68) 3 49 := by decide +kernel
theorem dX9_house_49 : Dn cX9_house 49 (.getfield 280) 3 52 := by decide +kernel
theorem dX9_house_52 : Dn cX9_house 52 (.bipush 12) 2 54 := by decide +kernel
theorem dX9_house_54 : Db cX9_house 54 (.if_icmp .lt 6) (6) 57 60 := by decide +kernel
theorem dX9_house_57 : Dn cX9_house 57 (.bipush (-4)) 2 59 := by decide +kernel
theorem dX9_house_59 : Dn cX9_house 59 (.ireturn) 1 60 := by decide +kernel
theorem dX9_house_60 : Dn cX9_house 60 (.aload_n 0) 1 61 := by decide +kernel
theorem dX9_house_61 : Dn cX9_house 61 (.getfield 68) 3 64 := by decide +kernel
theorem dX9_house_64 : Dn cX9_house 64 (.iload_n 1) 1 65 := by decide +kernel
theorem dX9_house_65 : Dn cX9_house 65 (.iload_n 2) 1 66 := by decide +kernel
theorem dX9_house_66 : Dn cX9_house 66 (.iload_n 3) 1 67 := by decide +kernel
theorem dX9_house_67 : Dn cX9_house 67 (.iload 4) 2 69 := by decide +kernel
theorem dX9_house_69 : Dn cX9_house 69 (.iload 5) 2 71 := by decide +kernel
theorem dX9_house_71 : Dn cX9_house 71 (.invokevirtual 283) 3 74 := by decide +kernel
theorem dX9_house_74 : Dn cX9_house 74 (.ireturn) 1 75 := by decide +kernel
theorem dX9_damage_0 : Dn cX9_damage 0 (.iload_n 1) 1 1 := by decide +kernel
theorem dX9_damage_1 : Dn cX9_damage 1 (.iconst 0) 1 2 := by decide +kernel
theorem dX9_damage_2 : Dn cX9_damage 2 (.iconst 3) 1 3 := by decide +kernel
theorem dX9_damage_3 : Dn cX9_damage 3 (.invokestatic 127) 3 6 := by decide +kernel
theorem dX9_damage_6 : Db cX9_damage 6 (.ifCond .eq 23) (23) 9 29 := by decide +kernel
theorem dX9_damage_9 : Dn cX9_damage 9 (.iload_n 2) 1 10 := by decide +kernel
theorem dX9_damage_10 : Dn cX9_damage 10 (.iconst 0) 1 11 := by decide +kernel
theorem dX9_damage_11 : Dn cX9_damage 11 (.bipush 9) 2 13 := by decide +kernel
theorem dX9_damage_13 : Dn cX9_damage 13 (.invokestatic 127) 3 16 := by decide +kernel
theorem dX9_damage_16 : Db cX9_damage 16 (.ifCond .eq 13) (13) 19 29 := by decide +kernel
theorem dX9_damage_19 : Dn cX9_damage 19 (.iload_n 3) 1 20 := by decide +kernel
theorem dX9_damage_20 : Dn cX9_damage 20 (.iconst 0) 1 21 := by decide +kernel
theorem dX9_damage_21 : Dn cX9_damage 21 (.bipush 100) 2 23 := by decide +kernel
theorem dX9_damage_23 : Dn cX9_damage 23 (.invokestatic 127) 3 26 := by decide +kernel
theorem dX9_damage_26 : Db cX9_damage 26 (.ifCond .ne 6) (6) 29 32 := by decide +kernel
theorem dX9_damage_29 : Dn cX9_damage 29 (.bipush (-2)) 2 31 := by decide +kernel
theorem dX9_damage_31 : Dn cX9_damage 31 (.ireturn) 1 32 := by decide +kernel
theorem dX9_damage_32 : Dn cX9_damage 32 (.aload_n 0) 1 33 := by decide +kernel
theorem dX9_damage_33 : Dn cX9_damage 33 (.getfield 68) 3 36 := by decide +kernel
theorem dX9_damage_36 : Dn cX9_damage 36 (.getfield 287) 3 39 := by decide +kernel
theorem dX9_damage_39 : Dn cX9_damage 39 (.iload_n 1) 1 40 := by decide +kernel
theorem dX9_damage_40 : Dn cX9_damage 40 (.aaload) 1 41 := by decide +kernel
theorem dX9_damage_41 : Dn cX9_damage 41 (.iload_n 2) 1 42 := by decide +kernel
theorem dX9_damage_42 : Dn cX9_damage 42 (.iaload) 1 43 := by decide +kernel
theorem dX9_damage_43 : Dn cX9_damage 43 (.istore 4) 2 45 := by decide +kernel
theorem dX9_damage_45 : Dn cX9_damage 45 (.aload_n 0) 1 46 := by decide +kernel
theorem dX9_damage_46 : Dn cX9_damage 46 (.getfield 68) 3 49 := by decide +kernel
theorem dX9_damage_49 : Dn cX9_damage 49 (.getfield 287) 3 52 := by decide +kernel
theorem dX9_damage_52 : Dn cX9_damage 52 (.iload_n 1) 1 53 := by decide +kernel
theorem dX9_damage_53 : Dn cX9_damage 53 (.aaload) 1 54 := by decide +kernel
theorem dX9_damage_54 : Dn cX9_damage 54 (.iload_n 2) 1 55 := by decide +kernel
theorem dX9_damage_55 : Dn cX9_damage 55 (.iload_n 3) 1 56 := by decide +kernel
theorem dX9_damage_56 : Dn cX9_damage 56 (.iastore) 1 57 := by decide +kernel
theorem dX9_damage_57 : Dn cX9_damage 57 (.iload 4) 2 59 := by decide +kernel
theorem dX9_damage_59 : Dn cX9_damage 59 (.ireturn) 1 60 := by decide +kernel
theorem dX9_loss_0 : Dn cX9_loss 0 (.aload_n 0) 1 1 := by decide +kernel
theorem dX9_loss_1 : Dn cX9_loss 1 (.getfield 16) 3 4 := by decide +kernel
theorem dX9_loss_4 : Dn cX9_loss 4 (.iload_n 1) 1 5 := by decide +kernel
theorem dX9_loss_5 : Dn cX9_loss 5 (.invokevirtual 94) 3 8 := by decide +kernel
theorem dX9_loss_8 : Db cX9_loss 8 (.ifCond .ne 5) (5) 11 13 := by decide +kernel
theorem dX9_loss_11 : Dn cX9_loss 11 (.iconst (-1)) 1 12 := by decide +kernel
theorem dX9_loss_12 : Dn cX9_loss 12 (.ireturn) 1 13 := by decide +kernel
theorem dX9_loss_13 : Dn cX9_loss 13 (.aload_n 0) 1 14 := by decide +kernel
theorem dX9_loss_14 : Dn cX9_loss 14 (.getfield 68) 3 17 := by decide +kernel
theorem dX9_loss_17 : Dn cX9_loss 17 (.aload_n 0) 1 18 := by decide +kernel
theorem dX9_loss_18 : Dn cX9_loss 18 (.getfield 16) 3 21 := by decide +kernel
theorem dX9_loss_21 : Dn cX9_loss 21 (.iload_n 1) 1 22 := by decide +kernel
theorem dX9_loss_22 : Dn cX9_loss 22 (.aload_n 0) 1 23 := by decide +kernel
theorem dX9_loss_23 : Dn cX9_loss 23 (.getfield 7) 3 26 := by decide +kernel
theorem dX9_loss_26 : Dn cX9_loss 26 (.iconst 4) 1 27 := by decide +kernel
theorem dX9_loss_27 : Dn cX9_loss 27 (.iaload) 1 28 := by decide +kernel
theorem dX9_loss_28 : Dn cX9_loss 28 (.invokevirtual 291) 3 31 := by decide +kernel
theorem dX9_loss_31 : Dn cX9_loss 31 (.ireturn) 1 32 := by decide +kernel
theorem dX9_worst_0 : Dn cX9_worst 0 (.iload_n 1) 1 1 := by decide +kernel
theorem dX9_worst_1 : Dn cX9_worst 1 (.invokestatic 80) 3 4 := by decide +kernel
theorem dX9_worst_4 : Db cX9_worst 4 (.ifCond .eq 12) (12) 7 16 := by decide +kernel
theorem dX9_worst_7 : Dn cX9_worst 7 (.iload_n 2) 1 8 := by decide +kernel
theorem dX9_worst_8 : Dn cX9_worst 8 (.iconst 0) 1 9 := by decide +kernel
theorem dX9_worst_9 : Dn cX9_worst 9 (.iconst 1) 1 10 := by decide +kernel
theorem dX9_worst_10 : Dn cX9_worst 10 (.invokestatic 127) 3 13 := by decide +kernel
theorem dX9_worst_13 : Db cX9_worst 13 (.ifCond .ne 6) (6) 16 19 := by decide +kernel
theorem dX9_worst_16 : Dn cX9_worst 16 (.bipush (-2)) 2 18 := by decide +kernel
theorem dX9_worst_18 : Dn cX9_worst 18 (.ireturn) 1 19 := by decide +kernel
theorem dX9_worst_19 : Dn cX9_worst 19 (.aload_n 0) 1 20 := by decide +kernel
theorem dX9_worst_20 : Dn cX9_worst 20 (.getfield 68) 3 23 := by decide +kernel
theorem dX9_worst_23 : Dn cX9_worst 23 (.aload_n 0) 1 24 := by decide +kernel
theorem dX9_worst_24 : Dn cX9_worst 24 (.getfield 16) 3 27 := by decide +kernel
theorem dX9_worst_27 : Dn cX9_worst 27 (.iload_n 1) 1 28 := by decide +kernel
theorem dX9_worst_28 : Dn cX9_worst 28 (.aload_n 0) 1 29 := by decide +kernel
theorem dX9_worst_29 : Dn cX9_worst 29 (.getfield 7) 3 32 := by decide +kernel
theorem dX9_worst_32 : Dn cX9_worst 32 (.iconst 4) 1 33 := by decide +kernel
theorem dX9_worst_33 : Dn cX9_worst 33 (.iaload) 1 34 := by decide +kernel
theorem dX9_worst_34 : Dn cX9_worst 34 (.invokevirtual 294) 3 37 := by decide +kernel
theorem dX9_worst_37 : Dn cX9_worst 37 (.istore_n 3) 1 38 := by decide +kernel
theorem dX9_worst_38 : Dn cX9_worst 38 (.iload_n 2) 1 39 := by decide +kernel
theorem dX9_worst_39 : Db cX9_worst 39 (.ifCond .ne 5) (5) 42 44 := by decide +kernel
theorem dX9_worst_42 : Dn cX9_worst 42 (.iload_n 3) 1 43 := by decide +kernel
theorem dX9_worst_43 : Dn cX9_worst 43 (.ireturn) 1 44 := by decide +kernel
theorem dX9_worst_44 : Dn cX9_worst 44 (.aload_n 0) 1 45 := by decide +kernel
theorem dX9_worst_45 : Dn cX9_worst 45 (.getfield 16) 3 48 := by decide +kernel
theorem dX9_worst_48 : Dn cX9_worst 48 (.iload_n 3) 1 49 := by decide +kernel
theorem dX9_worst_49 : Dn cX9_worst 49 (.invokevirtual 94) 3 52 := by decide +kernel
theorem dX9_worst_52 : Db cX9_worst 52 (.ifCond .eq 24) (24) 55 76 := by decide +kernel
theorem dX9_worst_55 : Dn cX9_worst 55 (.aload_n 0) 1 56 := by decide +kernel
theorem dX9_worst_56 : Dn cX9_worst 56 (.getfield 68) 3 59 := by decide +kernel
theorem dX9_worst_59 : Dn cX9_worst 59 (.aload_n 0) 1 60 := by decide +kernel
theorem dX9_worst_60 : Dn cX9_worst 60 (.getfield 16) 3 63 := by decide +kernel
theorem dX9_worst_63 : Dn cX9_worst 63 (.iload_n 3) 1 64 := by decide +kernel
theorem dX9_worst_64 : Dn cX9_worst 64 (.aload_n 0) 1 65 := by decide +kernel
theorem dX9_worst_65 : Dn cX9_worst 65 (.getfield 7) 3 68 := by decide +kernel
theorem dX9_worst_68 : Dn cX9_worst 68 (.iconst 4) 1 69 := by decide +kernel
theorem dX9_worst_69 : Dn cX9_worst 69 (.iaload) 1 70 := by decide +kernel
theorem dX9_worst_70 : Dn cX9_worst 70 (.invokevirtual 291) 3 73 := by decide +kernel
theorem dX9_worst_73 : Db cX9_worst 73 (.goto 4) (4) 76 77 := by decide +kernel
theorem dX9_worst_76 : Dn cX9_worst 76 (.iconst 0) 1 77 := by decide +kernel
theorem dX9_worst_77 : Dn cX9_worst 77 (.ireturn) 1 78 := by decide +kernel
theorem dX9_law_0 : Dn cX9_law 0 (.iload_n 1) 1 1 := by decide +kernel
theorem dX9_law_1 : Dn cX9_law 1 (.iload_n 2) 1 2 := by decide +kernel
theorem dX9_law_2 : Dn cX9_law 2 (.invokestatic 76) 3 5 := by decide +kernel
theorem dX9_law_5 : Db cX9_law 5 (.ifCond .ne 5) (5) 8 10 := by decide +kernel
theorem dX9_law_8 : Dn cX9_law 8 (.iconst (-1)) 1 9 := by decide +kernel
theorem dX9_law_9 : Dn cX9_law 9 (.ireturn) 1 10 := by decide +kernel
theorem dX9_law_10 : Dn cX9_law 10 (.iload_n 3) 1 11 := by decide +kernel
theorem dX9_law_11 : Dn cX9_law 11 (.invokestatic 83) 3 14 := by decide +kernel
theorem dX9_law_14 : Db cX9_law 14 (.ifCond .eq 15) (15) 17 29 := by decide +kernel
theorem dX9_law_17 : Dn cX9_law 17 (.iload 4) 2 19 := by decide +kernel
theorem dX9_law_19 : Dn cX9_law 19 (.iconst 1) 1 20 := by decide +kernel
theorem dX9_law_20 : Dn cX9_law 20 (.sipush 1000) 3 23 := by decide +kernel
theorem dX9_law_23 : Dn cX9_law 23 (.invokestatic 127) 3 26 := by decide +kernel
theorem dX9_law_26 : Db cX9_law 26 (.ifCond .ne 6) (6) 29 32 := by decide +kernel
theorem dX9_law_29 : Dn cX9_law 29 (.bipush (-2)) 2 31 := by decide +kernel
theorem dX9_law_31 : Dn cX9_law 31 (.ireturn) 1 32 := by decide +kernel
theorem dX9_law_32 : Dn cX9_law 32 (.aload_n 0) 1 33 := by decide +kernel
theorem dX9_law_33 : Dn cX9_law 33 (.getfield 68) 3 36 := by decide +kernel
theorem dX9_law_36 : Dn cX9_law 36 (.getfield 297) 3 39 := by decide +kernel
theorem dX9_law_39 : Dn cX9_law 39 (.bipush 12) 2 41 := by decide +kernel
theorem dX9_law_41 : Db cX9_law 41 (.if_icmp .lt 6) (6) 44 47 := by decide +kernel
theorem dX9_law_44 : Dn cX9_law 44 (.bipush (-4)) 2 46 := by decide +kernel
theorem dX9_law_46 : Dn cX9_law 46 (.ireturn) 1 47 := by decide +kernel
theorem dX9_law_47 : Dn cX9_law 47 (.aload_n 0) 1 48 := by decide +kernel
theorem dX9_law_48 : Dn cX9_law 48 (.getfield 68) 3 51 := by decide +kernel
theorem dX9_law_51 : Dn cX9_law 51 (.iload_n 1) 1 52 := by decide +kernel
theorem dX9_law_52 : Dn cX9_law 52 (.iload_n 2) 1 53 := by decide +kernel
theorem dX9_law_53 : Dn cX9_law 53 (.iload_n 3) 1 54 := by decide +kernel
theorem dX9_law_54 : Dn cX9_law 54 (.iload 4) 2 56 := by decide +kernel
theorem dX9_law_56 : Dn cX9_law 56 (.invokevirtual 300) 3 59 := by decide +kernel
theorem dX9_law_59 : Dn cX9_law 59 (.ireturn) 1 60 := by decide +kernel
theorem dX9_curve_0 : Dn cX9_curve 0 (.iload_n 1) 1 1 := by decide +kernel
theorem dX9_curve_1 : Dn cX9_curve 1 (.iconst 0) 1 2 := by decide +kernel
theorem dX9_curve_2 : Dn cX9_curve 2 (.ldc 242) 2 4 := by decide +kernel
theorem dX9_curve_4 : Dn cX9_curve 4 (.invokestatic 127) 3 7 := by decide +kernel
theorem dX9_curve_7 : Db cX9_curve 7 (.ifCond .ne 6) (6) 10 13 := by decide +kernel
theorem dX9_curve_10 : Dn cX9_curve 10 (.bipush (-2)) 2 12 := by decide +kernel
theorem dX9_curve_12 : Dn cX9_curve 12 (.ireturn) 1 13 := by decide +kernel
theorem dX9_curve_13 : Dn cX9_curve 13 (.aload_n 0) 1 14 := by decide +kernel
theorem dX9_curve_14 : Dn cX9_curve 14 (.getfield 68) 3 17 := by decide +kernel
theorem dX9_curve_17 : Dn cX9_curve 17 (.iload_n 1) 1 18 := by decide +kernel
theorem dX9_curve_18 : Dn cX9_curve 18 (.aload_n 0) 1 19 := by decide +kernel
theorem dX9_curve_19 : Dn cX9_curve 19 (.getfield 7) 3 22 := by decide +kernel
theorem dX9_curve_22 : Dn cX9_curve 22 (.iconst 4) 1 23 := by decide +kernel
theorem dX9_curve_23 : Dn cX9_curve 23 (.iaload) 1 24 := by decide +kernel
theorem dX9_curve_24 : Dn cX9_curve 24 (.invokevirtual 304) 3 27 := by decide +kernel
theorem dX9_curve_27 : Dn cX9_curve 27 (.ireturn) 1 28 := by decide +kernel
theorem dX9_mean_0 : Dn cX9_mean 0 (.iload_n 1) 1 1 := by decide +kernel
theorem dX9_mean_1 : Dn cX9_mean 1 (.iconst 0) 1 2 := by decide +kernel
theorem dX9_mean_2 : Dn cX9_mean 2 (.iconst 1) 1 3 := by decide +kernel
theorem dX9_mean_3 : Dn cX9_mean 3 (.aload_n 0) 1 4 := by decide +kernel
theorem dX9_mean_4 : Dn cX9_mean 4 (.getfield 68) 3 7 := by decide +kernel
theorem dX9_mean_7 : Dn cX9_mean 7 (.getfield 280) 3 10 := by decide +kernel
theorem dX9_mean_10 : Dn cX9_mean 10 (.ishl) 1 11 := by decide +kernel
theorem dX9_mean_11 : Dn cX9_mean 11 (.iconst 1) 1 12 := by decide +kernel
theorem dX9_mean_12 : Dn cX9_mean 12 (.isub) 1 13 := by decide +kernel
theorem dX9_mean_13 : Dn cX9_mean 13 (.invokestatic 127) 3 16 := by decide +kernel
theorem dX9_mean_16 : Db cX9_mean 16 (.ifCond .ne 7) (7) 19 23 := by decide +kernel
theorem dX9_mean_19 : Dn cX9_mean 19 (.ldc2_w 169) 3 22 := by decide +kernel
theorem dX9_mean_22 : Dn cX9_mean 22 (.lreturn) 1 23 := by decide +kernel
theorem dX9_mean_23 : Dn cX9_mean 23 (.aload_n 0) 1 24 := by decide +kernel
theorem dX9_mean_24 : Dn cX9_mean 24 (.getfield 68) 3 27 := by decide +kernel
theorem dX9_mean_27 : Dn cX9_mean 27 (.iload_n 1) 1 28 := by decide +kernel
theorem dX9_mean_28 : Dn cX9_mean 28 (.aload_n 0) 1 29 := by decide +kernel
theorem dX9_mean_29 : Dn cX9_mean 29 (.getfield 7) 3 32 := by decide +kernel
theorem dX9_mean_32 : Dn cX9_mean 32 (.iconst 4) 1 33 := by decide +kernel
theorem dX9_mean_33 : Dn cX9_mean 33 (.iaload) 1 34 := by decide +kernel
theorem dX9_mean_34 : Dn cX9_mean 34 (.invokevirtual 308) 3 37 := by decide +kernel
theorem dX9_mean_37 : Dn cX9_mean 37 (.lreturn) 1 38 := by decide +kernel
theorem dX9_strengthen_0 : Dn cX9_strengthen 0 (.iload_n 1) 1 1 := by decide +kernel
theorem dX9_strengthen_1 : Dn cX9_strengthen 1 (.iconst 0) 1 2 := by decide +kernel
theorem dX9_strengthen_2 : Dn cX9_strengthen 2 (.sipush 500) 3 5 := by decide +kernel
theorem dX9_strengthen_5 : Dn cX9_strengthen 5 (.invokestatic 127) 3 8 := by decide +kernel
theorem dX9_strengthen_8 : Db cX9_strengthen 8 (.ifCond .ne 6) (6) 11 14 := by decide +kernel
theorem dX9_strengthen_11 : Dn cX9_strengthen 11 (.bipush (-2)) 2 13 := by decide +kernel
theorem dX9_strengthen_13 : Dn cX9_strengthen 13 (.ireturn) 1 14 := by decide +kernel
theorem dX9_strengthen_14 : Dn cX9_strengthen 14 (.aload_n 0) 1 15 := by decide +kernel
theorem dX9_strengthen_15 : Dn cX9_strengthen 15 (.getfield 68) 3 18 := by decide +kernel
theorem dX9_strengthen_18 : Dn cX9_strengthen 18 (.iload_n 1) 1 19 := by decide +kernel
theorem dX9_strengthen_19 : Dn cX9_strengthen 19 (.aload_n 0) 1 20 := by decide +kernel
theorem dX9_strengthen_20 : Dn cX9_strengthen 20 (.getfield 7) 3 23 := by decide +kernel
theorem dX9_strengthen_23 : Dn cX9_strengthen 23 (.iconst 4) 1 24 := by decide +kernel
theorem dX9_strengthen_24 : Dn cX9_strengthen 24 (.iaload) 1 25 := by decide +kernel
theorem dX9_strengthen_25 : Dn cX9_strengthen 25 (.invokevirtual 311) 3 28 := by decide +kernel
theorem dX9_strengthen_28 : Dn cX9_strengthen 28 (.ireturn) 1 29 := by decide +kernel
theorem dX9_told_0 : Dn cX9_told 0 (.iload_n 1) 1 1 := by decide +kernel
theorem dX9_told_1 : Dn cX9_told 1 (.tableswitch 84 0 5 #[39, 47, 55, 60, 68, 76]) 39 40 := by decide +kernel
theorem dX9_told_40 : Dn cX9_told 40 (.aload_n 0) 1 41 := by decide +kernel
theorem dX9_told_41 : Dn cX9_told 41 (.getfield 16) 3 44 := by decide +kernel
theorem dX9_told_44 : Dn cX9_told 44 (.getfield 314) 3 47 := by decide +kernel
theorem dX9_told_47 : Dn cX9_told 47 (.ireturn) 1 48 := by decide +kernel
theorem dX9_told_48 : Dn cX9_told 48 (.aload_n 0) 1 49 := by decide +kernel
theorem dX9_told_49 : Dn cX9_told 49 (.getfield 44) 3 52 := by decide +kernel
theorem dX9_told_52 : Dn cX9_told 52 (.getfield 253) 3 55 := by decide +kernel
theorem dX9_told_55 : Dn cX9_told 55 (.ireturn) 1 56 := by decide +kernel
theorem dX9_told_56 : Dn cX9_told 56 (.aload_n 0) 1 57 := by decide +kernel
theorem dX9_told_57 : Dn cX9_told 57 (.getfield 54) 3 60 := by decide +kernel
theorem dX9_told_60 : Dn cX9_told 60 (.ireturn) 1 61 := by decide +kernel
theorem dX9_told_61 : Dn cX9_told 61 (.aload_n 0) 1 62 := by decide +kernel
theorem dX9_told_62 : Dn cX9_told 62 (.getfield 68) 3 65 := by decide +kernel
theorem dX9_told_65 : Dn cX9_told 65 (.getfield 280) 3 68 := by decide +kernel
theorem dX9_told_68 : Dn cX9_told 68 (.ireturn) 1 69 := by decide +kernel
theorem dX9_told_69 : Dn cX9_told 69 (.aload_n 0) 1 70 := by decide +kernel
theorem dX9_told_70 : Dn cX9_told 70 (.getfield 68) 3 73 := by decide +kernel
theorem dX9_told_73 : Dn cX9_told 73 (.getfield 297) 3 76 := by decide +kernel
theorem dX9_told_76 : Dn cX9_told 76 (.ireturn) 1 77 := by decide +kernel
theorem dX9_told_77 : Dn cX9_told 77 (.aload_n 0) 1 78 := by decide +kernel
theorem dX9_told_78 : Dn cX9_told 78 (.getfield 16) 3 81 := by decide +kernel
theorem dX9_told_81 : Dn cX9_told 81 (.invokevirtual 315) 3 84 := by decide +kernel
theorem dX9_told_84 : Dn cX9_told 84 (.ireturn) 1 85 := by decide +kernel
theorem dX9_told_85 : Dn cX9_told 85 (.iload_n 1) 1 86 := by decide +kernel
theorem dX9_told_86 : Dn cX9_told 86 (.bipush 10) 2 88 := by decide +kernel
theorem dX9_told_88 : Dn cX9_told 88 (.bipush 14) 2 90 := by decide +kernel
theorem dX9_told_90 : Dn cX9_told 90 (.invokestatic 127) 3 93 := by decide +kernel
theorem dX9_told_93 : Db cX9_told 93 (.ifCond .eq 15) (15) 96 108 := by decide +kernel
theorem dX9_told_96 : Dn cX9_told 96 (.aload_n 0) 1 97 := by decide +kernel
theorem dX9_told_97 : Dn cX9_told 97 (.getfield 7) 3 100 := by decide +kernel
theorem dX9_told_100 : Dn cX9_told 100 (.iload_n 1) 1 101 := by decide +kernel
theorem dX9_told_101 : Dn cX9_told 101 (.bipush 10) 2 103 := by decide +kernel
theorem dX9_told_103 : Dn cX9_told 103 (.isub) 1 104 := by decide +kernel
theorem dX9_told_104 : Dn cX9_told 104 (.iaload) 1 105 := by decide +kernel
theorem dX9_told_105 : Db cX9_told 105 (.goto 5) (5) 108 110 := by decide +kernel
theorem dX9_told_108 : Dn cX9_told 108 (.bipush (-2)) 2 110 := by decide +kernel
theorem dX9_told_110 : Dn cX9_told 110 (.ireturn) 1 111 := by decide +kernel
theorem dX9_within_0 : Dn cX9_within 0 (.iload_n 0) 1 1 := by decide +kernel
theorem dX9_within_1 : Dn cX9_within 1 (.iload_n 1) 1 2 := by decide +kernel
theorem dX9_within_2 : Db cX9_within 2 (.if_icmp .lt 12) (12) 5 14 := by decide +kernel
theorem dX9_within_5 : Dn cX9_within 5 (.iload_n 0) 1 6 := by decide +kernel
theorem dX9_within_6 : Dn cX9_within 6 (.iload_n 2) 1 7 := by decide +kernel
theorem dX9_within_7 : Db cX9_within 7 (.if_icmp .gt 7) (7) 10 14 := by decide +kernel
theorem dX9_within_10 : Dn cX9_within 10 (.iconst 1) 1 11 := by decide +kernel
theorem dX9_within_11 : Db cX9_within 11 (.goto 4) (4) 14 15 := by decide +kernel
theorem dX9_within_14 : Dn cX9_within 14 (.iconst 0) 1 15 := by decide +kernel
theorem dX9_within_15 : Dn cX9_within 15 (.ireturn) 1 16 := by decide +kernel
theorem dX9_isList_0 : Dn cX9_isList 0 (.iload_n 0) 1 1 := by decide +kernel
theorem dX9_isList_1 : Dn cX9_isList 1 (.iconst 0) 1 2 := by decide +kernel
theorem dX9_isList_2 : Dn cX9_isList 2 (.iconst 2) 1 3 := by decide +kernel
theorem dX9_isList_3 : Dn cX9_isList 3 (.invokestatic 127) 3 6 := by decide +kernel
theorem dX9_isList_6 : Dn cX9_isList 6 (.ireturn) 1 7 := by decide +kernel
theorem dX9_isListOrAll_0 : Dn cX9_isListOrAll 0 (.iload_n 0) 1 1 := by decide +kernel
theorem dX9_isListOrAll_1 : Dn cX9_isListOrAll 1 (.iconst (-1)) 1 2 := by decide +kernel
theorem dX9_isListOrAll_2 : Db cX9_isListOrAll 2 (.if_icmp .eq 10) (10) 5 12 := by decide +kernel
theorem dX9_isListOrAll_5 : Dn cX9_isListOrAll 5 (.iload_n 0) 1 6 := by decide +kernel
theorem dX9_isListOrAll_6 : Dn cX9_isListOrAll 6 (.invokestatic 72) 3 9 := by decide +kernel
theorem dX9_isListOrAll_9 : Db cX9_isListOrAll 9 (.ifCond .eq 7) (7) 12 16 := by decide +kernel
theorem dX9_isListOrAll_12 : Dn cX9_isListOrAll 12 (.iconst 1) 1 13 := by decide +kernel
theorem dX9_isListOrAll_13 : Db cX9_isListOrAll 13 (.goto 4) (4) 16 17 := by decide +kernel
theorem dX9_isListOrAll_16 : Dn cX9_isListOrAll 16 (.iconst 0) 1 17 := by decide +kernel
theorem dX9_isListOrAll_17 : Dn cX9_isListOrAll 17 (.ireturn) 1 18 := by decide +kernel
theorem dX9_isDay_0 : Dn cX9_isDay 0 (.iload_n 0) 1 1 := by decide +kernel
theorem dX9_isDay_1 : Dn cX9_isDay 1 (.iconst 0) 1 2 := by decide +kernel
theorem dX9_isDay_2 : Dn cX9_isDay 2 (.sipush 3999) 3 5 := by decide +kernel
theorem dX9_isDay_5 : Dn cX9_isDay 5 (.invokestatic 127) 3 8 := by decide +kernel
theorem dX9_isDay_8 : Dn cX9_isDay 8 (.ireturn) 1 9 := by decide +kernel
theorem dX9_isStretch_0 : Dn cX9_isStretch 0 (.iload_n 0) 1 1 := by decide +kernel
theorem dX9_isStretch_1 : Dn cX9_isStretch 1 (.invokestatic 80) 3 4 := by decide +kernel
theorem dX9_isStretch_4 : Db cX9_isStretch 4 (.ifCond .eq 19) (19) 7 23 := by decide +kernel
theorem dX9_isStretch_7 : Dn cX9_isStretch 7 (.iload_n 1) 1 8 := by decide +kernel
theorem dX9_isStretch_8 : Dn cX9_isStretch 8 (.invokestatic 80) 3 11 := by decide +kernel
theorem dX9_isStretch_11 : Db cX9_isStretch 11 (.ifCond .eq 12) (12) 14 23 := by decide +kernel
theorem dX9_isStretch_14 : Dn cX9_isStretch 14 (.iload_n 0) 1 15 := by decide +kernel
theorem dX9_isStretch_15 : Dn cX9_isStretch 15 (.iload_n 1) 1 16 := by decide +kernel
theorem dX9_isStretch_16 : Db cX9_isStretch 16 (.if_icmp .gt 7) (7) 19 23 := by decide +kernel
theorem dX9_isStretch_19 : Dn cX9_isStretch 19 (.iconst 1) 1 20 := by decide +kernel
theorem dX9_isStretch_20 : Db cX9_isStretch 20 (.goto 4) (4) 23 24 := by decide +kernel
theorem dX9_isStretch_23 : Dn cX9_isStretch 23 (.iconst 0) 1 24 := by decide +kernel
theorem dX9_isStretch_24 : Dn cX9_isStretch 24 (.ireturn) 1 25 := by decide +kernel
theorem dX9_isCell_0 : Dn cX9_isCell 0 (.iload_n 0) 1 1 := by decide +kernel
theorem dX9_isCell_1 : Dn cX9_isCell 1 (.iconst 0) 1 2 := by decide +kernel
theorem dX9_isCell_2 : Dn cX9_isCell 2 (.bipush 15) 2 4 := by decide +kernel
theorem dX9_isCell_4 : Dn cX9_isCell 4 (.invokestatic 127) 3 7 := by decide +kernel
theorem dX9_isCell_7 : Db cX9_isCell 7 (.ifCond .eq 17) (17) 10 24 := by decide +kernel
theorem dX9_isCell_10 : Dn cX9_isCell 10 (.iload_n 1) 1 11 := by decide +kernel
theorem dX9_isCell_11 : Dn cX9_isCell 11 (.iconst 0) 1 12 := by decide +kernel
theorem dX9_isCell_12 : Dn cX9_isCell 12 (.bipush 15) 2 14 := by decide +kernel
theorem dX9_isCell_14 : Dn cX9_isCell 14 (.invokestatic 127) 3 17 := by decide +kernel
theorem dX9_isCell_17 : Db cX9_isCell 17 (.ifCond .eq 7) (7) 20 24 := by decide +kernel
theorem dX9_isCell_20 : Dn cX9_isCell 20 (.iconst 1) 1 21 := by decide +kernel
theorem dX9_isCell_21 : Db cX9_isCell 21 (.goto 4) (4) 24 25 := by decide +kernel
theorem dX9_isCell_24 : Dn cX9_isCell 24 (.iconst 0) 1 25 := by decide +kernel
theorem dX9_isCell_25 : Dn cX9_isCell 25 (.ireturn) 1 26 := by decide +kernel
theorem dX9_isGreatness_0 : Dn cX9_isGreatness 0 (.iload_n 0) 1 1 := by decide +kernel
theorem dX9_isGreatness_1 : Dn cX9_isGreatness 1 (.iconst 0) 1 2 := by decide +kernel
theorem dX9_isGreatness_2 : Dn cX9_isGreatness 2 (.bipush 90) 2 4 := by decide +kernel
theorem dX9_isGreatness_4 : Dn cX9_isGreatness 4 (.invokestatic 127) 3 7 := by decide +kernel
theorem dX9_isGreatness_7 : Dn cX9_isGreatness 7 (.ireturn) 1 8 := by decide +kernel
theorem dX9_isPart_0 : Dn cX9_isPart 0 (.iload_n 0) 1 1 := by decide +kernel
theorem dX9_isPart_1 : Dn cX9_isPart 1 (.iconst 0) 1 2 := by decide +kernel
theorem dX9_isPart_2 : Dn cX9_isPart 2 (.iconst 1) 1 3 := by decide +kernel
theorem dX9_isPart_3 : Dn cX9_isPart 3 (.invokestatic 127) 3 6 := by decide +kernel
theorem dX9_isPart_6 : Dn cX9_isPart 6 (.ireturn) 1 7 := by decide +kernel
theorem dX9_asNumber_0 : Dn cX9_asNumber 0 (.iload_n 0) 1 1 := by decide +kernel
theorem dX9_asNumber_1 : Db cX9_asNumber 1 (.ifCond .eq 7) (7) 4 8 := by decide +kernel
theorem dX9_asNumber_4 : Dn cX9_asNumber 4 (.iconst 1) 1 5 := by decide +kernel
theorem dX9_asNumber_5 : Db cX9_asNumber 5 (.goto 4) (4) 8 9 := by decide +kernel
theorem dX9_asNumber_8 : Dn cX9_asNumber 8 (.iconst 0) 1 9 := by decide +kernel
theorem dX9_asNumber_9 : Dn cX9_asNumber 9 (.ireturn) 1 10 := by decide +kernel
theorem dX9_howFar_0 : Dn cX9_howFar 0 (.iload_n 0) 1 1 := by decide +kernel
theorem dX9_howFar_1 : Dn cX9_howFar 1 (.iload_n 2) 1 2 := by decide +kernel
theorem dX9_howFar_2 : Dn cX9_howFar 2 (.isub) 1 3 := by decide +kernel
theorem dX9_howFar_3 : Dn cX9_howFar 3 (.invokestatic 318) 3 6 := by decide +kernel
theorem dX9_howFar_6 : Dn cX9_howFar 6 (.iload_n 1) 1 7 := by decide +kernel
theorem dX9_howFar_7 : Dn cX9_howFar 7 (.iload_n 3) 1 8 := by decide +kernel
theorem dX9_howFar_8 : Dn cX9_howFar 8 (.isub) 1 9 := by decide +kernel
theorem dX9_howFar_9 : Dn cX9_howFar 9 (.invokestatic 318) 3 12 := by decide +kernel
theorem dX9_howFar_12 : Dn cX9_howFar 12 (.invokestatic 323) 3 15 := by decide +kernel
theorem dX9_howFar_15 : Dn cX9_howFar 15 (.ireturn) 1 16 := by decide +kernel
theorem dX9_refusalOfDaughter_0 : Dn cX9_refusalOfDaughter 0 (.aload_n 0) 1 1 := by decide +kernel
theorem dX9_refusalOfDaughter_1 : Dn cX9_refusalOfDaughter 1 (.getfield 16) 3 4 := by decide +kernel
theorem dX9_refusalOfDaughter_4 : Dn cX9_refusalOfDaughter 4 (.iload_n 1) 1 5 := by decide +kernel
theorem dX9_refusalOfDaughter_5 : Dn cX9_refusalOfDaughter 5 (.invokevirtual 94) 3 8 := by decide +kernel
theorem dX9_refusalOfDaughter_8 : Db cX9_refusalOfDaughter 8 (.ifCond .ne 5) (5) 11 13 := by decide +kernel
theorem dX9_refusalOfDaughter_11 : Dn cX9_refusalOfDaughter 11 (.iconst (-1)) 1 12 := by decide +kernel
theorem dX9_refusalOfDaughter_12 : Dn cX9_refusalOfDaughter 12 (.ireturn) 1 13 := by decide +kernel
theorem dX9_refusalOfDaughter_13 : Dn cX9_refusalOfDaughter 13 (.iload_n 2) 1 14 := by decide +kernel
theorem dX9_refusalOfDaughter_14 : Dn cX9_refusalOfDaughter 14 (.invokestatic 80) 3 17 := by decide +kernel
theorem dX9_refusalOfDaughter_17 : Db cX9_refusalOfDaughter 17 (.ifCond .eq 7) (7) 20 24 := by decide +kernel
theorem dX9_refusalOfDaughter_20 : Dn cX9_refusalOfDaughter 20 (.iload_n 3) 1 21 := by decide +kernel
theorem dX9_refusalOfDaughter_21 : Db cX9_refusalOfDaughter 21 (.ifCond .ne 6) (6) 24 27 := by decide +kernel
theorem dX9_refusalOfDaughter_24 : Dn cX9_refusalOfDaughter 24 (.bipush (-2)) 2 26 := by decide +kernel
theorem dX9_refusalOfDaughter_26 : Dn cX9_refusalOfDaughter 26 (.ireturn) 1 27 := by decide +kernel
theorem dX9_refusalOfDaughter_27 : Dn cX9_refusalOfDaughter 27 (.aload_n 0) 1 28 := by decide +kernel
theorem dX9_refusalOfDaughter_28 : Dn cX9_refusalOfDaughter 28 (.getfield 16) 3 31 := by decide +kernel
theorem dX9_refusalOfDaughter_31 : Dn cX9_refusalOfDaughter 31 (.iload_n 1) 1 32 := by decide +kernel
theorem dX9_refusalOfDaughter_32 : Dn cX9_refusalOfDaughter 32 (.iconst (-1)) 1 33 := by decide +kernel
theorem dX9_refusalOfDaughter_33 : Dn cX9_refusalOfDaughter 33 (.iload_n 2) 1 34 := by decide +kernel
theorem dX9_refusalOfDaughter_34 : Dn cX9_refusalOfDaughter 34 (.invokevirtual 202) 3 37 := by decide +kernel
theorem dX9_refusalOfDaughter_37 : Db cX9_refusalOfDaughter 37 (.ifCond .eq 7) (7) 40 44 := by decide +kernel
theorem dX9_refusalOfDaughter_40 : Dn cX9_refusalOfDaughter 40 (.iconst 0) 1 41 := by decide +kernel
theorem dX9_refusalOfDaughter_41 : Db cX9_refusalOfDaughter 41 (.goto 5) (5) 44 46 := by decide +kernel
theorem dX9_refusalOfDaughter_44 : Dn cX9_refusalOfDaughter 44 (.bipush (-3)) 2 46 := by decide +kernel
theorem dX9_refusalOfDaughter_46 : Dn cX9_refusalOfDaughter 46 (.ireturn) 1 47 := by decide +kernel
theorem dX9_forecastOf_0 : Dn cX9_forecastOf 0 (.iload_n 1) 1 1 := by decide +kernel
theorem dX9_forecastOf_1 : Dn cX9_forecastOf 1 (.iconst 0) 1 2 := by decide +kernel
theorem dX9_forecastOf_2 : Dn cX9_forecastOf 2 (.aload_n 0) 1 3 := by decide +kernel
theorem dX9_forecastOf_3 : Dn cX9_forecastOf 3 (.getfield 54) 3 6 := by decide +kernel
theorem dX9_forecastOf_6 : Dn cX9_forecastOf 6 (.iconst 1) 1 7 := by decide +kernel
theorem dX9_forecastOf_7 : Dn cX9_forecastOf 7 (.isub) 1 8 := by decide +kernel
theorem dX9_forecastOf_8 : Dn cX9_forecastOf 8 (.invokestatic 127) 3 11 := by decide +kernel
theorem dX9_forecastOf_11 : Db cX9_forecastOf 11 (.ifCond .eq 12) (12) 14 23 := by decide +kernel
theorem dX9_forecastOf_14 : Dn cX9_forecastOf 14 (.aload_n 0) 1 15 := by decide +kernel
theorem dX9_forecastOf_15 : Dn cX9_forecastOf 15 (.getfield 50) 3 18 := by decide +kernel
theorem dX9_forecastOf_18 : Dn cX9_forecastOf 18 (.iload_n 1) 1 19 := by decide +kernel
theorem dX9_forecastOf_19 : Dn cX9_forecastOf 19 (.aaload) 1 20 := by decide +kernel
theorem dX9_forecastOf_20 : Db cX9_forecastOf 20 (.goto 4) (4) 23 24 := by decide +kernel
theorem dX9_forecastOf_23 : Dn cX9_forecastOf 23 (.aconst_null) 1 24 := by decide +kernel
theorem dX9_forecastOf_24 : Dn cX9_forecastOf 24 (.areturn) 1 25 := by decide +kernel
theorem dX9_scoreOfMix_0 : Dn cX9_scoreOfMix 0 (.aload_n 0) 1 1 := by decide +kernel
theorem dX9_scoreOfMix_1 : Dn cX9_scoreOfMix 1 (.iload_n 1) 1 2 := by decide +kernel
theorem dX9_scoreOfMix_2 : Dn cX9_scoreOfMix 2 (.invokevirtual 264) 3 5 := by decide +kernel
theorem dX9_scoreOfMix_5 : Dn cX9_scoreOfMix 5 (.astore 7) 2 7 := by decide +kernel
theorem dX9_scoreOfMix_7 : Dn cX9_scoreOfMix 7 (.aload_n 0) 1 8 := by decide +kernel
theorem dX9_scoreOfMix_8 : Dn cX9_scoreOfMix 8 (.iload_n 2) 1 9 := by decide +kernel
theorem dX9_scoreOfMix_9 : Dn cX9_scoreOfMix 9 (.invokevirtual 264) 3 12 := by decide +kernel
theorem dX9_scoreOfMix_12 : Dn cX9_scoreOfMix 12 (.astore 8) 2 14 := by decide +kernel
theorem dX9_scoreOfMix_14 : Dn cX9_scoreOfMix 14 (.aload 7) 2 16 := by decide +kernel
theorem dX9_scoreOfMix_16 : Db cX9_scoreOfMix 16 (.ifnull 8) (8) 19 24 := by decide +kernel
theorem dX9_scoreOfMix_19 : Dn cX9_scoreOfMix 19 (.aload 8) 2 21 := by decide +kernel
theorem dX9_scoreOfMix_21 : Db cX9_scoreOfMix 21 (.ifnonnull 7) (7) 24 28 := by decide +kernel
theorem dX9_scoreOfMix_24 : Dn cX9_scoreOfMix 24 (.ldc2_w 164) 3 27 := by decide +kernel
theorem dX9_scoreOfMix_27 : Dn cX9_scoreOfMix 27 (.lreturn) 1 28 := by decide +kernel
theorem dX9_scoreOfMix_28 : Dn cX9_scoreOfMix 28 (.iload_n 3) 1 29 := by decide +kernel
theorem dX9_scoreOfMix_29 : Dn cX9_scoreOfMix 29 (.iconst 0) 1 30 := by decide +kernel
theorem dX9_scoreOfMix_30 : Dn cX9_scoreOfMix 30 (.bipush 10) 2 32 := by decide +kernel
theorem dX9_scoreOfMix_32 : Dn cX9_scoreOfMix 32 (.invokestatic 127) 3 35 := by decide +kernel
theorem dX9_scoreOfMix_35 : Db cX9_scoreOfMix 35 (.ifCond .eq 21) (21) 38 56 := by decide +kernel
theorem dX9_scoreOfMix_38 : Dn cX9_scoreOfMix 38 (.iload 4) 2 40 := by decide +kernel
theorem dX9_scoreOfMix_40 : Dn cX9_scoreOfMix 40 (.invokestatic 83) 3 43 := by decide +kernel
theorem dX9_scoreOfMix_43 : Db cX9_scoreOfMix 43 (.ifCond .eq 13) (13) 46 56 := by decide +kernel
theorem dX9_scoreOfMix_46 : Dn cX9_scoreOfMix 46 (.iload 5) 2 48 := by decide +kernel
theorem dX9_scoreOfMix_48 : Dn cX9_scoreOfMix 48 (.iload 6) 2 50 := by decide +kernel
theorem dX9_scoreOfMix_50 : Dn cX9_scoreOfMix 50 (.invokestatic 326) 3 53 := by decide +kernel
theorem dX9_scoreOfMix_53 : Db cX9_scoreOfMix 53 (.ifCond .ne 7) (7) 56 60 := by decide +kernel
theorem dX9_scoreOfMix_56 : Dn cX9_scoreOfMix 56 (.ldc2_w 169) 3 59 := by decide +kernel
theorem dX9_scoreOfMix_59 : Dn cX9_scoreOfMix 59 (.lreturn) 1 60 := by decide +kernel
theorem dX9_scoreOfMix_60 : Dn cX9_scoreOfMix 60 (.aload_n 0) 1 61 := by decide +kernel
theorem dX9_scoreOfMix_61 : Dn cX9_scoreOfMix 61 (.getfield 61) 3 64 := by decide +kernel
theorem dX9_scoreOfMix_64 : Dn cX9_scoreOfMix 64 (.aload_n 0) 1 65 := by decide +kernel
theorem dX9_scoreOfMix_65 : Dn cX9_scoreOfMix 65 (.getfield 16) 3 68 := by decide +kernel
theorem dX9_scoreOfMix_68 : Dn cX9_scoreOfMix 68 (.aload 7) 2 70 := by decide +kernel
theorem dX9_scoreOfMix_70 : Dn cX9_scoreOfMix 70 (.aload 8) 2 72 := by decide +kernel
theorem dX9_scoreOfMix_72 : Dn cX9_scoreOfMix 72 (.iload 4) 2 74 := by decide +kernel
theorem dX9_scoreOfMix_74 : Dn cX9_scoreOfMix 74 (.iload 5) 2 76 := by decide +kernel
theorem dX9_scoreOfMix_76 : Dn cX9_scoreOfMix 76 (.iload 6) 2 78 := by decide +kernel
theorem dX9_scoreOfMix_78 : Dn cX9_scoreOfMix 78 (.invokevirtual 329) 3 81 := by decide +kernel
theorem dX9_scoreOfMix_81 : Dn cX9_scoreOfMix 81 (.aload_n 0) 1 82 := by decide +kernel
theorem dX9_scoreOfMix_82 : Dn cX9_scoreOfMix 82 (.getfield 61) 3 85 := by decide +kernel
theorem dX9_scoreOfMix_85 : Dn cX9_scoreOfMix 85 (.getfield 333) 3 88 := by decide +kernel
theorem dX9_scoreOfMix_88 : Dn cX9_scoreOfMix 88 (.iload_n 3) 1 89 := by decide +kernel
theorem dX9_scoreOfMix_89 : Dn cX9_scoreOfMix 89 (.laload) 1 90 := by decide +kernel
theorem dX9_scoreOfMix_90 : Dn cX9_scoreOfMix 90 (.lreturn) 1 91 := by decide +kernel
theorem dX10_init_0 : Dn cX10_init 0 (.aload_n 0) 1 1 := by decide +kernel
theorem dX10_init_1 : Dn cX10_init 1 (.invokespecial 1) 3 4 := by decide +kernel
theorem dX10_init_4 : Dn cX10_init 4 (.aload_n 0) 1 5 := by decide +kernel
theorem dX10_init_5 : Dn cX10_init 5 (.bipush 40) 2 7 := by decide +kernel
theorem dX10_init_7 : Dn cX10_init 7 (.newarray .int) 2 9 := by decide +kernel
theorem dX10_init_9 : Dn cX10_init 9 (.putfield 7) 3 12 := by decide +kernel
theorem dX10_init_12 : Dn cX10_init 12 (.aload_n 0) 1 13 := by decide +kernel
theorem dX10_init_13 : Dn cX10_init 13 (.bipush 40) 2 15 := by decide +kernel
theorem dX10_init_15 : Dn cX10_init 15 (.newarray .int) 2 17 := by decide +kernel
theorem dX10_init_17 : Dn cX10_init 17 (.putfield 13) 3 20 := by decide +kernel
theorem dX10_init_20 : Dn cX10_init 20 (.aload_n 0) 1 21 := by decide +kernel
theorem dX10_init_21 : Dn cX10_init 21 (.bipush 40) 2 23 := by decide +kernel
theorem dX10_init_23 : Dn cX10_init 23 (.newarray .int) 2 25 := by decide +kernel
theorem dX10_init_25 : Dn cX10_init 25 (.putfield 16) 3 28 := by decide +kernel
theorem dX10_init_28 : Dn cX10_init 28 (.aload_n 0) 1 29 := by decide +kernel
theorem dX10_init_29 : Dn cX10_init 29 (.bipush 40) 2 31 := by decide +kernel
theorem dX10_init_31 : Dn cX10_init 31 (.newarray .int) 2 33 := by decide +kernel
theorem dX10_init_33 : Dn cX10_init 33 (.putfield 19) 3 36 := by decide +kernel
theorem dX10_init_36 : Dn cX10_init 36 (.aload_n 0) 1 37 := by decide +kernel
theorem dX10_init_37 : Dn cX10_init 37 (.bipush 40) 2 39 := by decide +kernel
theorem dX10_init_39 : Dn cX10_init 39 (.newarray .int) 2 41 := by decide +kernel
theorem dX10_init_41 : Dn cX10_init 41 (.putfield 22) 3 44 := by decide +kernel
theorem dX10_init_44 : Dn cX10_init 44 (.aload_n 0) 1 45 := by decide +kernel
theorem dX10_init_45 : Dn cX10_init 45 (.bipush 40) 2 47 := by decide +kernel
theorem dX10_init_47 : Dn cX10_init 47 (.newarray .int) 2 49 := by decide +kernel
theorem dX10_init_49 : Dn cX10_init 49 (.putfield 25) 3 52 := by decide +kernel
theorem dX10_init_52 : Dn cX10_init 52 (.aload_n 0) 1 53 := by decide +kernel
theorem dX10_init_53 : Dn cX10_init 53 (.bipush 40) 2 55 := by decide +kernel
theorem dX10_init_55 : Dn cX10_init 55 (.newarray .boolean) 2 57 := by decide +kernel
theorem dX10_init_57 : Dn cX10_init 57 (.putfield 28) 3 60 := by decide +kernel
theorem dX10_init_60 : Dn cX10_init 60 (.aload_n 0) 1 61 := by decide +kernel
theorem dX10_init_61 : Dn cX10_init 61 (.iconst 5) 1 62 := by decide +kernel
theorem dX10_init_62 : Dn cX10_init 62 (.newarray .int) 2 64 := by decide +kernel
theorem dX10_init_64 : Dn cX10_init 64 (.putfield 32) 3 67 := by decide +kernel
theorem dX10_init_67 : Dn cX10_init 67 (.aload_n 0) 1 68 := by decide +kernel
theorem dX10_init_68 : Dn cX10_init 68 (.bipush 40) 2 70 := by decide +kernel
theorem dX10_init_70 : Dn cX10_init 70 (.newarray .int) 2 72 := by decide +kernel
theorem dX10_init_72 : Dn cX10_init 72 (.putfield 35) 3 75 := by decide +kernel
theorem dX10_init_75 : Dn cX10_init 75 (.aload_n 0) 1 76 := by decide +kernel
theorem dX10_init_76 : Dn cX10_init 76 (.bipush 12) 2 78 := by decide +kernel
theorem dX10_init_78 : Dn cX10_init 78 (.newarray .int) 2 80 := by decide +kernel
theorem dX10_init_80 : Dn cX10_init 80 (.putfield 38) 3 83 := by decide +kernel
theorem dX10_init_83 : Dn cX10_init 83 (.aload_n 0) 1 84 := by decide +kernel
theorem dX10_init_84 : Dn cX10_init 84 (.bipush 12) 2 86 := by decide +kernel
theorem dX10_init_86 : Dn cX10_init 86 (.newarray .int) 2 88 := by decide +kernel
theorem dX10_init_88 : Dn cX10_init 88 (.putfield 41) 3 91 := by decide +kernel
theorem dX10_init_91 : Dn cX10_init 91 (.aload_n 0) 1 92 := by decide +kernel
theorem dX10_init_92 : Dn cX10_init 92 (.ldc 44) 2 94 := by decide +kernel
theorem dX10_init_94 : Dn cX10_init 94 (.newarray .int) 2 96 := by decide +kernel
theorem dX10_init_96 : Dn cX10_init 96 (.putfield 45) 3 99 := by decide +kernel
theorem dX10_init_99 : Dn cX10_init 99 (.aload_n 0) 1 100 := by decide +kernel
theorem dX10_init_100 : Dn cX10_init 100 (.bipush 10) 2 102 := by decide +kernel
theorem dX10_init_102 : Dn cX10_init 102 (.newarray .int) 2 104 := by decide +kernel
theorem dX10_init_104 : Dn cX10_init 104 (.putfield 48) 3 107 := by decide +kernel
theorem dX10_init_107 : Dn cX10_init 107 (.aload_n 0) 1 108 := by decide +kernel
theorem dX10_init_108 : Dn cX10_init 108 (.bipush 8) 2 110 := by decide +kernel
theorem dX10_init_110 : Dn cX10_init 110 (.newarray .int) 2 112 := by decide +kernel
theorem dX10_init_112 : Dn cX10_init 112 (.putfield 51) 3 115 := by decide +kernel
theorem dX10_init_115 : Dn cX10_init 115 (.aload_n 0) 1 116 := by decide +kernel
theorem dX10_init_116 : Dn cX10_init 116 (.bipush 8) 2 118 := by decide +kernel
theorem dX10_init_118 : Dn cX10_init 118 (.newarray .int) 2 120 := by decide +kernel
theorem dX10_init_120 : Dn cX10_init 120 (.putfield 54) 3 123 := by decide +kernel
theorem dX10_init_123 : Dn cX10_init 123 (.aload_n 0) 1 124 := by decide +kernel
theorem dX10_init_124 : Dn cX10_init 124 (.sipush 336) 3 127 := by decide +kernel
theorem dX10_init_127 : Dn cX10_init 127 (.newarray .int) 2 129 := by decide +kernel
theorem dX10_init_129 : Dn cX10_init 129 (.putfield 57) 3 132 := by decide +kernel
theorem dX10_init_132 : Dn cX10_init 132 (.aload_n 0) 1 133 := by decide +kernel
theorem dX10_init_133 : Dn cX10_init 133 (.bipush 7) 2 135 := by decide +kernel
theorem dX10_init_135 : Dn cX10_init 135 (.newarray .int) 2 137 := by decide +kernel
theorem dX10_init_137 : Dn cX10_init 137 (.putfield 60) 3 140 := by decide +kernel
theorem dX10_init_140 : Dn cX10_init 140 (.aload_n 0) 1 141 := by decide +kernel
theorem dX10_init_141 : Dn cX10_init 141 (.iconst 4) 1 142 := by decide +kernel
theorem dX10_init_142 : Dn cX10_init 142 (.newarray .int) 2 144 := by decide +kernel
theorem dX10_init_144 : Dn cX10_init 144 (.putfield 63) 3 147 := by decide +kernel
theorem dX10_init_147 : Dn cX10_init 147 (.aload_n 0) 1 148 := by decide +kernel
theorem dX10_init_148 : Dn cX10_init 148 (.bipush 12) 2 150 := by decide +kernel
theorem dX10_init_150 : Dn cX10_init 150 (.newarray .int) 2 152 := by decide +kernel
theorem dX10_init_152 : Dn cX10_init 152 (.putfield 66) 3 155 := by decide +kernel
theorem dX10_init_155 : Dn cX10_init 155 (.aload_n 0) 1 156 := by decide +kernel
theorem dX10_init_156 : Dn cX10_init 156 (.bipush 12) 2 158 := by decide +kernel
theorem dX10_init_158 : Dn cX10_init 158 (.newarray .int) 2 160 := by decide +kernel
theorem dX10_init_160 : Dn cX10_init 160 (.putfield 69) 3 163 := by decide +kernel
theorem dX10_init_163 : Dn cX10_init 163 (.aload_n 0) 1 164 := by decide +kernel
theorem dX10_init_164 : Dn cX10_init 164 (.bipush 12) 2 166 := by decide +kernel
theorem dX10_init_166 : Dn cX10_init 166 (.newarray .int) 2 168 := by decide +kernel
theorem dX10_init_168 : Dn cX10_init 168 (.putfield 72) 3 171 := by decide +kernel
theorem dX10_init_171 : Dn cX10_init 171 (.aload_n 0) 1 172 := by decide +kernel
theorem dX10_init_172 : Dn cX10_init 172 (.bipush 12) 2 174 := by decide +kernel
theorem dX10_init_174 : Dn cX10_init 174 (.newarray .int) 2 176 := by decide +kernel
theorem dX10_init_176 : Dn cX10_init 176 (.putfield 75) 3 179 := by decide +kernel
theorem dX10_init_179 : Dn cX10_init 179 (.aload_n 0) 1 180 := by decide +kernel
theorem dX10_init_180 : Dn cX10_init 180 (.bipush 12) 2 182 := by decide +kernel
theorem dX10_init_182 : Dn cX10_init 182 (.newarray .int) 2 184 := by decide +kernel
theorem dX10_init_184 : Dn cX10_init 184 (.putfield 78) 3 187 := by decide +kernel
theorem dX10_init_187 : Dn cX10_init 187 (.aload_n 0) 1 188 := by decide +kernel
theorem dX10_init_188 : Dn cX10_init 188 (.bipush 40) 2 190 := by decide +kernel
theorem dX10_init_190 : Dn cX10_init 190 (.newarray .int) 2 192 := by decide +kernel
theorem dX10_init_192 : Dn cX10_init 192 (.putfield 81) 3 195 := by decide +kernel
theorem dX10_init_195 : Dn cX10_init 195 (.aload_n 0) 1 196 := by decide +kernel
theorem dX10_init_196 : Dn cX10_init 196 (.bipush 12) 2 198 := by decide +kernel
theorem dX10_init_198 : Dn cX10_init 198 (.newarray .int) 2 200 := by decide +kernel
theorem dX10_init_200 : Dn cX10_init 200 (.putfield 84) 3 203 := by decide +kernel
theorem dX10_init_203 : Dn cX10_init 203 (.aload_n 0) 1 204 := by decide +kernel
theorem dX10_init_204 : Dn cX10_init 204 (.bipush 12) 2 206 := by decide +kernel
theorem dX10_init_206 : Dn cX10_init 206 (.newarray .int) 2 208 := by decide +kernel
theorem dX10_init_208 : Dn cX10_init 208 (.putfield 87) 3 211 := by decide +kernel
theorem dX10_init_211 : Dn cX10_init 211 (.aload_n 0) 1 212 := by decide +kernel
theorem dX10_init_212 : Dn cX10_init 212 (.bipush 12) 2 214 := by decide +kernel
theorem dX10_init_214 : Dn cX10_init 214 (.newarray .int) 2 216 := by decide +kernel
theorem dX10_init_216 : Dn cX10_init 216 (.putfield 90) 3 219 := by decide +kernel
theorem dX10_init_219 : Dn cX10_init 219 (.aload_n 0) 1 220 := by decide +kernel
theorem dX10_init_220 : Dn cX10_init 220 (.bipush 12) 2 222 := by decide +kernel
theorem dX10_init_222 : Dn cX10_init 222 (.newarray .int) 2 224 := by decide +kernel
theorem dX10_init_224 : Dn cX10_init 224 (.putfield 93) 3 227 := by decide +kernel
theorem dX10_init_227 : Dn cX10_init 227 (.aload_n 0) 1 228 := by decide +kernel
theorem dX10_init_228 : Dn cX10_init 228 (.getfield 32) 3 231 := by decide +kernel
theorem dX10_init_231 : Dn cX10_init 231 (.iconst 0) 1 232 := by decide +kernel
theorem dX10_init_232 : Dn cX10_init 232 (.iconst 1) 1 233 := by decide +kernel
theorem dX10_init_233 : Dn cX10_init 233 (.iastore) 1 234 := by decide +kernel
theorem dX10_init_234 : Dn cX10_init 234 (.aload_n 0) 1 235 := by decide +kernel
theorem dX10_init_235 : Dn cX10_init 235 (.getfield 32) 3 238 := by decide +kernel
theorem dX10_init_238 : Dn cX10_init 238 (.iconst 1) 1 239 := by decide +kernel
theorem dX10_init_239 : Dn cX10_init 239 (.iconst 1) 1 240 := by decide +kernel
theorem dX10_init_240 : Dn cX10_init 240 (.iastore) 1 241 := by decide +kernel
theorem dX10_init_241 : Dn cX10_init 241 (.aload_n 0) 1 242 := by decide +kernel
theorem dX10_init_242 : Dn cX10_init 242 (.getfield 32) 3 245 := by decide +kernel
theorem dX10_init_245 : Dn cX10_init 245 (.iconst 2) 1 246 := by decide +kernel
theorem dX10_init_246 : Dn cX10_init 246 (.iconst 5) 1 247 := by decide +kernel
theorem dX10_init_247 : Dn cX10_init 247 (.iastore) 1 248 := by decide +kernel
theorem dX10_init_248 : Dn cX10_init 248 (.aload_n 0) 1 249 := by decide +kernel
theorem dX10_init_249 : Dn cX10_init 249 (.getfield 32) 3 252 := by decide +kernel
theorem dX10_init_252 : Dn cX10_init 252 (.iconst 3) 1 253 := by decide +kernel
theorem dX10_init_253 : Dn cX10_init 253 (.bipush 100) 2 255 := by decide +kernel
theorem dX10_init_255 : Dn cX10_init 255 (.iastore) 1 256 := by decide +kernel
theorem dX10_init_256 : Dn cX10_init 256 (.aload_n 0) 1 257 := by decide +kernel
theorem dX10_init_257 : Dn cX10_init 257 (.getfield 32) 3 260 := by decide +kernel
theorem dX10_init_260 : Dn cX10_init 260 (.iconst 4) 1 261 := by decide +kernel
theorem dX10_init_261 : Dn cX10_init 261 (.iconst 5) 1 262 := by decide +kernel
theorem dX10_init_262 : Dn cX10_init 262 (.iastore) 1 263 := by decide +kernel
theorem dX10_init_263 : Dn cX10_init 263 (.return_) 1 264 := by decide +kernel
theorem dX10_in_0 : Dn cX10_in 0 (.lload_n 0) 1 1 := by decide +kernel
theorem dX10_in_1 : Dn cX10_in 1 (.lload_n 2) 1 2 := by decide +kernel
theorem dX10_in_2 : Dn cX10_in 2 (.lcmp) 1 3 := by decide +kernel
theorem dX10_in_3 : Db cX10_in 3 (.ifCond .lt 14) (14) 6 17 := by decide +kernel
theorem dX10_in_6 : Dn cX10_in 6 (.lload_n 0) 1 7 := by decide +kernel
theorem dX10_in_7 : Dn cX10_in 7 (.lload 4) 2 9 := by decide +kernel
theorem dX10_in_9 : Dn cX10_in 9 (.lcmp) 1 10 := by decide +kernel
theorem dX10_in_10 : Db cX10_in 10 (.ifCond .gt 7) (7) 13 17 := by decide +kernel
theorem dX10_in_13 : Dn cX10_in 13 (.iconst 1) 1 14 := by decide +kernel
theorem dX10_in_14 : Db cX10_in 14 (.goto 4) (4) 17 18 := by decide +kernel
theorem dX10_in_17 : Dn cX10_in 17 (.iconst 0) 1 18 := by decide +kernel
theorem dX10_in_18 : Dn cX10_in 18 (.ireturn) 1 19 := by decide +kernel
theorem dX10_size_0 : Dn cX10_size 0 (.iload_n 0) 1 1 := by decide +kernel
theorem dX10_size_1 : Db cX10_size 1 (.ifCond .ge 8) (8) 4 9 := by decide +kernel
theorem dX10_size_4 : Dn cX10_size 4 (.iload_n 0) 1 5 := by decide +kernel
theorem dX10_size_5 : Dn cX10_size 5 (.ineg) 1 6 := by decide +kernel
theorem dX10_size_6 : Db cX10_size 6 (.goto 4) (4) 9 10 := by decide +kernel
theorem dX10_size_9 : Dn cX10_size 9 (.iload_n 0) 1 10 := by decide +kernel
theorem dX10_size_10 : Dn cX10_size 10 (.ireturn) 1 11 := by decide +kernel
theorem dX10_lowest_0 : Dn cX10_lowest 0 (.lload_n 0) 1 1 := by decide +kernel
theorem dX10_lowest_1 : Dn cX10_lowest 1 (.lstore 5) 2 3 := by decide +kernel
theorem dX10_lowest_3 : Dn cX10_lowest 3 (.lload_n 2) 1 4 := by decide +kernel
theorem dX10_lowest_4 : Dn cX10_lowest 4 (.lstore 7) 2 6 := by decide +kernel
theorem dX10_lowest_6 : Dn cX10_lowest 6 (.lload 7) 2 8 := by decide +kernel
theorem dX10_lowest_8 : Dn cX10_lowest 8 (.lconst 0) 1 9 := by decide +kernel
theorem dX10_lowest_9 : Dn cX10_lowest 9 (.lcmp) 1 10 := by decide +kernel
theorem dX10_lowest_10 : Db cX10_lowest 10 (.ifCond .eq 21) (21) 13 31 := by decide +kernel
theorem dX10_lowest_13 : Dn cX10_lowest 13 (.lload 5) 2 15 := by decide +kernel
theorem dX10_lowest_15 : Dn cX10_lowest 15 (.lload 7) 2 17 := by decide +kernel
theorem dX10_lowest_17 : Dn cX10_lowest 17 (.lrem) 1 18 := by decide +kernel
theorem dX10_lowest_18 : Dn cX10_lowest 18 (.lstore 9) 2 20 := by decide +kernel
theorem dX10_lowest_20 : Dn cX10_lowest 20 (.lload 7) 2 22 := by decide +kernel
theorem dX10_lowest_22 : Dn cX10_lowest 22 (.lstore 5) 2 24 := by decide +kernel
theorem dX10_lowest_24 : Dn cX10_lowest 24 (.lload 9) 2 26 := by decide +kernel
theorem dX10_lowest_26 : Dn cX10_lowest 26 (.lstore 7) 2 28 := by decide +kernel
theorem dX10_lowest_28 : Db cX10_lowest 28 (.goto (-22)) (-22) 31 6 := by decide +kernel
theorem dX10_lowest_31 : Dn cX10_lowest 31 (.iload 4) 2 33 := by decide +kernel
theorem dX10_lowest_33 : Db cX10_lowest 33 (.ifCond .ne 10) (10) 36 43 := by decide +kernel
theorem dX10_lowest_36 : Dn cX10_lowest 36 (.lload_n 0) 1 37 := by decide +kernel
theorem dX10_lowest_37 : Dn cX10_lowest 37 (.lload 5) 2 39 := by decide +kernel
theorem dX10_lowest_39 : Dn cX10_lowest 39 (.ldiv) 1 40 := by decide +kernel
theorem dX10_lowest_40 : Db cX10_lowest 40 (.goto 7) (7) 43 47 := by decide +kernel
theorem dX10_lowest_43 : Dn cX10_lowest 43 (.lload_n 2) 1 44 := by decide +kernel
theorem dX10_lowest_44 : Dn cX10_lowest 44 (.lload 5) 2 46 := by decide +kernel
theorem dX10_lowest_46 : Dn cX10_lowest 46 (.ldiv) 1 47 := by decide +kernel
theorem dX10_lowest_47 : Dn cX10_lowest 47 (.lreturn) 1 48 := by decide +kernel
theorem dX10_isQuake_0 : Dn cX10_isQuake 0 (.iload_n 1) 1 1 := by decide +kernel
theorem dX10_isQuake_1 : Dn cX10_isQuake 1 (.i2l) 1 2 := by decide +kernel
theorem dX10_isQuake_2 : Dn cX10_isQuake 2 (.lconst 0) 1 3 := by decide +kernel
theorem dX10_isQuake_3 : Dn cX10_isQuake 3 (.aload_n 0) 1 4 := by decide +kernel
theorem dX10_isQuake_4 : Dn cX10_isQuake 4 (.getfield 96) 3 7 := by decide +kernel
theorem dX10_isQuake_7 : Dn cX10_isQuake 7 (.iconst 1) 1 8 := by decide +kernel
theorem dX10_isQuake_8 : Dn cX10_isQuake 8 (.isub) 1 9 := by decide +kernel
theorem dX10_isQuake_9 : Dn cX10_isQuake 9 (.i2l) 1 10 := by decide +kernel
theorem dX10_isQuake_10 : Dn cX10_isQuake 10 (.invokestatic 100) 3 13 := by decide +kernel
theorem dX10_isQuake_13 : Dn cX10_isQuake 13 (.ireturn) 1 14 := by decide +kernel
theorem dX10_isCell_0 : Dn cX10_isCell 0 (.iload_n 0) 1 1 := by decide +kernel
theorem dX10_isCell_1 : Dn cX10_isCell 1 (.i2l) 1 2 := by decide +kernel
theorem dX10_isCell_2 : Dn cX10_isCell 2 (.lconst 0) 1 3 := by decide +kernel
theorem dX10_isCell_3 : Dn cX10_isCell 3 (.ldc2_w 104) 3 6 := by decide +kernel
theorem dX10_isCell_6 : Dn cX10_isCell 6 (.invokestatic 100) 3 9 := by decide +kernel
theorem dX10_isCell_9 : Db cX10_isCell 9 (.ifCond .eq 19) (19) 12 28 := by decide +kernel
theorem dX10_isCell_12 : Dn cX10_isCell 12 (.iload_n 1) 1 13 := by decide +kernel
theorem dX10_isCell_13 : Dn cX10_isCell 13 (.i2l) 1 14 := by decide +kernel
theorem dX10_isCell_14 : Dn cX10_isCell 14 (.lconst 0) 1 15 := by decide +kernel
theorem dX10_isCell_15 : Dn cX10_isCell 15 (.ldc2_w 104) 3 18 := by decide +kernel
theorem dX10_isCell_18 : Dn cX10_isCell 18 (.invokestatic 100) 3 21 := by decide +kernel
theorem dX10_isCell_21 : Db cX10_isCell 21 (.ifCond .eq 7) (7) 24 28 := by decide +kernel
theorem dX10_isCell_24 : Dn cX10_isCell 24 (.iconst 1) 1 25 := by decide +kernel
theorem dX10_isCell_25 : Db cX10_isCell 25 (.goto 4) (4) 28 29 := by decide +kernel
theorem dX10_isCell_28 : Dn cX10_isCell 28 (.iconst 0) 1 29 := by decide +kernel
theorem dX10_isCell_29 : Dn cX10_isCell 29 (.ireturn) 1 30 := by decide +kernel
theorem dX10_isDay_0 : Dn cX10_isDay 0 (.iload_n 0) 1 1 := by decide +kernel
theorem dX10_isDay_1 : Dn cX10_isDay 1 (.i2l) 1 2 := by decide +kernel
theorem dX10_isDay_2 : Dn cX10_isDay 2 (.lconst 0) 1 3 := by decide +kernel
theorem dX10_isDay_3 : Dn cX10_isDay 3 (.ldc2_w 106) 3 6 := by decide +kernel
theorem dX10_isDay_6 : Dn cX10_isDay 6 (.invokestatic 100) 3 9 := by decide +kernel
theorem dX10_isDay_9 : Dn cX10_isDay 9 (.ireturn) 1 10 := by decide +kernel
theorem dX10_isGreat_0 : Dn cX10_isGreat 0 (.iload_n 0) 1 1 := by decide +kernel
theorem dX10_isGreat_1 : Dn cX10_isGreat 1 (.i2l) 1 2 := by decide +kernel
theorem dX10_isGreat_2 : Dn cX10_isGreat 2 (.lconst 0) 1 3 := by decide +kernel
theorem dX10_isGreat_3 : Dn cX10_isGreat 3 (.ldc2_w 108) 3 6 := by decide +kernel
theorem dX10_isGreat_6 : Dn cX10_isGreat 6 (.invokestatic 100) 3 9 := by decide +kernel
theorem dX10_isGreat_9 : Dn cX10_isGreat 9 (.ireturn) 1 10 := by decide +kernel
theorem dX10_isList_0 : Dn cX10_isList 0 (.iload_n 0) 1 1 := by decide +kernel
theorem dX10_isList_1 : Dn cX10_isList 1 (.i2l) 1 2 := by decide +kernel
theorem dX10_isList_2 : Dn cX10_isList 2 (.lconst 0) 1 3 := by decide +kernel
theorem dX10_isList_3 : Dn cX10_isList 3 (.ldc2_w 110) 3 6 := by decide +kernel
theorem dX10_isList_6 : Dn cX10_isList 6 (.invokestatic 100) 3 9 := by decide +kernel
theorem dX10_isList_9 : Dn cX10_isList 9 (.ireturn) 1 10 := by decide +kernel
theorem dX10_quake_0 : Dn cX10_quake 0 (.iload_n 1) 1 1 := by decide +kernel
theorem dX10_quake_1 : Dn cX10_quake 1 (.invokestatic 112) 3 4 := by decide +kernel
theorem dX10_quake_4 : Db cX10_quake 4 (.ifCond .eq 12) (12) 7 16 := by decide +kernel
theorem dX10_quake_7 : Dn cX10_quake 7 (.iload_n 3) 1 8 := by decide +kernel
theorem dX10_quake_8 : Dn cX10_quake 8 (.iload 4) 2 10 := by decide +kernel
theorem dX10_quake_10 : Dn cX10_quake 10 (.invokestatic 116) 3 13 := by decide +kernel
theorem dX10_quake_13 : Db cX10_quake 13 (.ifCond .ne 5) (5) 16 18 := by decide +kernel
theorem dX10_quake_16 : Dn cX10_quake 16 (.iconst (-1)) 1 17 := by decide +kernel
theorem dX10_quake_17 : Dn cX10_quake 17 (.ireturn) 1 18 := by decide +kernel
theorem dX10_quake_18 : Dn cX10_quake 18 (.iload_n 2) 1 19 := by decide +kernel
theorem dX10_quake_19 : Dn cX10_quake 19 (.invokestatic 120) 3 22 := by decide +kernel
theorem dX10_quake_22 : Db cX10_quake 22 (.ifCond .eq 25) (25) 25 47 := by decide +kernel
theorem dX10_quake_25 : Dn cX10_quake 25 (.iload 5) 2 27 := by decide +kernel
theorem dX10_quake_27 : Dn cX10_quake 27 (.invokestatic 123) 3 30 := by decide +kernel
theorem dX10_quake_30 : Db cX10_quake 30 (.ifCond .eq 17) (17) 33 47 := by decide +kernel
theorem dX10_quake_33 : Dn cX10_quake 33 (.iload 6) 2 35 := by decide +kernel
theorem dX10_quake_35 : Dn cX10_quake 35 (.i2l) 1 36 := by decide +kernel
theorem dX10_quake_36 : Dn cX10_quake 36 (.iload_n 2) 1 37 := by decide +kernel
theorem dX10_quake_37 : Dn cX10_quake 37 (.i2l) 1 38 := by decide +kernel
theorem dX10_quake_38 : Dn cX10_quake 38 (.ldc2_w 106) 3 41 := by decide +kernel
theorem dX10_quake_41 : Dn cX10_quake 41 (.invokestatic 100) 3 44 := by decide +kernel
theorem dX10_quake_44 : Db cX10_quake 44 (.ifCond .ne 6) (6) 47 50 := by decide +kernel
theorem dX10_quake_47 : Dn cX10_quake 47 (.bipush (-2)) 2 49 := by decide +kernel
theorem dX10_quake_49 : Dn cX10_quake 49 (.ireturn) 1 50 := by decide +kernel
theorem dX10_quake_50 : Dn cX10_quake 50 (.aload_n 0) 1 51 := by decide +kernel
theorem dX10_quake_51 : Dn cX10_quake 51 (.getfield 96) 3 54 := by decide +kernel
theorem dX10_quake_54 : Dn cX10_quake 54 (.bipush 40) 2 56 := by decide +kernel
theorem dX10_quake_56 : Db cX10_quake 56 (.if_icmp .ne 6) (6) 59 62 := by decide +kernel
theorem dX10_quake_59 : Dn cX10_quake 59 (.bipush (-4)) 2 61 := by decide +kernel
theorem dX10_quake_61 : Dn cX10_quake 61 (.ireturn) 1 62 := by decide +kernel
theorem dX10_quake_62 : Dn cX10_quake 62 (.aload_n 0) 1 63 := by decide +kernel
theorem dX10_quake_63 : Dn cX10_quake 63 (.getfield 7) 3 66 := by decide +kernel
theorem dX10_quake_66 : Dn cX10_quake 66 (.aload_n 0) 1 67 := by decide +kernel
theorem dX10_quake_67 : Dn cX10_quake 67 (.getfield 96) 3 70 := by decide +kernel
theorem dX10_quake_70 : Dn cX10_quake 70 (.iload_n 1) 1 71 := by decide +kernel
theorem dX10_quake_71 : Dn cX10_quake 71 (.iastore) 1 72 := by decide +kernel
theorem dX10_quake_72 : Dn cX10_quake 72 (.aload_n 0) 1 73 := by decide +kernel
theorem dX10_quake_73 : Dn cX10_quake 73 (.getfield 13) 3 76 := by decide +kernel
theorem dX10_quake_76 : Dn cX10_quake 76 (.aload_n 0) 1 77 := by decide +kernel
theorem dX10_quake_77 : Dn cX10_quake 77 (.getfield 96) 3 80 := by decide +kernel
theorem dX10_quake_80 : Dn cX10_quake 80 (.iload_n 2) 1 81 := by decide +kernel
theorem dX10_quake_81 : Dn cX10_quake 81 (.iastore) 1 82 := by decide +kernel
theorem dX10_quake_82 : Dn cX10_quake 82 (.aload_n 0) 1 83 := by decide +kernel
theorem dX10_quake_83 : Dn cX10_quake 83 (.getfield 16) 3 86 := by decide +kernel
theorem dX10_quake_86 : Dn cX10_quake 86 (.aload_n 0) 1 87 := by decide +kernel
theorem dX10_quake_87 : Dn cX10_quake 87 (.getfield 96) 3 90 := by decide +kernel
theorem dX10_quake_90 : Dn cX10_quake 90 (.iload_n 3) 1 91 := by decide +kernel
theorem dX10_quake_91 : Dn cX10_quake 91 (.iastore) 1 92 := by decide +kernel
theorem dX10_quake_92 : Dn cX10_quake 92 (.aload_n 0) 1 93 := by decide +kernel
theorem dX10_quake_93 : Dn cX10_quake 93 (.getfield 19) 3 96 := by decide +kernel
theorem dX10_quake_96 : Dn cX10_quake 96 (.aload_n 0) 1 97 := by decide +kernel
theorem dX10_quake_97 : Dn cX10_quake 97 (.getfield 96) 3 100 := by decide +kernel
theorem dX10_quake_100 : Dn cX10_quake 100 (.iload 4) 2 102 := by decide +kernel
theorem dX10_quake_102 : Dn cX10_quake 102 (.iastore) 1 103 := by decide +kernel
theorem dX10_quake_103 : Dn cX10_quake 103 (.aload_n 0) 1 104 := by decide +kernel
theorem dX10_quake_104 : Dn cX10_quake 104 (.getfield 22) 3 107 := by decide +kernel
theorem dX10_quake_107 : Dn cX10_quake 107 (.aload_n 0) 1 108 := by decide +kernel
theorem dX10_quake_108 : Dn cX10_quake 108 (.getfield 96) 3 111 := by decide +kernel
theorem dX10_quake_111 : Dn cX10_quake 111 (.iload 5) 2 113 := by decide +kernel
theorem dX10_quake_113 : Dn cX10_quake 113 (.iastore) 1 114 := by decide +kernel
theorem dX10_quake_114 : Dn cX10_quake 114 (.aload_n 0) 1 115 := by decide +kernel
theorem dX10_quake_115 : Dn cX10_quake 115 (.getfield 25) 3 118 := by decide +kernel
theorem dX10_quake_118 : Dn cX10_quake 118 (.aload_n 0) 1 119 := by decide +kernel
theorem dX10_quake_119 : Dn cX10_quake 119 (.getfield 96) 3 122 := by decide +kernel
theorem dX10_quake_122 : Dn cX10_quake 122 (.iload 6) 2 124 := by decide +kernel
theorem dX10_quake_124 : Dn cX10_quake 124 (.iastore) 1 125 := by decide +kernel
theorem dX10_quake_125 : Dn cX10_quake 125 (.aload_n 0) 1 126 := by decide +kernel
theorem dX10_quake_126 : Dn cX10_quake 126 (.getfield 96) 3 129 := by decide +kernel
theorem dX10_quake_129 : Dn cX10_quake 129 (.istore 7) 2 131 := by decide +kernel
theorem dX10_quake_131 : Dn cX10_quake 131 (.iload 7) 2 133 := by decide +kernel
theorem dX10_quake_133 : Db cX10_quake 133 (.ifCond .le 43) (43) 136 176 := by decide +kernel
theorem dX10_quake_136 : Dn cX10_quake 136 (.aload_n 0) 1 137 := by decide +kernel
theorem dX10_quake_137 : Dn cX10_quake 137 (.getfield 13) 3 140 := by decide +kernel
theorem dX10_quake_140 : Dn cX10_quake 140 (.aload_n 0) 1 141 := by decide +kernel
theorem dX10_quake_141 : Dn cX10_quake 141 (.getfield 35) 3 144 := by decide +kernel
theorem dX10_quake_144 : Dn cX10_quake 144 (.iload 7) 2 146 := by decide +kernel
theorem dX10_quake_146 : Dn cX10_quake 146 (.iconst 1) 1 147 := by decide +kernel
theorem dX10_quake_147 : Dn cX10_quake 147 (.isub) 1 148 := by decide +kernel
theorem dX10_quake_148 : Dn cX10_quake 148 (.iaload) 1 149 := by decide +kernel
theorem dX10_quake_149 : Dn cX10_quake 149 (.iaload) 1 150 := by decide +kernel
theorem dX10_quake_150 : Dn cX10_quake 150 (.iload_n 2) 1 151 := by decide +kernel
theorem dX10_quake_151 : Db cX10_quake 151 (.if_icmp .le 25) (25) 154 176 := by decide +kernel
theorem dX10_quake_154 : Dn cX10_quake 154 (.aload_n 0) 1 155 := by decide +kernel
theorem dX10_quake_155 : Dn cX10_quake 155 (.getfield 35) 3 158 := by decide +kernel
theorem dX10_quake_158 : Dn cX10_quake 158 (.iload 7) 2 160 := by decide +kernel
theorem dX10_quake_160 : Dn cX10_quake 160 (.aload_n 0) 1 161 := by decide +kernel
theorem dX10_quake_161 : Dn cX10_quake 161 (.getfield 35) 3 164 := by decide +kernel
theorem dX10_quake_164 : Dn cX10_quake 164 (.iload 7) 2 166 := by decide +kernel
theorem dX10_quake_166 : Dn cX10_quake 166 (.iconst 1) 1 167 := by decide +kernel
theorem dX10_quake_167 : Dn cX10_quake 167 (.isub) 1 168 := by decide +kernel
theorem dX10_quake_168 : Dn cX10_quake 168 (.iaload) 1 169 := by decide +kernel
theorem dX10_quake_169 : Dn cX10_quake 169 (.iastore) 1 170 := by decide +kernel
theorem dX10_quake_170 : Dn cX10_quake 170 (.iinc 7 (-1)) 3 173 := by decide +kernel
theorem dX10_quake_173 : Db cX10_quake 173 (.goto (-42)) (-42) 176 131 := by decide +kernel
theorem dX10_quake_176 : Dn cX10_quake 176 (.aload_n 0) 1 177 := by decide +kernel
theorem dX10_quake_177 : Dn cX10_quake 177 (.getfield 35) 3 180 := by decide +kernel
theorem dX10_quake_180 : Dn cX10_quake 180 (.iload 7) 2 182 := by decide +kernel
theorem dX10_quake_182 : Dn cX10_quake 182 (.aload_n 0) 1 183 := by decide +kernel
theorem dX10_quake_183 : Dn cX10_quake 183 (.getfield 96) 3 186 := by decide +kernel
theorem dX10_quake_186 : Dn cX10_quake 186 (.iastore) 1 187 := by decide +kernel
theorem dX10_quake_187 : Dn cX10_quake 187 (.aload_n 0) 1 188 := by decide +kernel
theorem dX10_quake_188 : Dn cX10_quake 188 (.dup) 1 189 := by decide +kernel
theorem dX10_quake_189 : Dn cX10_quake 189 (.getfield 96) 3 192 := by decide +kernel
theorem dX10_quake_192 : Dn cX10_quake 192 (.iconst 1) 1 193 := by decide +kernel
theorem dX10_quake_193 : Dn cX10_quake 193 (.iadd) 1 194 := by decide +kernel
theorem dX10_quake_194 : Dn cX10_quake 194 (.putfield 96) 3 197 := by decide +kernel
theorem dX10_quake_197 : Dn cX10_quake 197 (.aload_n 0) 1 198 := by decide +kernel
theorem dX10_quake_198 : Dn cX10_quake 198 (.getfield 96) 3 201 := by decide +kernel
theorem dX10_quake_201 : Dn cX10_quake 201 (.iconst 1) 1 202 := by decide +kernel
theorem dX10_quake_202 : Dn cX10_quake 202 (.isub) 1 203 := by decide +kernel
theorem dX10_quake_203 : Dn cX10_quake 203 (.ireturn) 1 204 := by decide +kernel
theorem dX10_blast_0 : Dn cX10_blast 0 (.aload_n 0) 1 1 := by decide +kernel
theorem dX10_blast_1 : Dn cX10_blast 1 (.iload_n 1) 1 2 := by decide +kernel
theorem dX10_blast_2 : Dn cX10_blast 2 (.invokevirtual 126) 3 5 := by decide +kernel
theorem dX10_blast_5 : Db cX10_blast 5 (.ifCond .ne 5) (5) 8 10 := by decide +kernel
theorem dX10_blast_8 : Dn cX10_blast 8 (.iconst (-1)) 1 9 := by decide +kernel
theorem dX10_blast_9 : Dn cX10_blast 9 (.ireturn) 1 10 := by decide +kernel
theorem dX10_blast_10 : Dn cX10_blast 10 (.aload_n 0) 1 11 := by decide +kernel
theorem dX10_blast_11 : Dn cX10_blast 11 (.getfield 28) 3 14 := by decide +kernel
theorem dX10_blast_14 : Dn cX10_blast 14 (.iload_n 1) 1 15 := by decide +kernel
theorem dX10_blast_15 : Dn cX10_blast 15 (.baload) 1 16 := by decide +kernel
theorem dX10_blast_16 : Db cX10_blast 16 (.ifCond .eq 7) (7) 19 23 := by decide +kernel
theorem dX10_blast_19 : Dn cX10_blast 19 (.iconst 1) 1 20 := by decide +kernel
theorem dX10_blast_20 : Db cX10_blast 20 (.goto 4) (4) 23 24 := by decide +kernel
theorem dX10_blast_23 : Dn cX10_blast 23 (.iconst 0) 1 24 := by decide +kernel
theorem dX10_blast_24 : Dn cX10_blast 24 (.istore_n 3) 1 25 := by decide +kernel
theorem dX10_blast_25 : Dn cX10_blast 25 (.aload_n 0) 1 26 := by decide +kernel
theorem dX10_blast_26 : Dn cX10_blast 26 (.getfield 28) 3 29 := by decide +kernel
theorem dX10_blast_29 : Dn cX10_blast 29 (.iload_n 1) 1 30 := by decide +kernel
theorem dX10_blast_30 : Dn cX10_blast 30 (.iload_n 2) 1 31 := by decide +kernel
theorem dX10_blast_31 : Dn cX10_blast 31 (.bastore) 1 32 := by decide +kernel
theorem dX10_blast_32 : Dn cX10_blast 32 (.iload_n 3) 1 33 := by decide +kernel
theorem dX10_blast_33 : Dn cX10_blast 33 (.ireturn) 1 34 := by decide +kernel
theorem dX10_mend_0 : Dn cX10_mend 0 (.aload_n 0) 1 1 := by decide +kernel
theorem dX10_mend_1 : Dn cX10_mend 1 (.iload_n 1) 1 2 := by decide +kernel
theorem dX10_mend_2 : Dn cX10_mend 2 (.invokevirtual 126) 3 5 := by decide +kernel
theorem dX10_mend_5 : Db cX10_mend 5 (.ifCond .ne 5) (5) 8 10 := by decide +kernel
theorem dX10_mend_8 : Dn cX10_mend 8 (.iconst (-1)) 1 9 := by decide +kernel
theorem dX10_mend_9 : Dn cX10_mend 9 (.ireturn) 1 10 := by decide +kernel
theorem dX10_mend_10 : Dn cX10_mend 10 (.iload_n 2) 1 11 := by decide +kernel
theorem dX10_mend_11 : Dn cX10_mend 11 (.invokestatic 123) 3 14 := by decide +kernel
theorem dX10_mend_14 : Db cX10_mend 14 (.ifCond .ne 6) (6) 17 20 := by decide +kernel
theorem dX10_mend_17 : Dn cX10_mend 17 (.bipush (-2)) 2 19 := by decide +kernel
theorem dX10_mend_19 : Dn cX10_mend 19 (.ireturn) 1 20 := by decide +kernel
theorem dX10_mend_20 : Dn cX10_mend 20 (.aload_n 0) 1 21 := by decide +kernel
theorem dX10_mend_21 : Dn cX10_mend 21 (.getfield 22) 3 24 := by decide +kernel
theorem dX10_mend_24 : Dn cX10_mend 24 (.iload_n 1) 1 25 := by decide +kernel
theorem dX10_mend_25 : Dn cX10_mend 25 (.iaload) 1 26 := by decide +kernel
theorem dX10_mend_26 : Dn cX10_mend 26 (.istore_n 3) 1 27 := by decide +kernel
theorem dX10_mend_27 : Dn cX10_mend 27 (.aload_n 0) 1 28 := by decide +kernel
theorem dX10_mend_28 : Dn cX10_mend 28 (.getfield 22) 3 31 := by decide +kernel
theorem dX10_mend_31 : Dn cX10_mend 31 (.iload_n 1) 1 32 := by decide +kernel
theorem dX10_mend_32 : Dn cX10_mend 32 (.iload_n 2) 1 33 := by decide +kernel
theorem dX10_mend_33 : Dn cX10_mend 33 (.iastore) 1 34 := by decide +kernel
theorem dX10_mend_34 : Dn cX10_mend 34 (.iload_n 3) 1 35 := by decide +kernel
theorem dX10_mend_35 : Dn cX10_mend 35 (.ireturn) 1 36 := by decide +kernel
theorem dX10_placeOf_0 : Dn cX10_placeOf 0 (.iconst 0) 1 1 := by decide +kernel
theorem dX10_placeOf_1 : Dn cX10_placeOf 1 (.istore_n 2) 1 2 := by decide +kernel
theorem dX10_placeOf_2 : Dn cX10_placeOf 2 (.aload_n 0) 1 3 := by decide +kernel
theorem dX10_placeOf_3 : Dn cX10_placeOf 3 (.getfield 35) 3 6 := by decide +kernel
theorem dX10_placeOf_6 : Dn cX10_placeOf 6 (.iload_n 2) 1 7 := by decide +kernel
theorem dX10_placeOf_7 : Dn cX10_placeOf 7 (.iaload) 1 8 := by decide +kernel
theorem dX10_placeOf_8 : Dn cX10_placeOf 8 (.iload_n 1) 1 9 := by decide +kernel
theorem dX10_placeOf_9 : Db cX10_placeOf 9 (.if_icmp .eq 9) (9) 12 18 := by decide +kernel
theorem dX10_placeOf_12 : Dn cX10_placeOf 12 (.iinc 2 1) 3 15 := by decide +kernel
theorem dX10_placeOf_15 : Db cX10_placeOf 15 (.goto (-13)) (-13) 18 2 := by decide +kernel
theorem dX10_placeOf_18 : Dn cX10_placeOf 18 (.iload_n 2) 1 19 := by decide +kernel
theorem dX10_placeOf_19 : Dn cX10_placeOf 19 (.ireturn) 1 20 := by decide +kernel
theorem dX10_about_0 : Dn cX10_about 0 (.aload_n 0) 1 1 := by decide +kernel
theorem dX10_about_1 : Dn cX10_about 1 (.iload_n 1) 1 2 := by decide +kernel
theorem dX10_about_2 : Dn cX10_about 2 (.invokevirtual 126) 3 5 := by decide +kernel
theorem dX10_about_5 : Db cX10_about 5 (.ifCond .ne 5) (5) 8 10 := by decide +kernel
theorem dX10_about_8 : Dn cX10_about 8 (.iconst (-1)) 1 9 := by decide +kernel
theorem dX10_about_9 : Dn cX10_about 9 (.ireturn) 1 10 := by decide +kernel
theorem dX10_about_10 : Dn cX10_about 10 (.iload_n 2) 1 11 := by decide +kernel
theorem dX10_about_11 : Dn cX10_about 11 (.tableswitch 108 0 7 #[45, 52, 59, 66, 73, 80, 87, 102]) 45 56 := by decide +kernel
theorem dX10_about_56 : Dn cX10_about 56 (.aload_n 0) 1 57 := by decide +kernel
theorem dX10_about_57 : Dn cX10_about 57 (.getfield 7) 3 60 := by decide +kernel
theorem dX10_about_60 : Dn cX10_about 60 (.iload_n 1) 1 61 := by decide +kernel
theorem dX10_about_61 : Dn cX10_about 61 (.iaload) 1 62 := by decide +kernel
theorem dX10_about_62 : Dn cX10_about 62 (.ireturn) 1 63 := by decide +kernel
theorem dX10_about_63 : Dn cX10_about 63 (.aload_n 0) 1 64 := by decide +kernel
theorem dX10_about_64 : Dn cX10_about 64 (.getfield 13) 3 67 := by decide +kernel
theorem dX10_about_67 : Dn cX10_about 67 (.iload_n 1) 1 68 := by decide +kernel
theorem dX10_about_68 : Dn cX10_about 68 (.iaload) 1 69 := by decide +kernel
theorem dX10_about_69 : Dn cX10_about 69 (.ireturn) 1 70 := by decide +kernel
theorem dX10_about_70 : Dn cX10_about 70 (.aload_n 0) 1 71 := by decide +kernel
theorem dX10_about_71 : Dn cX10_about 71 (.getfield 16) 3 74 := by decide +kernel
theorem dX10_about_74 : Dn cX10_about 74 (.iload_n 1) 1 75 := by decide +kernel
theorem dX10_about_75 : Dn cX10_about 75 (.iaload) 1 76 := by decide +kernel
theorem dX10_about_76 : Dn cX10_about 76 (.ireturn) 1 77 := by decide +kernel
theorem dX10_about_77 : Dn cX10_about 77 (.aload_n 0) 1 78 := by decide +kernel
theorem dX10_about_78 : Dn cX10_about 78 (.getfield 19) 3 81 := by decide +kernel
theorem dX10_about_81 : Dn cX10_about 81 (.iload_n 1) 1 82 := by decide +kernel
theorem dX10_about_82 : Dn cX10_about 82 (.iaload) 1 83 := by decide +kernel
theorem dX10_about_83 : Dn cX10_about 83 (.ireturn) 1 84 := by decide +kernel
theorem dX10_about_84 : Dn cX10_about 84 (.aload_n 0) 1 85 := by decide +kernel
theorem dX10_about_85 : Dn cX10_about 85 (.getfield 22) 3 88 := by decide +kernel
theorem dX10_about_88 : Dn cX10_about 88 (.iload_n 1) 1 89 := by decide +kernel
theorem dX10_about_89 : Dn cX10_about 89 (.iaload) 1 90 := by decide +kernel
theorem dX10_about_90 : Dn cX10_about 90 (.ireturn) 1 91 := by decide +kernel
theorem dX10_about_91 : Dn cX10_about 91 (.aload_n 0) 1 92 := by decide +kernel
theorem dX10_about_92 : Dn cX10_about 92 (.getfield 25) 3 95 := by decide +kernel
theorem dX10_about_95 : Dn cX10_about 95 (.iload_n 1) 1 96 := by decide +kernel
theorem dX10_about_96 : Dn cX10_about 96 (.iaload) 1 97 := by decide +kernel
theorem dX10_about_97 : Dn cX10_about 97 (.ireturn) 1 98 := by decide +kernel
theorem dX10_about_98 : Dn cX10_about 98 (.aload_n 0) 1 99 := by decide +kernel
theorem dX10_about_99 : Dn cX10_about 99 (.getfield 28) 3 102 := by decide +kernel
theorem dX10_about_102 : Dn cX10_about 102 (.iload_n 1) 1 103 := by decide +kernel
theorem dX10_about_103 : Dn cX10_about 103 (.baload) 1 104 := by decide +kernel
theorem dX10_about_104 : Db cX10_about 104 (.ifCond .eq 7) (7) 107 111 := by decide +kernel
theorem dX10_about_107 : Dn cX10_about 107 (.iconst 1) 1 108 := by decide +kernel
theorem dX10_about_108 : Db cX10_about 108 (.goto 4) (4) 111 112 := by decide +kernel
theorem dX10_about_111 : Dn cX10_about 111 (.iconst 0) 1 112 := by decide +kernel
theorem dX10_about_112 : Dn cX10_about 112 (.ireturn) 1 113 := by decide +kernel
theorem dX10_about_113 : Dn cX10_about 113 (.aload_n 0) 1 114 := by decide +kernel
theorem dX10_about_114 : Dn cX10_about 114 (.iload_n 1) 1 115 := by decide +kernel
theorem dX10_about_115 : Dn cX10_about 115 (.invokevirtual 129) 3 118 := by decide +kernel
theorem dX10_about_118 : Dn cX10_about 118 (.ireturn) 1 119 := by decide +kernel
theorem dX10_about_119 : Dn cX10_about 119 (.bipush (-2)) 2 121 := by decide +kernel
theorem dX10_about_121 : Dn cX10_about 121 (.ireturn) 1 122 := by decide +kernel
theorem dX10_mostOf_0 : Dn cX10_mostOf 0 (.iload_n 0) 1 1 := by decide +kernel
theorem dX10_mostOf_1 : Dn cX10_mostOf 1 (.tableswitch 39 0 3 #[31, 34, 39, 36]) 31 32 := by decide +kernel
theorem dX10_mostOf_32 : Dn cX10_mostOf 32 (.bipush 10) 2 34 := by decide +kernel
theorem dX10_mostOf_34 : Dn cX10_mostOf 34 (.ireturn) 1 35 := by decide +kernel
theorem dX10_mostOf_35 : Dn cX10_mostOf 35 (.iconst 5) 1 36 := by decide +kernel
theorem dX10_mostOf_36 : Dn cX10_mostOf 36 (.ireturn) 1 37 := by decide +kernel
theorem dX10_mostOf_37 : Dn cX10_mostOf 37 (.ldc 133) 2 39 := by decide +kernel
theorem dX10_mostOf_39 : Dn cX10_mostOf 39 (.ireturn) 1 40 := by decide +kernel
theorem dX10_mostOf_40 : Dn cX10_mostOf 40 (.bipush 20) 2 42 := by decide +kernel
theorem dX10_mostOf_42 : Dn cX10_mostOf 42 (.ireturn) 1 43 := by decide +kernel
theorem dX10_set_0 : Dn cX10_set 0 (.iload_n 1) 1 1 := by decide +kernel
theorem dX10_set_1 : Dn cX10_set 1 (.i2l) 1 2 := by decide +kernel
theorem dX10_set_2 : Dn cX10_set 2 (.lconst 0) 1 3 := by decide +kernel
theorem dX10_set_3 : Dn cX10_set 3 (.ldc2_w 134) 3 6 := by decide +kernel
theorem dX10_set_6 : Dn cX10_set 6 (.invokestatic 100) 3 9 := by decide +kernel
theorem dX10_set_9 : Db cX10_set 9 (.ifCond .eq 26) (26) 12 35 := by decide +kernel
theorem dX10_set_12 : Dn cX10_set 12 (.iload_n 2) 1 13 := by decide +kernel
theorem dX10_set_13 : Dn cX10_set 13 (.i2l) 1 14 := by decide +kernel
theorem dX10_set_14 : Dn cX10_set 14 (.iload_n 1) 1 15 := by decide +kernel
theorem dX10_set_15 : Dn cX10_set 15 (.iconst 3) 1 16 := by decide +kernel
theorem dX10_set_16 : Db cX10_set 16 (.if_icmp .ne 7) (7) 19 23 := by decide +kernel
theorem dX10_set_19 : Dn cX10_set 19 (.lconst 1) 1 20 := by decide +kernel
theorem dX10_set_20 : Db cX10_set 20 (.goto 4) (4) 23 24 := by decide +kernel
theorem dX10_set_23 : Dn cX10_set 23 (.lconst 0) 1 24 := by decide +kernel
theorem dX10_set_24 : Dn cX10_set 24 (.iload_n 1) 1 25 := by decide +kernel
theorem dX10_set_25 : Dn cX10_set 25 (.invokestatic 136) 3 28 := by decide +kernel
theorem dX10_set_28 : Dn cX10_set 28 (.i2l) 1 29 := by decide +kernel
theorem dX10_set_29 : Dn cX10_set 29 (.invokestatic 100) 3 32 := by decide +kernel
theorem dX10_set_32 : Db cX10_set 32 (.ifCond .ne 6) (6) 35 38 := by decide +kernel
theorem dX10_set_35 : Dn cX10_set 35 (.bipush (-2)) 2 37 := by decide +kernel
theorem dX10_set_37 : Dn cX10_set 37 (.ireturn) 1 38 := by decide +kernel
theorem dX10_set_38 : Dn cX10_set 38 (.aload_n 0) 1 39 := by decide +kernel
theorem dX10_set_39 : Dn cX10_set 39 (.getfield 32) 3 42 := by decide +kernel
theorem dX10_set_42 : Dn cX10_set 42 (.iload_n 1) 1 43 := by decide +kernel
theorem dX10_set_43 : Dn cX10_set 43 (.iaload) 1 44 := by decide +kernel
theorem dX10_set_44 : Dn cX10_set 44 (.istore_n 3) 1 45 := by decide +kernel
theorem dX10_set_45 : Dn cX10_set 45 (.aload_n 0) 1 46 := by decide +kernel
theorem dX10_set_46 : Dn cX10_set 46 (.getfield 32) 3 49 := by decide +kernel
theorem dX10_set_49 : Dn cX10_set 49 (.iload_n 1) 1 50 := by decide +kernel
theorem dX10_set_50 : Dn cX10_set 50 (.iload_n 2) 1 51 := by decide +kernel
theorem dX10_set_51 : Dn cX10_set 51 (.iastore) 1 52 := by decide +kernel
theorem dX10_set_52 : Dn cX10_set 52 (.iload_n 3) 1 53 := by decide +kernel
theorem dX10_set_53 : Dn cX10_set 53 (.ireturn) 1 54 := by decide +kernel
theorem dX10_far_0 : Dn cX10_far 0 (.iload_n 0) 1 1 := by decide +kernel
theorem dX10_far_1 : Dn cX10_far 1 (.iload_n 2) 1 2 := by decide +kernel
theorem dX10_far_2 : Dn cX10_far 2 (.isub) 1 3 := by decide +kernel
theorem dX10_far_3 : Dn cX10_far 3 (.invokestatic 139) 3 6 := by decide +kernel
theorem dX10_far_6 : Dn cX10_far 6 (.istore 4) 2 8 := by decide +kernel
theorem dX10_far_8 : Dn cX10_far 8 (.iload_n 1) 1 9 := by decide +kernel
theorem dX10_far_9 : Dn cX10_far 9 (.iload_n 3) 1 10 := by decide +kernel
theorem dX10_far_10 : Dn cX10_far 10 (.isub) 1 11 := by decide +kernel
theorem dX10_far_11 : Dn cX10_far 11 (.invokestatic 139) 3 14 := by decide +kernel
theorem dX10_far_14 : Dn cX10_far 14 (.istore 5) 2 16 := by decide +kernel
theorem dX10_far_16 : Dn cX10_far 16 (.iload 4) 2 18 := by decide +kernel
theorem dX10_far_18 : Dn cX10_far 18 (.iload 5) 2 20 := by decide +kernel
theorem dX10_far_20 : Db cX10_far 20 (.if_icmp .le 8) (8) 23 28 := by decide +kernel
theorem dX10_far_23 : Dn cX10_far 23 (.iload 4) 2 25 := by decide +kernel
theorem dX10_far_25 : Db cX10_far 25 (.goto 5) (5) 28 30 := by decide +kernel
theorem dX10_far_28 : Dn cX10_far 28 (.iload 5) 2 30 := by decide +kernel
theorem dX10_far_30 : Dn cX10_far 30 (.ireturn) 1 31 := by decide +kernel
theorem dX10_listed_0 : Dn cX10_listed 0 (.iconst 0) 1 1 := by decide +kernel
theorem dX10_listed_1 : Dn cX10_listed 1 (.istore_n 3) 1 2 := by decide +kernel
theorem dX10_listed_2 : Dn cX10_listed 2 (.iconst 0) 1 3 := by decide +kernel
theorem dX10_listed_3 : Dn cX10_listed 3 (.istore 4) 2 5 := by decide +kernel
theorem dX10_listed_5 : Dn cX10_listed 5 (.iload 4) 2 7 := by decide +kernel
theorem dX10_listed_7 : Dn cX10_listed 7 (.aload_n 0) 1 8 := by decide +kernel
theorem dX10_listed_8 : Dn cX10_listed 8 (.getfield 96) 3 11 := by decide +kernel
theorem dX10_listed_11 : Db cX10_listed 11 (.if_icmp .ge 58) (58) 14 69 := by decide +kernel
theorem dX10_listed_14 : Dn cX10_listed 14 (.aload_n 0) 1 15 := by decide +kernel
theorem dX10_listed_15 : Dn cX10_listed 15 (.getfield 7) 3 18 := by decide +kernel
theorem dX10_listed_18 : Dn cX10_listed 18 (.iload 4) 2 20 := by decide +kernel
theorem dX10_listed_20 : Dn cX10_listed 20 (.iaload) 1 21 := by decide +kernel
theorem dX10_listed_21 : Dn cX10_listed 21 (.iload_n 1) 1 22 := by decide +kernel
theorem dX10_listed_22 : Db cX10_listed 22 (.if_icmp .ne 41) (41) 25 63 := by decide +kernel
theorem dX10_listed_25 : Dn cX10_listed 25 (.iload_n 3) 1 26 := by decide +kernel
theorem dX10_listed_26 : Dn cX10_listed 26 (.bipush 12) 2 28 := by decide +kernel
theorem dX10_listed_28 : Db cX10_listed 28 (.if_icmp .ge 18) (18) 31 46 := by decide +kernel
theorem dX10_listed_31 : Dn cX10_listed 31 (.iload_n 2) 1 32 := by decide +kernel
theorem dX10_listed_32 : Db cX10_listed 32 (.ifCond .eq 14) (14) 35 46 := by decide +kernel
theorem dX10_listed_35 : Dn cX10_listed 35 (.aload_n 0) 1 36 := by decide +kernel
theorem dX10_listed_36 : Dn cX10_listed 36 (.getfield 38) 3 39 := by decide +kernel
theorem dX10_listed_39 : Dn cX10_listed 39 (.iload_n 3) 1 40 := by decide +kernel
theorem dX10_listed_40 : Dn cX10_listed 40 (.iload 4) 2 42 := by decide +kernel
theorem dX10_listed_42 : Dn cX10_listed 42 (.iastore) 1 43 := by decide +kernel
theorem dX10_listed_43 : Db cX10_listed 43 (.goto 17) (17) 46 60 := by decide +kernel
theorem dX10_listed_46 : Dn cX10_listed 46 (.iload_n 3) 1 47 := by decide +kernel
theorem dX10_listed_47 : Dn cX10_listed 47 (.bipush 12) 2 49 := by decide +kernel
theorem dX10_listed_49 : Db cX10_listed 49 (.if_icmp .ge 11) (11) 52 60 := by decide +kernel
theorem dX10_listed_52 : Dn cX10_listed 52 (.aload_n 0) 1 53 := by decide +kernel
theorem dX10_listed_53 : Dn cX10_listed 53 (.getfield 41) 3 56 := by decide +kernel
theorem dX10_listed_56 : Dn cX10_listed 56 (.iload_n 3) 1 57 := by decide +kernel
theorem dX10_listed_57 : Dn cX10_listed 57 (.iload 4) 2 59 := by decide +kernel
theorem dX10_listed_59 : Dn cX10_listed 59 (.iastore) 1 60 := by decide +kernel
theorem dX10_listed_60 : Dn cX10_listed 60 (.iinc 3 1) 3 63 := by decide +kernel
theorem dX10_listed_63 : Dn cX10_listed 63 (.iinc 4 1) 3 66 := by decide +kernel
theorem dX10_listed_66 : Db cX10_listed 66 (.goto (-61)) (-61) 69 5 := by decide +kernel
theorem dX10_listed_69 : Dn cX10_listed 69 (.iload_n 3) 1 70 := by decide +kernel
theorem dX10_listed_70 : Dn cX10_listed 70 (.ireturn) 1 71 := by decide +kernel
theorem dX10_missOf_0 : Dn cX10_missOf 0 (.aload_n 0) 1 1 := by decide +kernel
theorem dX10_missOf_1 : Dn cX10_missOf 1 (.getfield 13) 3 4 := by decide +kernel
theorem dX10_missOf_4 : Dn cX10_missOf 4 (.iload_n 1) 1 5 := by decide +kernel
theorem dX10_missOf_5 : Dn cX10_missOf 5 (.iaload) 1 6 := by decide +kernel
theorem dX10_missOf_6 : Dn cX10_missOf 6 (.aload_n 0) 1 7 := by decide +kernel
theorem dX10_missOf_7 : Dn cX10_missOf 7 (.getfield 13) 3 10 := by decide +kernel
theorem dX10_missOf_10 : Dn cX10_missOf 10 (.iload_n 2) 1 11 := by decide +kernel
theorem dX10_missOf_11 : Dn cX10_missOf 11 (.iaload) 1 12 := by decide +kernel
theorem dX10_missOf_12 : Dn cX10_missOf 12 (.isub) 1 13 := by decide +kernel
theorem dX10_missOf_13 : Dn cX10_missOf 13 (.invokestatic 139) 3 16 := by decide +kernel
theorem dX10_missOf_16 : Dn cX10_missOf 16 (.istore_n 3) 1 17 := by decide +kernel
theorem dX10_missOf_17 : Dn cX10_missOf 17 (.aload_n 0) 1 18 := by decide +kernel
theorem dX10_missOf_18 : Dn cX10_missOf 18 (.getfield 16) 3 21 := by decide +kernel
theorem dX10_missOf_21 : Dn cX10_missOf 21 (.iload_n 1) 1 22 := by decide +kernel
theorem dX10_missOf_22 : Dn cX10_missOf 22 (.iaload) 1 23 := by decide +kernel
theorem dX10_missOf_23 : Dn cX10_missOf 23 (.aload_n 0) 1 24 := by decide +kernel
theorem dX10_missOf_24 : Dn cX10_missOf 24 (.getfield 19) 3 27 := by decide +kernel
theorem dX10_missOf_27 : Dn cX10_missOf 27 (.iload_n 1) 1 28 := by decide +kernel
theorem dX10_missOf_28 : Dn cX10_missOf 28 (.iaload) 1 29 := by decide +kernel
theorem dX10_missOf_29 : Dn cX10_missOf 29 (.aload_n 0) 1 30 := by decide +kernel
theorem dX10_missOf_30 : Dn cX10_missOf 30 (.getfield 16) 3 33 := by decide +kernel
theorem dX10_missOf_33 : Dn cX10_missOf 33 (.iload_n 2) 1 34 := by decide +kernel
theorem dX10_missOf_34 : Dn cX10_missOf 34 (.iaload) 1 35 := by decide +kernel
theorem dX10_missOf_35 : Dn cX10_missOf 35 (.aload_n 0) 1 36 := by decide +kernel
theorem dX10_missOf_36 : Dn cX10_missOf 36 (.getfield 19) 3 39 := by decide +kernel
theorem dX10_missOf_39 : Dn cX10_missOf 39 (.iload_n 2) 1 40 := by decide +kernel
theorem dX10_missOf_40 : Dn cX10_missOf 40 (.iaload) 1 41 := by decide +kernel
theorem dX10_missOf_41 : Dn cX10_missOf 41 (.invokestatic 142) 3 44 := by decide +kernel
theorem dX10_missOf_44 : Dn cX10_missOf 44 (.istore 4) 2 46 := by decide +kernel
theorem dX10_missOf_46 : Dn cX10_missOf 46 (.aload_n 0) 1 47 := by decide +kernel
theorem dX10_missOf_47 : Dn cX10_missOf 47 (.getfield 22) 3 50 := by decide +kernel
theorem dX10_missOf_50 : Dn cX10_missOf 50 (.iload_n 1) 1 51 := by decide +kernel
theorem dX10_missOf_51 : Dn cX10_missOf 51 (.iaload) 1 52 := by decide +kernel
theorem dX10_missOf_52 : Dn cX10_missOf 52 (.aload_n 0) 1 53 := by decide +kernel
theorem dX10_missOf_53 : Dn cX10_missOf 53 (.getfield 22) 3 56 := by decide +kernel
theorem dX10_missOf_56 : Dn cX10_missOf 56 (.iload_n 2) 1 57 := by decide +kernel
theorem dX10_missOf_57 : Dn cX10_missOf 57 (.iaload) 1 58 := by decide +kernel
theorem dX10_missOf_58 : Dn cX10_missOf 58 (.isub) 1 59 := by decide +kernel
theorem dX10_missOf_59 : Dn cX10_missOf 59 (.invokestatic 139) 3 62 := by decide +kernel
theorem dX10_missOf_62 : Dn cX10_missOf 62 (.istore 5) 2 64 := by decide +kernel
theorem dX10_missOf_64 : Dn cX10_missOf 64 (.iload_n 3) 1 65 := by decide +kernel
theorem dX10_missOf_65 : Dn cX10_missOf 65 (.aload_n 0) 1 66 := by decide +kernel
theorem dX10_missOf_66 : Dn cX10_missOf 66 (.getfield 32) 3 69 := by decide +kernel
theorem dX10_missOf_69 : Dn cX10_missOf 69 (.iconst 0) 1 70 := by decide +kernel
theorem dX10_missOf_70 : Dn cX10_missOf 70 (.iaload) 1 71 := by decide +kernel
theorem dX10_missOf_71 : Db cX10_missOf 71 (.if_icmp .gt 25) (25) 74 96 := by decide +kernel
theorem dX10_missOf_74 : Dn cX10_missOf 74 (.iload 4) 2 76 := by decide +kernel
theorem dX10_missOf_76 : Dn cX10_missOf 76 (.aload_n 0) 1 77 := by decide +kernel
theorem dX10_missOf_77 : Dn cX10_missOf 77 (.getfield 32) 3 80 := by decide +kernel
theorem dX10_missOf_80 : Dn cX10_missOf 80 (.iconst 1) 1 81 := by decide +kernel
theorem dX10_missOf_81 : Dn cX10_missOf 81 (.iaload) 1 82 := by decide +kernel
theorem dX10_missOf_82 : Db cX10_missOf 82 (.if_icmp .gt 14) (14) 85 96 := by decide +kernel
theorem dX10_missOf_85 : Dn cX10_missOf 85 (.iload 5) 2 87 := by decide +kernel
theorem dX10_missOf_87 : Dn cX10_missOf 87 (.aload_n 0) 1 88 := by decide +kernel
theorem dX10_missOf_88 : Dn cX10_missOf 88 (.getfield 32) 3 91 := by decide +kernel
theorem dX10_missOf_91 : Dn cX10_missOf 91 (.iconst 2) 1 92 := by decide +kernel
theorem dX10_missOf_92 : Dn cX10_missOf 92 (.iaload) 1 93 := by decide +kernel
theorem dX10_missOf_93 : Db cX10_missOf 93 (.if_icmp .le 7) (7) 96 100 := by decide +kernel
theorem dX10_missOf_96 : Dn cX10_missOf 96 (.iconst (-1)) 1 97 := by decide +kernel
theorem dX10_missOf_97 : Db cX10_missOf 97 (.goto 10) (10) 100 107 := by decide +kernel
theorem dX10_missOf_100 : Dn cX10_missOf 100 (.iload_n 3) 1 101 := by decide +kernel
theorem dX10_missOf_101 : Dn cX10_missOf 101 (.iload 4) 2 103 := by decide +kernel
theorem dX10_missOf_103 : Dn cX10_missOf 103 (.iadd) 1 104 := by decide +kernel
theorem dX10_missOf_104 : Dn cX10_missOf 104 (.iload 5) 2 106 := by decide +kernel
theorem dX10_missOf_106 : Dn cX10_missOf 106 (.iadd) 1 107 := by decide +kernel
theorem dX10_missOf_107 : Dn cX10_missOf 107 (.ireturn) 1 108 := by decide +kernel
theorem dX10_joinBy_0 : Dn cX10_joinBy 0 (.aload_n 0) 1 1 := by decide +kernel
theorem dX10_joinBy_1 : Dn cX10_joinBy 1 (.aload_n 0) 1 2 := by decide +kernel
theorem dX10_joinBy_2 : Dn cX10_joinBy 2 (.getfield 38) 3 5 := by decide +kernel
theorem dX10_joinBy_5 : Dn cX10_joinBy 5 (.iload_n 1) 1 6 := by decide +kernel
theorem dX10_joinBy_6 : Dn cX10_joinBy 6 (.iaload) 1 7 := by decide +kernel
theorem dX10_joinBy_7 : Dn cX10_joinBy 7 (.aload_n 0) 1 8 := by decide +kernel
theorem dX10_joinBy_8 : Dn cX10_joinBy 8 (.getfield 41) 3 11 := by decide +kernel
theorem dX10_joinBy_11 : Dn cX10_joinBy 11 (.iload_n 3) 1 12 := by decide +kernel
theorem dX10_joinBy_12 : Dn cX10_joinBy 12 (.iaload) 1 13 := by decide +kernel
theorem dX10_joinBy_13 : Dn cX10_joinBy 13 (.invokevirtual 146) 3 16 := by decide +kernel
theorem dX10_joinBy_16 : Dn cX10_joinBy 16 (.istore 4) 2 18 := by decide +kernel
theorem dX10_joinBy_18 : Dn cX10_joinBy 18 (.iload 4) 2 20 := by decide +kernel
theorem dX10_joinBy_20 : Db cX10_joinBy 20 (.ifCond .lt 12) (12) 23 32 := by decide +kernel
theorem dX10_joinBy_23 : Dn cX10_joinBy 23 (.iload_n 2) 1 24 := by decide +kernel
theorem dX10_joinBy_24 : Dn cX10_joinBy 24 (.iload_n 3) 1 25 := by decide +kernel
theorem dX10_joinBy_25 : Dn cX10_joinBy 25 (.ishr) 1 26 := by decide +kernel
theorem dX10_joinBy_26 : Dn cX10_joinBy 26 (.iconst 1) 1 27 := by decide +kernel
theorem dX10_joinBy_27 : Dn cX10_joinBy 27 (.iand) 1 28 := by decide +kernel
theorem dX10_joinBy_28 : Dn cX10_joinBy 28 (.iconst 1) 1 29 := by decide +kernel
theorem dX10_joinBy_29 : Db cX10_joinBy 29 (.if_icmp .ne 7) (7) 32 36 := by decide +kernel
theorem dX10_joinBy_32 : Dn cX10_joinBy 32 (.iconst (-1)) 1 33 := by decide +kernel
theorem dX10_joinBy_33 : Db cX10_joinBy 33 (.goto 28) (28) 36 61 := by decide +kernel
theorem dX10_joinBy_36 : Dn cX10_joinBy 36 (.sipush 10000) 3 39 := by decide +kernel
theorem dX10_joinBy_39 : Dn cX10_joinBy 39 (.iload 4) 2 41 := by decide +kernel
theorem dX10_joinBy_41 : Dn cX10_joinBy 41 (.isub) 1 42 := by decide +kernel
theorem dX10_joinBy_42 : Dn cX10_joinBy 42 (.aload_n 0) 1 43 := by decide +kernel
theorem dX10_joinBy_43 : Dn cX10_joinBy 43 (.getfield 45) 3 46 := by decide +kernel
theorem dX10_joinBy_46 : Dn cX10_joinBy 46 (.sipush 4096) 3 49 := by decide +kernel
theorem dX10_joinBy_49 : Dn cX10_joinBy 49 (.iload_n 1) 1 50 := by decide +kernel
theorem dX10_joinBy_50 : Dn cX10_joinBy 50 (.iconst 1) 1 51 := by decide +kernel
theorem dX10_joinBy_51 : Dn cX10_joinBy 51 (.iadd) 1 52 := by decide +kernel
theorem dX10_joinBy_52 : Dn cX10_joinBy 52 (.imul) 1 53 := by decide +kernel
theorem dX10_joinBy_53 : Dn cX10_joinBy 53 (.iload_n 2) 1 54 := by decide +kernel
theorem dX10_joinBy_54 : Dn cX10_joinBy 54 (.iconst 1) 1 55 := by decide +kernel
theorem dX10_joinBy_55 : Dn cX10_joinBy 55 (.iload_n 3) 1 56 := by decide +kernel
theorem dX10_joinBy_56 : Dn cX10_joinBy 56 (.ishl) 1 57 := by decide +kernel
theorem dX10_joinBy_57 : Dn cX10_joinBy 57 (.ior) 1 58 := by decide +kernel
theorem dX10_joinBy_58 : Dn cX10_joinBy 58 (.iadd) 1 59 := by decide +kernel
theorem dX10_joinBy_59 : Dn cX10_joinBy 59 (.iaload) 1 60 := by decide +kernel
theorem dX10_joinBy_60 : Dn cX10_joinBy 60 (.iadd) 1 61 := by decide +kernel
theorem dX10_joinBy_61 : Dn cX10_joinBy 61 (.ireturn) 1 62 := by decide +kernel
theorem dX10_findJoins_0 : Dn cX10_findJoins 0 (.iconst 0) 1 1 := by decide +kernel
theorem dX10_findJoins_1 : Dn cX10_findJoins 1 (.istore_n 1) 1 2 := by decide +kernel
theorem dX10_findJoins_2 : Dn cX10_findJoins 2 (.iload_n 1) 1 3 := by decide +kernel
theorem dX10_findJoins_3 : Dn cX10_findJoins 3 (.iconst 1) 1 4 := by decide +kernel
theorem dX10_findJoins_4 : Dn cX10_findJoins 4 (.aload_n 0) 1 5 := by decide +kernel
theorem dX10_findJoins_5 : Dn cX10_findJoins 5 (.getfield 150) 3 8 := by decide +kernel
theorem dX10_findJoins_8 : Dn cX10_findJoins 8 (.ishl) 1 9 := by decide +kernel
theorem dX10_findJoins_9 : Db cX10_findJoins 9 (.if_icmp .ge 25) (25) 12 34 := by decide +kernel
theorem dX10_findJoins_12 : Dn cX10_findJoins 12 (.aload_n 0) 1 13 := by decide +kernel
theorem dX10_findJoins_13 : Dn cX10_findJoins 13 (.getfield 45) 3 16 := by decide +kernel
theorem dX10_findJoins_16 : Dn cX10_findJoins 16 (.sipush 4096) 3 19 := by decide +kernel
theorem dX10_findJoins_19 : Dn cX10_findJoins 19 (.aload_n 0) 1 20 := by decide +kernel
theorem dX10_findJoins_20 : Dn cX10_findJoins 20 (.getfield 153) 3 23 := by decide +kernel
theorem dX10_findJoins_23 : Dn cX10_findJoins 23 (.imul) 1 24 := by decide +kernel
theorem dX10_findJoins_24 : Dn cX10_findJoins 24 (.iload_n 1) 1 25 := by decide +kernel
theorem dX10_findJoins_25 : Dn cX10_findJoins 25 (.iadd) 1 26 := by decide +kernel
theorem dX10_findJoins_26 : Dn cX10_findJoins 26 (.iconst 0) 1 27 := by decide +kernel
theorem dX10_findJoins_27 : Dn cX10_findJoins 27 (.iastore) 1 28 := by decide +kernel
theorem dX10_findJoins_28 : Dn cX10_findJoins 28 (.iinc 1 1) 3 31 := by decide +kernel
theorem dX10_findJoins_31 : Db cX10_findJoins 31 (.goto (-29)) (-29) 34 2 := by decide +kernel
theorem dX10_findJoins_34 : Dn cX10_findJoins 34 (.aload_n 0) 1 35 := by decide +kernel
theorem dX10_findJoins_35 : Dn cX10_findJoins 35 (.getfield 153) 3 38 := by decide +kernel
theorem dX10_findJoins_38 : Dn cX10_findJoins 38 (.iconst 1) 1 39 := by decide +kernel
theorem dX10_findJoins_39 : Dn cX10_findJoins 39 (.isub) 1 40 := by decide +kernel
theorem dX10_findJoins_40 : Dn cX10_findJoins 40 (.istore_n 1) 1 41 := by decide +kernel
theorem dX10_findJoins_41 : Dn cX10_findJoins 41 (.iload_n 1) 1 42 := by decide +kernel
theorem dX10_findJoins_42 : Db cX10_findJoins 42 (.ifCond .lt 96) (96) 45 138 := by decide +kernel
theorem dX10_findJoins_45 : Dn cX10_findJoins 45 (.iconst 0) 1 46 := by decide +kernel
theorem dX10_findJoins_46 : Dn cX10_findJoins 46 (.istore_n 2) 1 47 := by decide +kernel
theorem dX10_findJoins_47 : Dn cX10_findJoins 47 (.iload_n 2) 1 48 := by decide +kernel
theorem dX10_findJoins_48 : Dn cX10_findJoins 48 (.iconst 1) 1 49 := by decide +kernel
theorem dX10_findJoins_49 : Dn cX10_findJoins 49 (.aload_n 0) 1 50 := by decide +kernel
theorem dX10_findJoins_50 : Dn cX10_findJoins 50 (.getfield 150) 3 53 := by decide +kernel
theorem dX10_findJoins_53 : Dn cX10_findJoins 53 (.ishl) 1 54 := by decide +kernel
theorem dX10_findJoins_54 : Db cX10_findJoins 54 (.if_icmp .ge 78) (78) 57 132 := by decide +kernel
theorem dX10_findJoins_57 : Dn cX10_findJoins 57 (.aload_n 0) 1 58 := by decide +kernel
theorem dX10_findJoins_58 : Dn cX10_findJoins 58 (.getfield 45) 3 61 := by decide +kernel
theorem dX10_findJoins_61 : Dn cX10_findJoins 61 (.sipush 4096) 3 64 := by decide +kernel
theorem dX10_findJoins_64 : Dn cX10_findJoins 64 (.iload_n 1) 1 65 := by decide +kernel
theorem dX10_findJoins_65 : Dn cX10_findJoins 65 (.iconst 1) 1 66 := by decide +kernel
theorem dX10_findJoins_66 : Dn cX10_findJoins 66 (.iadd) 1 67 := by decide +kernel
theorem dX10_findJoins_67 : Dn cX10_findJoins 67 (.imul) 1 68 := by decide +kernel
theorem dX10_findJoins_68 : Dn cX10_findJoins 68 (.iload_n 2) 1 69 := by decide +kernel
theorem dX10_findJoins_69 : Dn cX10_findJoins 69 (.iadd) 1 70 := by decide +kernel
theorem dX10_findJoins_70 : Dn cX10_findJoins 70 (.iaload) 1 71 := by decide +kernel
theorem dX10_findJoins_71 : Dn cX10_findJoins 71 (.istore_n 3) 1 72 := by decide +kernel
theorem dX10_findJoins_72 : Dn cX10_findJoins 72 (.iconst 0) 1 73 := by decide +kernel
theorem dX10_findJoins_73 : Dn cX10_findJoins 73 (.istore 4) 2 75 := by decide +kernel
theorem dX10_findJoins_75 : Dn cX10_findJoins 75 (.iload 4) 2 77 := by decide +kernel
theorem dX10_findJoins_77 : Dn cX10_findJoins 77 (.aload_n 0) 1 78 := by decide +kernel
theorem dX10_findJoins_78 : Dn cX10_findJoins 78 (.getfield 150) 3 81 := by decide +kernel
theorem dX10_findJoins_81 : Db cX10_findJoins 81 (.if_icmp .ge 32) (32) 84 113 := by decide +kernel
theorem dX10_findJoins_84 : Dn cX10_findJoins 84 (.aload_n 0) 1 85 := by decide +kernel
theorem dX10_findJoins_85 : Dn cX10_findJoins 85 (.iload_n 1) 1 86 := by decide +kernel
theorem dX10_findJoins_86 : Dn cX10_findJoins 86 (.iload_n 2) 1 87 := by decide +kernel
theorem dX10_findJoins_87 : Dn cX10_findJoins 87 (.iload 4) 2 89 := by decide +kernel
theorem dX10_findJoins_89 : Dn cX10_findJoins 89 (.invokevirtual 156) 3 92 := by decide +kernel
theorem dX10_findJoins_92 : Dn cX10_findJoins 92 (.istore 5) 2 94 := by decide +kernel
theorem dX10_findJoins_94 : Dn cX10_findJoins 94 (.iload 5) 2 96 := by decide +kernel
theorem dX10_findJoins_96 : Dn cX10_findJoins 96 (.iload_n 3) 1 97 := by decide +kernel
theorem dX10_findJoins_97 : Db cX10_findJoins 97 (.if_icmp .le 8) (8) 100 105 := by decide +kernel
theorem dX10_findJoins_100 : Dn cX10_findJoins 100 (.iload 5) 2 102 := by decide +kernel
theorem dX10_findJoins_102 : Db cX10_findJoins 102 (.goto 4) (4) 105 106 := by decide +kernel
theorem dX10_findJoins_105 : Dn cX10_findJoins 105 (.iload_n 3) 1 106 := by decide +kernel
theorem dX10_findJoins_106 : Dn cX10_findJoins 106 (.istore_n 3) 1 107 := by decide +kernel
theorem dX10_findJoins_107 : Dn cX10_findJoins 107 (.iinc 4 1) 3 110 := by decide +kernel
theorem dX10_findJoins_110 : Db cX10_findJoins 110 (.goto (-35)) (-35) 113 75 := by decide +kernel
theorem dX10_findJoins_113 : Dn cX10_findJoins 113 (.aload_n 0) 1 114 := by decide +kernel
theorem dX10_findJoins_114 : Dn cX10_findJoins 114 (.getfield 45) 3 117 := by decide +kernel
theorem dX10_findJoins_117 : Dn cX10_findJoins 117 (.sipush 4096) 3 120 := by decide +kernel
theorem dX10_findJoins_120 : Dn cX10_findJoins 120 (.iload_n 1) 1 121 := by decide +kernel
theorem dX10_findJoins_121 : Dn cX10_findJoins 121 (.imul) 1 122 := by decide +kernel
theorem dX10_findJoins_122 : Dn cX10_findJoins 122 (.iload_n 2) 1 123 := by decide +kernel
theorem dX10_findJoins_123 : Dn cX10_findJoins 123 (.iadd) 1 124 := by decide +kernel
theorem dX10_findJoins_124 : Dn cX10_findJoins 124 (.iload_n 3) 1 125 := by decide +kernel
theorem dX10_findJoins_125 : Dn cX10_findJoins 125 (.iastore) 1 126 := by decide +kernel
theorem dX10_findJoins_126 : Dn cX10_findJoins 126 (.iinc 2 1) 3 129 := by decide +kernel
theorem dX10_findJoins_129 : Db cX10_findJoins 129 (.goto (-82)) (-82) 132 47 := by decide +kernel
theorem dX10_findJoins_132 : Dn cX10_findJoins 132 (.iinc 1 (-1)) 3 135 := by decide +kernel
theorem dX10_findJoins_135 : Db cX10_findJoins 135 (.goto (-94)) (-94) 138 41 := by decide +kernel
theorem dX10_findJoins_138 : Dn cX10_findJoins 138 (.return_) 1 139 := by decide +kernel
theorem dX10_join_0 : Dn cX10_join 0 (.iload_n 3) 1 1 := by decide +kernel
theorem dX10_join_1 : Dn cX10_join 1 (.iconst (-1)) 1 2 := by decide +kernel
theorem dX10_join_2 : Db cX10_join 2 (.if_icmp .eq 27) (27) 5 29 := by decide +kernel
theorem dX10_join_5 : Dn cX10_join 5 (.iload_n 3) 1 6 := by decide +kernel
theorem dX10_join_6 : Dn cX10_join 6 (.bipush (-2)) 2 8 := by decide +kernel
theorem dX10_join_8 : Db cX10_join 8 (.if_icmp .eq 21) (21) 11 29 := by decide +kernel
theorem dX10_join_11 : Dn cX10_join 11 (.aload_n 0) 1 12 := by decide +kernel
theorem dX10_join_12 : Dn cX10_join 12 (.iload_n 3) 1 13 := by decide +kernel
theorem dX10_join_13 : Dn cX10_join 13 (.invokevirtual 126) 3 16 := by decide +kernel
theorem dX10_join_16 : Db cX10_join 16 (.ifCond .eq 17) (17) 19 33 := by decide +kernel
theorem dX10_join_19 : Dn cX10_join 19 (.aload_n 0) 1 20 := by decide +kernel
theorem dX10_join_20 : Dn cX10_join 20 (.getfield 7) 3 23 := by decide +kernel
theorem dX10_join_23 : Dn cX10_join 23 (.iload_n 3) 1 24 := by decide +kernel
theorem dX10_join_24 : Dn cX10_join 24 (.iaload) 1 25 := by decide +kernel
theorem dX10_join_25 : Dn cX10_join 25 (.iload_n 1) 1 26 := by decide +kernel
theorem dX10_join_26 : Db cX10_join 26 (.if_icmp .ne 7) (7) 29 33 := by decide +kernel
theorem dX10_join_29 : Dn cX10_join 29 (.iconst 1) 1 30 := by decide +kernel
theorem dX10_join_30 : Db cX10_join 30 (.goto 4) (4) 33 34 := by decide +kernel
theorem dX10_join_33 : Dn cX10_join 33 (.iconst 0) 1 34 := by decide +kernel
theorem dX10_join_34 : Dn cX10_join 34 (.istore 4) 2 36 := by decide +kernel
theorem dX10_join_36 : Dn cX10_join 36 (.iload_n 1) 1 37 := by decide +kernel
theorem dX10_join_37 : Dn cX10_join 37 (.invokestatic 112) 3 40 := by decide +kernel
theorem dX10_join_40 : Db cX10_join 40 (.ifCond .eq 20) (20) 43 60 := by decide +kernel
theorem dX10_join_43 : Dn cX10_join 43 (.iload_n 2) 1 44 := by decide +kernel
theorem dX10_join_44 : Dn cX10_join 44 (.invokestatic 112) 3 47 := by decide +kernel
theorem dX10_join_47 : Db cX10_join 47 (.ifCond .eq 13) (13) 50 60 := by decide +kernel
theorem dX10_join_50 : Dn cX10_join 50 (.iload_n 1) 1 51 := by decide +kernel
theorem dX10_join_51 : Dn cX10_join 51 (.iload_n 2) 1 52 := by decide +kernel
theorem dX10_join_52 : Db cX10_join 52 (.if_icmp .eq 8) (8) 55 60 := by decide +kernel
theorem dX10_join_55 : Dn cX10_join 55 (.iload 4) 2 57 := by decide +kernel
theorem dX10_join_57 : Db cX10_join 57 (.ifCond .ne 5) (5) 60 62 := by decide +kernel
theorem dX10_join_60 : Dn cX10_join 60 (.iconst (-1)) 1 61 := by decide +kernel
theorem dX10_join_61 : Dn cX10_join 61 (.ireturn) 1 62 := by decide +kernel
theorem dX10_join_62 : Dn cX10_join 62 (.aload_n 0) 1 63 := by decide +kernel
theorem dX10_join_63 : Dn cX10_join 63 (.aload_n 0) 1 64 := by decide +kernel
theorem dX10_join_64 : Dn cX10_join 64 (.iload_n 1) 1 65 := by decide +kernel
theorem dX10_join_65 : Dn cX10_join 65 (.iconst 1) 1 66 := by decide +kernel
theorem dX10_join_66 : Dn cX10_join 66 (.invokevirtual 160) 3 69 := by decide +kernel
theorem dX10_join_69 : Dn cX10_join 69 (.putfield 153) 3 72 := by decide +kernel
theorem dX10_join_72 : Dn cX10_join 72 (.aload_n 0) 1 73 := by decide +kernel
theorem dX10_join_73 : Dn cX10_join 73 (.aload_n 0) 1 74 := by decide +kernel
theorem dX10_join_74 : Dn cX10_join 74 (.iload_n 2) 1 75 := by decide +kernel
theorem dX10_join_75 : Dn cX10_join 75 (.iconst 0) 1 76 := by decide +kernel
theorem dX10_join_76 : Dn cX10_join 76 (.invokevirtual 160) 3 79 := by decide +kernel
theorem dX10_join_79 : Dn cX10_join 79 (.putfield 150) 3 82 := by decide +kernel
theorem dX10_join_82 : Dn cX10_join 82 (.aload_n 0) 1 83 := by decide +kernel
theorem dX10_join_83 : Dn cX10_join 83 (.getfield 153) 3 86 := by decide +kernel
theorem dX10_join_86 : Dn cX10_join 86 (.bipush 12) 2 88 := by decide +kernel
theorem dX10_join_88 : Db cX10_join 88 (.if_icmp .gt 12) (12) 91 100 := by decide +kernel
theorem dX10_join_91 : Dn cX10_join 91 (.aload_n 0) 1 92 := by decide +kernel
theorem dX10_join_92 : Dn cX10_join 92 (.getfield 150) 3 95 := by decide +kernel
theorem dX10_join_95 : Dn cX10_join 95 (.bipush 12) 2 97 := by decide +kernel
theorem dX10_join_97 : Db cX10_join 97 (.if_icmp .le 6) (6) 100 103 := by decide +kernel
theorem dX10_join_100 : Dn cX10_join 100 (.bipush (-5)) 2 102 := by decide +kernel
theorem dX10_join_102 : Dn cX10_join 102 (.ireturn) 1 103 := by decide +kernel
theorem dX10_join_103 : Dn cX10_join 103 (.aload_n 0) 1 104 := by decide +kernel
theorem dX10_join_104 : Dn cX10_join 104 (.invokevirtual 164) 3 107 := by decide +kernel
theorem dX10_join_107 : Dn cX10_join 107 (.aload_n 0) 1 108 := by decide +kernel
theorem dX10_join_108 : Dn cX10_join 108 (.getfield 45) 3 111 := by decide +kernel
theorem dX10_join_111 : Dn cX10_join 111 (.iconst 0) 1 112 := by decide +kernel
theorem dX10_join_112 : Dn cX10_join 112 (.iaload) 1 113 := by decide +kernel
theorem dX10_join_113 : Dn cX10_join 113 (.istore 5) 2 115 := by decide +kernel
theorem dX10_join_115 : Dn cX10_join 115 (.iload 5) 2 117 := by decide +kernel
theorem dX10_join_117 : Dn cX10_join 117 (.sipush 9999) 3 120 := by decide +kernel
theorem dX10_join_120 : Dn cX10_join 120 (.iadd) 1 121 := by decide +kernel
theorem dX10_join_121 : Dn cX10_join 121 (.sipush 10000) 3 124 := by decide +kernel
theorem dX10_join_124 : Dn cX10_join 124 (.idiv) 1 125 := by decide +kernel
theorem dX10_join_125 : Dn cX10_join 125 (.istore 6) 2 127 := by decide +kernel
theorem dX10_join_127 : Dn cX10_join 127 (.iload_n 3) 1 128 := by decide +kernel
theorem dX10_join_128 : Db cX10_join 128 (.ifCond .ge 23) (23) 131 151 := by decide +kernel
theorem dX10_join_131 : Dn cX10_join 131 (.iload_n 3) 1 132 := by decide +kernel
theorem dX10_join_132 : Dn cX10_join 132 (.iconst (-1)) 1 133 := by decide +kernel
theorem dX10_join_133 : Db cX10_join 133 (.if_icmp .ne 8) (8) 136 141 := by decide +kernel
theorem dX10_join_136 : Dn cX10_join 136 (.iload 6) 2 138 := by decide +kernel
theorem dX10_join_138 : Db cX10_join 138 (.goto 12) (12) 141 150 := by decide +kernel
theorem dX10_join_141 : Dn cX10_join 141 (.sipush 10000) 3 144 := by decide +kernel
theorem dX10_join_144 : Dn cX10_join 144 (.iload 6) 2 146 := by decide +kernel
theorem dX10_join_146 : Dn cX10_join 146 (.imul) 1 147 := by decide +kernel
theorem dX10_join_147 : Dn cX10_join 147 (.iload 5) 2 149 := by decide +kernel
theorem dX10_join_149 : Dn cX10_join 149 (.isub) 1 150 := by decide +kernel
theorem dX10_join_150 : Dn cX10_join 150 (.ireturn) 1 151 := by decide +kernel
theorem dX10_join_151 : Dn cX10_join 151 (.iconst 0) 1 152 := by decide +kernel
theorem dX10_join_152 : Dn cX10_join 152 (.istore 7) 2 154 := by decide +kernel
theorem dX10_join_154 : Dn cX10_join 154 (.iconst 0) 1 155 := by decide +kernel
theorem dX10_join_155 : Dn cX10_join 155 (.istore 8) 2 157 := by decide +kernel
theorem dX10_join_157 : Dn cX10_join 157 (.iload 8) 2 159 := by decide +kernel
theorem dX10_join_159 : Dn cX10_join 159 (.aload_n 0) 1 160 := by decide +kernel
theorem dX10_join_160 : Dn cX10_join 160 (.getfield 153) 3 163 := by decide +kernel
theorem dX10_join_163 : Db cX10_join 163 (.if_icmp .ge 120) (120) 166 283 := by decide +kernel
theorem dX10_join_166 : Dn cX10_join 166 (.bipush (-6)) 2 168 := by decide +kernel
theorem dX10_join_168 : Dn cX10_join 168 (.istore 9) 2 170 := by decide +kernel
theorem dX10_join_170 : Dn cX10_join 170 (.iconst 0) 1 171 := by decide +kernel
theorem dX10_join_171 : Dn cX10_join 171 (.istore 10) 2 173 := by decide +kernel
theorem dX10_join_173 : Dn cX10_join 173 (.iload 10) 2 175 := by decide +kernel
theorem dX10_join_175 : Dn cX10_join 175 (.aload_n 0) 1 176 := by decide +kernel
theorem dX10_join_176 : Dn cX10_join 176 (.getfield 150) 3 179 := by decide +kernel
theorem dX10_join_179 : Db cX10_join 179 (.if_icmp .ge 50) (50) 182 229 := by decide +kernel
theorem dX10_join_182 : Dn cX10_join 182 (.iload 9) 2 184 := by decide +kernel
theorem dX10_join_184 : Db cX10_join 184 (.ifCond .ge 45) (45) 187 229 := by decide +kernel
theorem dX10_join_187 : Dn cX10_join 187 (.aload_n 0) 1 188 := by decide +kernel
theorem dX10_join_188 : Dn cX10_join 188 (.iload 8) 2 190 := by decide +kernel
theorem dX10_join_190 : Dn cX10_join 190 (.iload 7) 2 192 := by decide +kernel
theorem dX10_join_192 : Dn cX10_join 192 (.iload 10) 2 194 := by decide +kernel
theorem dX10_join_194 : Dn cX10_join 194 (.invokevirtual 156) 3 197 := by decide +kernel
theorem dX10_join_197 : Dn cX10_join 197 (.aload_n 0) 1 198 := by decide +kernel
theorem dX10_join_198 : Dn cX10_join 198 (.getfield 45) 3 201 := by decide +kernel
theorem dX10_join_201 : Dn cX10_join 201 (.sipush 4096) 3 204 := by decide +kernel
theorem dX10_join_204 : Dn cX10_join 204 (.iload 8) 2 206 := by decide +kernel
theorem dX10_join_206 : Dn cX10_join 206 (.imul) 1 207 := by decide +kernel
theorem dX10_join_207 : Dn cX10_join 207 (.iload 7) 2 209 := by decide +kernel
theorem dX10_join_209 : Dn cX10_join 209 (.iadd) 1 210 := by decide +kernel
theorem dX10_join_210 : Dn cX10_join 210 (.iaload) 1 211 := by decide +kernel
theorem dX10_join_211 : Db cX10_join 211 (.if_icmp .ne 8) (8) 214 219 := by decide +kernel
theorem dX10_join_214 : Dn cX10_join 214 (.iload 10) 2 216 := by decide +kernel
theorem dX10_join_216 : Db cX10_join 216 (.goto 5) (5) 219 221 := by decide +kernel
theorem dX10_join_219 : Dn cX10_join 219 (.iload 9) 2 221 := by decide +kernel
theorem dX10_join_221 : Dn cX10_join 221 (.istore 9) 2 223 := by decide +kernel
theorem dX10_join_223 : Dn cX10_join 223 (.iinc 10 1) 3 226 := by decide +kernel
theorem dX10_join_226 : Db cX10_join 226 (.goto (-53)) (-53) 229 173 := by decide +kernel
theorem dX10_join_229 : Dn cX10_join 229 (.aload_n 0) 1 230 := by decide +kernel
theorem dX10_join_230 : Dn cX10_join 230 (.getfield 38) 3 233 := by decide +kernel
theorem dX10_join_233 : Dn cX10_join 233 (.iload 8) 2 235 := by decide +kernel
theorem dX10_join_235 : Dn cX10_join 235 (.iaload) 1 236 := by decide +kernel
theorem dX10_join_236 : Dn cX10_join 236 (.iload_n 3) 1 237 := by decide +kernel
theorem dX10_join_237 : Db cX10_join 237 (.if_icmp .ne 21) (21) 240 258 := by decide +kernel
theorem dX10_join_240 : Dn cX10_join 240 (.iload 9) 2 242 := by decide +kernel
theorem dX10_join_242 : Db cX10_join 242 (.ifCond .ge 8) (8) 245 250 := by decide +kernel
theorem dX10_join_245 : Dn cX10_join 245 (.bipush (-6)) 2 247 := by decide +kernel
theorem dX10_join_247 : Db cX10_join 247 (.goto 10) (10) 250 257 := by decide +kernel
theorem dX10_join_250 : Dn cX10_join 250 (.aload_n 0) 1 251 := by decide +kernel
theorem dX10_join_251 : Dn cX10_join 251 (.getfield 41) 3 254 := by decide +kernel
theorem dX10_join_254 : Dn cX10_join 254 (.iload 9) 2 256 := by decide +kernel
theorem dX10_join_256 : Dn cX10_join 256 (.iaload) 1 257 := by decide +kernel
theorem dX10_join_257 : Dn cX10_join 257 (.ireturn) 1 258 := by decide +kernel
theorem dX10_join_258 : Dn cX10_join 258 (.iload 9) 2 260 := by decide +kernel
theorem dX10_join_260 : Db cX10_join 260 (.ifCond .ge 8) (8) 263 268 := by decide +kernel
theorem dX10_join_263 : Dn cX10_join 263 (.iload 7) 2 265 := by decide +kernel
theorem dX10_join_265 : Db cX10_join 265 (.goto 10) (10) 268 275 := by decide +kernel
theorem dX10_join_268 : Dn cX10_join 268 (.iload 7) 2 270 := by decide +kernel
theorem dX10_join_270 : Dn cX10_join 270 (.iconst 1) 1 271 := by decide +kernel
theorem dX10_join_271 : Dn cX10_join 271 (.iload 9) 2 273 := by decide +kernel
theorem dX10_join_273 : Dn cX10_join 273 (.ishl) 1 274 := by decide +kernel
theorem dX10_join_274 : Dn cX10_join 274 (.ior) 1 275 := by decide +kernel
theorem dX10_join_275 : Dn cX10_join 275 (.istore 7) 2 277 := by decide +kernel
theorem dX10_join_277 : Dn cX10_join 277 (.iinc 8 1) 3 280 := by decide +kernel
theorem dX10_join_280 : Db cX10_join 280 (.goto (-123)) (-123) 283 157 := by decide +kernel
theorem dX10_join_283 : Dn cX10_join 283 (.bipush (-6)) 2 285 := by decide +kernel
theorem dX10_join_285 : Dn cX10_join 285 (.ireturn) 1 286 := by decide +kernel
theorem dX10_isCounted_0 : Dn cX10_isCounted 0 (.aload_n 0) 1 1 := by decide +kernel
theorem dX10_isCounted_1 : Dn cX10_isCounted 1 (.getfield 28) 3 4 := by decide +kernel
theorem dX10_isCounted_4 : Dn cX10_isCounted 4 (.iload_n 1) 1 5 := by decide +kernel
theorem dX10_isCounted_5 : Dn cX10_isCounted 5 (.baload) 1 6 := by decide +kernel
theorem dX10_isCounted_6 : Db cX10_isCounted 6 (.ifCond .ne 31) (31) 9 37 := by decide +kernel
theorem dX10_isCounted_9 : Dn cX10_isCounted 9 (.iload_n 2) 1 10 := by decide +kernel
theorem dX10_isCounted_10 : Db cX10_isCounted 10 (.ifCond .lt 13) (13) 13 23 := by decide +kernel
theorem dX10_isCounted_13 : Dn cX10_isCounted 13 (.aload_n 0) 1 14 := by decide +kernel
theorem dX10_isCounted_14 : Dn cX10_isCounted 14 (.getfield 7) 3 17 := by decide +kernel
theorem dX10_isCounted_17 : Dn cX10_isCounted 17 (.iload_n 1) 1 18 := by decide +kernel
theorem dX10_isCounted_18 : Dn cX10_isCounted 18 (.iaload) 1 19 := by decide +kernel
theorem dX10_isCounted_19 : Dn cX10_isCounted 19 (.iload_n 2) 1 20 := by decide +kernel
theorem dX10_isCounted_20 : Db cX10_isCounted 20 (.if_icmp .ne 17) (17) 23 37 := by decide +kernel
theorem dX10_isCounted_23 : Dn cX10_isCounted 23 (.aload_n 0) 1 24 := by decide +kernel
theorem dX10_isCounted_24 : Dn cX10_isCounted 24 (.getfield 25) 3 27 := by decide +kernel
theorem dX10_isCounted_27 : Dn cX10_isCounted 27 (.iload_n 1) 1 28 := by decide +kernel
theorem dX10_isCounted_28 : Dn cX10_isCounted 28 (.iaload) 1 29 := by decide +kernel
theorem dX10_isCounted_29 : Dn cX10_isCounted 29 (.iload_n 3) 1 30 := by decide +kernel
theorem dX10_isCounted_30 : Db cX10_isCounted 30 (.if_icmp .gt 7) (7) 33 37 := by decide +kernel
theorem dX10_isCounted_33 : Dn cX10_isCounted 33 (.iconst 1) 1 34 := by decide +kernel
theorem dX10_isCounted_34 : Db cX10_isCounted 34 (.goto 4) (4) 37 38 := by decide +kernel
theorem dX10_isCounted_37 : Dn cX10_isCounted 37 (.iconst 0) 1 38 := by decide +kernel
theorem dX10_isCounted_38 : Dn cX10_isCounted 38 (.ireturn) 1 39 := by decide +kernel
theorem dX10_countOf_0 : Dn cX10_countOf 0 (.iconst 0) 1 1 := by decide +kernel
theorem dX10_countOf_1 : Dn cX10_countOf 1 (.istore 4) 2 3 := by decide +kernel
theorem dX10_countOf_3 : Dn cX10_countOf 3 (.iconst 0) 1 4 := by decide +kernel
theorem dX10_countOf_4 : Dn cX10_countOf 4 (.istore 5) 2 6 := by decide +kernel
theorem dX10_countOf_6 : Dn cX10_countOf 6 (.iload 5) 2 8 := by decide +kernel
theorem dX10_countOf_8 : Dn cX10_countOf 8 (.aload_n 0) 1 9 := by decide +kernel
theorem dX10_countOf_9 : Dn cX10_countOf 9 (.getfield 96) 3 12 := by decide +kernel
theorem dX10_countOf_12 : Db cX10_countOf 12 (.if_icmp .ge 41) (41) 15 53 := by decide +kernel
theorem dX10_countOf_15 : Dn cX10_countOf 15 (.iload 4) 2 17 := by decide +kernel
theorem dX10_countOf_17 : Dn cX10_countOf 17 (.aload_n 0) 1 18 := by decide +kernel
theorem dX10_countOf_18 : Dn cX10_countOf 18 (.iload 5) 2 20 := by decide +kernel
theorem dX10_countOf_20 : Dn cX10_countOf 20 (.iload_n 1) 1 21 := by decide +kernel
theorem dX10_countOf_21 : Dn cX10_countOf 21 (.iload_n 2) 1 22 := by decide +kernel
theorem dX10_countOf_22 : Dn cX10_countOf 22 (.invokevirtual 167) 3 25 := by decide +kernel
theorem dX10_countOf_25 : Db cX10_countOf 25 (.ifCond .eq 18) (18) 28 43 := by decide +kernel
theorem dX10_countOf_28 : Dn cX10_countOf 28 (.aload_n 0) 1 29 := by decide +kernel
theorem dX10_countOf_29 : Dn cX10_countOf 29 (.getfield 22) 3 32 := by decide +kernel
theorem dX10_countOf_32 : Dn cX10_countOf 32 (.iload 5) 2 34 := by decide +kernel
theorem dX10_countOf_34 : Dn cX10_countOf 34 (.iaload) 1 35 := by decide +kernel
theorem dX10_countOf_35 : Dn cX10_countOf 35 (.iload_n 3) 1 36 := by decide +kernel
theorem dX10_countOf_36 : Db cX10_countOf 36 (.if_icmp .lt 7) (7) 39 43 := by decide +kernel
theorem dX10_countOf_39 : Dn cX10_countOf 39 (.iconst 1) 1 40 := by decide +kernel
theorem dX10_countOf_40 : Db cX10_countOf 40 (.goto 4) (4) 43 44 := by decide +kernel
theorem dX10_countOf_43 : Dn cX10_countOf 43 (.iconst 0) 1 44 := by decide +kernel
theorem dX10_countOf_44 : Dn cX10_countOf 44 (.iadd) 1 45 := by decide +kernel
theorem dX10_countOf_45 : Dn cX10_countOf 45 (.istore 4) 2 47 := by decide +kernel
theorem dX10_countOf_47 : Dn cX10_countOf 47 (.iinc 5 1) 3 50 := by decide +kernel
theorem dX10_countOf_50 : Db cX10_countOf 50 (.goto (-44)) (-44) 53 6 := by decide +kernel
theorem dX10_countOf_53 : Dn cX10_countOf 53 (.iload 4) 2 55 := by decide +kernel
theorem dX10_countOf_55 : Dn cX10_countOf 55 (.ireturn) 1 56 := by decide +kernel
theorem dX10_mayList_0 : Dn cX10_mayList 0 (.iload_n 0) 1 1 := by decide +kernel
theorem dX10_mayList_1 : Dn cX10_mayList 1 (.i2l) 1 2 := by decide +kernel
theorem dX10_mayList_2 : Dn cX10_mayList 2 (.ldc2_w 171) 3 5 := by decide +kernel
theorem dX10_mayList_5 : Dn cX10_mayList 5 (.ldc2_w 110) 3 8 := by decide +kernel
theorem dX10_mayList_8 : Dn cX10_mayList 8 (.invokestatic 100) 3 11 := by decide +kernel
theorem dX10_mayList_11 : Dn cX10_mayList 11 (.ireturn) 1 12 := by decide +kernel
theorem dX10_often_0 : Dn cX10_often 0 (.iload_n 1) 1 1 := by decide +kernel
theorem dX10_often_1 : Dn cX10_often 1 (.invokestatic 173) 3 4 := by decide +kernel
theorem dX10_often_4 : Db cX10_often 4 (.ifCond .ne 5) (5) 7 9 := by decide +kernel
theorem dX10_often_7 : Dn cX10_often 7 (.iconst (-1)) 1 8 := by decide +kernel
theorem dX10_often_8 : Dn cX10_often 8 (.ireturn) 1 9 := by decide +kernel
theorem dX10_often_9 : Dn cX10_often 9 (.iload_n 2) 1 10 := by decide +kernel
theorem dX10_often_10 : Dn cX10_often 10 (.invokestatic 120) 3 13 := by decide +kernel
theorem dX10_often_13 : Db cX10_often 13 (.ifCond .eq 20) (20) 16 33 := by decide +kernel
theorem dX10_often_16 : Dn cX10_often 16 (.iload_n 3) 1 17 := by decide +kernel
theorem dX10_often_17 : Dn cX10_often 17 (.invokestatic 123) 3 20 := by decide +kernel
theorem dX10_often_20 : Db cX10_often 20 (.ifCond .eq 13) (13) 23 33 := by decide +kernel
theorem dX10_often_23 : Dn cX10_often 23 (.aload_n 0) 1 24 := by decide +kernel
theorem dX10_often_24 : Dn cX10_often 24 (.iload_n 1) 1 25 := by decide +kernel
theorem dX10_often_25 : Dn cX10_often 25 (.iload_n 2) 1 26 := by decide +kernel
theorem dX10_often_26 : Dn cX10_often 26 (.iload_n 3) 1 27 := by decide +kernel
theorem dX10_often_27 : Dn cX10_often 27 (.invokevirtual 176) 3 30 := by decide +kernel
theorem dX10_often_30 : Db cX10_often 30 (.goto 5) (5) 33 35 := by decide +kernel
theorem dX10_often_33 : Dn cX10_often 33 (.bipush (-2)) 2 35 := by decide +kernel
theorem dX10_often_35 : Dn cX10_often 35 (.ireturn) 1 36 := by decide +kernel
theorem dX10_whole_0 : Dn cX10_whole 0 (.iload_n 1) 1 1 := by decide +kernel
theorem dX10_whole_1 : Dn cX10_whole 1 (.invokestatic 173) 3 4 := by decide +kernel
theorem dX10_whole_4 : Db cX10_whole 4 (.ifCond .ne 5) (5) 7 9 := by decide +kernel
theorem dX10_whole_7 : Dn cX10_whole 7 (.iconst (-1)) 1 8 := by decide +kernel
theorem dX10_whole_8 : Dn cX10_whole 8 (.ireturn) 1 9 := by decide +kernel
theorem dX10_whole_9 : Dn cX10_whole 9 (.iload_n 2) 1 10 := by decide +kernel
theorem dX10_whole_10 : Dn cX10_whole 10 (.invokestatic 120) 3 13 := by decide +kernel
theorem dX10_whole_13 : Db cX10_whole 13 (.ifCond .ne 6) (6) 16 19 := by decide +kernel
theorem dX10_whole_16 : Dn cX10_whole 16 (.bipush (-2)) 2 18 := by decide +kernel
theorem dX10_whole_18 : Dn cX10_whole 18 (.ireturn) 1 19 := by decide +kernel
theorem dX10_whole_19 : Dn cX10_whole 19 (.bipush (-6)) 2 21 := by decide +kernel
theorem dX10_whole_21 : Dn cX10_whole 21 (.istore_n 3) 1 22 := by decide +kernel
theorem dX10_whole_22 : Dn cX10_whole 22 (.iconst 0) 1 23 := by decide +kernel
theorem dX10_whole_23 : Dn cX10_whole 23 (.istore 4) 2 25 := by decide +kernel
theorem dX10_whole_25 : Dn cX10_whole 25 (.iconst 0) 1 26 := by decide +kernel
theorem dX10_whole_26 : Dn cX10_whole 26 (.istore 5) 2 28 := by decide +kernel
theorem dX10_whole_28 : Dn cX10_whole 28 (.iload 5) 2 30 := by decide +kernel
theorem dX10_whole_30 : Dn cX10_whole 30 (.bipush 90) 2 32 := by decide +kernel
theorem dX10_whole_32 : Db cX10_whole 32 (.if_icmp .gt 44) (44) 35 76 := by decide +kernel
theorem dX10_whole_35 : Dn cX10_whole 35 (.aload_n 0) 1 36 := by decide +kernel
theorem dX10_whole_36 : Dn cX10_whole 36 (.iload_n 1) 1 37 := by decide +kernel
theorem dX10_whole_37 : Dn cX10_whole 37 (.iload_n 2) 1 38 := by decide +kernel
theorem dX10_whole_38 : Dn cX10_whole 38 (.iload 5) 2 40 := by decide +kernel
theorem dX10_whole_40 : Dn cX10_whole 40 (.invokevirtual 176) 3 43 := by decide +kernel
theorem dX10_whole_43 : Dn cX10_whole 43 (.aload_n 0) 1 44 := by decide +kernel
theorem dX10_whole_44 : Dn cX10_whole 44 (.iload_n 1) 1 45 := by decide +kernel
theorem dX10_whole_45 : Dn cX10_whole 45 (.iload_n 2) 1 46 := by decide +kernel
theorem dX10_whole_46 : Dn cX10_whole 46 (.iload 5) 2 48 := by decide +kernel
theorem dX10_whole_48 : Dn cX10_whole 48 (.iconst 1) 1 49 := by decide +kernel
theorem dX10_whole_49 : Dn cX10_whole 49 (.iadd) 1 50 := by decide +kernel
theorem dX10_whole_50 : Dn cX10_whole 50 (.invokevirtual 176) 3 53 := by decide +kernel
theorem dX10_whole_53 : Dn cX10_whole 53 (.isub) 1 54 := by decide +kernel
theorem dX10_whole_54 : Dn cX10_whole 54 (.istore 6) 2 56 := by decide +kernel
theorem dX10_whole_56 : Dn cX10_whole 56 (.iload 6) 2 58 := by decide +kernel
theorem dX10_whole_58 : Dn cX10_whole 58 (.iload 4) 2 60 := by decide +kernel
theorem dX10_whole_60 : Db cX10_whole 60 (.if_icmp .le 10) (10) 63 70 := by decide +kernel
theorem dX10_whole_63 : Dn cX10_whole 63 (.iload 6) 2 65 := by decide +kernel
theorem dX10_whole_65 : Dn cX10_whole 65 (.istore 4) 2 67 := by decide +kernel
theorem dX10_whole_67 : Dn cX10_whole 67 (.iload 5) 2 69 := by decide +kernel
theorem dX10_whole_69 : Dn cX10_whole 69 (.istore_n 3) 1 70 := by decide +kernel
theorem dX10_whole_70 : Dn cX10_whole 70 (.iinc 5 1) 3 73 := by decide +kernel
theorem dX10_whole_73 : Db cX10_whole 73 (.goto (-45)) (-45) 76 28 := by decide +kernel
theorem dX10_whole_76 : Dn cX10_whole 76 (.iload_n 3) 1 77 := by decide +kernel
theorem dX10_whole_77 : Dn cX10_whole 77 (.ireturn) 1 78 := by decide +kernel
theorem dX10_isPart_0 : Dn cX10_isPart 0 (.iload_n 0) 1 1 := by decide +kernel
theorem dX10_isPart_1 : Dn cX10_isPart 1 (.i2l) 1 2 := by decide +kernel
theorem dX10_isPart_2 : Dn cX10_isPart 2 (.lconst 0) 1 3 := by decide +kernel
theorem dX10_isPart_3 : Dn cX10_isPart 3 (.lconst 1) 1 4 := by decide +kernel
theorem dX10_isPart_4 : Dn cX10_isPart 4 (.invokestatic 100) 3 7 := by decide +kernel
theorem dX10_isPart_7 : Dn cX10_isPart 7 (.ireturn) 1 8 := by decide +kernel
theorem dX10_slope_0 : Dn cX10_slope 0 (.iload_n 1) 1 1 := by decide +kernel
theorem dX10_slope_1 : Dn cX10_slope 1 (.invokestatic 173) 3 4 := by decide +kernel
theorem dX10_slope_4 : Db cX10_slope 4 (.ifCond .ne 7) (7) 7 11 := by decide +kernel
theorem dX10_slope_7 : Dn cX10_slope 7 (.ldc2_w 179) 3 10 := by decide +kernel
theorem dX10_slope_10 : Dn cX10_slope 10 (.lreturn) 1 11 := by decide +kernel
theorem dX10_slope_11 : Dn cX10_slope 11 (.iload_n 2) 1 12 := by decide +kernel
theorem dX10_slope_12 : Dn cX10_slope 12 (.invokestatic 120) 3 15 := by decide +kernel
theorem dX10_slope_15 : Db cX10_slope 15 (.ifCond .eq 18) (18) 18 33 := by decide +kernel
theorem dX10_slope_18 : Dn cX10_slope 18 (.iload_n 3) 1 19 := by decide +kernel
theorem dX10_slope_19 : Dn cX10_slope 19 (.invokestatic 123) 3 22 := by decide +kernel
theorem dX10_slope_22 : Db cX10_slope 22 (.ifCond .eq 11) (11) 25 33 := by decide +kernel
theorem dX10_slope_25 : Dn cX10_slope 25 (.iload 4) 2 27 := by decide +kernel
theorem dX10_slope_27 : Dn cX10_slope 27 (.invokestatic 181) 3 30 := by decide +kernel
theorem dX10_slope_30 : Db cX10_slope 30 (.ifCond .ne 7) (7) 33 37 := by decide +kernel
theorem dX10_slope_33 : Dn cX10_slope 33 (.ldc2_w 184) 3 36 := by decide +kernel
theorem dX10_slope_36 : Dn cX10_slope 36 (.lreturn) 1 37 := by decide +kernel
theorem dX10_slope_37 : Dn cX10_slope 37 (.lconst 0) 1 38 := by decide +kernel
theorem dX10_slope_38 : Dn cX10_slope 38 (.lstore 5) 2 40 := by decide +kernel
theorem dX10_slope_40 : Dn cX10_slope 40 (.lconst 0) 1 41 := by decide +kernel
theorem dX10_slope_41 : Dn cX10_slope 41 (.lstore 7) 2 43 := by decide +kernel
theorem dX10_slope_43 : Dn cX10_slope 43 (.iconst 0) 1 44 := by decide +kernel
theorem dX10_slope_44 : Dn cX10_slope 44 (.istore 9) 2 46 := by decide +kernel
theorem dX10_slope_46 : Dn cX10_slope 46 (.iload 9) 2 48 := by decide +kernel
theorem dX10_slope_48 : Dn cX10_slope 48 (.aload_n 0) 1 49 := by decide +kernel
theorem dX10_slope_49 : Dn cX10_slope 49 (.getfield 96) 3 52 := by decide +kernel
theorem dX10_slope_52 : Db cX10_slope 52 (.if_icmp .ge 52) (52) 55 104 := by decide +kernel
theorem dX10_slope_55 : Dn cX10_slope 55 (.aload_n 0) 1 56 := by decide +kernel
theorem dX10_slope_56 : Dn cX10_slope 56 (.iload 9) 2 58 := by decide +kernel
theorem dX10_slope_58 : Dn cX10_slope 58 (.iload_n 1) 1 59 := by decide +kernel
theorem dX10_slope_59 : Dn cX10_slope 59 (.iload_n 2) 1 60 := by decide +kernel
theorem dX10_slope_60 : Dn cX10_slope 60 (.invokevirtual 167) 3 63 := by decide +kernel
theorem dX10_slope_63 : Db cX10_slope 63 (.ifCond .eq 35) (35) 66 98 := by decide +kernel
theorem dX10_slope_66 : Dn cX10_slope 66 (.aload_n 0) 1 67 := by decide +kernel
theorem dX10_slope_67 : Dn cX10_slope 67 (.getfield 22) 3 70 := by decide +kernel
theorem dX10_slope_70 : Dn cX10_slope 70 (.iload 9) 2 72 := by decide +kernel
theorem dX10_slope_72 : Dn cX10_slope 72 (.iaload) 1 73 := by decide +kernel
theorem dX10_slope_73 : Dn cX10_slope 73 (.iload_n 3) 1 74 := by decide +kernel
theorem dX10_slope_74 : Db cX10_slope 74 (.if_icmp .lt 24) (24) 77 98 := by decide +kernel
theorem dX10_slope_77 : Dn cX10_slope 77 (.lload 5) 2 79 := by decide +kernel
theorem dX10_slope_79 : Dn cX10_slope 79 (.lconst 1) 1 80 := by decide +kernel
theorem dX10_slope_80 : Dn cX10_slope 80 (.ladd) 1 81 := by decide +kernel
theorem dX10_slope_81 : Dn cX10_slope 81 (.lstore 5) 2 83 := by decide +kernel
theorem dX10_slope_83 : Dn cX10_slope 83 (.lload 7) 2 85 := by decide +kernel
theorem dX10_slope_85 : Dn cX10_slope 85 (.aload_n 0) 1 86 := by decide +kernel
theorem dX10_slope_86 : Dn cX10_slope 86 (.getfield 22) 3 89 := by decide +kernel
theorem dX10_slope_89 : Dn cX10_slope 89 (.iload 9) 2 91 := by decide +kernel
theorem dX10_slope_91 : Dn cX10_slope 91 (.iaload) 1 92 := by decide +kernel
theorem dX10_slope_92 : Dn cX10_slope 92 (.iload_n 3) 1 93 := by decide +kernel
theorem dX10_slope_93 : Dn cX10_slope 93 (.isub) 1 94 := by decide +kernel
theorem dX10_slope_94 : Dn cX10_slope 94 (.i2l) 1 95 := by decide +kernel
theorem dX10_slope_95 : Dn cX10_slope 95 (.ladd) 1 96 := by decide +kernel
theorem dX10_slope_96 : Dn cX10_slope 96 (.lstore 7) 2 98 := by decide +kernel
theorem dX10_slope_98 : Dn cX10_slope 98 (.iinc 9 1) 3 101 := by decide +kernel
theorem dX10_slope_101 : Db cX10_slope 101 (.goto (-55)) (-55) 104 46 := by decide +kernel
theorem dX10_slope_104 : Dn cX10_slope 104 (.lload 5) 2 106 := by decide +kernel
theorem dX10_slope_106 : Dn cX10_slope 106 (.lconst 0) 1 107 := by decide +kernel
theorem dX10_slope_107 : Dn cX10_slope 107 (.lcmp) 1 108 := by decide +kernel
theorem dX10_slope_108 : Db cX10_slope 108 (.ifCond .ne 9) (9) 111 117 := by decide +kernel
theorem dX10_slope_111 : Dn cX10_slope 111 (.ldc2_w 186) 3 114 := by decide +kernel
theorem dX10_slope_114 : Db cX10_slope 114 (.goto 23) (23) 117 137 := by decide +kernel
theorem dX10_slope_117 : Dn cX10_slope 117 (.ldc2_w 110) 3 120 := by decide +kernel
theorem dX10_slope_120 : Dn cX10_slope 120 (.lload 5) 2 122 := by decide +kernel
theorem dX10_slope_122 : Dn cX10_slope 122 (.lmul) 1 123 := by decide +kernel
theorem dX10_slope_123 : Dn cX10_slope 123 (.lload 5) 2 125 := by decide +kernel
theorem dX10_slope_125 : Dn cX10_slope 125 (.ldc2_w 110) 3 128 := by decide +kernel
theorem dX10_slope_128 : Dn cX10_slope 128 (.lload 7) 2 130 := by decide +kernel
theorem dX10_slope_130 : Dn cX10_slope 130 (.lmul) 1 131 := by decide +kernel
theorem dX10_slope_131 : Dn cX10_slope 131 (.ladd) 1 132 := by decide +kernel
theorem dX10_slope_132 : Dn cX10_slope 132 (.iload 4) 2 134 := by decide +kernel
theorem dX10_slope_134 : Dn cX10_slope 134 (.invokestatic 188) 3 137 := by decide +kernel
theorem dX10_slope_137 : Dn cX10_slope 137 (.lreturn) 1 138 := by decide +kernel
theorem dX10_choose_0 : Dn cX10_choose 0 (.iload_n 1) 1 1 := by decide +kernel
theorem dX10_choose_1 : Dn cX10_choose 1 (.i2l) 1 2 := by decide +kernel
theorem dX10_choose_2 : Dn cX10_choose 2 (.lconst 0) 1 3 := by decide +kernel
theorem dX10_choose_3 : Dn cX10_choose 3 (.iload_n 0) 1 4 := by decide +kernel
theorem dX10_choose_4 : Dn cX10_choose 4 (.i2l) 1 5 := by decide +kernel
theorem dX10_choose_5 : Dn cX10_choose 5 (.invokestatic 100) 3 8 := by decide +kernel
theorem dX10_choose_8 : Db cX10_choose 8 (.ifCond .ne 5) (5) 11 13 := by decide +kernel
theorem dX10_choose_11 : Dn cX10_choose 11 (.lconst 0) 1 12 := by decide +kernel
theorem dX10_choose_12 : Dn cX10_choose 12 (.lreturn) 1 13 := by decide +kernel
theorem dX10_choose_13 : Dn cX10_choose 13 (.lconst 1) 1 14 := by decide +kernel
theorem dX10_choose_14 : Dn cX10_choose 14 (.lstore_n 2) 1 15 := by decide +kernel
theorem dX10_choose_15 : Dn cX10_choose 15 (.iconst 1) 1 16 := by decide +kernel
theorem dX10_choose_16 : Dn cX10_choose 16 (.istore 4) 2 18 := by decide +kernel
theorem dX10_choose_18 : Dn cX10_choose 18 (.iload 4) 2 20 := by decide +kernel
theorem dX10_choose_20 : Dn cX10_choose 20 (.iload_n 1) 1 21 := by decide +kernel
theorem dX10_choose_21 : Db cX10_choose 21 (.if_icmp .gt 23) (23) 24 44 := by decide +kernel
theorem dX10_choose_24 : Dn cX10_choose 24 (.lload_n 2) 1 25 := by decide +kernel
theorem dX10_choose_25 : Dn cX10_choose 25 (.iload_n 0) 1 26 := by decide +kernel
theorem dX10_choose_26 : Dn cX10_choose 26 (.iload_n 1) 1 27 := by decide +kernel
theorem dX10_choose_27 : Dn cX10_choose 27 (.isub) 1 28 := by decide +kernel
theorem dX10_choose_28 : Dn cX10_choose 28 (.iload 4) 2 30 := by decide +kernel
theorem dX10_choose_30 : Dn cX10_choose 30 (.iadd) 1 31 := by decide +kernel
theorem dX10_choose_31 : Dn cX10_choose 31 (.i2l) 1 32 := by decide +kernel
theorem dX10_choose_32 : Dn cX10_choose 32 (.lmul) 1 33 := by decide +kernel
theorem dX10_choose_33 : Dn cX10_choose 33 (.iload 4) 2 35 := by decide +kernel
theorem dX10_choose_35 : Dn cX10_choose 35 (.i2l) 1 36 := by decide +kernel
theorem dX10_choose_36 : Dn cX10_choose 36 (.ldiv) 1 37 := by decide +kernel
theorem dX10_choose_37 : Dn cX10_choose 37 (.lstore_n 2) 1 38 := by decide +kernel
theorem dX10_choose_38 : Dn cX10_choose 38 (.iinc 4 1) 3 41 := by decide +kernel
theorem dX10_choose_41 : Db cX10_choose 41 (.goto (-23)) (-23) 44 18 := by decide +kernel
theorem dX10_choose_44 : Dn cX10_choose 44 (.lload_n 2) 1 45 := by decide +kernel
theorem dX10_choose_45 : Dn cX10_choose 45 (.lreturn) 1 46 := by decide +kernel
theorem dX10_alike_0 : Dn cX10_alike 0 (.iload_n 1) 1 1 := by decide +kernel
theorem dX10_alike_1 : Dn cX10_alike 1 (.invokestatic 112) 3 4 := by decide +kernel
theorem dX10_alike_4 : Db cX10_alike 4 (.ifCond .eq 15) (15) 7 19 := by decide +kernel
theorem dX10_alike_7 : Dn cX10_alike 7 (.iload_n 2) 1 8 := by decide +kernel
theorem dX10_alike_8 : Dn cX10_alike 8 (.invokestatic 112) 3 11 := by decide +kernel
theorem dX10_alike_11 : Db cX10_alike 11 (.ifCond .eq 8) (8) 14 19 := by decide +kernel
theorem dX10_alike_14 : Dn cX10_alike 14 (.iload_n 1) 1 15 := by decide +kernel
theorem dX10_alike_15 : Dn cX10_alike 15 (.iload_n 2) 1 16 := by decide +kernel
theorem dX10_alike_16 : Db cX10_alike 16 (.if_icmp .ne 7) (7) 19 23 := by decide +kernel
theorem dX10_alike_19 : Dn cX10_alike 19 (.ldc2_w 179) 3 22 := by decide +kernel
theorem dX10_alike_22 : Dn cX10_alike 22 (.lreturn) 1 23 := by decide +kernel
theorem dX10_alike_23 : Dn cX10_alike 23 (.iload_n 3) 1 24 := by decide +kernel
theorem dX10_alike_24 : Dn cX10_alike 24 (.invokestatic 123) 3 27 := by decide +kernel
theorem dX10_alike_27 : Db cX10_alike 27 (.ifCond .eq 11) (11) 30 38 := by decide +kernel
theorem dX10_alike_30 : Dn cX10_alike 30 (.iload 4) 2 32 := by decide +kernel
theorem dX10_alike_32 : Dn cX10_alike 32 (.invokestatic 181) 3 35 := by decide +kernel
theorem dX10_alike_35 : Db cX10_alike 35 (.ifCond .ne 7) (7) 38 42 := by decide +kernel
theorem dX10_alike_38 : Dn cX10_alike 38 (.ldc2_w 184) 3 41 := by decide +kernel
theorem dX10_alike_41 : Dn cX10_alike 41 (.lreturn) 1 42 := by decide +kernel
theorem dX10_alike_42 : Dn cX10_alike 42 (.aload_n 0) 1 43 := by decide +kernel
theorem dX10_alike_43 : Dn cX10_alike 43 (.iload_n 1) 1 44 := by decide +kernel
theorem dX10_alike_44 : Dn cX10_alike 44 (.sipush 3999) 3 47 := by decide +kernel
theorem dX10_alike_47 : Dn cX10_alike 47 (.iconst 0) 1 48 := by decide +kernel
theorem dX10_alike_48 : Dn cX10_alike 48 (.invokevirtual 176) 3 51 := by decide +kernel
theorem dX10_alike_51 : Dn cX10_alike 51 (.istore 5) 2 53 := by decide +kernel
theorem dX10_alike_53 : Dn cX10_alike 53 (.iload 5) 2 55 := by decide +kernel
theorem dX10_alike_55 : Dn cX10_alike 55 (.aload_n 0) 1 56 := by decide +kernel
theorem dX10_alike_56 : Dn cX10_alike 56 (.iload_n 2) 1 57 := by decide +kernel
theorem dX10_alike_57 : Dn cX10_alike 57 (.sipush 3999) 3 60 := by decide +kernel
theorem dX10_alike_60 : Dn cX10_alike 60 (.iconst 0) 1 61 := by decide +kernel
theorem dX10_alike_61 : Dn cX10_alike 61 (.invokevirtual 176) 3 64 := by decide +kernel
theorem dX10_alike_64 : Dn cX10_alike 64 (.iadd) 1 65 := by decide +kernel
theorem dX10_alike_65 : Dn cX10_alike 65 (.istore 6) 2 67 := by decide +kernel
theorem dX10_alike_67 : Dn cX10_alike 67 (.aload_n 0) 1 68 := by decide +kernel
theorem dX10_alike_68 : Dn cX10_alike 68 (.iload_n 1) 1 69 := by decide +kernel
theorem dX10_alike_69 : Dn cX10_alike 69 (.sipush 3999) 3 72 := by decide +kernel
theorem dX10_alike_72 : Dn cX10_alike 72 (.iload_n 3) 1 73 := by decide +kernel
theorem dX10_alike_73 : Dn cX10_alike 73 (.invokevirtual 176) 3 76 := by decide +kernel
theorem dX10_alike_76 : Dn cX10_alike 76 (.istore 7) 2 78 := by decide +kernel
theorem dX10_alike_78 : Dn cX10_alike 78 (.iload 7) 2 80 := by decide +kernel
theorem dX10_alike_80 : Dn cX10_alike 80 (.aload_n 0) 1 81 := by decide +kernel
theorem dX10_alike_81 : Dn cX10_alike 81 (.iload_n 2) 1 82 := by decide +kernel
theorem dX10_alike_82 : Dn cX10_alike 82 (.sipush 3999) 3 85 := by decide +kernel
theorem dX10_alike_85 : Dn cX10_alike 85 (.iload_n 3) 1 86 := by decide +kernel
theorem dX10_alike_86 : Dn cX10_alike 86 (.invokevirtual 176) 3 89 := by decide +kernel
theorem dX10_alike_89 : Dn cX10_alike 89 (.iadd) 1 90 := by decide +kernel
theorem dX10_alike_90 : Dn cX10_alike 90 (.istore 8) 2 92 := by decide +kernel
theorem dX10_alike_92 : Dn cX10_alike 92 (.lconst 0) 1 93 := by decide +kernel
theorem dX10_alike_93 : Dn cX10_alike 93 (.lstore 9) 2 95 := by decide +kernel
theorem dX10_alike_95 : Dn cX10_alike 95 (.iload 7) 2 97 := by decide +kernel
theorem dX10_alike_97 : Dn cX10_alike 97 (.istore 11) 2 99 := by decide +kernel
theorem dX10_alike_99 : Dn cX10_alike 99 (.iload 11) 2 101 := by decide +kernel
theorem dX10_alike_101 : Dn cX10_alike 101 (.iload 8) 2 103 := by decide +kernel
theorem dX10_alike_103 : Db cX10_alike 103 (.if_icmp .gt 35) (35) 106 138 := by decide +kernel
theorem dX10_alike_106 : Dn cX10_alike 106 (.lload 9) 2 108 := by decide +kernel
theorem dX10_alike_108 : Dn cX10_alike 108 (.iload 8) 2 110 := by decide +kernel
theorem dX10_alike_110 : Dn cX10_alike 110 (.iload 11) 2 112 := by decide +kernel
theorem dX10_alike_112 : Dn cX10_alike 112 (.invokestatic 192) 3 115 := by decide +kernel
theorem dX10_alike_115 : Dn cX10_alike 115 (.iload 6) 2 117 := by decide +kernel
theorem dX10_alike_117 : Dn cX10_alike 117 (.iload 8) 2 119 := by decide +kernel
theorem dX10_alike_119 : Dn cX10_alike 119 (.isub) 1 120 := by decide +kernel
theorem dX10_alike_120 : Dn cX10_alike 120 (.iload 5) 2 122 := by decide +kernel
theorem dX10_alike_122 : Dn cX10_alike 122 (.iload 11) 2 124 := by decide +kernel
theorem dX10_alike_124 : Dn cX10_alike 124 (.isub) 1 125 := by decide +kernel
theorem dX10_alike_125 : Dn cX10_alike 125 (.invokestatic 192) 3 128 := by decide +kernel
theorem dX10_alike_128 : Dn cX10_alike 128 (.lmul) 1 129 := by decide +kernel
theorem dX10_alike_129 : Dn cX10_alike 129 (.ladd) 1 130 := by decide +kernel
theorem dX10_alike_130 : Dn cX10_alike 130 (.lstore 9) 2 132 := by decide +kernel
theorem dX10_alike_132 : Dn cX10_alike 132 (.iinc 11 1) 3 135 := by decide +kernel
theorem dX10_alike_135 : Db cX10_alike 135 (.goto (-36)) (-36) 138 99 := by decide +kernel
theorem dX10_alike_138 : Dn cX10_alike 138 (.lload 9) 2 140 := by decide +kernel
theorem dX10_alike_140 : Dn cX10_alike 140 (.iload 6) 2 142 := by decide +kernel
theorem dX10_alike_142 : Dn cX10_alike 142 (.iload 5) 2 144 := by decide +kernel
theorem dX10_alike_144 : Dn cX10_alike 144 (.invokestatic 192) 3 147 := by decide +kernel
theorem dX10_alike_147 : Dn cX10_alike 147 (.iload 4) 2 149 := by decide +kernel
theorem dX10_alike_149 : Dn cX10_alike 149 (.invokestatic 188) 3 152 := by decide +kernel
theorem dX10_alike_152 : Dn cX10_alike 152 (.lreturn) 1 153 := by decide +kernel
theorem dX10_power_0 : Dn cX10_power 0 (.lconst 1) 1 1 := by decide +kernel
theorem dX10_power_1 : Dn cX10_power 1 (.lstore_n 3) 1 2 := by decide +kernel
theorem dX10_power_2 : Dn cX10_power 2 (.iconst 0) 1 3 := by decide +kernel
theorem dX10_power_3 : Dn cX10_power 3 (.istore 5) 2 5 := by decide +kernel
theorem dX10_power_5 : Dn cX10_power 5 (.iload 5) 2 7 := by decide +kernel
theorem dX10_power_7 : Dn cX10_power 7 (.iload_n 2) 1 8 := by decide +kernel
theorem dX10_power_8 : Db cX10_power 8 (.if_icmp .ge 13) (13) 11 21 := by decide +kernel
theorem dX10_power_11 : Dn cX10_power 11 (.lload_n 3) 1 12 := by decide +kernel
theorem dX10_power_12 : Dn cX10_power 12 (.lload_n 0) 1 13 := by decide +kernel
theorem dX10_power_13 : Dn cX10_power 13 (.lmul) 1 14 := by decide +kernel
theorem dX10_power_14 : Dn cX10_power 14 (.lstore_n 3) 1 15 := by decide +kernel
theorem dX10_power_15 : Dn cX10_power 15 (.iinc 5 1) 3 18 := by decide +kernel
theorem dX10_power_18 : Db cX10_power 18 (.goto (-13)) (-13) 21 5 := by decide +kernel
theorem dX10_power_21 : Dn cX10_power 21 (.lload_n 3) 1 22 := by decide +kernel
theorem dX10_power_22 : Dn cX10_power 22 (.lreturn) 1 23 := by decide +kernel
theorem dX10_few_0 : Dn cX10_few 0 (.iload_n 1) 1 1 := by decide +kernel
theorem dX10_few_1 : Dn cX10_few 1 (.i2l) 1 2 := by decide +kernel
theorem dX10_few_2 : Dn cX10_few 2 (.lconst 1) 1 3 := by decide +kernel
theorem dX10_few_3 : Dn cX10_few 3 (.ldc2_w 196) 3 6 := by decide +kernel
theorem dX10_few_6 : Dn cX10_few 6 (.invokestatic 100) 3 9 := by decide +kernel
theorem dX10_few_9 : Db cX10_few 9 (.ifCond .eq 40) (40) 12 49 := by decide +kernel
theorem dX10_few_12 : Dn cX10_few 12 (.iload 4) 2 14 := by decide +kernel
theorem dX10_few_14 : Dn cX10_few 14 (.i2l) 1 15 := by decide +kernel
theorem dX10_few_15 : Dn cX10_few 15 (.ldc2_w 110) 3 18 := by decide +kernel
theorem dX10_few_18 : Dn cX10_few 18 (.ldc2_w 198) 3 21 := by decide +kernel
theorem dX10_few_21 : Dn cX10_few 21 (.invokestatic 100) 3 24 := by decide +kernel
theorem dX10_few_24 : Db cX10_few 24 (.ifCond .eq 25) (25) 27 49 := by decide +kernel
theorem dX10_few_27 : Dn cX10_few 27 (.iload_n 3) 1 28 := by decide +kernel
theorem dX10_few_28 : Dn cX10_few 28 (.i2l) 1 29 := by decide +kernel
theorem dX10_few_29 : Dn cX10_few 29 (.lconst 1) 1 30 := by decide +kernel
theorem dX10_few_30 : Dn cX10_few 30 (.iload 4) 2 32 := by decide +kernel
theorem dX10_few_32 : Dn cX10_few 32 (.i2l) 1 33 := by decide +kernel
theorem dX10_few_33 : Dn cX10_few 33 (.lconst 1) 1 34 := by decide +kernel
theorem dX10_few_34 : Dn cX10_few 34 (.lsub) 1 35 := by decide +kernel
theorem dX10_few_35 : Dn cX10_few 35 (.invokestatic 100) 3 38 := by decide +kernel
theorem dX10_few_38 : Db cX10_few 38 (.ifCond .eq 11) (11) 41 49 := by decide +kernel
theorem dX10_few_41 : Dn cX10_few 41 (.iload 5) 2 43 := by decide +kernel
theorem dX10_few_43 : Dn cX10_few 43 (.invokestatic 181) 3 46 := by decide +kernel
theorem dX10_few_46 : Db cX10_few 46 (.ifCond .ne 7) (7) 49 53 := by decide +kernel
theorem dX10_few_49 : Dn cX10_few 49 (.ldc2_w 184) 3 52 := by decide +kernel
theorem dX10_few_52 : Dn cX10_few 52 (.lreturn) 1 53 := by decide +kernel
theorem dX10_few_53 : Dn cX10_few 53 (.lconst 0) 1 54 := by decide +kernel
theorem dX10_few_54 : Dn cX10_few 54 (.lstore 6) 2 56 := by decide +kernel
theorem dX10_few_56 : Dn cX10_few 56 (.iconst 0) 1 57 := by decide +kernel
theorem dX10_few_57 : Dn cX10_few 57 (.istore 8) 2 59 := by decide +kernel
theorem dX10_few_59 : Dn cX10_few 59 (.iload 8) 2 61 := by decide +kernel
theorem dX10_few_61 : Dn cX10_few 61 (.iload_n 1) 1 62 := by decide +kernel
theorem dX10_few_62 : Db cX10_few 62 (.if_icmp .gt 47) (47) 65 109 := by decide +kernel
theorem dX10_few_65 : Dn cX10_few 65 (.iload 8) 2 67 := by decide +kernel
theorem dX10_few_67 : Dn cX10_few 67 (.iload_n 2) 1 68 := by decide +kernel
theorem dX10_few_68 : Db cX10_few 68 (.if_icmp .gt 41) (41) 71 109 := by decide +kernel
theorem dX10_few_71 : Dn cX10_few 71 (.lload 6) 2 73 := by decide +kernel
theorem dX10_few_73 : Dn cX10_few 73 (.iload_n 1) 1 74 := by decide +kernel
theorem dX10_few_74 : Dn cX10_few 74 (.iload 8) 2 76 := by decide +kernel
theorem dX10_few_76 : Dn cX10_few 76 (.invokestatic 192) 3 79 := by decide +kernel
theorem dX10_few_79 : Dn cX10_few 79 (.iload_n 3) 1 80 := by decide +kernel
theorem dX10_few_80 : Dn cX10_few 80 (.i2l) 1 81 := by decide +kernel
theorem dX10_few_81 : Dn cX10_few 81 (.iload 8) 2 83 := by decide +kernel
theorem dX10_few_83 : Dn cX10_few 83 (.invokestatic 200) 3 86 := by decide +kernel
theorem dX10_few_86 : Dn cX10_few 86 (.lmul) 1 87 := by decide +kernel
theorem dX10_few_87 : Dn cX10_few 87 (.iload 4) 2 89 := by decide +kernel
theorem dX10_few_89 : Dn cX10_few 89 (.iload_n 3) 1 90 := by decide +kernel
theorem dX10_few_90 : Dn cX10_few 90 (.isub) 1 91 := by decide +kernel
theorem dX10_few_91 : Dn cX10_few 91 (.i2l) 1 92 := by decide +kernel
theorem dX10_few_92 : Dn cX10_few 92 (.iload_n 1) 1 93 := by decide +kernel
theorem dX10_few_93 : Dn cX10_few 93 (.iload 8) 2 95 := by decide +kernel
theorem dX10_few_95 : Dn cX10_few 95 (.isub) 1 96 := by decide +kernel
theorem dX10_few_96 : Dn cX10_few 96 (.invokestatic 200) 3 99 := by decide +kernel
theorem dX10_few_99 : Dn cX10_few 99 (.lmul) 1 100 := by decide +kernel
theorem dX10_few_100 : Dn cX10_few 100 (.ladd) 1 101 := by decide +kernel
theorem dX10_few_101 : Dn cX10_few 101 (.lstore 6) 2 103 := by decide +kernel
theorem dX10_few_103 : Dn cX10_few 103 (.iinc 8 1) 3 106 := by decide +kernel
theorem dX10_few_106 : Db cX10_few 106 (.goto (-47)) (-47) 109 59 := by decide +kernel
theorem dX10_few_109 : Dn cX10_few 109 (.lload 6) 2 111 := by decide +kernel
theorem dX10_few_111 : Dn cX10_few 111 (.iload 4) 2 113 := by decide +kernel
theorem dX10_few_113 : Dn cX10_few 113 (.i2l) 1 114 := by decide +kernel
theorem dX10_few_114 : Dn cX10_few 114 (.iload_n 1) 1 115 := by decide +kernel
theorem dX10_few_115 : Dn cX10_few 115 (.invokestatic 200) 3 118 := by decide +kernel
theorem dX10_few_118 : Dn cX10_few 118 (.iload 5) 2 120 := by decide +kernel
theorem dX10_few_120 : Dn cX10_few 120 (.invokestatic 188) 3 123 := by decide +kernel
theorem dX10_few_123 : Dn cX10_few 123 (.lreturn) 1 124 := by decide +kernel
theorem dX10_step_0 : Dn cX10_step 0 (.iload_n 1) 1 1 := by decide +kernel
theorem dX10_step_1 : Dn cX10_step 1 (.i2l) 1 2 := by decide +kernel
theorem dX10_step_2 : Dn cX10_step 2 (.lconst 0) 1 3 := by decide +kernel
theorem dX10_step_3 : Dn cX10_step 3 (.ldc2_w 110) 3 6 := by decide +kernel
theorem dX10_step_6 : Dn cX10_step 6 (.invokestatic 100) 3 9 := by decide +kernel
theorem dX10_step_9 : Db cX10_step 9 (.ifCond .eq 37) (37) 12 46 := by decide +kernel
theorem dX10_step_12 : Dn cX10_step 12 (.iload_n 2) 1 13 := by decide +kernel
theorem dX10_step_13 : Dn cX10_step 13 (.i2l) 1 14 := by decide +kernel
theorem dX10_step_14 : Dn cX10_step 14 (.lconst 0) 1 15 := by decide +kernel
theorem dX10_step_15 : Dn cX10_step 15 (.iload_n 1) 1 16 := by decide +kernel
theorem dX10_step_16 : Db cX10_step 16 (.ifCond .ne 9) (9) 19 25 := by decide +kernel
theorem dX10_step_19 : Dn cX10_step 19 (.ldc2_w 204) 3 22 := by decide +kernel
theorem dX10_step_22 : Db cX10_step 22 (.goto 6) (6) 25 28 := by decide +kernel
theorem dX10_step_25 : Dn cX10_step 25 (.ldc2_w 206) 3 28 := by decide +kernel
theorem dX10_step_28 : Dn cX10_step 28 (.invokestatic 100) 3 31 := by decide +kernel
theorem dX10_step_31 : Db cX10_step 31 (.ifCond .eq 15) (15) 34 46 := by decide +kernel
theorem dX10_step_34 : Dn cX10_step 34 (.iload_n 3) 1 35 := by decide +kernel
theorem dX10_step_35 : Dn cX10_step 35 (.i2l) 1 36 := by decide +kernel
theorem dX10_step_36 : Dn cX10_step 36 (.lconst 0) 1 37 := by decide +kernel
theorem dX10_step_37 : Dn cX10_step 37 (.ldc2_w 198) 3 40 := by decide +kernel
theorem dX10_step_40 : Dn cX10_step 40 (.invokestatic 100) 3 43 := by decide +kernel
theorem dX10_step_43 : Db cX10_step 43 (.ifCond .ne 6) (6) 46 49 := by decide +kernel
theorem dX10_step_46 : Dn cX10_step 46 (.bipush (-2)) 2 48 := by decide +kernel
theorem dX10_step_48 : Dn cX10_step 48 (.ireturn) 1 49 := by decide +kernel
theorem dX10_step_49 : Dn cX10_step 49 (.iload_n 1) 1 50 := by decide +kernel
theorem dX10_step_50 : Db cX10_step 50 (.ifCond .ne 12) (12) 53 62 := by decide +kernel
theorem dX10_step_53 : Dn cX10_step 53 (.aload_n 0) 1 54 := by decide +kernel
theorem dX10_step_54 : Dn cX10_step 54 (.getfield 48) 3 57 := by decide +kernel
theorem dX10_step_57 : Dn cX10_step 57 (.iload_n 2) 1 58 := by decide +kernel
theorem dX10_step_58 : Dn cX10_step 58 (.iaload) 1 59 := by decide +kernel
theorem dX10_step_59 : Db cX10_step 59 (.goto 23) (23) 62 82 := by decide +kernel
theorem dX10_step_62 : Dn cX10_step 62 (.iload_n 1) 1 63 := by decide +kernel
theorem dX10_step_63 : Dn cX10_step 63 (.iconst 1) 1 64 := by decide +kernel
theorem dX10_step_64 : Db cX10_step 64 (.if_icmp .ne 12) (12) 67 76 := by decide +kernel
theorem dX10_step_67 : Dn cX10_step 67 (.aload_n 0) 1 68 := by decide +kernel
theorem dX10_step_68 : Dn cX10_step 68 (.getfield 51) 3 71 := by decide +kernel
theorem dX10_step_71 : Dn cX10_step 71 (.iload_n 2) 1 72 := by decide +kernel
theorem dX10_step_72 : Dn cX10_step 72 (.iaload) 1 73 := by decide +kernel
theorem dX10_step_73 : Db cX10_step 73 (.goto 9) (9) 76 82 := by decide +kernel
theorem dX10_step_76 : Dn cX10_step 76 (.aload_n 0) 1 77 := by decide +kernel
theorem dX10_step_77 : Dn cX10_step 77 (.getfield 54) 3 80 := by decide +kernel
theorem dX10_step_80 : Dn cX10_step 80 (.iload_n 2) 1 81 := by decide +kernel
theorem dX10_step_81 : Dn cX10_step 81 (.iaload) 1 82 := by decide +kernel
theorem dX10_step_82 : Dn cX10_step 82 (.istore 4) 2 84 := by decide +kernel
theorem dX10_step_84 : Dn cX10_step 84 (.iload_n 1) 1 85 := by decide +kernel
theorem dX10_step_85 : Db cX10_step 85 (.ifCond .ne 13) (13) 88 98 := by decide +kernel
theorem dX10_step_88 : Dn cX10_step 88 (.aload_n 0) 1 89 := by decide +kernel
theorem dX10_step_89 : Dn cX10_step 89 (.getfield 48) 3 92 := by decide +kernel
theorem dX10_step_92 : Dn cX10_step 92 (.iload_n 2) 1 93 := by decide +kernel
theorem dX10_step_93 : Dn cX10_step 93 (.iload_n 3) 1 94 := by decide +kernel
theorem dX10_step_94 : Dn cX10_step 94 (.iastore) 1 95 := by decide +kernel
theorem dX10_step_95 : Db cX10_step 95 (.goto 25) (25) 98 120 := by decide +kernel
theorem dX10_step_98 : Dn cX10_step 98 (.iload_n 1) 1 99 := by decide +kernel
theorem dX10_step_99 : Dn cX10_step 99 (.iconst 1) 1 100 := by decide +kernel
theorem dX10_step_100 : Db cX10_step 100 (.if_icmp .ne 13) (13) 103 113 := by decide +kernel
theorem dX10_step_103 : Dn cX10_step 103 (.aload_n 0) 1 104 := by decide +kernel
theorem dX10_step_104 : Dn cX10_step 104 (.getfield 51) 3 107 := by decide +kernel
theorem dX10_step_107 : Dn cX10_step 107 (.iload_n 2) 1 108 := by decide +kernel
theorem dX10_step_108 : Dn cX10_step 108 (.iload_n 3) 1 109 := by decide +kernel
theorem dX10_step_109 : Dn cX10_step 109 (.iastore) 1 110 := by decide +kernel
theorem dX10_step_110 : Db cX10_step 110 (.goto 10) (10) 113 120 := by decide +kernel
theorem dX10_step_113 : Dn cX10_step 113 (.aload_n 0) 1 114 := by decide +kernel
theorem dX10_step_114 : Dn cX10_step 114 (.getfield 54) 3 117 := by decide +kernel
theorem dX10_step_117 : Dn cX10_step 117 (.iload_n 2) 1 118 := by decide +kernel
theorem dX10_step_118 : Dn cX10_step 118 (.iload_n 3) 1 119 := by decide +kernel
theorem dX10_step_119 : Dn cX10_step 119 (.iastore) 1 120 := by decide +kernel
theorem dX10_step_120 : Dn cX10_step 120 (.iload 4) 2 122 := by decide +kernel
theorem dX10_step_122 : Dn cX10_step 122 (.ireturn) 1 123 := by decide +kernel
theorem dX10_dayStep_0 : Dn cX10_dayStep 0 (.iconst 0) 1 1 := by decide +kernel
theorem dX10_dayStep_1 : Dn cX10_dayStep 1 (.istore_n 1) 1 2 := by decide +kernel
theorem dX10_dayStep_2 : Dn cX10_dayStep 2 (.iload_n 0) 1 3 := by decide +kernel
theorem dX10_dayStep_3 : Dn cX10_dayStep 3 (.istore_n 2) 1 4 := by decide +kernel
theorem dX10_dayStep_4 : Dn cX10_dayStep 4 (.iload_n 2) 1 5 := by decide +kernel
theorem dX10_dayStep_5 : Db cX10_dayStep 5 (.ifCond .le 19) (19) 8 24 := by decide +kernel
theorem dX10_dayStep_8 : Dn cX10_dayStep 8 (.iload_n 1) 1 9 := by decide +kernel
theorem dX10_dayStep_9 : Dn cX10_dayStep 9 (.bipush 7) 2 11 := by decide +kernel
theorem dX10_dayStep_11 : Db cX10_dayStep 11 (.if_icmp .ge 13) (13) 14 24 := by decide +kernel
theorem dX10_dayStep_14 : Dn cX10_dayStep 14 (.iinc 1 1) 3 17 := by decide +kernel
theorem dX10_dayStep_17 : Dn cX10_dayStep 17 (.iload_n 2) 1 18 := by decide +kernel
theorem dX10_dayStep_18 : Dn cX10_dayStep 18 (.iconst 2) 1 19 := by decide +kernel
theorem dX10_dayStep_19 : Dn cX10_dayStep 19 (.idiv) 1 20 := by decide +kernel
theorem dX10_dayStep_20 : Dn cX10_dayStep 20 (.istore_n 2) 1 21 := by decide +kernel
theorem dX10_dayStep_21 : Db cX10_dayStep 21 (.goto (-17)) (-17) 24 4 := by decide +kernel
theorem dX10_dayStep_24 : Dn cX10_dayStep 24 (.iload_n 1) 1 25 := by decide +kernel
theorem dX10_dayStep_25 : Dn cX10_dayStep 25 (.ireturn) 1 26 := by decide +kernel
theorem dX10_weigh_0 : Dn cX10_weigh 0 (.aload_n 0) 1 1 := by decide +kernel
theorem dX10_weigh_1 : Dn cX10_weigh 1 (.getfield 16) 3 4 := by decide +kernel
theorem dX10_weigh_4 : Dn cX10_weigh 4 (.iload_n 1) 1 5 := by decide +kernel
theorem dX10_weigh_5 : Dn cX10_weigh 5 (.iaload) 1 6 := by decide +kernel
theorem dX10_weigh_6 : Dn cX10_weigh 6 (.aload_n 0) 1 7 := by decide +kernel
theorem dX10_weigh_7 : Dn cX10_weigh 7 (.getfield 19) 3 10 := by decide +kernel
theorem dX10_weigh_10 : Dn cX10_weigh 10 (.iload_n 1) 1 11 := by decide +kernel
theorem dX10_weigh_11 : Dn cX10_weigh 11 (.iaload) 1 12 := by decide +kernel
theorem dX10_weigh_12 : Dn cX10_weigh 12 (.iload_n 2) 1 13 := by decide +kernel
theorem dX10_weigh_13 : Dn cX10_weigh 13 (.iload_n 3) 1 14 := by decide +kernel
theorem dX10_weigh_14 : Dn cX10_weigh 14 (.invokestatic 142) 3 17 := by decide +kernel
end
section
theorem dX10_weigh_17 : Dn cX10_weigh 17 (.istore 5) 2 19 := by decide +kernel
theorem dX10_weigh_19 : Dn cX10_weigh 19 (.aload_n 0) 1 20 := by decide +kernel
theorem dX10_weigh_20 : Dn cX10_weigh 20 (.getfield 48) 3 23 := by decide +kernel
theorem dX10_weigh_23 : Dn cX10_weigh 23 (.aload_n 0) 1 24 := by decide +kernel
theorem dX10_weigh_24 : Dn cX10_weigh 24 (.getfield 22) 3 27 := by decide +kernel
theorem dX10_weigh_27 : Dn cX10_weigh 27 (.iload_n 1) 1 28 := by decide +kernel
theorem dX10_weigh_28 : Dn cX10_weigh 28 (.iaload) 1 29 := by decide +kernel
theorem dX10_weigh_29 : Dn cX10_weigh 29 (.bipush 10) 2 31 := by decide +kernel
theorem dX10_weigh_31 : Dn cX10_weigh 31 (.idiv) 1 32 := by decide +kernel
theorem dX10_weigh_32 : Dn cX10_weigh 32 (.iaload) 1 33 := by decide +kernel
theorem dX10_weigh_33 : Dn cX10_weigh 33 (.aload_n 0) 1 34 := by decide +kernel
theorem dX10_weigh_34 : Dn cX10_weigh 34 (.getfield 51) 3 37 := by decide +kernel
theorem dX10_weigh_37 : Dn cX10_weigh 37 (.iload 4) 2 39 := by decide +kernel
theorem dX10_weigh_39 : Dn cX10_weigh 39 (.aload_n 0) 1 40 := by decide +kernel
theorem dX10_weigh_40 : Dn cX10_weigh 40 (.getfield 13) 3 43 := by decide +kernel
theorem dX10_weigh_43 : Dn cX10_weigh 43 (.iload_n 1) 1 44 := by decide +kernel
theorem dX10_weigh_44 : Dn cX10_weigh 44 (.iaload) 1 45 := by decide +kernel
theorem dX10_weigh_45 : Dn cX10_weigh 45 (.isub) 1 46 := by decide +kernel
theorem dX10_weigh_46 : Dn cX10_weigh 46 (.invokestatic 208) 3 49 := by decide +kernel
theorem dX10_weigh_49 : Dn cX10_weigh 49 (.iaload) 1 50 := by decide +kernel
theorem dX10_weigh_50 : Dn cX10_weigh 50 (.imul) 1 51 := by decide +kernel
theorem dX10_weigh_51 : Dn cX10_weigh 51 (.aload_n 0) 1 52 := by decide +kernel
theorem dX10_weigh_52 : Dn cX10_weigh 52 (.getfield 54) 3 55 := by decide +kernel
theorem dX10_weigh_55 : Dn cX10_weigh 55 (.iload 5) 2 57 := by decide +kernel
theorem dX10_weigh_57 : Dn cX10_weigh 57 (.bipush 7) 2 59 := by decide +kernel
theorem dX10_weigh_59 : Db cX10_weigh 59 (.if_icmp .le 8) (8) 62 67 := by decide +kernel
theorem dX10_weigh_62 : Dn cX10_weigh 62 (.bipush 7) 2 64 := by decide +kernel
theorem dX10_weigh_64 : Db cX10_weigh 64 (.goto 5) (5) 67 69 := by decide +kernel
theorem dX10_weigh_67 : Dn cX10_weigh 67 (.iload 5) 2 69 := by decide +kernel
theorem dX10_weigh_69 : Dn cX10_weigh 69 (.iaload) 1 70 := by decide +kernel
theorem dX10_weigh_70 : Dn cX10_weigh 70 (.imul) 1 71 := by decide +kernel
theorem dX10_weigh_71 : Dn cX10_weigh 71 (.ireturn) 1 72 := by decide +kernel
theorem dX10_weightOf_0 : Dn cX10_weightOf 0 (.aload_n 0) 1 1 := by decide +kernel
theorem dX10_weightOf_1 : Dn cX10_weightOf 1 (.iload_n 2) 1 2 := by decide +kernel
theorem dX10_weightOf_2 : Dn cX10_weightOf 2 (.aload_n 0) 1 3 := by decide +kernel
theorem dX10_weightOf_3 : Dn cX10_weightOf 3 (.getfield 16) 3 6 := by decide +kernel
theorem dX10_weightOf_6 : Dn cX10_weightOf 6 (.iload_n 1) 1 7 := by decide +kernel
theorem dX10_weightOf_7 : Dn cX10_weightOf 7 (.iaload) 1 8 := by decide +kernel
theorem dX10_weightOf_8 : Dn cX10_weightOf 8 (.aload_n 0) 1 9 := by decide +kernel
theorem dX10_weightOf_9 : Dn cX10_weightOf 9 (.getfield 19) 3 12 := by decide +kernel
theorem dX10_weightOf_12 : Dn cX10_weightOf 12 (.iload_n 1) 1 13 := by decide +kernel
theorem dX10_weightOf_13 : Dn cX10_weightOf 13 (.iaload) 1 14 := by decide +kernel
theorem dX10_weightOf_14 : Dn cX10_weightOf 14 (.aload_n 0) 1 15 := by decide +kernel
theorem dX10_weightOf_15 : Dn cX10_weightOf 15 (.getfield 13) 3 18 := by decide +kernel
theorem dX10_weightOf_18 : Dn cX10_weightOf 18 (.iload_n 1) 1 19 := by decide +kernel
theorem dX10_weightOf_19 : Dn cX10_weightOf 19 (.iaload) 1 20 := by decide +kernel
theorem dX10_weightOf_20 : Dn cX10_weightOf 20 (.invokevirtual 211) 3 23 := by decide +kernel
theorem dX10_weightOf_23 : Dn cX10_weightOf 23 (.ireturn) 1 24 := by decide +kernel
theorem dX10_isAhead_0 : Dn cX10_isAhead 0 (.aload_n 0) 1 1 := by decide +kernel
theorem dX10_isAhead_1 : Dn cX10_isAhead 1 (.getfield 13) 3 4 := by decide +kernel
theorem dX10_isAhead_4 : Dn cX10_isAhead 4 (.iload_n 1) 1 5 := by decide +kernel
theorem dX10_isAhead_5 : Dn cX10_isAhead 5 (.iaload) 1 6 := by decide +kernel
theorem dX10_isAhead_6 : Dn cX10_isAhead 6 (.aload_n 0) 1 7 := by decide +kernel
theorem dX10_isAhead_7 : Dn cX10_isAhead 7 (.getfield 13) 3 10 := by decide +kernel
theorem dX10_isAhead_10 : Dn cX10_isAhead 10 (.iload_n 2) 1 11 := by decide +kernel
theorem dX10_isAhead_11 : Dn cX10_isAhead 11 (.iaload) 1 12 := by decide +kernel
theorem dX10_isAhead_12 : Db cX10_isAhead 12 (.if_icmp .lt 23) (23) 15 35 := by decide +kernel
theorem dX10_isAhead_15 : Dn cX10_isAhead 15 (.aload_n 0) 1 16 := by decide +kernel
theorem dX10_isAhead_16 : Dn cX10_isAhead 16 (.getfield 13) 3 19 := by decide +kernel
theorem dX10_isAhead_19 : Dn cX10_isAhead 19 (.iload_n 1) 1 20 := by decide +kernel
theorem dX10_isAhead_20 : Dn cX10_isAhead 20 (.iaload) 1 21 := by decide +kernel
theorem dX10_isAhead_21 : Dn cX10_isAhead 21 (.aload_n 0) 1 22 := by decide +kernel
theorem dX10_isAhead_22 : Dn cX10_isAhead 22 (.getfield 13) 3 25 := by decide +kernel
theorem dX10_isAhead_25 : Dn cX10_isAhead 25 (.iload_n 2) 1 26 := by decide +kernel
theorem dX10_isAhead_26 : Dn cX10_isAhead 26 (.iaload) 1 27 := by decide +kernel
theorem dX10_isAhead_27 : Db cX10_isAhead 27 (.if_icmp .ne 12) (12) 30 39 := by decide +kernel
theorem dX10_isAhead_30 : Dn cX10_isAhead 30 (.iload_n 1) 1 31 := by decide +kernel
theorem dX10_isAhead_31 : Dn cX10_isAhead 31 (.iload_n 2) 1 32 := by decide +kernel
theorem dX10_isAhead_32 : Db cX10_isAhead 32 (.if_icmp .ge 7) (7) 35 39 := by decide +kernel
theorem dX10_isAhead_35 : Dn cX10_isAhead 35 (.iconst 1) 1 36 := by decide +kernel
theorem dX10_isAhead_36 : Db cX10_isAhead 36 (.goto 4) (4) 39 40 := by decide +kernel
theorem dX10_isAhead_39 : Dn cX10_isAhead 39 (.iconst 0) 1 40 := by decide +kernel
theorem dX10_isAhead_40 : Dn cX10_isAhead 40 (.ireturn) 1 41 := by decide +kernel
theorem dX10_mayBear_0 : Dn cX10_mayBear 0 (.aload_n 0) 1 1 := by decide +kernel
theorem dX10_mayBear_1 : Dn cX10_mayBear 1 (.iload_n 1) 1 2 := by decide +kernel
theorem dX10_mayBear_2 : Dn cX10_mayBear 2 (.iconst (-1)) 1 3 := by decide +kernel
theorem dX10_mayBear_3 : Dn cX10_mayBear 3 (.iload_n 3) 1 4 := by decide +kernel
theorem dX10_mayBear_4 : Dn cX10_mayBear 4 (.invokevirtual 167) 3 7 := by decide +kernel
theorem dX10_mayBear_7 : Db cX10_mayBear 7 (.ifCond .eq 16) (16) 10 23 := by decide +kernel
theorem dX10_mayBear_10 : Dn cX10_mayBear 10 (.aload_n 0) 1 11 := by decide +kernel
theorem dX10_mayBear_11 : Dn cX10_mayBear 11 (.iload_n 1) 1 12 := by decide +kernel
theorem dX10_mayBear_12 : Dn cX10_mayBear 12 (.iload_n 2) 1 13 := by decide +kernel
theorem dX10_mayBear_13 : Dn cX10_mayBear 13 (.invokevirtual 214) 3 16 := by decide +kernel
theorem dX10_mayBear_16 : Db cX10_mayBear 16 (.ifCond .eq 7) (7) 19 23 := by decide +kernel
theorem dX10_mayBear_19 : Dn cX10_mayBear 19 (.iconst 1) 1 20 := by decide +kernel
theorem dX10_mayBear_20 : Db cX10_mayBear 20 (.goto 4) (4) 23 24 := by decide +kernel
theorem dX10_mayBear_23 : Dn cX10_mayBear 23 (.iconst 0) 1 24 := by decide +kernel
theorem dX10_mayBear_24 : Dn cX10_mayBear 24 (.ireturn) 1 25 := by decide +kernel
theorem dX10_allWeights_0 : Dn cX10_allWeights 0 (.aload_n 0) 1 1 := by decide +kernel
theorem dX10_allWeights_1 : Dn cX10_allWeights 1 (.getfield 32) 3 4 := by decide +kernel
theorem dX10_allWeights_4 : Dn cX10_allWeights 4 (.iconst 3) 1 5 := by decide +kernel
theorem dX10_allWeights_5 : Dn cX10_allWeights 5 (.iaload) 1 6 := by decide +kernel
theorem dX10_allWeights_6 : Dn cX10_allWeights 6 (.i2l) 1 7 := by decide +kernel
theorem dX10_allWeights_7 : Dn cX10_allWeights 7 (.lstore_n 3) 1 8 := by decide +kernel
theorem dX10_allWeights_8 : Dn cX10_allWeights 8 (.iconst 0) 1 9 := by decide +kernel
theorem dX10_allWeights_9 : Dn cX10_allWeights 9 (.istore 5) 2 11 := by decide +kernel
theorem dX10_allWeights_11 : Dn cX10_allWeights 11 (.iload 5) 2 13 := by decide +kernel
theorem dX10_allWeights_13 : Dn cX10_allWeights 13 (.aload_n 0) 1 14 := by decide +kernel
theorem dX10_allWeights_14 : Dn cX10_allWeights 14 (.getfield 96) 3 17 := by decide +kernel
theorem dX10_allWeights_17 : Db cX10_allWeights 17 (.if_icmp .ge 35) (35) 20 52 := by decide +kernel
theorem dX10_allWeights_20 : Dn cX10_allWeights 20 (.lload_n 3) 1 21 := by decide +kernel
theorem dX10_allWeights_21 : Dn cX10_allWeights 21 (.aload_n 0) 1 22 := by decide +kernel
theorem dX10_allWeights_22 : Dn cX10_allWeights 22 (.iload 5) 2 24 := by decide +kernel
theorem dX10_allWeights_24 : Dn cX10_allWeights 24 (.iload_n 1) 1 25 := by decide +kernel
theorem dX10_allWeights_25 : Dn cX10_allWeights 25 (.iload_n 2) 1 26 := by decide +kernel
theorem dX10_allWeights_26 : Dn cX10_allWeights 26 (.invokevirtual 217) 3 29 := by decide +kernel
theorem dX10_allWeights_29 : Db cX10_allWeights 29 (.ifCond .eq 14) (14) 32 43 := by decide +kernel
theorem dX10_allWeights_32 : Dn cX10_allWeights 32 (.aload_n 0) 1 33 := by decide +kernel
theorem dX10_allWeights_33 : Dn cX10_allWeights 33 (.iload_n 1) 1 34 := by decide +kernel
theorem dX10_allWeights_34 : Dn cX10_allWeights 34 (.iload 5) 2 36 := by decide +kernel
theorem dX10_allWeights_36 : Dn cX10_allWeights 36 (.invokevirtual 220) 3 39 := by decide +kernel
theorem dX10_allWeights_39 : Dn cX10_allWeights 39 (.i2l) 1 40 := by decide +kernel
theorem dX10_allWeights_40 : Db cX10_allWeights 40 (.goto 4) (4) 43 44 := by decide +kernel
theorem dX10_allWeights_43 : Dn cX10_allWeights 43 (.lconst 0) 1 44 := by decide +kernel
theorem dX10_allWeights_44 : Dn cX10_allWeights 44 (.ladd) 1 45 := by decide +kernel
theorem dX10_allWeights_45 : Dn cX10_allWeights 45 (.lstore_n 3) 1 46 := by decide +kernel
theorem dX10_allWeights_46 : Dn cX10_allWeights 46 (.iinc 5 1) 3 49 := by decide +kernel
theorem dX10_allWeights_49 : Db cX10_allWeights 49 (.goto (-38)) (-38) 52 11 := by decide +kernel
theorem dX10_allWeights_52 : Dn cX10_allWeights 52 (.lload_n 3) 1 53 := by decide +kernel
theorem dX10_allWeights_53 : Dn cX10_allWeights 53 (.lreturn) 1 54 := by decide +kernel
theorem dX10_share_0 : Dn cX10_share 0 (.aload_n 0) 1 1 := by decide +kernel
theorem dX10_share_1 : Dn cX10_share 1 (.iload_n 1) 1 2 := by decide +kernel
theorem dX10_share_2 : Dn cX10_share 2 (.invokevirtual 126) 3 5 := by decide +kernel
theorem dX10_share_5 : Db cX10_share 5 (.ifCond .eq 16) (16) 8 21 := by decide +kernel
theorem dX10_share_8 : Dn cX10_share 8 (.iload_n 2) 1 9 := by decide +kernel
theorem dX10_share_9 : Dn cX10_share 9 (.iconst (-1)) 1 10 := by decide +kernel
theorem dX10_share_10 : Db cX10_share 10 (.if_icmp .eq 15) (15) 13 25 := by decide +kernel
theorem dX10_share_13 : Dn cX10_share 13 (.aload_n 0) 1 14 := by decide +kernel
theorem dX10_share_14 : Dn cX10_share 14 (.iload_n 2) 1 15 := by decide +kernel
theorem dX10_share_15 : Dn cX10_share 15 (.invokevirtual 126) 3 18 := by decide +kernel
theorem dX10_share_18 : Db cX10_share 18 (.ifCond .ne 7) (7) 21 25 := by decide +kernel
theorem dX10_share_21 : Dn cX10_share 21 (.ldc2_w 179) 3 24 := by decide +kernel
theorem dX10_share_24 : Dn cX10_share 24 (.lreturn) 1 25 := by decide +kernel
theorem dX10_share_25 : Dn cX10_share 25 (.iload_n 3) 1 26 := by decide +kernel
theorem dX10_share_26 : Dn cX10_share 26 (.invokestatic 120) 3 29 := by decide +kernel
theorem dX10_share_29 : Db cX10_share 29 (.ifCond .eq 11) (11) 32 40 := by decide +kernel
theorem dX10_share_32 : Dn cX10_share 32 (.iload 4) 2 34 := by decide +kernel
theorem dX10_share_34 : Dn cX10_share 34 (.invokestatic 181) 3 37 := by decide +kernel
theorem dX10_share_37 : Db cX10_share 37 (.ifCond .ne 7) (7) 40 44 := by decide +kernel
theorem dX10_share_40 : Dn cX10_share 40 (.ldc2_w 184) 3 43 := by decide +kernel
theorem dX10_share_43 : Dn cX10_share 43 (.lreturn) 1 44 := by decide +kernel
theorem dX10_share_44 : Dn cX10_share 44 (.aload_n 0) 1 45 := by decide +kernel
theorem dX10_share_45 : Dn cX10_share 45 (.iload_n 1) 1 46 := by decide +kernel
theorem dX10_share_46 : Dn cX10_share 46 (.iconst (-1)) 1 47 := by decide +kernel
theorem dX10_share_47 : Dn cX10_share 47 (.iload_n 3) 1 48 := by decide +kernel
theorem dX10_share_48 : Dn cX10_share 48 (.invokevirtual 167) 3 51 := by decide +kernel
theorem dX10_share_51 : Db cX10_share 51 (.ifCond .ne 7) (7) 54 58 := by decide +kernel
theorem dX10_share_54 : Dn cX10_share 54 (.ldc2_w 186) 3 57 := by decide +kernel
theorem dX10_share_57 : Dn cX10_share 57 (.lreturn) 1 58 := by decide +kernel
theorem dX10_share_58 : Dn cX10_share 58 (.iload_n 2) 1 59 := by decide +kernel
theorem dX10_share_59 : Db cX10_share 59 (.ifCond .ge 13) (13) 62 72 := by decide +kernel
theorem dX10_share_62 : Dn cX10_share 62 (.aload_n 0) 1 63 := by decide +kernel
theorem dX10_share_63 : Dn cX10_share 63 (.getfield 32) 3 66 := by decide +kernel
theorem dX10_share_66 : Dn cX10_share 66 (.iconst 3) 1 67 := by decide +kernel
theorem dX10_share_67 : Dn cX10_share 67 (.iaload) 1 68 := by decide +kernel
theorem dX10_share_68 : Dn cX10_share 68 (.i2l) 1 69 := by decide +kernel
theorem dX10_share_69 : Db cX10_share 69 (.goto 24) (24) 72 93 := by decide +kernel
theorem dX10_share_72 : Dn cX10_share 72 (.aload_n 0) 1 73 := by decide +kernel
theorem dX10_share_73 : Dn cX10_share 73 (.iload_n 2) 1 74 := by decide +kernel
theorem dX10_share_74 : Dn cX10_share 74 (.iload_n 1) 1 75 := by decide +kernel
theorem dX10_share_75 : Dn cX10_share 75 (.iload_n 3) 1 76 := by decide +kernel
theorem dX10_share_76 : Dn cX10_share 76 (.invokevirtual 217) 3 79 := by decide +kernel
theorem dX10_share_79 : Db cX10_share 79 (.ifCond .eq 13) (13) 82 92 := by decide +kernel
theorem dX10_share_82 : Dn cX10_share 82 (.aload_n 0) 1 83 := by decide +kernel
theorem dX10_share_83 : Dn cX10_share 83 (.iload_n 1) 1 84 := by decide +kernel
theorem dX10_share_84 : Dn cX10_share 84 (.iload_n 2) 1 85 := by decide +kernel
theorem dX10_share_85 : Dn cX10_share 85 (.invokevirtual 220) 3 88 := by decide +kernel
theorem dX10_share_88 : Dn cX10_share 88 (.i2l) 1 89 := by decide +kernel
theorem dX10_share_89 : Db cX10_share 89 (.goto 4) (4) 92 93 := by decide +kernel
theorem dX10_share_92 : Dn cX10_share 92 (.lconst 0) 1 93 := by decide +kernel
theorem dX10_share_93 : Dn cX10_share 93 (.lstore 5) 2 95 := by decide +kernel
theorem dX10_share_95 : Dn cX10_share 95 (.lload 5) 2 97 := by decide +kernel
theorem dX10_share_97 : Dn cX10_share 97 (.aload_n 0) 1 98 := by decide +kernel
theorem dX10_share_98 : Dn cX10_share 98 (.iload_n 1) 1 99 := by decide +kernel
theorem dX10_share_99 : Dn cX10_share 99 (.iload_n 3) 1 100 := by decide +kernel
theorem dX10_share_100 : Dn cX10_share 100 (.invokevirtual 223) 3 103 := by decide +kernel
theorem dX10_share_103 : Dn cX10_share 103 (.iload 4) 2 105 := by decide +kernel
theorem dX10_share_105 : Dn cX10_share 105 (.invokestatic 188) 3 108 := by decide +kernel
theorem dX10_share_108 : Dn cX10_share 108 (.lreturn) 1 109 := by decide +kernel
theorem dX10_motherOf_0 : Dn cX10_motherOf 0 (.bipush (-6)) 2 2 := by decide +kernel
theorem dX10_motherOf_2 : Dn cX10_motherOf 2 (.istore_n 3) 1 3 := by decide +kernel
theorem dX10_motherOf_3 : Dn cX10_motherOf 3 (.aload_n 0) 1 4 := by decide +kernel
theorem dX10_motherOf_4 : Dn cX10_motherOf 4 (.getfield 32) 3 7 := by decide +kernel
theorem dX10_motherOf_7 : Dn cX10_motherOf 7 (.iconst 3) 1 8 := by decide +kernel
theorem dX10_motherOf_8 : Dn cX10_motherOf 8 (.iaload) 1 9 := by decide +kernel
theorem dX10_motherOf_9 : Dn cX10_motherOf 9 (.istore 4) 2 11 := by decide +kernel
theorem dX10_motherOf_11 : Dn cX10_motherOf 11 (.iconst 0) 1 12 := by decide +kernel
theorem dX10_motherOf_12 : Dn cX10_motherOf 12 (.istore 5) 2 14 := by decide +kernel
theorem dX10_motherOf_14 : Dn cX10_motherOf 14 (.iload 5) 2 16 := by decide +kernel
theorem dX10_motherOf_16 : Dn cX10_motherOf 16 (.aload_n 0) 1 17 := by decide +kernel
theorem dX10_motherOf_17 : Dn cX10_motherOf 17 (.getfield 96) 3 20 := by decide +kernel
theorem dX10_motherOf_20 : Db cX10_motherOf 20 (.if_icmp .ge 53) (53) 23 73 := by decide +kernel
theorem dX10_motherOf_23 : Dn cX10_motherOf 23 (.aload_n 0) 1 24 := by decide +kernel
theorem dX10_motherOf_24 : Dn cX10_motherOf 24 (.getfield 35) 3 27 := by decide +kernel
theorem dX10_motherOf_27 : Dn cX10_motherOf 27 (.iload 5) 2 29 := by decide +kernel
theorem dX10_motherOf_29 : Dn cX10_motherOf 29 (.iaload) 1 30 := by decide +kernel
theorem dX10_motherOf_30 : Dn cX10_motherOf 30 (.istore 6) 2 32 := by decide +kernel
theorem dX10_motherOf_32 : Dn cX10_motherOf 32 (.aload_n 0) 1 33 := by decide +kernel
theorem dX10_motherOf_33 : Dn cX10_motherOf 33 (.iload 6) 2 35 := by decide +kernel
theorem dX10_motherOf_35 : Dn cX10_motherOf 35 (.iload_n 1) 1 36 := by decide +kernel
theorem dX10_motherOf_36 : Dn cX10_motherOf 36 (.iload_n 2) 1 37 := by decide +kernel
theorem dX10_motherOf_37 : Dn cX10_motherOf 37 (.invokevirtual 217) 3 40 := by decide +kernel
theorem dX10_motherOf_40 : Db cX10_motherOf 40 (.ifCond .eq 27) (27) 43 67 := by decide +kernel
theorem dX10_motherOf_43 : Dn cX10_motherOf 43 (.aload_n 0) 1 44 := by decide +kernel
theorem dX10_motherOf_44 : Dn cX10_motherOf 44 (.iload_n 1) 1 45 := by decide +kernel
theorem dX10_motherOf_45 : Dn cX10_motherOf 45 (.iload 6) 2 47 := by decide +kernel
theorem dX10_motherOf_47 : Dn cX10_motherOf 47 (.invokevirtual 220) 3 50 := by decide +kernel
theorem dX10_motherOf_50 : Dn cX10_motherOf 50 (.iload 4) 2 52 := by decide +kernel
theorem dX10_motherOf_52 : Db cX10_motherOf 52 (.if_icmp .le 15) (15) 55 67 := by decide +kernel
theorem dX10_motherOf_55 : Dn cX10_motherOf 55 (.iload 6) 2 57 := by decide +kernel
theorem dX10_motherOf_57 : Dn cX10_motherOf 57 (.istore_n 3) 1 58 := by decide +kernel
theorem dX10_motherOf_58 : Dn cX10_motherOf 58 (.aload_n 0) 1 59 := by decide +kernel
theorem dX10_motherOf_59 : Dn cX10_motherOf 59 (.iload_n 1) 1 60 := by decide +kernel
theorem dX10_motherOf_60 : Dn cX10_motherOf 60 (.iload 6) 2 62 := by decide +kernel
theorem dX10_motherOf_62 : Dn cX10_motherOf 62 (.invokevirtual 220) 3 65 := by decide +kernel
theorem dX10_motherOf_65 : Dn cX10_motherOf 65 (.istore 4) 2 67 := by decide +kernel
theorem dX10_motherOf_67 : Dn cX10_motherOf 67 (.iinc 5 1) 3 70 := by decide +kernel
theorem dX10_motherOf_70 : Db cX10_motherOf 70 (.goto (-56)) (-56) 73 14 := by decide +kernel
theorem dX10_motherOf_73 : Dn cX10_motherOf 73 (.iload_n 3) 1 74 := by decide +kernel
theorem dX10_motherOf_74 : Dn cX10_motherOf 74 (.ireturn) 1 75 := by decide +kernel
theorem dX10_whyNot_0 : Dn cX10_whyNot 0 (.aload_n 0) 1 1 := by decide +kernel
theorem dX10_whyNot_1 : Dn cX10_whyNot 1 (.iload_n 1) 1 2 := by decide +kernel
theorem dX10_whyNot_2 : Dn cX10_whyNot 2 (.invokevirtual 126) 3 5 := by decide +kernel
theorem dX10_whyNot_5 : Db cX10_whyNot 5 (.ifCond .ne 7) (7) 8 12 := by decide +kernel
theorem dX10_whyNot_8 : Dn cX10_whyNot 8 (.iconst (-1)) 1 9 := by decide +kernel
theorem dX10_whyNot_9 : Db cX10_whyNot 9 (.goto 31) (31) 12 40 := by decide +kernel
theorem dX10_whyNot_12 : Dn cX10_whyNot 12 (.iload_n 2) 1 13 := by decide +kernel
theorem dX10_whyNot_13 : Dn cX10_whyNot 13 (.invokestatic 120) 3 16 := by decide +kernel
theorem dX10_whyNot_16 : Db cX10_whyNot 16 (.ifCond .ne 8) (8) 19 24 := by decide +kernel
theorem dX10_whyNot_19 : Dn cX10_whyNot 19 (.bipush (-2)) 2 21 := by decide +kernel
theorem dX10_whyNot_21 : Db cX10_whyNot 21 (.goto 19) (19) 24 40 := by decide +kernel
theorem dX10_whyNot_24 : Dn cX10_whyNot 24 (.aload_n 0) 1 25 := by decide +kernel
theorem dX10_whyNot_25 : Dn cX10_whyNot 25 (.iload_n 1) 1 26 := by decide +kernel
theorem dX10_whyNot_26 : Dn cX10_whyNot 26 (.iconst (-1)) 1 27 := by decide +kernel
theorem dX10_whyNot_27 : Dn cX10_whyNot 27 (.iload_n 2) 1 28 := by decide +kernel
theorem dX10_whyNot_28 : Dn cX10_whyNot 28 (.invokevirtual 167) 3 31 := by decide +kernel
theorem dX10_whyNot_31 : Db cX10_whyNot 31 (.ifCond .ne 8) (8) 34 39 := by decide +kernel
theorem dX10_whyNot_34 : Dn cX10_whyNot 34 (.bipush (-3)) 2 36 := by decide +kernel
theorem dX10_whyNot_36 : Db cX10_whyNot 36 (.goto 4) (4) 39 40 := by decide +kernel
theorem dX10_whyNot_39 : Dn cX10_whyNot 39 (.iconst 0) 1 40 := by decide +kernel
theorem dX10_whyNot_40 : Dn cX10_whyNot 40 (.ireturn) 1 41 := by decide +kernel
theorem dX10_mother_0 : Dn cX10_mother 0 (.aload_n 0) 1 1 := by decide +kernel
theorem dX10_mother_1 : Dn cX10_mother 1 (.iload_n 1) 1 2 := by decide +kernel
theorem dX10_mother_2 : Dn cX10_mother 2 (.iload_n 2) 1 3 := by decide +kernel
theorem dX10_mother_3 : Dn cX10_mother 3 (.invokevirtual 226) 3 6 := by decide +kernel
theorem dX10_mother_6 : Dn cX10_mother 6 (.istore_n 3) 1 7 := by decide +kernel
theorem dX10_mother_7 : Dn cX10_mother 7 (.iload_n 3) 1 8 := by decide +kernel
theorem dX10_mother_8 : Db cX10_mother 8 (.ifCond .ge 7) (7) 11 15 := by decide +kernel
theorem dX10_mother_11 : Dn cX10_mother 11 (.iload_n 3) 1 12 := by decide +kernel
theorem dX10_mother_12 : Db cX10_mother 12 (.goto 9) (9) 15 21 := by decide +kernel
theorem dX10_mother_15 : Dn cX10_mother 15 (.aload_n 0) 1 16 := by decide +kernel
theorem dX10_mother_16 : Dn cX10_mother 16 (.iload_n 1) 1 17 := by decide +kernel
theorem dX10_mother_17 : Dn cX10_mother 17 (.iload_n 2) 1 18 := by decide +kernel
theorem dX10_mother_18 : Dn cX10_mother 18 (.invokevirtual 229) 3 21 := by decide +kernel
theorem dX10_mother_21 : Dn cX10_mother 21 (.ireturn) 1 22 := by decide +kernel
theorem dX10_firstOf_0 : Dn cX10_firstOf 0 (.iload_n 1) 1 1 := by decide +kernel
theorem dX10_firstOf_1 : Dn cX10_firstOf 1 (.istore_n 3) 1 2 := by decide +kernel
theorem dX10_firstOf_2 : Dn cX10_firstOf 2 (.aload_n 0) 1 3 := by decide +kernel
theorem dX10_firstOf_3 : Dn cX10_firstOf 3 (.iload_n 3) 1 4 := by decide +kernel
theorem dX10_firstOf_4 : Dn cX10_firstOf 4 (.iload_n 2) 1 5 := by decide +kernel
theorem dX10_firstOf_5 : Dn cX10_firstOf 5 (.invokevirtual 229) 3 8 := by decide +kernel
theorem dX10_firstOf_8 : Dn cX10_firstOf 8 (.istore 4) 2 10 := by decide +kernel
theorem dX10_firstOf_10 : Dn cX10_firstOf 10 (.iload 4) 2 12 := by decide +kernel
theorem dX10_firstOf_12 : Db cX10_firstOf 12 (.ifCond .lt 17) (17) 15 29 := by decide +kernel
theorem dX10_firstOf_15 : Dn cX10_firstOf 15 (.iload 4) 2 17 := by decide +kernel
theorem dX10_firstOf_17 : Dn cX10_firstOf 17 (.istore_n 3) 1 18 := by decide +kernel
theorem dX10_firstOf_18 : Dn cX10_firstOf 18 (.aload_n 0) 1 19 := by decide +kernel
theorem dX10_firstOf_19 : Dn cX10_firstOf 19 (.iload_n 3) 1 20 := by decide +kernel
theorem dX10_firstOf_20 : Dn cX10_firstOf 20 (.iload_n 2) 1 21 := by decide +kernel
theorem dX10_firstOf_21 : Dn cX10_firstOf 21 (.invokevirtual 229) 3 24 := by decide +kernel
theorem dX10_firstOf_24 : Dn cX10_firstOf 24 (.istore 4) 2 26 := by decide +kernel
theorem dX10_firstOf_26 : Db cX10_firstOf 26 (.goto (-16)) (-16) 29 10 := by decide +kernel
theorem dX10_firstOf_29 : Dn cX10_firstOf 29 (.iload_n 3) 1 30 := by decide +kernel
theorem dX10_firstOf_30 : Dn cX10_firstOf 30 (.ireturn) 1 31 := by decide +kernel
theorem dX10_depthOf_0 : Dn cX10_depthOf 0 (.iconst 0) 1 1 := by decide +kernel
theorem dX10_depthOf_1 : Dn cX10_depthOf 1 (.istore_n 3) 1 2 := by decide +kernel
theorem dX10_depthOf_2 : Dn cX10_depthOf 2 (.aload_n 0) 1 3 := by decide +kernel
theorem dX10_depthOf_3 : Dn cX10_depthOf 3 (.iload_n 1) 1 4 := by decide +kernel
theorem dX10_depthOf_4 : Dn cX10_depthOf 4 (.iload_n 2) 1 5 := by decide +kernel
theorem dX10_depthOf_5 : Dn cX10_depthOf 5 (.invokevirtual 229) 3 8 := by decide +kernel
theorem dX10_depthOf_8 : Dn cX10_depthOf 8 (.istore 4) 2 10 := by decide +kernel
theorem dX10_depthOf_10 : Dn cX10_depthOf 10 (.iload 4) 2 12 := by decide +kernel
theorem dX10_depthOf_12 : Db cX10_depthOf 12 (.ifCond .lt 18) (18) 15 30 := by decide +kernel
theorem dX10_depthOf_15 : Dn cX10_depthOf 15 (.iinc 3 1) 3 18 := by decide +kernel
theorem dX10_depthOf_18 : Dn cX10_depthOf 18 (.aload_n 0) 1 19 := by decide +kernel
theorem dX10_depthOf_19 : Dn cX10_depthOf 19 (.iload 4) 2 21 := by decide +kernel
theorem dX10_depthOf_21 : Dn cX10_depthOf 21 (.iload_n 2) 1 22 := by decide +kernel
theorem dX10_depthOf_22 : Dn cX10_depthOf 22 (.invokevirtual 229) 3 25 := by decide +kernel
theorem dX10_depthOf_25 : Dn cX10_depthOf 25 (.istore 4) 2 27 := by decide +kernel
theorem dX10_depthOf_27 : Db cX10_depthOf 27 (.goto (-17)) (-17) 30 10 := by decide +kernel
theorem dX10_depthOf_30 : Dn cX10_depthOf 30 (.iload_n 3) 1 31 := by decide +kernel
theorem dX10_depthOf_31 : Dn cX10_depthOf 31 (.ireturn) 1 32 := by decide +kernel
theorem dX10_family_0 : Dn cX10_family 0 (.aload_n 0) 1 1 := by decide +kernel
theorem dX10_family_1 : Dn cX10_family 1 (.iload_n 1) 1 2 := by decide +kernel
theorem dX10_family_2 : Dn cX10_family 2 (.invokevirtual 126) 3 5 := by decide +kernel
theorem dX10_family_5 : Db cX10_family 5 (.ifCond .ne 5) (5) 8 10 := by decide +kernel
theorem dX10_family_8 : Dn cX10_family 8 (.iconst (-1)) 1 9 := by decide +kernel
theorem dX10_family_9 : Dn cX10_family 9 (.ireturn) 1 10 := by decide +kernel
theorem dX10_family_10 : Dn cX10_family 10 (.iload_n 2) 1 11 := by decide +kernel
theorem dX10_family_11 : Dn cX10_family 11 (.invokestatic 120) 3 14 := by decide +kernel
theorem dX10_family_14 : Db cX10_family 14 (.ifCond .eq 15) (15) 17 29 := by decide +kernel
theorem dX10_family_17 : Dn cX10_family 17 (.iload_n 3) 1 18 := by decide +kernel
theorem dX10_family_18 : Dn cX10_family 18 (.i2l) 1 19 := by decide +kernel
theorem dX10_family_19 : Dn cX10_family 19 (.lconst 0) 1 20 := by decide +kernel
theorem dX10_family_20 : Dn cX10_family 20 (.ldc2_w 232) 3 23 := by decide +kernel
theorem dX10_family_23 : Dn cX10_family 23 (.invokestatic 100) 3 26 := by decide +kernel
theorem dX10_family_26 : Db cX10_family 26 (.ifCond .ne 6) (6) 29 32 := by decide +kernel
theorem dX10_family_29 : Dn cX10_family 29 (.bipush (-2)) 2 31 := by decide +kernel
theorem dX10_family_31 : Dn cX10_family 31 (.ireturn) 1 32 := by decide +kernel
theorem dX10_family_32 : Dn cX10_family 32 (.aload_n 0) 1 33 := by decide +kernel
theorem dX10_family_33 : Dn cX10_family 33 (.iload_n 1) 1 34 := by decide +kernel
theorem dX10_family_34 : Dn cX10_family 34 (.iconst (-1)) 1 35 := by decide +kernel
theorem dX10_family_35 : Dn cX10_family 35 (.iload_n 2) 1 36 := by decide +kernel
theorem dX10_family_36 : Dn cX10_family 36 (.invokevirtual 167) 3 39 := by decide +kernel
theorem dX10_family_39 : Db cX10_family 39 (.ifCond .ne 6) (6) 42 45 := by decide +kernel
theorem dX10_family_42 : Dn cX10_family 42 (.bipush (-3)) 2 44 := by decide +kernel
theorem dX10_family_44 : Dn cX10_family 44 (.ireturn) 1 45 := by decide +kernel
theorem dX10_family_45 : Dn cX10_family 45 (.aload_n 0) 1 46 := by decide +kernel
theorem dX10_family_46 : Dn cX10_family 46 (.iload_n 1) 1 47 := by decide +kernel
theorem dX10_family_47 : Dn cX10_family 47 (.iload_n 2) 1 48 := by decide +kernel
theorem dX10_family_48 : Dn cX10_family 48 (.invokevirtual 234) 3 51 := by decide +kernel
theorem dX10_family_51 : Dn cX10_family 51 (.istore 4) 2 53 := by decide +kernel
theorem dX10_family_53 : Dn cX10_family 53 (.iconst 0) 1 54 := by decide +kernel
theorem dX10_family_54 : Dn cX10_family 54 (.istore 5) 2 56 := by decide +kernel
theorem dX10_family_56 : Dn cX10_family 56 (.iconst 0) 1 57 := by decide +kernel
theorem dX10_family_57 : Dn cX10_family 57 (.istore 6) 2 59 := by decide +kernel
theorem dX10_family_59 : Dn cX10_family 59 (.iconst 0) 1 60 := by decide +kernel
theorem dX10_family_60 : Dn cX10_family 60 (.istore 7) 2 62 := by decide +kernel
theorem dX10_family_62 : Dn cX10_family 62 (.iload 7) 2 64 := by decide +kernel
theorem dX10_family_64 : Dn cX10_family 64 (.aload_n 0) 1 65 := by decide +kernel
theorem dX10_family_65 : Dn cX10_family 65 (.getfield 96) 3 68 := by decide +kernel
theorem dX10_family_68 : Db cX10_family 68 (.if_icmp .ge 60) (60) 71 128 := by decide +kernel
theorem dX10_family_71 : Dn cX10_family 71 (.aload_n 0) 1 72 := by decide +kernel
theorem dX10_family_72 : Dn cX10_family 72 (.iload 7) 2 74 := by decide +kernel
theorem dX10_family_74 : Dn cX10_family 74 (.iconst (-1)) 1 75 := by decide +kernel
theorem dX10_family_75 : Dn cX10_family 75 (.iload_n 2) 1 76 := by decide +kernel
theorem dX10_family_76 : Dn cX10_family 76 (.invokevirtual 167) 3 79 := by decide +kernel
theorem dX10_family_79 : Db cX10_family 79 (.ifCond .eq 43) (43) 82 122 := by decide +kernel
theorem dX10_family_82 : Dn cX10_family 82 (.aload_n 0) 1 83 := by decide +kernel
theorem dX10_family_83 : Dn cX10_family 83 (.iload 7) 2 85 := by decide +kernel
theorem dX10_family_85 : Dn cX10_family 85 (.iload_n 2) 1 86 := by decide +kernel
theorem dX10_family_86 : Dn cX10_family 86 (.invokevirtual 234) 3 89 := by decide +kernel
theorem dX10_family_89 : Dn cX10_family 89 (.iload 4) 2 91 := by decide +kernel
theorem dX10_family_91 : Db cX10_family 91 (.if_icmp .ne 31) (31) 94 122 := by decide +kernel
theorem dX10_family_94 : Dn cX10_family 94 (.iinc 5 1) 3 97 := by decide +kernel
theorem dX10_family_97 : Dn cX10_family 97 (.aload_n 0) 1 98 := by decide +kernel
theorem dX10_family_98 : Dn cX10_family 98 (.iload 7) 2 100 := by decide +kernel
theorem dX10_family_100 : Dn cX10_family 100 (.iload_n 2) 1 101 := by decide +kernel
theorem dX10_family_101 : Dn cX10_family 101 (.invokevirtual 237) 3 104 := by decide +kernel
theorem dX10_family_104 : Dn cX10_family 104 (.istore 8) 2 106 := by decide +kernel
theorem dX10_family_106 : Dn cX10_family 106 (.iload 8) 2 108 := by decide +kernel
theorem dX10_family_108 : Dn cX10_family 108 (.iload 6) 2 110 := by decide +kernel
theorem dX10_family_110 : Db cX10_family 110 (.if_icmp .le 8) (8) 113 118 := by decide +kernel
theorem dX10_family_113 : Dn cX10_family 113 (.iload 8) 2 115 := by decide +kernel
theorem dX10_family_115 : Db cX10_family 115 (.goto 5) (5) 118 120 := by decide +kernel
theorem dX10_family_118 : Dn cX10_family 118 (.iload 6) 2 120 := by decide +kernel
theorem dX10_family_120 : Dn cX10_family 120 (.istore 6) 2 122 := by decide +kernel
theorem dX10_family_122 : Dn cX10_family 122 (.iinc 7 1) 3 125 := by decide +kernel
theorem dX10_family_125 : Db cX10_family 125 (.goto (-63)) (-63) 128 62 := by decide +kernel
theorem dX10_family_128 : Dn cX10_family 128 (.iload_n 3) 1 129 := by decide +kernel
theorem dX10_family_129 : Db cX10_family 129 (.ifCond .ne 8) (8) 132 137 := by decide +kernel
theorem dX10_family_132 : Dn cX10_family 132 (.iload 4) 2 134 := by decide +kernel
theorem dX10_family_134 : Db cX10_family 134 (.goto 29) (29) 137 163 := by decide +kernel
theorem dX10_family_137 : Dn cX10_family 137 (.iload_n 3) 1 138 := by decide +kernel
theorem dX10_family_138 : Dn cX10_family 138 (.iconst 1) 1 139 := by decide +kernel
theorem dX10_family_139 : Db cX10_family 139 (.if_icmp .ne 8) (8) 142 147 := by decide +kernel
theorem dX10_family_142 : Dn cX10_family 142 (.iload 5) 2 144 := by decide +kernel
theorem dX10_family_144 : Db cX10_family 144 (.goto 19) (19) 147 163 := by decide +kernel
theorem dX10_family_147 : Dn cX10_family 147 (.iload_n 3) 1 148 := by decide +kernel
theorem dX10_family_148 : Dn cX10_family 148 (.iconst 2) 1 149 := by decide +kernel
theorem dX10_family_149 : Db cX10_family 149 (.if_icmp .ne 8) (8) 152 157 := by decide +kernel
theorem dX10_family_152 : Dn cX10_family 152 (.iload 6) 2 154 := by decide +kernel
theorem dX10_family_154 : Db cX10_family 154 (.goto 9) (9) 157 163 := by decide +kernel
theorem dX10_family_157 : Dn cX10_family 157 (.aload_n 0) 1 158 := by decide +kernel
theorem dX10_family_158 : Dn cX10_family 158 (.iload_n 1) 1 159 := by decide +kernel
theorem dX10_family_159 : Dn cX10_family 159 (.iload_n 2) 1 160 := by decide +kernel
theorem dX10_family_160 : Dn cX10_family 160 (.invokevirtual 237) 3 163 := by decide +kernel
theorem dX10_family_163 : Dn cX10_family 163 (.ireturn) 1 164 := by decide +kernel
theorem dX10_families_0 : Dn cX10_families 0 (.iload_n 1) 1 1 := by decide +kernel
theorem dX10_families_1 : Dn cX10_families 1 (.invokestatic 120) 3 4 := by decide +kernel
theorem dX10_families_4 : Db cX10_families 4 (.ifCond .ne 6) (6) 7 10 := by decide +kernel
theorem dX10_families_7 : Dn cX10_families 7 (.bipush (-2)) 2 9 := by decide +kernel
theorem dX10_families_9 : Dn cX10_families 9 (.ireturn) 1 10 := by decide +kernel
theorem dX10_families_10 : Dn cX10_families 10 (.iconst 0) 1 11 := by decide +kernel
theorem dX10_families_11 : Dn cX10_families 11 (.istore_n 3) 1 12 := by decide +kernel
theorem dX10_families_12 : Dn cX10_families 12 (.iconst 0) 1 13 := by decide +kernel
theorem dX10_families_13 : Dn cX10_families 13 (.istore 4) 2 15 := by decide +kernel
theorem dX10_families_15 : Dn cX10_families 15 (.iload 4) 2 17 := by decide +kernel
theorem dX10_families_17 : Dn cX10_families 17 (.aload_n 0) 1 18 := by decide +kernel
theorem dX10_families_18 : Dn cX10_families 18 (.getfield 96) 3 21 := by decide +kernel
theorem dX10_families_21 : Db cX10_families 21 (.if_icmp .ge 56) (56) 24 77 := by decide +kernel
theorem dX10_families_24 : Dn cX10_families 24 (.aload_n 0) 1 25 := by decide +kernel
theorem dX10_families_25 : Dn cX10_families 25 (.aload_n 0) 1 26 := by decide +kernel
theorem dX10_families_26 : Dn cX10_families 26 (.getfield 35) 3 29 := by decide +kernel
theorem dX10_families_29 : Dn cX10_families 29 (.iload 4) 2 31 := by decide +kernel
theorem dX10_families_31 : Dn cX10_families 31 (.iaload) 1 32 := by decide +kernel
theorem dX10_families_32 : Dn cX10_families 32 (.iconst (-1)) 1 33 := by decide +kernel
theorem dX10_families_33 : Dn cX10_families 33 (.iload_n 1) 1 34 := by decide +kernel
theorem dX10_families_34 : Dn cX10_families 34 (.invokevirtual 167) 3 37 := by decide +kernel
theorem dX10_families_37 : Db cX10_families 37 (.ifCond .eq 34) (34) 40 71 := by decide +kernel
theorem dX10_families_40 : Dn cX10_families 40 (.aload_n 0) 1 41 := by decide +kernel
theorem dX10_families_41 : Dn cX10_families 41 (.aload_n 0) 1 42 := by decide +kernel
theorem dX10_families_42 : Dn cX10_families 42 (.getfield 35) 3 45 := by decide +kernel
theorem dX10_families_45 : Dn cX10_families 45 (.iload 4) 2 47 := by decide +kernel
theorem dX10_families_47 : Dn cX10_families 47 (.iaload) 1 48 := by decide +kernel
theorem dX10_families_48 : Dn cX10_families 48 (.iload_n 1) 1 49 := by decide +kernel
theorem dX10_families_49 : Dn cX10_families 49 (.invokevirtual 229) 3 52 := by decide +kernel
theorem dX10_families_52 : Db cX10_families 52 (.ifCond .ge 19) (19) 55 71 := by decide +kernel
theorem dX10_families_55 : Dn cX10_families 55 (.iload_n 3) 1 56 := by decide +kernel
theorem dX10_families_56 : Dn cX10_families 56 (.iload_n 2) 1 57 := by decide +kernel
theorem dX10_families_57 : Db cX10_families 57 (.if_icmp .ne 11) (11) 60 68 := by decide +kernel
theorem dX10_families_60 : Dn cX10_families 60 (.aload_n 0) 1 61 := by decide +kernel
theorem dX10_families_61 : Dn cX10_families 61 (.getfield 35) 3 64 := by decide +kernel
theorem dX10_families_64 : Dn cX10_families 64 (.iload 4) 2 66 := by decide +kernel
theorem dX10_families_66 : Dn cX10_families 66 (.iaload) 1 67 := by decide +kernel
theorem dX10_families_67 : Dn cX10_families 67 (.ireturn) 1 68 := by decide +kernel
theorem dX10_families_68 : Dn cX10_families 68 (.iinc 3 1) 3 71 := by decide +kernel
theorem dX10_families_71 : Dn cX10_families 71 (.iinc 4 1) 3 74 := by decide +kernel
theorem dX10_families_74 : Db cX10_families 74 (.goto (-59)) (-59) 77 15 := by decide +kernel
theorem dX10_families_77 : Dn cX10_families 77 (.iload_n 2) 1 78 := by decide +kernel
theorem dX10_families_78 : Dn cX10_families 78 (.iconst (-1)) 1 79 := by decide +kernel
theorem dX10_families_79 : Db cX10_families 79 (.if_icmp .ne 7) (7) 82 86 := by decide +kernel
theorem dX10_families_82 : Dn cX10_families 82 (.iload_n 3) 1 83 := by decide +kernel
theorem dX10_families_83 : Db cX10_families 83 (.goto 5) (5) 86 88 := by decide +kernel
theorem dX10_families_86 : Dn cX10_families 86 (.bipush (-6)) 2 88 := by decide +kernel
theorem dX10_families_88 : Dn cX10_families 88 (.ireturn) 1 89 := by decide +kernel
theorem dX10_drawnFor_0 : Dn cX10_drawnFor 0 (.lload_n 2) 1 1 := by decide +kernel
theorem dX10_drawnFor_1 : Dn cX10_drawnFor 1 (.aload_n 0) 1 2 := by decide +kernel
theorem dX10_drawnFor_2 : Dn cX10_drawnFor 2 (.getfield 32) 3 5 := by decide +kernel
theorem dX10_drawnFor_5 : Dn cX10_drawnFor 5 (.iconst 3) 1 6 := by decide +kernel
theorem dX10_drawnFor_6 : Dn cX10_drawnFor 6 (.iaload) 1 7 := by decide +kernel
theorem dX10_drawnFor_7 : Dn cX10_drawnFor 7 (.i2l) 1 8 := by decide +kernel
theorem dX10_drawnFor_8 : Dn cX10_drawnFor 8 (.lsub) 1 9 := by decide +kernel
theorem dX10_drawnFor_9 : Dn cX10_drawnFor 9 (.lstore 5) 2 11 := by decide +kernel
theorem dX10_drawnFor_11 : Dn cX10_drawnFor 11 (.lload 5) 2 13 := by decide +kernel
theorem dX10_drawnFor_13 : Dn cX10_drawnFor 13 (.lconst 0) 1 14 := by decide +kernel
theorem dX10_drawnFor_14 : Dn cX10_drawnFor 14 (.lcmp) 1 15 := by decide +kernel
theorem dX10_drawnFor_15 : Db cX10_drawnFor 15 (.ifCond .ge 6) (6) 18 21 := by decide +kernel
theorem dX10_drawnFor_18 : Dn cX10_drawnFor 18 (.bipush (-6)) 2 20 := by decide +kernel
theorem dX10_drawnFor_20 : Dn cX10_drawnFor 20 (.ireturn) 1 21 := by decide +kernel
theorem dX10_drawnFor_21 : Dn cX10_drawnFor 21 (.iconst 0) 1 22 := by decide +kernel
theorem dX10_drawnFor_22 : Dn cX10_drawnFor 22 (.istore 7) 2 24 := by decide +kernel
theorem dX10_drawnFor_24 : Dn cX10_drawnFor 24 (.iload 7) 2 26 := by decide +kernel
theorem dX10_drawnFor_26 : Dn cX10_drawnFor 26 (.aload_n 0) 1 27 := by decide +kernel
theorem dX10_drawnFor_27 : Dn cX10_drawnFor 27 (.getfield 96) 3 30 := by decide +kernel
theorem dX10_drawnFor_30 : Db cX10_drawnFor 30 (.if_icmp .ge 53) (53) 33 83 := by decide +kernel
theorem dX10_drawnFor_33 : Dn cX10_drawnFor 33 (.aload_n 0) 1 34 := by decide +kernel
theorem dX10_drawnFor_34 : Dn cX10_drawnFor 34 (.getfield 35) 3 37 := by decide +kernel
theorem dX10_drawnFor_37 : Dn cX10_drawnFor 37 (.iload 7) 2 39 := by decide +kernel
theorem dX10_drawnFor_39 : Dn cX10_drawnFor 39 (.iaload) 1 40 := by decide +kernel
theorem dX10_drawnFor_40 : Dn cX10_drawnFor 40 (.istore 8) 2 42 := by decide +kernel
theorem dX10_drawnFor_42 : Dn cX10_drawnFor 42 (.aload_n 0) 1 43 := by decide +kernel
theorem dX10_drawnFor_43 : Dn cX10_drawnFor 43 (.iload 8) 2 45 := by decide +kernel
theorem dX10_drawnFor_45 : Dn cX10_drawnFor 45 (.iload_n 1) 1 46 := by decide +kernel
theorem dX10_drawnFor_46 : Dn cX10_drawnFor 46 (.iload 4) 2 48 := by decide +kernel
theorem dX10_drawnFor_48 : Dn cX10_drawnFor 48 (.invokevirtual 217) 3 51 := by decide +kernel
theorem dX10_drawnFor_51 : Db cX10_drawnFor 51 (.ifCond .eq 26) (26) 54 77 := by decide +kernel
theorem dX10_drawnFor_54 : Dn cX10_drawnFor 54 (.lload 5) 2 56 := by decide +kernel
theorem dX10_drawnFor_56 : Dn cX10_drawnFor 56 (.aload_n 0) 1 57 := by decide +kernel
theorem dX10_drawnFor_57 : Dn cX10_drawnFor 57 (.iload_n 1) 1 58 := by decide +kernel
theorem dX10_drawnFor_58 : Dn cX10_drawnFor 58 (.iload 8) 2 60 := by decide +kernel
theorem dX10_drawnFor_60 : Dn cX10_drawnFor 60 (.invokevirtual 220) 3 63 := by decide +kernel
theorem dX10_drawnFor_63 : Dn cX10_drawnFor 63 (.i2l) 1 64 := by decide +kernel
theorem dX10_drawnFor_64 : Dn cX10_drawnFor 64 (.lsub) 1 65 := by decide +kernel
theorem dX10_drawnFor_65 : Dn cX10_drawnFor 65 (.lstore 5) 2 67 := by decide +kernel
theorem dX10_drawnFor_67 : Dn cX10_drawnFor 67 (.lload 5) 2 69 := by decide +kernel
theorem dX10_drawnFor_69 : Dn cX10_drawnFor 69 (.lconst 0) 1 70 := by decide +kernel
theorem dX10_drawnFor_70 : Dn cX10_drawnFor 70 (.lcmp) 1 71 := by decide +kernel
theorem dX10_drawnFor_71 : Db cX10_drawnFor 71 (.ifCond .ge 6) (6) 74 77 := by decide +kernel
theorem dX10_drawnFor_74 : Dn cX10_drawnFor 74 (.iload 8) 2 76 := by decide +kernel
theorem dX10_drawnFor_76 : Dn cX10_drawnFor 76 (.ireturn) 1 77 := by decide +kernel
theorem dX10_drawnFor_77 : Dn cX10_drawnFor 77 (.iinc 7 1) 3 80 := by decide +kernel
theorem dX10_drawnFor_80 : Db cX10_drawnFor 80 (.goto (-56)) (-56) 83 24 := by decide +kernel
theorem dX10_drawnFor_83 : Dn cX10_drawnFor 83 (.bipush (-6)) 2 85 := by decide +kernel
theorem dX10_drawnFor_85 : Dn cX10_drawnFor 85 (.ireturn) 1 86 := by decide +kernel
theorem dX10_draw_0 : Dn cX10_draw 0 (.aload_n 0) 1 1 := by decide +kernel
theorem dX10_draw_1 : Dn cX10_draw 1 (.iload_n 2) 1 2 := by decide +kernel
theorem dX10_draw_2 : Dn cX10_draw 2 (.invokevirtual 126) 3 5 := by decide +kernel
theorem dX10_draw_5 : Db cX10_draw 5 (.ifCond .ne 5) (5) 8 10 := by decide +kernel
theorem dX10_draw_8 : Dn cX10_draw 8 (.iconst (-1)) 1 9 := by decide +kernel
theorem dX10_draw_9 : Dn cX10_draw 9 (.ireturn) 1 10 := by decide +kernel
theorem dX10_draw_10 : Dn cX10_draw 10 (.iload_n 1) 1 11 := by decide +kernel
theorem dX10_draw_11 : Dn cX10_draw 11 (.i2l) 1 12 := by decide +kernel
theorem dX10_draw_12 : Dn cX10_draw 12 (.lconst 1) 1 13 := by decide +kernel
theorem dX10_draw_13 : Dn cX10_draw 13 (.ldc2_w 240) 3 16 := by decide +kernel
theorem dX10_draw_16 : Dn cX10_draw 16 (.invokestatic 100) 3 19 := by decide +kernel
theorem dX10_draw_19 : Db cX10_draw 19 (.ifCond .eq 10) (10) 22 29 := by decide +kernel
theorem dX10_draw_22 : Dn cX10_draw 22 (.iload_n 3) 1 23 := by decide +kernel
theorem dX10_draw_23 : Dn cX10_draw 23 (.invokestatic 120) 3 26 := by decide +kernel
theorem dX10_draw_26 : Db cX10_draw 26 (.ifCond .ne 6) (6) 29 32 := by decide +kernel
theorem dX10_draw_29 : Dn cX10_draw 29 (.bipush (-2)) 2 31 := by decide +kernel
theorem dX10_draw_31 : Dn cX10_draw 31 (.ireturn) 1 32 := by decide +kernel
theorem dX10_draw_32 : Dn cX10_draw 32 (.aload_n 0) 1 33 := by decide +kernel
theorem dX10_draw_33 : Dn cX10_draw 33 (.iload_n 2) 1 34 := by decide +kernel
theorem dX10_draw_34 : Dn cX10_draw 34 (.iconst (-1)) 1 35 := by decide +kernel
theorem dX10_draw_35 : Dn cX10_draw 35 (.iload_n 3) 1 36 := by decide +kernel
theorem dX10_draw_36 : Dn cX10_draw 36 (.invokevirtual 167) 3 39 := by decide +kernel
theorem dX10_draw_39 : Db cX10_draw 39 (.ifCond .ne 6) (6) 42 45 := by decide +kernel
theorem dX10_draw_42 : Dn cX10_draw 42 (.bipush (-3)) 2 44 := by decide +kernel
theorem dX10_draw_44 : Dn cX10_draw 44 (.ireturn) 1 45 := by decide +kernel
theorem dX10_draw_45 : Dn cX10_draw 45 (.iload_n 1) 1 46 := by decide +kernel
theorem dX10_draw_46 : Dn cX10_draw 46 (.i2l) 1 47 := by decide +kernel
theorem dX10_draw_47 : Dn cX10_draw 47 (.lstore 4) 2 49 := by decide +kernel
theorem dX10_draw_49 : Dn cX10_draw 49 (.iconst 0) 1 50 := by decide +kernel
theorem dX10_draw_50 : Dn cX10_draw 50 (.istore 6) 2 52 := by decide +kernel
theorem dX10_draw_52 : Dn cX10_draw 52 (.aload_n 0) 1 53 := by decide +kernel
theorem dX10_draw_53 : Dn cX10_draw 53 (.getfield 35) 3 56 := by decide +kernel
theorem dX10_draw_56 : Dn cX10_draw 56 (.iload 6) 2 58 := by decide +kernel
theorem dX10_draw_58 : Dn cX10_draw 58 (.iaload) 1 59 := by decide +kernel
theorem dX10_draw_59 : Dn cX10_draw 59 (.iload_n 2) 1 60 := by decide +kernel
theorem dX10_draw_60 : Db cX10_draw 60 (.if_icmp .eq 42) (42) 63 102 := by decide +kernel
theorem dX10_draw_63 : Dn cX10_draw 63 (.aload_n 0) 1 64 := by decide +kernel
theorem dX10_draw_64 : Dn cX10_draw 64 (.aload_n 0) 1 65 := by decide +kernel
theorem dX10_draw_65 : Dn cX10_draw 65 (.getfield 35) 3 68 := by decide +kernel
theorem dX10_draw_68 : Dn cX10_draw 68 (.iload 6) 2 70 := by decide +kernel
theorem dX10_draw_70 : Dn cX10_draw 70 (.iaload) 1 71 := by decide +kernel
theorem dX10_draw_71 : Dn cX10_draw 71 (.iconst (-1)) 1 72 := by decide +kernel
theorem dX10_draw_72 : Dn cX10_draw 72 (.iload_n 3) 1 73 := by decide +kernel
theorem dX10_draw_73 : Dn cX10_draw 73 (.invokevirtual 167) 3 76 := by decide +kernel
theorem dX10_draw_76 : Db cX10_draw 76 (.ifCond .eq 16) (16) 79 92 := by decide +kernel
theorem dX10_draw_79 : Dn cX10_draw 79 (.lload 4) 2 81 := by decide +kernel
theorem dX10_draw_81 : Dn cX10_draw 81 (.ldc2_w 242) 3 84 := by decide +kernel
theorem dX10_draw_84 : Dn cX10_draw 84 (.lmul) 1 85 := by decide +kernel
theorem dX10_draw_85 : Dn cX10_draw 85 (.ldc2_w 244) 3 88 := by decide +kernel
theorem dX10_draw_88 : Dn cX10_draw 88 (.lrem) 1 89 := by decide +kernel
theorem dX10_draw_89 : Db cX10_draw 89 (.goto 5) (5) 92 94 := by decide +kernel
theorem dX10_draw_92 : Dn cX10_draw 92 (.lload 4) 2 94 := by decide +kernel
theorem dX10_draw_94 : Dn cX10_draw 94 (.lstore 4) 2 96 := by decide +kernel
theorem dX10_draw_96 : Dn cX10_draw 96 (.iinc 6 1) 3 99 := by decide +kernel
theorem dX10_draw_99 : Db cX10_draw 99 (.goto (-47)) (-47) 102 52 := by decide +kernel
theorem dX10_draw_102 : Dn cX10_draw 102 (.lload 4) 2 104 := by decide +kernel
theorem dX10_draw_104 : Dn cX10_draw 104 (.ldc2_w 242) 3 107 := by decide +kernel
theorem dX10_draw_107 : Dn cX10_draw 107 (.lmul) 1 108 := by decide +kernel
theorem dX10_draw_108 : Dn cX10_draw 108 (.ldc2_w 244) 3 111 := by decide +kernel
theorem dX10_draw_111 : Dn cX10_draw 111 (.lrem) 1 112 := by decide +kernel
theorem dX10_draw_112 : Dn cX10_draw 112 (.lstore 4) 2 114 := by decide +kernel
theorem dX10_draw_114 : Dn cX10_draw 114 (.aload_n 0) 1 115 := by decide +kernel
theorem dX10_draw_115 : Dn cX10_draw 115 (.iload_n 2) 1 116 := by decide +kernel
theorem dX10_draw_116 : Dn cX10_draw 116 (.lload 4) 2 118 := by decide +kernel
theorem dX10_draw_118 : Dn cX10_draw 118 (.aload_n 0) 1 119 := by decide +kernel
theorem dX10_draw_119 : Dn cX10_draw 119 (.iload_n 2) 1 120 := by decide +kernel
theorem dX10_draw_120 : Dn cX10_draw 120 (.iload_n 3) 1 121 := by decide +kernel
theorem dX10_draw_121 : Dn cX10_draw 121 (.invokevirtual 223) 3 124 := by decide +kernel
theorem dX10_draw_124 : Dn cX10_draw 124 (.lrem) 1 125 := by decide +kernel
theorem dX10_draw_125 : Dn cX10_draw 125 (.iload_n 3) 1 126 := by decide +kernel
theorem dX10_draw_126 : Dn cX10_draw 126 (.invokevirtual 246) 3 129 := by decide +kernel
theorem dX10_draw_129 : Dn cX10_draw 129 (.ireturn) 1 130 := by decide +kernel
theorem dX10_rate_0 : Dn cX10_rate 0 (.iload_n 1) 1 1 := by decide +kernel
theorem dX10_rate_1 : Dn cX10_rate 1 (.iload_n 2) 1 2 := by decide +kernel
theorem dX10_rate_2 : Dn cX10_rate 2 (.invokestatic 116) 3 5 := by decide +kernel
theorem dX10_rate_5 : Db cX10_rate 5 (.ifCond .ne 5) (5) 8 10 := by decide +kernel
theorem dX10_rate_8 : Dn cX10_rate 8 (.iconst (-1)) 1 9 := by decide +kernel
theorem dX10_rate_9 : Dn cX10_rate 9 (.ireturn) 1 10 := by decide +kernel
theorem dX10_rate_10 : Dn cX10_rate 10 (.iload_n 3) 1 11 := by decide +kernel
theorem dX10_rate_11 : Dn cX10_rate 11 (.invokestatic 120) 3 14 := by decide +kernel
theorem dX10_rate_14 : Db cX10_rate 14 (.ifCond .eq 11) (11) 17 25 := by decide +kernel
theorem dX10_rate_17 : Dn cX10_rate 17 (.iload 4) 2 19 := by decide +kernel
theorem dX10_rate_19 : Dn cX10_rate 19 (.invokestatic 120) 3 22 := by decide +kernel
theorem dX10_rate_22 : Db cX10_rate 22 (.ifCond .ne 6) (6) 25 28 := by decide +kernel
theorem dX10_rate_25 : Dn cX10_rate 25 (.bipush (-2)) 2 27 := by decide +kernel
theorem dX10_rate_27 : Dn cX10_rate 27 (.ireturn) 1 28 := by decide +kernel
theorem dX10_rate_28 : Dn cX10_rate 28 (.aload_n 0) 1 29 := by decide +kernel
theorem dX10_rate_29 : Dn cX10_rate 29 (.getfield 32) 3 32 := by decide +kernel
theorem dX10_rate_32 : Dn cX10_rate 32 (.iconst 3) 1 33 := by decide +kernel
theorem dX10_rate_33 : Dn cX10_rate 33 (.iaload) 1 34 := by decide +kernel
theorem dX10_rate_34 : Dn cX10_rate 34 (.istore 5) 2 36 := by decide +kernel
theorem dX10_rate_36 : Dn cX10_rate 36 (.iconst 0) 1 37 := by decide +kernel
theorem dX10_rate_37 : Dn cX10_rate 37 (.istore 6) 2 39 := by decide +kernel
theorem dX10_rate_39 : Dn cX10_rate 39 (.iload 6) 2 41 := by decide +kernel
theorem dX10_rate_41 : Dn cX10_rate 41 (.aload_n 0) 1 42 := by decide +kernel
theorem dX10_rate_42 : Dn cX10_rate 42 (.getfield 96) 3 45 := by decide +kernel
theorem dX10_rate_45 : Db cX10_rate 45 (.if_icmp .ge 50) (50) 48 95 := by decide +kernel
theorem dX10_rate_48 : Dn cX10_rate 48 (.iload 5) 2 50 := by decide +kernel
theorem dX10_rate_50 : Dn cX10_rate 50 (.aload_n 0) 1 51 := by decide +kernel
theorem dX10_rate_51 : Dn cX10_rate 51 (.iload 6) 2 53 := by decide +kernel
theorem dX10_rate_53 : Dn cX10_rate 53 (.iconst (-1)) 1 54 := by decide +kernel
theorem dX10_rate_54 : Dn cX10_rate 54 (.iload 4) 2 56 := by decide +kernel
theorem dX10_rate_56 : Dn cX10_rate 56 (.invokevirtual 167) 3 59 := by decide +kernel
theorem dX10_rate_59 : Db cX10_rate 59 (.ifCond .eq 26) (26) 62 85 := by decide +kernel
theorem dX10_rate_62 : Dn cX10_rate 62 (.aload_n 0) 1 63 := by decide +kernel
theorem dX10_rate_63 : Dn cX10_rate 63 (.getfield 13) 3 66 := by decide +kernel
theorem dX10_rate_66 : Dn cX10_rate 66 (.iload 6) 2 68 := by decide +kernel
theorem dX10_rate_68 : Dn cX10_rate 68 (.iaload) 1 69 := by decide +kernel
theorem dX10_rate_69 : Dn cX10_rate 69 (.iload_n 3) 1 70 := by decide +kernel
theorem dX10_rate_70 : Db cX10_rate 70 (.if_icmp .ge 15) (15) 73 85 := by decide +kernel
theorem dX10_rate_73 : Dn cX10_rate 73 (.aload_n 0) 1 74 := by decide +kernel
theorem dX10_rate_74 : Dn cX10_rate 74 (.iload 6) 2 76 := by decide +kernel
theorem dX10_rate_76 : Dn cX10_rate 76 (.iload_n 1) 1 77 := by decide +kernel
theorem dX10_rate_77 : Dn cX10_rate 77 (.iload_n 2) 1 78 := by decide +kernel
theorem dX10_rate_78 : Dn cX10_rate 78 (.iload_n 3) 1 79 := by decide +kernel
theorem dX10_rate_79 : Dn cX10_rate 79 (.invokevirtual 211) 3 82 := by decide +kernel
theorem dX10_rate_82 : Db cX10_rate 82 (.goto 4) (4) 85 86 := by decide +kernel
theorem dX10_rate_85 : Dn cX10_rate 85 (.iconst 0) 1 86 := by decide +kernel
theorem dX10_rate_86 : Dn cX10_rate 86 (.iadd) 1 87 := by decide +kernel
theorem dX10_rate_87 : Dn cX10_rate 87 (.istore 5) 2 89 := by decide +kernel
theorem dX10_rate_89 : Dn cX10_rate 89 (.iinc 6 1) 3 92 := by decide +kernel
theorem dX10_rate_92 : Db cX10_rate 92 (.goto (-53)) (-53) 95 39 := by decide +kernel
theorem dX10_rate_95 : Dn cX10_rate 95 (.iload 5) 2 97 := by decide +kernel
theorem dX10_rate_97 : Dn cX10_rate 97 (.ireturn) 1 98 := by decide +kernel
theorem dX10_say_0 : Dn cX10_say 0 (.iload_n 1) 1 1 := by decide +kernel
theorem dX10_say_1 : Dn cX10_say 1 (.i2l) 1 2 := by decide +kernel
theorem dX10_say_2 : Dn cX10_say 2 (.ldc2_w 250) 3 5 := by decide +kernel
theorem dX10_say_5 : Dn cX10_say 5 (.ldc2_w 252) 3 8 := by decide +kernel
theorem dX10_say_8 : Dn cX10_say 8 (.invokestatic 100) 3 11 := by decide +kernel
theorem dX10_say_11 : Db cX10_say 11 (.ifCond .ne 6) (6) 14 17 := by decide +kernel
theorem dX10_say_14 : Dn cX10_say 14 (.bipush (-2)) 2 16 := by decide +kernel
theorem dX10_say_16 : Dn cX10_say 16 (.ireturn) 1 17 := by decide +kernel
theorem dX10_say_17 : Dn cX10_say 17 (.aload_n 0) 1 18 := by decide +kernel
theorem dX10_say_18 : Dn cX10_say 18 (.getfield 60) 3 21 := by decide +kernel
theorem dX10_say_21 : Dn cX10_say 21 (.bipush 6) 2 23 := by decide +kernel
theorem dX10_say_23 : Dn cX10_say 23 (.iaload) 1 24 := by decide +kernel
theorem dX10_say_24 : Dn cX10_say 24 (.bipush 48) 2 26 := by decide +kernel
theorem dX10_say_26 : Db cX10_say 26 (.if_icmp .ne 6) (6) 29 32 := by decide +kernel
theorem dX10_say_29 : Dn cX10_say 29 (.bipush (-4)) 2 31 := by decide +kernel
theorem dX10_say_31 : Dn cX10_say 31 (.ireturn) 1 32 := by decide +kernel
theorem dX10_say_32 : Dn cX10_say 32 (.aload_n 0) 1 33 := by decide +kernel
theorem dX10_say_33 : Dn cX10_say 33 (.getfield 57) 3 36 := by decide +kernel
theorem dX10_say_36 : Dn cX10_say 36 (.sipush 288) 3 39 := by decide +kernel
theorem dX10_say_39 : Dn cX10_say 39 (.aload_n 0) 1 40 := by decide +kernel
theorem dX10_say_40 : Dn cX10_say 40 (.getfield 60) 3 43 := by decide +kernel
theorem dX10_say_43 : Dn cX10_say 43 (.bipush 6) 2 45 := by decide +kernel
theorem dX10_say_45 : Dn cX10_say 45 (.iaload) 1 46 := by decide +kernel
theorem dX10_say_46 : Dn cX10_say 46 (.iadd) 1 47 := by decide +kernel
theorem dX10_say_47 : Dn cX10_say 47 (.iload_n 1) 1 48 := by decide +kernel
theorem dX10_say_48 : Dn cX10_say 48 (.iastore) 1 49 := by decide +kernel
theorem dX10_say_49 : Dn cX10_say 49 (.aload_n 0) 1 50 := by decide +kernel
theorem dX10_say_50 : Dn cX10_say 50 (.getfield 60) 3 53 := by decide +kernel
theorem dX10_say_53 : Dn cX10_say 53 (.bipush 6) 2 55 := by decide +kernel
theorem dX10_say_55 : Dn cX10_say 55 (.dup2) 1 56 := by decide +kernel
theorem dX10_say_56 : Dn cX10_say 56 (.iaload) 1 57 := by decide +kernel
theorem dX10_say_57 : Dn cX10_say 57 (.iconst 1) 1 58 := by decide +kernel
theorem dX10_say_58 : Dn cX10_say 58 (.iadd) 1 59 := by decide +kernel
theorem dX10_say_59 : Dn cX10_say 59 (.iastore) 1 60 := by decide +kernel
theorem dX10_say_60 : Dn cX10_say 60 (.aload_n 0) 1 61 := by decide +kernel
theorem dX10_say_61 : Dn cX10_say 61 (.getfield 60) 3 64 := by decide +kernel
theorem dX10_say_64 : Dn cX10_say 64 (.bipush 6) 2 66 := by decide +kernel
theorem dX10_say_66 : Dn cX10_say 66 (.iaload) 1 67 := by decide +kernel
theorem dX10_say_67 : Dn cX10_say 67 (.ireturn) 1 68 := by decide +kernel
theorem dX10_wipe_0 : Dn cX10_wipe 0 (.aload_n 0) 1 1 := by decide +kernel
theorem dX10_wipe_1 : Dn cX10_wipe 1 (.getfield 60) 3 4 := by decide +kernel
theorem dX10_wipe_4 : Dn cX10_wipe 4 (.bipush 6) 2 6 := by decide +kernel
theorem dX10_wipe_6 : Dn cX10_wipe 6 (.iaload) 1 7 := by decide +kernel
theorem dX10_wipe_7 : Dn cX10_wipe 7 (.istore_n 1) 1 8 := by decide +kernel
theorem dX10_wipe_8 : Dn cX10_wipe 8 (.aload_n 0) 1 9 := by decide +kernel
theorem dX10_wipe_9 : Dn cX10_wipe 9 (.getfield 60) 3 12 := by decide +kernel
theorem dX10_wipe_12 : Dn cX10_wipe 12 (.bipush 6) 2 14 := by decide +kernel
theorem dX10_wipe_14 : Dn cX10_wipe 14 (.iconst 0) 1 15 := by decide +kernel
theorem dX10_wipe_15 : Dn cX10_wipe 15 (.iastore) 1 16 := by decide +kernel
theorem dX10_wipe_16 : Dn cX10_wipe 16 (.iload_n 1) 1 17 := by decide +kernel
theorem dX10_wipe_17 : Dn cX10_wipe 17 (.ireturn) 1 18 := by decide +kernel
theorem dX10_isDigit_0 : Dn cX10_isDigit 0 (.iload_n 0) 1 1 := by decide +kernel
theorem dX10_isDigit_1 : Dn cX10_isDigit 1 (.i2l) 1 2 := by decide +kernel
theorem dX10_isDigit_2 : Dn cX10_isDigit 2 (.ldc2_w 254) 3 5 := by decide +kernel
theorem dX10_isDigit_5 : Dn cX10_isDigit 5 (.ldc2_w 256) 3 8 := by decide +kernel
theorem dX10_isDigit_8 : Dn cX10_isDigit 8 (.invokestatic 100) 3 11 := by decide +kernel
theorem dX10_isDigit_11 : Dn cX10_isDigit 11 (.ireturn) 1 12 := by decide +kernel
theorem dX10_markOf_0 : Dn cX10_markOf 0 (.iload_n 0) 1 1 := by decide +kernel
theorem dX10_markOf_1 : Db cX10_markOf 1 (.ifCond .ne 8) (8) 4 9 := by decide +kernel
theorem dX10_markOf_4 : Dn cX10_markOf 4 (.bipush 44) 2 6 := by decide +kernel
theorem dX10_markOf_6 : Db cX10_markOf 6 (.goto 25) (25) 9 31 := by decide +kernel
theorem dX10_markOf_9 : Dn cX10_markOf 9 (.iload_n 0) 1 10 := by decide +kernel
theorem dX10_markOf_10 : Dn cX10_markOf 10 (.iconst 1) 1 11 := by decide +kernel
theorem dX10_markOf_11 : Db cX10_markOf 11 (.if_icmp .ne 8) (8) 14 19 := by decide +kernel
theorem dX10_markOf_14 : Dn cX10_markOf 14 (.bipush 62) 2 16 := by decide +kernel
theorem dX10_markOf_16 : Db cX10_markOf 16 (.goto 15) (15) 19 31 := by decide +kernel
theorem dX10_markOf_19 : Dn cX10_markOf 19 (.iload_n 0) 1 20 := by decide +kernel
theorem dX10_markOf_20 : Dn cX10_markOf 20 (.iconst 2) 1 21 := by decide +kernel
theorem dX10_markOf_21 : Db cX10_markOf 21 (.if_icmp .ne 8) (8) 24 29 := by decide +kernel
theorem dX10_markOf_24 : Dn cX10_markOf 24 (.bipush 58) 2 26 := by decide +kernel
theorem dX10_markOf_26 : Db cX10_markOf 26 (.goto 5) (5) 29 31 := by decide +kernel
theorem dX10_markOf_29 : Dn cX10_markOf 29 (.bipush 59) 2 31 := by decide +kernel
theorem dX10_markOf_31 : Dn cX10_markOf 31 (.ireturn) 1 32 := by decide +kernel
theorem dX10_fault_0 : Dn cX10_fault 0 (.iconst 0) 1 1 := by decide +kernel
theorem dX10_fault_1 : Dn cX10_fault 1 (.istore_n 1) 1 2 := by decide +kernel
theorem dX10_fault_2 : Dn cX10_fault 2 (.iconst 0) 1 3 := by decide +kernel
theorem dX10_fault_3 : Dn cX10_fault 3 (.istore_n 2) 1 4 := by decide +kernel
theorem dX10_fault_4 : Dn cX10_fault 4 (.iconst 0) 1 5 := by decide +kernel
theorem dX10_fault_5 : Dn cX10_fault 5 (.istore_n 3) 1 6 := by decide +kernel
theorem dX10_fault_6 : Dn cX10_fault 6 (.iload_n 3) 1 7 := by decide +kernel
theorem dX10_fault_7 : Dn cX10_fault 7 (.aload_n 0) 1 8 := by decide +kernel
theorem dX10_fault_8 : Dn cX10_fault 8 (.getfield 60) 3 11 := by decide +kernel
theorem dX10_fault_11 : Dn cX10_fault 11 (.bipush 6) 2 13 := by decide +kernel
theorem dX10_fault_13 : Dn cX10_fault 13 (.iaload) 1 14 := by decide +kernel
theorem dX10_fault_14 : Db cX10_fault 14 (.if_icmp .ge 66) (66) 17 80 := by decide +kernel
theorem dX10_fault_17 : Dn cX10_fault 17 (.aload_n 0) 1 18 := by decide +kernel
theorem dX10_fault_18 : Dn cX10_fault 18 (.getfield 57) 3 21 := by decide +kernel
theorem dX10_fault_21 : Dn cX10_fault 21 (.sipush 288) 3 24 := by decide +kernel
theorem dX10_fault_24 : Dn cX10_fault 24 (.iload_n 3) 1 25 := by decide +kernel
theorem dX10_fault_25 : Dn cX10_fault 25 (.iadd) 1 26 := by decide +kernel
theorem dX10_fault_26 : Dn cX10_fault 26 (.iaload) 1 27 := by decide +kernel
theorem dX10_fault_27 : Dn cX10_fault 27 (.istore 4) 2 29 := by decide +kernel
theorem dX10_fault_29 : Dn cX10_fault 29 (.iload 4) 2 31 := by decide +kernel
theorem dX10_fault_31 : Dn cX10_fault 31 (.invokestatic 258) 3 34 := by decide +kernel
theorem dX10_fault_34 : Db cX10_fault 34 (.ifCond .eq 14) (14) 37 48 := by decide +kernel
theorem dX10_fault_37 : Dn cX10_fault 37 (.iload_n 2) 1 38 := by decide +kernel
theorem dX10_fault_38 : Dn cX10_fault 38 (.iconst 4) 1 39 := by decide +kernel
theorem dX10_fault_39 : Db cX10_fault 39 (.if_icmp .ge 9) (9) 42 48 := by decide +kernel
theorem dX10_fault_42 : Dn cX10_fault 42 (.iinc 2 1) 3 45 := by decide +kernel
theorem dX10_fault_45 : Db cX10_fault 45 (.goto 29) (29) 48 74 := by decide +kernel
theorem dX10_fault_48 : Dn cX10_fault 48 (.iload_n 2) 1 49 := by decide +kernel
theorem dX10_fault_49 : Db cX10_fault 49 (.ifCond .le 23) (23) 52 72 := by decide +kernel
theorem dX10_fault_52 : Dn cX10_fault 52 (.iload 4) 2 54 := by decide +kernel
theorem dX10_fault_54 : Dn cX10_fault 54 (.iload_n 1) 1 55 := by decide +kernel
theorem dX10_fault_55 : Dn cX10_fault 55 (.invokestatic 261) 3 58 := by decide +kernel
theorem dX10_fault_58 : Db cX10_fault 58 (.if_icmp .ne 14) (14) 61 72 := by decide +kernel
theorem dX10_fault_61 : Dn cX10_fault 61 (.iload_n 1) 1 62 := by decide +kernel
theorem dX10_fault_62 : Dn cX10_fault 62 (.iconst 1) 1 63 := by decide +kernel
theorem dX10_fault_63 : Dn cX10_fault 63 (.iadd) 1 64 := by decide +kernel
theorem dX10_fault_64 : Dn cX10_fault 64 (.iconst 4) 1 65 := by decide +kernel
theorem dX10_fault_65 : Dn cX10_fault 65 (.irem) 1 66 := by decide +kernel
theorem dX10_fault_66 : Dn cX10_fault 66 (.istore_n 1) 1 67 := by decide +kernel
theorem dX10_fault_67 : Dn cX10_fault 67 (.iconst 0) 1 68 := by decide +kernel
theorem dX10_fault_68 : Dn cX10_fault 68 (.istore_n 2) 1 69 := by decide +kernel
theorem dX10_fault_69 : Db cX10_fault 69 (.goto 5) (5) 72 74 := by decide +kernel
theorem dX10_fault_72 : Dn cX10_fault 72 (.iload_n 3) 1 73 := by decide +kernel
theorem dX10_fault_73 : Dn cX10_fault 73 (.ireturn) 1 74 := by decide +kernel
theorem dX10_fault_74 : Dn cX10_fault 74 (.iinc 3 1) 3 77 := by decide +kernel
theorem dX10_fault_77 : Db cX10_fault 77 (.goto (-71)) (-71) 80 6 := by decide +kernel
theorem dX10_fault_80 : Dn cX10_fault 80 (.iload_n 1) 1 81 := by decide +kernel
theorem dX10_fault_81 : Db cX10_fault 81 (.ifCond .ne 12) (12) 84 93 := by decide +kernel
theorem dX10_fault_84 : Dn cX10_fault 84 (.iload_n 2) 1 85 := by decide +kernel
theorem dX10_fault_85 : Db cX10_fault 85 (.ifCond .le 8) (8) 88 93 := by decide +kernel
theorem dX10_fault_88 : Dn cX10_fault 88 (.bipush (-6)) 2 90 := by decide +kernel
theorem dX10_fault_90 : Db cX10_fault 90 (.goto 10) (10) 93 100 := by decide +kernel
theorem dX10_fault_93 : Dn cX10_fault 93 (.aload_n 0) 1 94 := by decide +kernel
theorem dX10_fault_94 : Dn cX10_fault 94 (.getfield 60) 3 97 := by decide +kernel
theorem dX10_fault_97 : Dn cX10_fault 97 (.bipush 6) 2 99 := by decide +kernel
theorem dX10_fault_99 : Dn cX10_fault 99 (.iaload) 1 100 := by decide +kernel
theorem dX10_fault_100 : Dn cX10_fault 100 (.ireturn) 1 101 := by decide +kernel
theorem dX10_forecast_0 : Dn cX10_forecast 0 (.aload_n 0) 1 1 := by decide +kernel
theorem dX10_forecast_1 : Dn cX10_forecast 1 (.getfield 264) 3 4 := by decide +kernel
theorem dX10_forecast_4 : Dn cX10_forecast 4 (.bipush 6) 2 6 := by decide +kernel
theorem dX10_forecast_6 : Db cX10_forecast 6 (.if_icmp .ne 6) (6) 9 12 := by decide +kernel
theorem dX10_forecast_9 : Dn cX10_forecast 9 (.bipush (-4)) 2 11 := by decide +kernel
theorem dX10_forecast_11 : Dn cX10_forecast 11 (.ireturn) 1 12 := by decide +kernel
theorem dX10_forecast_12 : Dn cX10_forecast 12 (.aload_n 0) 1 13 := by decide +kernel
theorem dX10_forecast_13 : Dn cX10_forecast 13 (.invokevirtual 267) 3 16 := by decide +kernel
theorem dX10_forecast_16 : Db cX10_forecast 16 (.ifCond .lt 6) (6) 19 22 := by decide +kernel
theorem dX10_forecast_19 : Dn cX10_forecast 19 (.bipush (-5)) 2 21 := by decide +kernel
theorem dX10_forecast_21 : Dn cX10_forecast 21 (.ireturn) 1 22 := by decide +kernel
theorem dX10_forecast_22 : Dn cX10_forecast 22 (.iconst 0) 1 23 := by decide +kernel
theorem dX10_forecast_23 : Dn cX10_forecast 23 (.istore_n 1) 1 24 := by decide +kernel
theorem dX10_forecast_24 : Dn cX10_forecast 24 (.iload_n 1) 1 25 := by decide +kernel
theorem dX10_forecast_25 : Dn cX10_forecast 25 (.aload_n 0) 1 26 := by decide +kernel
theorem dX10_forecast_26 : Dn cX10_forecast 26 (.getfield 60) 3 29 := by decide +kernel
theorem dX10_forecast_29 : Dn cX10_forecast 29 (.bipush 6) 2 31 := by decide +kernel
theorem dX10_forecast_31 : Dn cX10_forecast 31 (.iaload) 1 32 := by decide +kernel
theorem dX10_forecast_32 : Db cX10_forecast 32 (.if_icmp .ge 33) (33) 35 65 := by decide +kernel
theorem dX10_forecast_35 : Dn cX10_forecast 35 (.aload_n 0) 1 36 := by decide +kernel
theorem dX10_forecast_36 : Dn cX10_forecast 36 (.getfield 57) 3 39 := by decide +kernel
theorem dX10_forecast_39 : Dn cX10_forecast 39 (.bipush 48) 2 41 := by decide +kernel
theorem dX10_forecast_41 : Dn cX10_forecast 41 (.aload_n 0) 1 42 := by decide +kernel
theorem dX10_forecast_42 : Dn cX10_forecast 42 (.getfield 264) 3 45 := by decide +kernel
theorem dX10_forecast_45 : Dn cX10_forecast 45 (.imul) 1 46 := by decide +kernel
theorem dX10_forecast_46 : Dn cX10_forecast 46 (.iload_n 1) 1 47 := by decide +kernel
theorem dX10_forecast_47 : Dn cX10_forecast 47 (.iadd) 1 48 := by decide +kernel
theorem dX10_forecast_48 : Dn cX10_forecast 48 (.aload_n 0) 1 49 := by decide +kernel
theorem dX10_forecast_49 : Dn cX10_forecast 49 (.getfield 57) 3 52 := by decide +kernel
theorem dX10_forecast_52 : Dn cX10_forecast 52 (.sipush 288) 3 55 := by decide +kernel
theorem dX10_forecast_55 : Dn cX10_forecast 55 (.iload_n 1) 1 56 := by decide +kernel
theorem dX10_forecast_56 : Dn cX10_forecast 56 (.iadd) 1 57 := by decide +kernel
theorem dX10_forecast_57 : Dn cX10_forecast 57 (.iaload) 1 58 := by decide +kernel
theorem dX10_forecast_58 : Dn cX10_forecast 58 (.iastore) 1 59 := by decide +kernel
theorem dX10_forecast_59 : Dn cX10_forecast 59 (.iinc 1 1) 3 62 := by decide +kernel
theorem dX10_forecast_62 : Db cX10_forecast 62 (.goto (-38)) (-38) 65 24 := by decide +kernel
theorem dX10_forecast_65 : Dn cX10_forecast 65 (.aload_n 0) 1 66 := by decide +kernel
theorem dX10_forecast_66 : Dn cX10_forecast 66 (.getfield 60) 3 69 := by decide +kernel
theorem dX10_forecast_69 : Dn cX10_forecast 69 (.aload_n 0) 1 70 := by decide +kernel
theorem dX10_forecast_70 : Dn cX10_forecast 70 (.getfield 264) 3 73 := by decide +kernel
theorem dX10_forecast_73 : Dn cX10_forecast 73 (.aload_n 0) 1 74 := by decide +kernel
theorem dX10_forecast_74 : Dn cX10_forecast 74 (.getfield 60) 3 77 := by decide +kernel
theorem dX10_forecast_77 : Dn cX10_forecast 77 (.bipush 6) 2 79 := by decide +kernel
theorem dX10_forecast_79 : Dn cX10_forecast 79 (.iaload) 1 80 := by decide +kernel
theorem dX10_forecast_80 : Dn cX10_forecast 80 (.iastore) 1 81 := by decide +kernel
theorem dX10_forecast_81 : Dn cX10_forecast 81 (.aload_n 0) 1 82 := by decide +kernel
theorem dX10_forecast_82 : Dn cX10_forecast 82 (.getfield 60) 3 85 := by decide +kernel
theorem dX10_forecast_85 : Dn cX10_forecast 85 (.bipush 6) 2 87 := by decide +kernel
theorem dX10_forecast_87 : Dn cX10_forecast 87 (.iconst 0) 1 88 := by decide +kernel
theorem dX10_forecast_88 : Dn cX10_forecast 88 (.iastore) 1 89 := by decide +kernel
theorem dX10_forecast_89 : Dn cX10_forecast 89 (.aload_n 0) 1 90 := by decide +kernel
theorem dX10_forecast_90 : Dn cX10_forecast 90 (.dup) 1 91 := by decide +kernel
theorem dX10_forecast_91 : Dn cX10_forecast 91 (.getfield 264) 3 94 := by decide +kernel
theorem dX10_forecast_94 : Dn cX10_forecast 94 (.iconst 1) 1 95 := by decide +kernel
theorem dX10_forecast_95 : Dn cX10_forecast 95 (.iadd) 1 96 := by decide +kernel
theorem dX10_forecast_96 : Dn cX10_forecast 96 (.putfield 264) 3 99 := by decide +kernel
theorem dX10_forecast_99 : Dn cX10_forecast 99 (.aload_n 0) 1 100 := by decide +kernel
theorem dX10_forecast_100 : Dn cX10_forecast 100 (.getfield 264) 3 103 := by decide +kernel
theorem dX10_forecast_103 : Dn cX10_forecast 103 (.iconst 1) 1 104 := by decide +kernel
theorem dX10_forecast_104 : Dn cX10_forecast 104 (.isub) 1 105 := by decide +kernel
theorem dX10_forecast_105 : Dn cX10_forecast 105 (.ireturn) 1 106 := by decide +kernel
theorem dX10_isForecast_0 : Dn cX10_isForecast 0 (.iload_n 1) 1 1 := by decide +kernel
theorem dX10_isForecast_1 : Dn cX10_isForecast 1 (.i2l) 1 2 := by decide +kernel
theorem dX10_isForecast_2 : Dn cX10_isForecast 2 (.lconst 0) 1 3 := by decide +kernel
theorem dX10_isForecast_3 : Dn cX10_isForecast 3 (.aload_n 0) 1 4 := by decide +kernel
theorem dX10_isForecast_4 : Dn cX10_isForecast 4 (.getfield 264) 3 7 := by decide +kernel
theorem dX10_isForecast_7 : Dn cX10_isForecast 7 (.iconst 1) 1 8 := by decide +kernel
theorem dX10_isForecast_8 : Dn cX10_isForecast 8 (.isub) 1 9 := by decide +kernel
theorem dX10_isForecast_9 : Dn cX10_isForecast 9 (.i2l) 1 10 := by decide +kernel
theorem dX10_isForecast_10 : Dn cX10_isForecast 10 (.invokestatic 100) 3 13 := by decide +kernel
theorem dX10_isForecast_13 : Dn cX10_isForecast 13 (.ireturn) 1 14 := by decide +kernel
theorem dX10_manyAhead_0 : Dn cX10_manyAhead 0 (.iconst 0) 1 1 := by decide +kernel
theorem dX10_manyAhead_1 : Dn cX10_manyAhead 1 (.istore 4) 2 3 := by decide +kernel
theorem dX10_manyAhead_3 : Dn cX10_manyAhead 3 (.iconst 0) 1 4 := by decide +kernel
theorem dX10_manyAhead_4 : Dn cX10_manyAhead 4 (.istore 5) 2 6 := by decide +kernel
theorem dX10_manyAhead_6 : Dn cX10_manyAhead 6 (.iload 5) 2 8 := by decide +kernel
theorem dX10_manyAhead_8 : Dn cX10_manyAhead 8 (.aload_n 0) 1 9 := by decide +kernel
theorem dX10_manyAhead_9 : Dn cX10_manyAhead 9 (.getfield 96) 3 12 := by decide +kernel
theorem dX10_manyAhead_12 : Db cX10_manyAhead 12 (.if_icmp .ge 79) (79) 15 91 := by decide +kernel
theorem dX10_manyAhead_15 : Dn cX10_manyAhead 15 (.aload_n 0) 1 16 := by decide +kernel
theorem dX10_manyAhead_16 : Dn cX10_manyAhead 16 (.iload 5) 2 18 := by decide +kernel
theorem dX10_manyAhead_18 : Dn cX10_manyAhead 18 (.iconst (-1)) 1 19 := by decide +kernel
theorem dX10_manyAhead_19 : Dn cX10_manyAhead 19 (.iload_n 1) 1 20 := by decide +kernel
theorem dX10_manyAhead_20 : Dn cX10_manyAhead 20 (.iconst 1) 1 21 := by decide +kernel
theorem dX10_manyAhead_21 : Dn cX10_manyAhead 21 (.isub) 1 22 := by decide +kernel
theorem dX10_manyAhead_22 : Dn cX10_manyAhead 22 (.invokevirtual 167) 3 25 := by decide +kernel
theorem dX10_manyAhead_25 : Db cX10_manyAhead 25 (.ifCond .eq 18) (18) 28 43 := by decide +kernel
theorem dX10_manyAhead_28 : Dn cX10_manyAhead 28 (.aload_n 0) 1 29 := by decide +kernel
theorem dX10_manyAhead_29 : Dn cX10_manyAhead 29 (.getfield 22) 3 32 := by decide +kernel
theorem dX10_manyAhead_32 : Dn cX10_manyAhead 32 (.iload 5) 2 34 := by decide +kernel
theorem dX10_manyAhead_34 : Dn cX10_manyAhead 34 (.iaload) 1 35 := by decide +kernel
theorem dX10_manyAhead_35 : Dn cX10_manyAhead 35 (.iload_n 3) 1 36 := by decide +kernel
theorem dX10_manyAhead_36 : Db cX10_manyAhead 36 (.if_icmp .lt 7) (7) 39 43 := by decide +kernel
theorem dX10_manyAhead_39 : Dn cX10_manyAhead 39 (.iconst 1) 1 40 := by decide +kernel
theorem dX10_manyAhead_40 : Db cX10_manyAhead 40 (.goto 4) (4) 43 44 := by decide +kernel
theorem dX10_manyAhead_43 : Dn cX10_manyAhead 43 (.iconst 0) 1 44 := by decide +kernel
theorem dX10_manyAhead_44 : Dn cX10_manyAhead 44 (.istore 6) 2 46 := by decide +kernel
theorem dX10_manyAhead_46 : Dn cX10_manyAhead 46 (.iload 4) 2 48 := by decide +kernel
theorem dX10_manyAhead_48 : Dn cX10_manyAhead 48 (.iload 6) 2 50 := by decide +kernel
theorem dX10_manyAhead_50 : Db cX10_manyAhead 50 (.ifCond .eq 31) (31) 53 81 := by decide +kernel
theorem dX10_manyAhead_53 : Dn cX10_manyAhead 53 (.aload_n 0) 1 54 := by decide +kernel
theorem dX10_manyAhead_54 : Dn cX10_manyAhead 54 (.getfield 13) 3 57 := by decide +kernel
theorem dX10_manyAhead_57 : Dn cX10_manyAhead 57 (.iload 5) 2 59 := by decide +kernel
theorem dX10_manyAhead_59 : Dn cX10_manyAhead 59 (.iaload) 1 60 := by decide +kernel
theorem dX10_manyAhead_60 : Dn cX10_manyAhead 60 (.iload_n 1) 1 61 := by decide +kernel
theorem dX10_manyAhead_61 : Db cX10_manyAhead 61 (.if_icmp .ge 20) (20) 64 81 := by decide +kernel
theorem dX10_manyAhead_64 : Dn cX10_manyAhead 64 (.aload_n 0) 1 65 := by decide +kernel
theorem dX10_manyAhead_65 : Dn cX10_manyAhead 65 (.getfield 13) 3 68 := by decide +kernel
theorem dX10_manyAhead_68 : Dn cX10_manyAhead 68 (.iload 5) 2 70 := by decide +kernel
theorem dX10_manyAhead_70 : Dn cX10_manyAhead 70 (.iaload) 1 71 := by decide +kernel
theorem dX10_manyAhead_71 : Dn cX10_manyAhead 71 (.iload_n 1) 1 72 := by decide +kernel
theorem dX10_manyAhead_72 : Dn cX10_manyAhead 72 (.iload_n 2) 1 73 := by decide +kernel
theorem dX10_manyAhead_73 : Dn cX10_manyAhead 73 (.isub) 1 74 := by decide +kernel
theorem dX10_manyAhead_74 : Db cX10_manyAhead 74 (.if_icmp .lt 7) (7) 77 81 := by decide +kernel
theorem dX10_manyAhead_77 : Dn cX10_manyAhead 77 (.iconst 1) 1 78 := by decide +kernel
theorem dX10_manyAhead_78 : Db cX10_manyAhead 78 (.goto 4) (4) 81 82 := by decide +kernel
theorem dX10_manyAhead_81 : Dn cX10_manyAhead 81 (.iconst 0) 1 82 := by decide +kernel
theorem dX10_manyAhead_82 : Dn cX10_manyAhead 82 (.iadd) 1 83 := by decide +kernel
theorem dX10_manyAhead_83 : Dn cX10_manyAhead 83 (.istore 4) 2 85 := by decide +kernel
theorem dX10_manyAhead_85 : Dn cX10_manyAhead 85 (.iinc 5 1) 3 88 := by decide +kernel
theorem dX10_manyAhead_88 : Db cX10_manyAhead 88 (.goto (-82)) (-82) 91 6 := by decide +kernel
theorem dX10_manyAhead_91 : Dn cX10_manyAhead 91 (.iload 4) 2 93 := by decide +kernel
theorem dX10_manyAhead_93 : Dn cX10_manyAhead 93 (.ireturn) 1 94 := by decide +kernel
theorem dX10_toldFor_0 : Dn cX10_toldFor 0 (.iconst 0) 1 1 := by decide +kernel
theorem dX10_toldFor_1 : Dn cX10_toldFor 1 (.istore_n 3) 1 2 := by decide +kernel
theorem dX10_toldFor_2 : Dn cX10_toldFor 2 (.iconst 0) 1 3 := by decide +kernel
theorem dX10_toldFor_3 : Dn cX10_toldFor 3 (.istore 4) 2 5 := by decide +kernel
theorem dX10_toldFor_5 : Dn cX10_toldFor 5 (.bipush 48) 2 7 := by decide +kernel
theorem dX10_toldFor_7 : Dn cX10_toldFor 7 (.iload_n 1) 1 8 := by decide +kernel
theorem dX10_toldFor_8 : Dn cX10_toldFor 8 (.imul) 1 9 := by decide +kernel
theorem dX10_toldFor_9 : Dn cX10_toldFor 9 (.istore 5) 2 11 := by decide +kernel
theorem dX10_toldFor_11 : Dn cX10_toldFor 11 (.iload 5) 2 13 := by decide +kernel
theorem dX10_toldFor_13 : Dn cX10_toldFor 13 (.bipush 48) 2 15 := by decide +kernel
theorem dX10_toldFor_15 : Dn cX10_toldFor 15 (.iload_n 1) 1 16 := by decide +kernel
theorem dX10_toldFor_16 : Dn cX10_toldFor 16 (.imul) 1 17 := by decide +kernel
theorem dX10_toldFor_17 : Dn cX10_toldFor 17 (.aload_n 0) 1 18 := by decide +kernel
theorem dX10_toldFor_18 : Dn cX10_toldFor 18 (.getfield 60) 3 21 := by decide +kernel
theorem dX10_toldFor_21 : Dn cX10_toldFor 21 (.iload_n 1) 1 22 := by decide +kernel
theorem dX10_toldFor_22 : Dn cX10_toldFor 22 (.iaload) 1 23 := by decide +kernel
theorem dX10_toldFor_23 : Dn cX10_toldFor 23 (.iadd) 1 24 := by decide +kernel
theorem dX10_toldFor_24 : Db cX10_toldFor 24 (.if_icmp .ge 116) (116) 27 140 := by decide +kernel
theorem dX10_toldFor_27 : Dn cX10_toldFor 27 (.aload_n 0) 1 28 := by decide +kernel
theorem dX10_toldFor_28 : Dn cX10_toldFor 28 (.getfield 57) 3 31 := by decide +kernel
theorem dX10_toldFor_31 : Dn cX10_toldFor 31 (.iload 5) 2 33 := by decide +kernel
theorem dX10_toldFor_33 : Dn cX10_toldFor 33 (.iaload) 1 34 := by decide +kernel
theorem dX10_toldFor_34 : Dn cX10_toldFor 34 (.invokestatic 258) 3 37 := by decide +kernel
theorem dX10_toldFor_37 : Db cX10_toldFor 37 (.ifCond .eq 24) (24) 40 61 := by decide +kernel
theorem dX10_toldFor_40 : Dn cX10_toldFor 40 (.bipush 10) 2 42 := by decide +kernel
theorem dX10_toldFor_42 : Dn cX10_toldFor 42 (.iload 4) 2 44 := by decide +kernel
theorem dX10_toldFor_44 : Dn cX10_toldFor 44 (.imul) 1 45 := by decide +kernel
theorem dX10_toldFor_45 : Dn cX10_toldFor 45 (.aload_n 0) 1 46 := by decide +kernel
theorem dX10_toldFor_46 : Dn cX10_toldFor 46 (.getfield 57) 3 49 := by decide +kernel
theorem dX10_toldFor_49 : Dn cX10_toldFor 49 (.iload 5) 2 51 := by decide +kernel
theorem dX10_toldFor_51 : Dn cX10_toldFor 51 (.iaload) 1 52 := by decide +kernel
theorem dX10_toldFor_52 : Dn cX10_toldFor 52 (.iadd) 1 53 := by decide +kernel
theorem dX10_toldFor_53 : Dn cX10_toldFor 53 (.bipush 48) 2 55 := by decide +kernel
theorem dX10_toldFor_55 : Dn cX10_toldFor 55 (.isub) 1 56 := by decide +kernel
theorem dX10_toldFor_56 : Dn cX10_toldFor 56 (.istore 4) 2 58 := by decide +kernel
theorem dX10_toldFor_58 : Db cX10_toldFor 58 (.goto 76) (76) 61 134 := by decide +kernel
theorem dX10_toldFor_61 : Dn cX10_toldFor 61 (.aload_n 0) 1 62 := by decide +kernel
theorem dX10_toldFor_62 : Dn cX10_toldFor 62 (.getfield 63) 3 65 := by decide +kernel
theorem dX10_toldFor_65 : Dn cX10_toldFor 65 (.iload_n 3) 1 66 := by decide +kernel
theorem dX10_toldFor_66 : Dn cX10_toldFor 66 (.iload 4) 2 68 := by decide +kernel
theorem dX10_toldFor_68 : Dn cX10_toldFor 68 (.iastore) 1 69 := by decide +kernel
theorem dX10_toldFor_69 : Dn cX10_toldFor 69 (.iconst 0) 1 70 := by decide +kernel
theorem dX10_toldFor_70 : Dn cX10_toldFor 70 (.istore 4) 2 72 := by decide +kernel
theorem dX10_toldFor_72 : Dn cX10_toldFor 72 (.iload_n 3) 1 73 := by decide +kernel
theorem dX10_toldFor_73 : Dn cX10_toldFor 73 (.iconst 3) 1 74 := by decide +kernel
theorem dX10_toldFor_74 : Db cX10_toldFor 74 (.if_icmp .ne 54) (54) 77 128 := by decide +kernel
theorem dX10_toldFor_77 : Dn cX10_toldFor 77 (.aload_n 0) 1 78 := by decide +kernel
theorem dX10_toldFor_78 : Dn cX10_toldFor 78 (.iload_n 2) 1 79 := by decide +kernel
theorem dX10_toldFor_79 : Dn cX10_toldFor 79 (.aload_n 0) 1 80 := by decide +kernel
theorem dX10_toldFor_80 : Dn cX10_toldFor 80 (.getfield 63) 3 83 := by decide +kernel
theorem dX10_toldFor_83 : Dn cX10_toldFor 83 (.iconst 0) 1 84 := by decide +kernel
theorem dX10_toldFor_84 : Dn cX10_toldFor 84 (.iaload) 1 85 := by decide +kernel
theorem dX10_toldFor_85 : Dn cX10_toldFor 85 (.aload_n 0) 1 86 := by decide +kernel
theorem dX10_toldFor_86 : Dn cX10_toldFor 86 (.getfield 63) 3 89 := by decide +kernel
theorem dX10_toldFor_89 : Dn cX10_toldFor 89 (.iconst 1) 1 90 := by decide +kernel
theorem dX10_toldFor_90 : Dn cX10_toldFor 90 (.iaload) 1 91 := by decide +kernel
theorem dX10_toldFor_91 : Dn cX10_toldFor 91 (.invokevirtual 271) 3 94 := by decide +kernel
theorem dX10_toldFor_94 : Dn cX10_toldFor 94 (.aload_n 0) 1 95 := by decide +kernel
theorem dX10_toldFor_95 : Dn cX10_toldFor 95 (.getfield 63) 3 98 := by decide +kernel
theorem dX10_toldFor_98 : Dn cX10_toldFor 98 (.iconst 2) 1 99 := by decide +kernel
theorem dX10_toldFor_99 : Dn cX10_toldFor 99 (.iaload) 1 100 := by decide +kernel
theorem dX10_toldFor_100 : Db cX10_toldFor 100 (.if_icmp .le 28) (28) 103 128 := by decide +kernel
theorem dX10_toldFor_103 : Dn cX10_toldFor 103 (.aload_n 0) 1 104 := by decide +kernel
theorem dX10_toldFor_104 : Dn cX10_toldFor 104 (.getfield 63) 3 107 := by decide +kernel
theorem dX10_toldFor_107 : Dn cX10_toldFor 107 (.iconst 3) 1 108 := by decide +kernel
theorem dX10_toldFor_108 : Dn cX10_toldFor 108 (.iaload) 1 109 := by decide +kernel
theorem dX10_toldFor_109 : Dn cX10_toldFor 109 (.sipush 1000) 3 112 := by decide +kernel
theorem dX10_toldFor_112 : Db cX10_toldFor 112 (.if_icmp .le 9) (9) 115 121 := by decide +kernel
theorem dX10_toldFor_115 : Dn cX10_toldFor 115 (.sipush 1000) 3 118 := by decide +kernel
theorem dX10_toldFor_118 : Db cX10_toldFor 118 (.goto 9) (9) 121 127 := by decide +kernel
theorem dX10_toldFor_121 : Dn cX10_toldFor 121 (.aload_n 0) 1 122 := by decide +kernel
theorem dX10_toldFor_122 : Dn cX10_toldFor 122 (.getfield 63) 3 125 := by decide +kernel
theorem dX10_toldFor_125 : Dn cX10_toldFor 125 (.iconst 3) 1 126 := by decide +kernel
theorem dX10_toldFor_126 : Dn cX10_toldFor 126 (.iaload) 1 127 := by decide +kernel
theorem dX10_toldFor_127 : Dn cX10_toldFor 127 (.ireturn) 1 128 := by decide +kernel
theorem dX10_toldFor_128 : Dn cX10_toldFor 128 (.iload_n 3) 1 129 := by decide +kernel
theorem dX10_toldFor_129 : Dn cX10_toldFor 129 (.iconst 1) 1 130 := by decide +kernel
theorem dX10_toldFor_130 : Dn cX10_toldFor 130 (.iadd) 1 131 := by decide +kernel
theorem dX10_toldFor_131 : Dn cX10_toldFor 131 (.iconst 4) 1 132 := by decide +kernel
theorem dX10_toldFor_132 : Dn cX10_toldFor 132 (.irem) 1 133 := by decide +kernel
theorem dX10_toldFor_133 : Dn cX10_toldFor 133 (.istore_n 3) 1 134 := by decide +kernel
theorem dX10_toldFor_134 : Dn cX10_toldFor 134 (.iinc 5 1) 3 137 := by decide +kernel
theorem dX10_toldFor_137 : Db cX10_toldFor 137 (.goto (-126)) (-126) 140 11 := by decide +kernel
theorem dX10_toldFor_140 : Dn cX10_toldFor 140 (.iload 4) 2 142 := by decide +kernel
theorem dX10_toldFor_142 : Dn cX10_toldFor 142 (.sipush 1000) 3 145 := by decide +kernel
theorem dX10_toldFor_145 : Db cX10_toldFor 145 (.if_icmp .le 9) (9) 148 154 := by decide +kernel
theorem dX10_toldFor_148 : Dn cX10_toldFor 148 (.sipush 1000) 3 151 := by decide +kernel
theorem dX10_toldFor_151 : Db cX10_toldFor 151 (.goto 5) (5) 154 156 := by decide +kernel
theorem dX10_toldFor_154 : Dn cX10_toldFor 154 (.iload 4) 2 156 := by decide +kernel
theorem dX10_toldFor_156 : Dn cX10_toldFor 156 (.ireturn) 1 157 := by decide +kernel
theorem dX10_tells_0 : Dn cX10_tells 0 (.aload_n 0) 1 1 := by decide +kernel
theorem dX10_tells_1 : Dn cX10_tells 1 (.iload_n 1) 1 2 := by decide +kernel
theorem dX10_tells_2 : Dn cX10_tells 2 (.invokevirtual 274) 3 5 := by decide +kernel
theorem dX10_tells_5 : Db cX10_tells 5 (.ifCond .ne 5) (5) 8 10 := by decide +kernel
theorem dX10_tells_8 : Dn cX10_tells 8 (.iconst (-1)) 1 9 := by decide +kernel
theorem dX10_tells_9 : Dn cX10_tells 9 (.ireturn) 1 10 := by decide +kernel
theorem dX10_tells_10 : Dn cX10_tells 10 (.iload_n 2) 1 11 := by decide +kernel
theorem dX10_tells_11 : Dn cX10_tells 11 (.invokestatic 120) 3 14 := by decide +kernel
theorem dX10_tells_14 : Db cX10_tells 14 (.ifCond .eq 12) (12) 17 26 := by decide +kernel
theorem dX10_tells_17 : Dn cX10_tells 17 (.aload_n 0) 1 18 := by decide +kernel
theorem dX10_tells_18 : Dn cX10_tells 18 (.iload_n 1) 1 19 := by decide +kernel
theorem dX10_tells_19 : Dn cX10_tells 19 (.iload_n 2) 1 20 := by decide +kernel
theorem dX10_tells_20 : Dn cX10_tells 20 (.invokevirtual 277) 3 23 := by decide +kernel
theorem dX10_tells_23 : Db cX10_tells 23 (.goto 5) (5) 26 28 := by decide +kernel
theorem dX10_tells_26 : Dn cX10_tells 26 (.bipush (-2)) 2 28 := by decide +kernel
theorem dX10_tells_28 : Dn cX10_tells 28 (.ireturn) 1 29 := by decide +kernel
theorem dX10_hasQuake_0 : Dn cX10_hasQuake 0 (.iconst 0) 1 1 := by decide +kernel
theorem dX10_hasQuake_1 : Dn cX10_hasQuake 1 (.istore_n 3) 1 2 := by decide +kernel
theorem dX10_hasQuake_2 : Dn cX10_hasQuake 2 (.iconst 0) 1 3 := by decide +kernel
theorem dX10_hasQuake_3 : Dn cX10_hasQuake 3 (.istore 4) 2 5 := by decide +kernel
theorem dX10_hasQuake_5 : Dn cX10_hasQuake 5 (.iload 4) 2 7 := by decide +kernel
theorem dX10_hasQuake_7 : Dn cX10_hasQuake 7 (.aload_n 0) 1 8 := by decide +kernel
theorem dX10_hasQuake_8 : Dn cX10_hasQuake 8 (.getfield 96) 3 11 := by decide +kernel
theorem dX10_hasQuake_11 : Db cX10_hasQuake 11 (.if_icmp .ge 51) (51) 14 62 := by decide +kernel
theorem dX10_hasQuake_14 : Dn cX10_hasQuake 14 (.iload_n 3) 1 15 := by decide +kernel
theorem dX10_hasQuake_15 : Db cX10_hasQuake 15 (.ifCond .ne 35) (35) 18 50 := by decide +kernel
theorem dX10_hasQuake_18 : Dn cX10_hasQuake 18 (.aload_n 0) 1 19 := by decide +kernel
theorem dX10_hasQuake_19 : Dn cX10_hasQuake 19 (.getfield 28) 3 22 := by decide +kernel
theorem dX10_hasQuake_22 : Dn cX10_hasQuake 22 (.iload 4) 2 24 := by decide +kernel
theorem dX10_hasQuake_24 : Dn cX10_hasQuake 24 (.baload) 1 25 := by decide +kernel
theorem dX10_hasQuake_25 : Db cX10_hasQuake 25 (.ifCond .ne 29) (29) 28 54 := by decide +kernel
theorem dX10_hasQuake_28 : Dn cX10_hasQuake 28 (.aload_n 0) 1 29 := by decide +kernel
theorem dX10_hasQuake_29 : Dn cX10_hasQuake 29 (.getfield 13) 3 32 := by decide +kernel
theorem dX10_hasQuake_32 : Dn cX10_hasQuake 32 (.iload 4) 2 34 := by decide +kernel
theorem dX10_hasQuake_34 : Dn cX10_hasQuake 34 (.iaload) 1 35 := by decide +kernel
theorem dX10_hasQuake_35 : Dn cX10_hasQuake 35 (.iload_n 1) 1 36 := by decide +kernel
theorem dX10_hasQuake_36 : Db cX10_hasQuake 36 (.if_icmp .ne 18) (18) 39 54 := by decide +kernel
theorem dX10_hasQuake_39 : Dn cX10_hasQuake 39 (.aload_n 0) 1 40 := by decide +kernel
theorem dX10_hasQuake_40 : Dn cX10_hasQuake 40 (.getfield 22) 3 43 := by decide +kernel
theorem dX10_hasQuake_43 : Dn cX10_hasQuake 43 (.iload 4) 2 45 := by decide +kernel
theorem dX10_hasQuake_45 : Dn cX10_hasQuake 45 (.iaload) 1 46 := by decide +kernel
theorem dX10_hasQuake_46 : Dn cX10_hasQuake 46 (.iload_n 2) 1 47 := by decide +kernel
theorem dX10_hasQuake_47 : Db cX10_hasQuake 47 (.if_icmp .lt 7) (7) 50 54 := by decide +kernel
theorem dX10_hasQuake_50 : Dn cX10_hasQuake 50 (.iconst 1) 1 51 := by decide +kernel
theorem dX10_hasQuake_51 : Db cX10_hasQuake 51 (.goto 4) (4) 54 55 := by decide +kernel
theorem dX10_hasQuake_54 : Dn cX10_hasQuake 54 (.iconst 0) 1 55 := by decide +kernel
theorem dX10_hasQuake_55 : Dn cX10_hasQuake 55 (.istore_n 3) 1 56 := by decide +kernel
theorem dX10_hasQuake_56 : Dn cX10_hasQuake 56 (.iinc 4 1) 3 59 := by decide +kernel
theorem dX10_hasQuake_59 : Db cX10_hasQuake 59 (.goto (-54)) (-54) 62 5 := by decide +kernel
theorem dX10_hasQuake_62 : Dn cX10_hasQuake 62 (.iload_n 3) 1 63 := by decide +kernel
theorem dX10_hasQuake_63 : Dn cX10_hasQuake 63 (.ireturn) 1 64 := by decide +kernel
theorem dX10_scoreOf_0 : Dn cX10_scoreOf 0 (.lconst 0) 1 1 := by decide +kernel
theorem dX10_scoreOf_1 : Dn cX10_scoreOf 1 (.lstore 7) 2 3 := by decide +kernel
theorem dX10_scoreOf_3 : Dn cX10_scoreOf 3 (.iload 5) 2 5 := by decide +kernel
theorem dX10_scoreOf_5 : Dn cX10_scoreOf 5 (.istore 9) 2 7 := by decide +kernel
theorem dX10_scoreOf_7 : Dn cX10_scoreOf 7 (.iload 9) 2 9 := by decide +kernel
theorem dX10_scoreOf_9 : Dn cX10_scoreOf 9 (.iload 6) 2 11 := by decide +kernel
theorem dX10_scoreOf_11 : Db cX10_scoreOf 11 (.if_icmp .gt 86) (86) 14 97 := by decide +kernel
theorem dX10_scoreOf_14 : Dn cX10_scoreOf 14 (.iload_n 1) 1 15 := by decide +kernel
theorem dX10_scoreOf_15 : Dn cX10_scoreOf 15 (.iload_n 2) 1 16 := by decide +kernel
theorem dX10_scoreOf_16 : Db cX10_scoreOf 16 (.if_icmp .ne 14) (14) 19 30 := by decide +kernel
theorem dX10_scoreOf_19 : Dn cX10_scoreOf 19 (.aload_n 0) 1 20 := by decide +kernel
theorem dX10_scoreOf_20 : Dn cX10_scoreOf 20 (.iload_n 1) 1 21 := by decide +kernel
theorem dX10_scoreOf_21 : Dn cX10_scoreOf 21 (.iload 9) 2 23 := by decide +kernel
theorem dX10_scoreOf_23 : Dn cX10_scoreOf 23 (.invokevirtual 277) 3 26 := by decide +kernel
theorem dX10_scoreOf_26 : Dn cX10_scoreOf 26 (.i2l) 1 27 := by decide +kernel
theorem dX10_scoreOf_27 : Db cX10_scoreOf 27 (.goto 29) (29) 30 56 := by decide +kernel
theorem dX10_scoreOf_30 : Dn cX10_scoreOf 30 (.iload_n 3) 1 31 := by decide +kernel
theorem dX10_scoreOf_31 : Dn cX10_scoreOf 31 (.aload_n 0) 1 32 := by decide +kernel
theorem dX10_scoreOf_32 : Dn cX10_scoreOf 32 (.iload_n 1) 1 33 := by decide +kernel
theorem dX10_scoreOf_33 : Dn cX10_scoreOf 33 (.iload 9) 2 35 := by decide +kernel
theorem dX10_scoreOf_35 : Dn cX10_scoreOf 35 (.invokevirtual 277) 3 38 := by decide +kernel
theorem dX10_scoreOf_38 : Dn cX10_scoreOf 38 (.imul) 1 39 := by decide +kernel
theorem dX10_scoreOf_39 : Dn cX10_scoreOf 39 (.bipush 10) 2 41 := by decide +kernel
theorem dX10_scoreOf_41 : Dn cX10_scoreOf 41 (.iload_n 3) 1 42 := by decide +kernel
theorem dX10_scoreOf_42 : Dn cX10_scoreOf 42 (.isub) 1 43 := by decide +kernel
theorem dX10_scoreOf_43 : Dn cX10_scoreOf 43 (.aload_n 0) 1 44 := by decide +kernel
theorem dX10_scoreOf_44 : Dn cX10_scoreOf 44 (.iload_n 2) 1 45 := by decide +kernel
theorem dX10_scoreOf_45 : Dn cX10_scoreOf 45 (.iload 9) 2 47 := by decide +kernel
theorem dX10_scoreOf_47 : Dn cX10_scoreOf 47 (.invokevirtual 277) 3 50 := by decide +kernel
theorem dX10_scoreOf_50 : Dn cX10_scoreOf 50 (.imul) 1 51 := by decide +kernel
theorem dX10_scoreOf_51 : Dn cX10_scoreOf 51 (.iadd) 1 52 := by decide +kernel
theorem dX10_scoreOf_52 : Dn cX10_scoreOf 52 (.bipush 10) 2 54 := by decide +kernel
theorem dX10_scoreOf_54 : Dn cX10_scoreOf 54 (.idiv) 1 55 := by decide +kernel
theorem dX10_scoreOf_55 : Dn cX10_scoreOf 55 (.i2l) 1 56 := by decide +kernel
theorem dX10_scoreOf_56 : Dn cX10_scoreOf 56 (.lstore 10) 2 58 := by decide +kernel
theorem dX10_scoreOf_58 : Dn cX10_scoreOf 58 (.lload 10) 2 60 := by decide +kernel
theorem dX10_scoreOf_60 : Dn cX10_scoreOf 60 (.aload_n 0) 1 61 := by decide +kernel
theorem dX10_scoreOf_61 : Dn cX10_scoreOf 61 (.iload 9) 2 63 := by decide +kernel
theorem dX10_scoreOf_63 : Dn cX10_scoreOf 63 (.iload 4) 2 65 := by decide +kernel
theorem dX10_scoreOf_65 : Dn cX10_scoreOf 65 (.invokevirtual 280) 3 68 := by decide +kernel
theorem dX10_scoreOf_68 : Db cX10_scoreOf 68 (.ifCond .eq 9) (9) 71 77 := by decide +kernel
theorem dX10_scoreOf_71 : Dn cX10_scoreOf 71 (.ldc2_w 283) 3 74 := by decide +kernel
theorem dX10_scoreOf_74 : Db cX10_scoreOf 74 (.goto 4) (4) 77 78 := by decide +kernel
theorem dX10_scoreOf_77 : Dn cX10_scoreOf 77 (.lconst 0) 1 78 := by decide +kernel
theorem dX10_scoreOf_78 : Dn cX10_scoreOf 78 (.lsub) 1 79 := by decide +kernel
theorem dX10_scoreOf_79 : Dn cX10_scoreOf 79 (.lstore 12) 2 81 := by decide +kernel
theorem dX10_scoreOf_81 : Dn cX10_scoreOf 81 (.lload 7) 2 83 := by decide +kernel
theorem dX10_scoreOf_83 : Dn cX10_scoreOf 83 (.lload 12) 2 85 := by decide +kernel
theorem dX10_scoreOf_85 : Dn cX10_scoreOf 85 (.lload 12) 2 87 := by decide +kernel
theorem dX10_scoreOf_87 : Dn cX10_scoreOf 87 (.lmul) 1 88 := by decide +kernel
theorem dX10_scoreOf_88 : Dn cX10_scoreOf 88 (.ladd) 1 89 := by decide +kernel
theorem dX10_scoreOf_89 : Dn cX10_scoreOf 89 (.lstore 7) 2 91 := by decide +kernel
theorem dX10_scoreOf_91 : Dn cX10_scoreOf 91 (.iinc 9 1) 3 94 := by decide +kernel
theorem dX10_scoreOf_94 : Db cX10_scoreOf 94 (.goto (-87)) (-87) 97 7 := by decide +kernel
theorem dX10_scoreOf_97 : Dn cX10_scoreOf 97 (.lload 7) 2 99 := by decide +kernel
theorem dX10_scoreOf_99 : Dn cX10_scoreOf 99 (.lreturn) 1 100 := by decide +kernel
theorem dX10_areDays_0 : Dn cX10_areDays 0 (.iload_n 0) 1 1 := by decide +kernel
theorem dX10_areDays_1 : Dn cX10_areDays 1 (.invokestatic 123) 3 4 := by decide +kernel
theorem dX10_areDays_4 : Db cX10_areDays 4 (.ifCond .eq 26) (26) 7 30 := by decide +kernel
theorem dX10_areDays_7 : Dn cX10_areDays 7 (.iload_n 1) 1 8 := by decide +kernel
theorem dX10_areDays_8 : Dn cX10_areDays 8 (.invokestatic 120) 3 11 := by decide +kernel
theorem dX10_areDays_11 : Db cX10_areDays 11 (.ifCond .eq 19) (19) 14 30 := by decide +kernel
theorem dX10_areDays_14 : Dn cX10_areDays 14 (.iload_n 2) 1 15 := by decide +kernel
theorem dX10_areDays_15 : Dn cX10_areDays 15 (.invokestatic 120) 3 18 := by decide +kernel
theorem dX10_areDays_18 : Db cX10_areDays 18 (.ifCond .eq 12) (12) 21 30 := by decide +kernel
theorem dX10_areDays_21 : Dn cX10_areDays 21 (.iload_n 1) 1 22 := by decide +kernel
theorem dX10_areDays_22 : Dn cX10_areDays 22 (.iload_n 2) 1 23 := by decide +kernel
theorem dX10_areDays_23 : Db cX10_areDays 23 (.if_icmp .gt 7) (7) 26 30 := by decide +kernel
theorem dX10_areDays_26 : Dn cX10_areDays 26 (.iconst 1) 1 27 := by decide +kernel
theorem dX10_areDays_27 : Db cX10_areDays 27 (.goto 4) (4) 30 31 := by decide +kernel
theorem dX10_areDays_30 : Dn cX10_areDays 30 (.iconst 0) 1 31 := by decide +kernel
theorem dX10_areDays_31 : Dn cX10_areDays 31 (.ireturn) 1 32 := by decide +kernel
theorem dX10_score_0 : Dn cX10_score 0 (.aload_n 0) 1 1 := by decide +kernel
theorem dX10_score_1 : Dn cX10_score 1 (.iload_n 1) 1 2 := by decide +kernel
theorem dX10_score_2 : Dn cX10_score 2 (.invokevirtual 274) 3 5 := by decide +kernel
theorem dX10_score_5 : Db cX10_score 5 (.ifCond .ne 7) (7) 8 12 := by decide +kernel
theorem dX10_score_8 : Dn cX10_score 8 (.ldc2_w 179) 3 11 := by decide +kernel
theorem dX10_score_11 : Dn cX10_score 11 (.lreturn) 1 12 := by decide +kernel
theorem dX10_score_12 : Dn cX10_score 12 (.iload_n 2) 1 13 := by decide +kernel
theorem dX10_score_13 : Dn cX10_score 13 (.iload_n 3) 1 14 := by decide +kernel
theorem dX10_score_14 : Dn cX10_score 14 (.iload 4) 2 16 := by decide +kernel
theorem dX10_score_16 : Dn cX10_score 16 (.invokestatic 285) 3 19 := by decide +kernel
theorem dX10_score_19 : Db cX10_score 19 (.ifCond .eq 18) (18) 22 37 := by decide +kernel
theorem dX10_score_22 : Dn cX10_score 22 (.aload_n 0) 1 23 := by decide +kernel
theorem dX10_score_23 : Dn cX10_score 23 (.iload_n 1) 1 24 := by decide +kernel
theorem dX10_score_24 : Dn cX10_score 24 (.iload_n 1) 1 25 := by decide +kernel
theorem dX10_score_25 : Dn cX10_score 25 (.bipush 10) 2 27 := by decide +kernel
theorem dX10_score_27 : Dn cX10_score 27 (.iload_n 2) 1 28 := by decide +kernel
theorem dX10_score_28 : Dn cX10_score 28 (.iload_n 3) 1 29 := by decide +kernel
theorem dX10_score_29 : Dn cX10_score 29 (.iload 4) 2 31 := by decide +kernel
theorem dX10_score_31 : Dn cX10_score 31 (.invokevirtual 288) 3 34 := by decide +kernel
theorem dX10_score_34 : Db cX10_score 34 (.goto 6) (6) 37 40 := by decide +kernel
theorem dX10_score_37 : Dn cX10_score 37 (.ldc2_w 184) 3 40 := by decide +kernel
theorem dX10_score_40 : Dn cX10_score 40 (.lreturn) 1 41 := by decide +kernel
theorem dX10_mixed_0 : Dn cX10_mixed 0 (.aload_n 0) 1 1 := by decide +kernel
theorem dX10_mixed_1 : Dn cX10_mixed 1 (.iload_n 1) 1 2 := by decide +kernel
theorem dX10_mixed_2 : Dn cX10_mixed 2 (.invokevirtual 274) 3 5 := by decide +kernel
theorem dX10_mixed_5 : Db cX10_mixed 5 (.ifCond .eq 11) (11) 8 16 := by decide +kernel
theorem dX10_mixed_8 : Dn cX10_mixed 8 (.aload_n 0) 1 9 := by decide +kernel
theorem dX10_mixed_9 : Dn cX10_mixed 9 (.iload_n 2) 1 10 := by decide +kernel
theorem dX10_mixed_10 : Dn cX10_mixed 10 (.invokevirtual 274) 3 13 := by decide +kernel
theorem dX10_mixed_13 : Db cX10_mixed 13 (.ifCond .ne 7) (7) 16 20 := by decide +kernel
theorem dX10_mixed_16 : Dn cX10_mixed 16 (.ldc2_w 179) 3 19 := by decide +kernel
theorem dX10_mixed_19 : Dn cX10_mixed 19 (.lreturn) 1 20 := by decide +kernel
theorem dX10_mixed_20 : Dn cX10_mixed 20 (.iload 4) 2 22 := by decide +kernel
theorem dX10_mixed_22 : Dn cX10_mixed 22 (.iload 5) 2 24 := by decide +kernel
theorem dX10_mixed_24 : Dn cX10_mixed 24 (.iload 6) 2 26 := by decide +kernel
theorem dX10_mixed_26 : Dn cX10_mixed 26 (.invokestatic 285) 3 29 := by decide +kernel
theorem dX10_mixed_29 : Db cX10_mixed 29 (.ifCond .eq 31) (31) 32 60 := by decide +kernel
theorem dX10_mixed_32 : Dn cX10_mixed 32 (.iload_n 3) 1 33 := by decide +kernel
theorem dX10_mixed_33 : Dn cX10_mixed 33 (.i2l) 1 34 := by decide +kernel
theorem dX10_mixed_34 : Dn cX10_mixed 34 (.lconst 0) 1 35 := by decide +kernel
theorem dX10_mixed_35 : Dn cX10_mixed 35 (.ldc2_w 292) 3 38 := by decide +kernel
theorem dX10_mixed_38 : Dn cX10_mixed 38 (.invokestatic 100) 3 41 := by decide +kernel
theorem dX10_mixed_41 : Db cX10_mixed 41 (.ifCond .eq 19) (19) 44 60 := by decide +kernel
theorem dX10_mixed_44 : Dn cX10_mixed 44 (.aload_n 0) 1 45 := by decide +kernel
theorem dX10_mixed_45 : Dn cX10_mixed 45 (.iload_n 1) 1 46 := by decide +kernel
theorem dX10_mixed_46 : Dn cX10_mixed 46 (.iload_n 2) 1 47 := by decide +kernel
theorem dX10_mixed_47 : Dn cX10_mixed 47 (.iload_n 3) 1 48 := by decide +kernel
theorem dX10_mixed_48 : Dn cX10_mixed 48 (.iload 4) 2 50 := by decide +kernel
theorem dX10_mixed_50 : Dn cX10_mixed 50 (.iload 5) 2 52 := by decide +kernel
theorem dX10_mixed_52 : Dn cX10_mixed 52 (.iload 6) 2 54 := by decide +kernel
theorem dX10_mixed_54 : Dn cX10_mixed 54 (.invokevirtual 288) 3 57 := by decide +kernel
theorem dX10_mixed_57 : Db cX10_mixed 57 (.goto 6) (6) 60 63 := by decide +kernel
theorem dX10_mixed_60 : Dn cX10_mixed 60 (.ldc2_w 184) 3 63 := by decide +kernel
theorem dX10_mixed_63 : Dn cX10_mixed 63 (.lreturn) 1 64 := by decide +kernel
theorem dX10_best_0 : Dn cX10_best 0 (.aload_n 0) 1 1 := by decide +kernel
theorem dX10_best_1 : Dn cX10_best 1 (.iload_n 1) 1 2 := by decide +kernel
theorem dX10_best_2 : Dn cX10_best 2 (.invokevirtual 274) 3 5 := by decide +kernel
theorem dX10_best_5 : Db cX10_best 5 (.ifCond .eq 11) (11) 8 16 := by decide +kernel
theorem dX10_best_8 : Dn cX10_best 8 (.aload_n 0) 1 9 := by decide +kernel
theorem dX10_best_9 : Dn cX10_best 9 (.iload_n 2) 1 10 := by decide +kernel
theorem dX10_best_10 : Dn cX10_best 10 (.invokevirtual 274) 3 13 := by decide +kernel
theorem dX10_best_13 : Db cX10_best 13 (.ifCond .ne 5) (5) 16 18 := by decide +kernel
theorem dX10_best_16 : Dn cX10_best 16 (.iconst (-1)) 1 17 := by decide +kernel
theorem dX10_best_17 : Dn cX10_best 17 (.ireturn) 1 18 := by decide +kernel
theorem dX10_best_18 : Dn cX10_best 18 (.iload_n 3) 1 19 := by decide +kernel
theorem dX10_best_19 : Dn cX10_best 19 (.iload 4) 2 21 := by decide +kernel
theorem dX10_best_21 : Dn cX10_best 21 (.iload 5) 2 23 := by decide +kernel
theorem dX10_best_23 : Dn cX10_best 23 (.invokestatic 285) 3 26 := by decide +kernel
theorem dX10_best_26 : Db cX10_best 26 (.ifCond .ne 6) (6) 29 32 := by decide +kernel
theorem dX10_best_29 : Dn cX10_best 29 (.bipush (-2)) 2 31 := by decide +kernel
theorem dX10_best_31 : Dn cX10_best 31 (.ireturn) 1 32 := by decide +kernel
theorem dX10_best_32 : Dn cX10_best 32 (.iconst 0) 1 33 := by decide +kernel
theorem dX10_best_33 : Dn cX10_best 33 (.istore 6) 2 35 := by decide +kernel
theorem dX10_best_35 : Dn cX10_best 35 (.aload_n 0) 1 36 := by decide +kernel
theorem dX10_best_36 : Dn cX10_best 36 (.iload_n 1) 1 37 := by decide +kernel
theorem dX10_best_37 : Dn cX10_best 37 (.iload_n 2) 1 38 := by decide +kernel
theorem dX10_best_38 : Dn cX10_best 38 (.iconst 0) 1 39 := by decide +kernel
theorem dX10_best_39 : Dn cX10_best 39 (.iload_n 3) 1 40 := by decide +kernel
theorem dX10_best_40 : Dn cX10_best 40 (.iload 4) 2 42 := by decide +kernel
theorem dX10_best_42 : Dn cX10_best 42 (.iload 5) 2 44 := by decide +kernel
theorem dX10_best_44 : Dn cX10_best 44 (.invokevirtual 288) 3 47 := by decide +kernel
theorem dX10_best_47 : Dn cX10_best 47 (.lstore 7) 2 49 := by decide +kernel
theorem dX10_best_49 : Dn cX10_best 49 (.iconst 1) 1 50 := by decide +kernel
theorem dX10_best_50 : Dn cX10_best 50 (.istore 9) 2 52 := by decide +kernel
theorem dX10_best_52 : Dn cX10_best 52 (.iload 9) 2 54 := by decide +kernel
theorem dX10_best_54 : Dn cX10_best 54 (.bipush 10) 2 56 := by decide +kernel
theorem dX10_best_56 : Db cX10_best 56 (.if_icmp .gt 40) (40) 59 96 := by decide +kernel
theorem dX10_best_59 : Dn cX10_best 59 (.aload_n 0) 1 60 := by decide +kernel
theorem dX10_best_60 : Dn cX10_best 60 (.iload_n 1) 1 61 := by decide +kernel
theorem dX10_best_61 : Dn cX10_best 61 (.iload_n 2) 1 62 := by decide +kernel
theorem dX10_best_62 : Dn cX10_best 62 (.iload 9) 2 64 := by decide +kernel
theorem dX10_best_64 : Dn cX10_best 64 (.iload_n 3) 1 65 := by decide +kernel
theorem dX10_best_65 : Dn cX10_best 65 (.iload 4) 2 67 := by decide +kernel
theorem dX10_best_67 : Dn cX10_best 67 (.iload 5) 2 69 := by decide +kernel
theorem dX10_best_69 : Dn cX10_best 69 (.invokevirtual 288) 3 72 := by decide +kernel
theorem dX10_best_72 : Dn cX10_best 72 (.lstore 10) 2 74 := by decide +kernel
theorem dX10_best_74 : Dn cX10_best 74 (.lload 10) 2 76 := by decide +kernel
theorem dX10_best_76 : Dn cX10_best 76 (.lload 7) 2 78 := by decide +kernel
theorem dX10_best_78 : Dn cX10_best 78 (.lcmp) 1 79 := by decide +kernel
theorem dX10_best_79 : Db cX10_best 79 (.ifCond .ge 11) (11) 82 90 := by decide +kernel
theorem dX10_best_82 : Dn cX10_best 82 (.lload 10) 2 84 := by decide +kernel
theorem dX10_best_84 : Dn cX10_best 84 (.lstore 7) 2 86 := by decide +kernel
theorem dX10_best_86 : Dn cX10_best 86 (.iload 9) 2 88 := by decide +kernel
theorem dX10_best_88 : Dn cX10_best 88 (.istore 6) 2 90 := by decide +kernel
theorem dX10_best_90 : Dn cX10_best 90 (.iinc 9 1) 3 93 := by decide +kernel
theorem dX10_best_93 : Db cX10_best 93 (.goto (-41)) (-41) 96 52 := by decide +kernel
theorem dX10_best_96 : Dn cX10_best 96 (.iload 6) 2 98 := by decide +kernel
theorem dX10_best_98 : Dn cX10_best 98 (.ireturn) 1 99 := by decide +kernel
theorem dX10_house_0 : Dn cX10_house 0 (.iload_n 1) 1 1 := by decide +kernel
theorem dX10_house_1 : Dn cX10_house 1 (.iload_n 2) 1 2 := by decide +kernel
theorem dX10_house_2 : Dn cX10_house 2 (.invokestatic 116) 3 5 := by decide +kernel
theorem dX10_house_5 : Db cX10_house 5 (.ifCond .ne 5) (5) 8 10 := by decide +kernel
theorem dX10_house_8 : Dn cX10_house 8 (.iconst (-1)) 1 9 := by decide +kernel
theorem dX10_house_9 : Dn cX10_house 9 (.ireturn) 1 10 := by decide +kernel
theorem dX10_house_10 : Dn cX10_house 10 (.iload_n 3) 1 11 := by decide +kernel
theorem dX10_house_11 : Dn cX10_house 11 (.i2l) 1 12 := by decide +kernel
theorem dX10_house_12 : Dn cX10_house 12 (.lconst 0) 1 13 := by decide +kernel
theorem dX10_house_13 : Dn cX10_house 13 (.ldc2_w 110) 3 16 := by decide +kernel
theorem dX10_house_16 : Dn cX10_house 16 (.invokestatic 100) 3 19 := by decide +kernel
theorem dX10_house_19 : Db cX10_house 19 (.ifCond .eq 29) (29) 22 48 := by decide +kernel
theorem dX10_house_22 : Dn cX10_house 22 (.iload 4) 2 24 := by decide +kernel
theorem dX10_house_24 : Dn cX10_house 24 (.i2l) 1 25 := by decide +kernel
theorem dX10_house_25 : Dn cX10_house 25 (.lconst 0) 1 26 := by decide +kernel
theorem dX10_house_26 : Dn cX10_house 26 (.ldc2_w 294) 3 29 := by decide +kernel
theorem dX10_house_29 : Dn cX10_house 29 (.invokestatic 100) 3 32 := by decide +kernel
theorem dX10_house_32 : Db cX10_house 32 (.ifCond .eq 16) (16) 35 48 := by decide +kernel
theorem dX10_house_35 : Dn cX10_house 35 (.iload 5) 2 37 := by decide +kernel
theorem dX10_house_37 : Dn cX10_house 37 (.i2l) 1 38 := by decide +kernel
theorem dX10_house_38 : Dn cX10_house 38 (.lconst 0) 1 39 := by decide +kernel
theorem dX10_house_39 : Dn cX10_house 39 (.ldc2_w 198) 3 42 := by decide +kernel
theorem dX10_house_42 : Dn cX10_house 42 (.invokestatic 100) 3 45 := by decide +kernel
theorem dX10_house_45 : Db cX10_house 45 (.ifCond .ne 6) (6) 48 51 := by decide +kernel
theorem dX10_house_48 : Dn cX10_house 48 (.bipush (-2)) 2 50 := by decide +kernel
theorem dX10_house_50 : Dn cX10_house 50 (.ireturn) 1 51 := by decide +kernel
theorem dX10_house_51 : Dn cX10_house 51 (.aload_n 0) 1 52 := by decide +kernel
theorem dX10_house_52 : Dn cX10_house 52 (.getfield 296) 3 55 := by decide +kernel
theorem dX10_house_55 : Dn cX10_house 55 (.bipush 12) 2 57 := by decide +kernel
theorem dX10_house_57 : Db cX10_house 57 (.if_icmp .ne 6) (6) 60 63 := by decide +kernel
theorem dX10_house_60 : Dn cX10_house 60 (.bipush (-4)) 2 62 := by decide +kernel
theorem dX10_house_62 : Dn cX10_house 62 (.ireturn) 1 63 := by decide +kernel
theorem dX10_house_63 : Dn cX10_house 63 (.aload_n 0) 1 64 := by decide +kernel
theorem dX10_house_64 : Dn cX10_house 64 (.getfield 66) 3 67 := by decide +kernel
theorem dX10_house_67 : Dn cX10_house 67 (.aload_n 0) 1 68 := by decide +kernel
theorem dX10_house_68 : Dn cX10_house 68 (.getfield 296) 3 71 := by decide +kernel
theorem dX10_house_71 : Dn cX10_house 71 (.iload_n 1) 1 72 := by decide +kernel
theorem dX10_house_72 : Dn cX10_house 72 (.iastore) 1 73 := by decide +kernel
theorem dX10_house_73 : Dn cX10_house 73 (.aload_n 0) 1 74 := by decide +kernel
theorem dX10_house_74 : Dn cX10_house 74 (.getfield 69) 3 77 := by decide +kernel
theorem dX10_house_77 : Dn cX10_house 77 (.aload_n 0) 1 78 := by decide +kernel
theorem dX10_house_78 : Dn cX10_house 78 (.getfield 296) 3 81 := by decide +kernel
theorem dX10_house_81 : Dn cX10_house 81 (.iload_n 2) 1 82 := by decide +kernel
theorem dX10_house_82 : Dn cX10_house 82 (.iastore) 1 83 := by decide +kernel
theorem dX10_house_83 : Dn cX10_house 83 (.aload_n 0) 1 84 := by decide +kernel
theorem dX10_house_84 : Dn cX10_house 84 (.getfield 72) 3 87 := by decide +kernel
theorem dX10_house_87 : Dn cX10_house 87 (.aload_n 0) 1 88 := by decide +kernel
theorem dX10_house_88 : Dn cX10_house 88 (.getfield 296) 3 91 := by decide +kernel
theorem dX10_house_91 : Dn cX10_house 91 (.iload_n 3) 1 92 := by decide +kernel
theorem dX10_house_92 : Dn cX10_house 92 (.iastore) 1 93 := by decide +kernel
theorem dX10_house_93 : Dn cX10_house 93 (.aload_n 0) 1 94 := by decide +kernel
theorem dX10_house_94 : Dn cX10_house 94 (.getfield 75) 3 97 := by decide +kernel
theorem dX10_house_97 : Dn cX10_house 97 (.aload_n 0) 1 98 := by decide +kernel
theorem dX10_house_98 : Dn cX10_house 98 (.getfield 296) 3 101 := by decide +kernel
theorem dX10_house_101 : Dn cX10_house 101 (.iload 4) 2 103 := by decide +kernel
theorem dX10_house_103 : Dn cX10_house 103 (.iastore) 1 104 := by decide +kernel
theorem dX10_house_104 : Dn cX10_house 104 (.aload_n 0) 1 105 := by decide +kernel
theorem dX10_house_105 : Dn cX10_house 105 (.getfield 78) 3 108 := by decide +kernel
theorem dX10_house_108 : Dn cX10_house 108 (.aload_n 0) 1 109 := by decide +kernel
theorem dX10_house_109 : Dn cX10_house 109 (.getfield 296) 3 112 := by decide +kernel
theorem dX10_house_112 : Dn cX10_house 112 (.iload 5) 2 114 := by decide +kernel
theorem dX10_house_114 : Dn cX10_house 114 (.iastore) 1 115 := by decide +kernel
theorem dX10_house_115 : Dn cX10_house 115 (.aload_n 0) 1 116 := by decide +kernel
theorem dX10_house_116 : Dn cX10_house 116 (.dup) 1 117 := by decide +kernel
theorem dX10_house_117 : Dn cX10_house 117 (.getfield 296) 3 120 := by decide +kernel
theorem dX10_house_120 : Dn cX10_house 120 (.iconst 1) 1 121 := by decide +kernel
theorem dX10_house_121 : Dn cX10_house 121 (.iadd) 1 122 := by decide +kernel
theorem dX10_house_122 : Dn cX10_house 122 (.putfield 296) 3 125 := by decide +kernel
theorem dX10_house_125 : Dn cX10_house 125 (.aload_n 0) 1 126 := by decide +kernel
theorem dX10_house_126 : Dn cX10_house 126 (.getfield 296) 3 129 := by decide +kernel
theorem dX10_house_129 : Dn cX10_house 129 (.iconst 1) 1 130 := by decide +kernel
theorem dX10_house_130 : Dn cX10_house 130 (.isub) 1 131 := by decide +kernel
theorem dX10_house_131 : Dn cX10_house 131 (.ireturn) 1 132 := by decide +kernel
theorem dX10_damage_0 : Dn cX10_damage 0 (.iload_n 1) 1 1 := by decide +kernel
theorem dX10_damage_1 : Dn cX10_damage 1 (.i2l) 1 2 := by decide +kernel
theorem dX10_damage_2 : Dn cX10_damage 2 (.lconst 0) 1 3 := by decide +kernel
theorem dX10_damage_3 : Dn cX10_damage 3 (.ldc2_w 232) 3 6 := by decide +kernel
theorem dX10_damage_6 : Dn cX10_damage 6 (.invokestatic 100) 3 9 := by decide +kernel
theorem dX10_damage_9 : Db cX10_damage 9 (.ifCond .eq 27) (27) 12 36 := by decide +kernel
theorem dX10_damage_12 : Dn cX10_damage 12 (.iload_n 2) 1 13 := by decide +kernel
theorem dX10_damage_13 : Dn cX10_damage 13 (.i2l) 1 14 := by decide +kernel
theorem dX10_damage_14 : Dn cX10_damage 14 (.lconst 0) 1 15 := by decide +kernel
theorem dX10_damage_15 : Dn cX10_damage 15 (.ldc2_w 204) 3 18 := by decide +kernel
theorem dX10_damage_18 : Dn cX10_damage 18 (.invokestatic 100) 3 21 := by decide +kernel
theorem dX10_damage_21 : Db cX10_damage 21 (.ifCond .eq 15) (15) 24 36 := by decide +kernel
theorem dX10_damage_24 : Dn cX10_damage 24 (.iload_n 3) 1 25 := by decide +kernel
theorem dX10_damage_25 : Dn cX10_damage 25 (.i2l) 1 26 := by decide +kernel
theorem dX10_damage_26 : Dn cX10_damage 26 (.lconst 0) 1 27 := by decide +kernel
theorem dX10_damage_27 : Dn cX10_damage 27 (.ldc2_w 198) 3 30 := by decide +kernel
theorem dX10_damage_30 : Dn cX10_damage 30 (.invokestatic 100) 3 33 := by decide +kernel
theorem dX10_damage_33 : Db cX10_damage 33 (.ifCond .ne 6) (6) 36 39 := by decide +kernel
theorem dX10_damage_36 : Dn cX10_damage 36 (.bipush (-2)) 2 38 := by decide +kernel
theorem dX10_damage_38 : Dn cX10_damage 38 (.ireturn) 1 39 := by decide +kernel
theorem dX10_damage_39 : Dn cX10_damage 39 (.aload_n 0) 1 40 := by decide +kernel
theorem dX10_damage_40 : Dn cX10_damage 40 (.getfield 81) 3 43 := by decide +kernel
theorem dX10_damage_43 : Dn cX10_damage 43 (.bipush 10) 2 45 := by decide +kernel
theorem dX10_damage_45 : Dn cX10_damage 45 (.iload_n 1) 1 46 := by decide +kernel
theorem dX10_damage_46 : Dn cX10_damage 46 (.imul) 1 47 := by decide +kernel
theorem dX10_damage_47 : Dn cX10_damage 47 (.iload_n 2) 1 48 := by decide +kernel
theorem dX10_damage_48 : Dn cX10_damage 48 (.iadd) 1 49 := by decide +kernel
theorem dX10_damage_49 : Dn cX10_damage 49 (.iaload) 1 50 := by decide +kernel
theorem dX10_damage_50 : Dn cX10_damage 50 (.istore 4) 2 52 := by decide +kernel
theorem dX10_damage_52 : Dn cX10_damage 52 (.aload_n 0) 1 53 := by decide +kernel
theorem dX10_damage_53 : Dn cX10_damage 53 (.getfield 81) 3 56 := by decide +kernel
theorem dX10_damage_56 : Dn cX10_damage 56 (.bipush 10) 2 58 := by decide +kernel
theorem dX10_damage_58 : Dn cX10_damage 58 (.iload_n 1) 1 59 := by decide +kernel
theorem dX10_damage_59 : Dn cX10_damage 59 (.imul) 1 60 := by decide +kernel
theorem dX10_damage_60 : Dn cX10_damage 60 (.iload_n 2) 1 61 := by decide +kernel
theorem dX10_damage_61 : Dn cX10_damage 61 (.iadd) 1 62 := by decide +kernel
theorem dX10_damage_62 : Dn cX10_damage 62 (.iload_n 3) 1 63 := by decide +kernel
theorem dX10_damage_63 : Dn cX10_damage 63 (.iastore) 1 64 := by decide +kernel
theorem dX10_damage_64 : Dn cX10_damage 64 (.iload 4) 2 66 := by decide +kernel
theorem dX10_damage_66 : Dn cX10_damage 66 (.ireturn) 1 67 := by decide +kernel
theorem dX10_lossBy_0 : Dn cX10_lossBy 0 (.iconst 0) 1 1 := by decide +kernel
theorem dX10_lossBy_1 : Dn cX10_lossBy 1 (.istore 5) 2 3 := by decide +kernel
theorem dX10_lossBy_3 : Dn cX10_lossBy 3 (.iconst 0) 1 4 := by decide +kernel
theorem dX10_lossBy_4 : Dn cX10_lossBy 4 (.istore 6) 2 6 := by decide +kernel
theorem dX10_lossBy_6 : Dn cX10_lossBy 6 (.iload 6) 2 8 := by decide +kernel
theorem dX10_lossBy_8 : Dn cX10_lossBy 8 (.aload_n 0) 1 9 := by decide +kernel
theorem dX10_lossBy_9 : Dn cX10_lossBy 9 (.getfield 296) 3 12 := by decide +kernel
theorem dX10_lossBy_12 : Db cX10_lossBy 12 (.if_icmp .ge 104) (104) 15 116 := by decide +kernel
theorem dX10_lossBy_15 : Dn cX10_lossBy 15 (.iload_n 3) 1 16 := by decide +kernel
theorem dX10_lossBy_16 : Dn cX10_lossBy 16 (.aload_n 0) 1 17 := by decide +kernel
theorem dX10_lossBy_17 : Dn cX10_lossBy 17 (.getfield 32) 3 20 := by decide +kernel
theorem dX10_lossBy_20 : Dn cX10_lossBy 20 (.iconst 4) 1 21 := by decide +kernel
theorem dX10_lossBy_21 : Dn cX10_lossBy 21 (.iaload) 1 22 := by decide +kernel
theorem dX10_lossBy_22 : Dn cX10_lossBy 22 (.iload_n 1) 1 23 := by decide +kernel
theorem dX10_lossBy_23 : Dn cX10_lossBy 23 (.iload_n 2) 1 24 := by decide +kernel
theorem dX10_lossBy_24 : Dn cX10_lossBy 24 (.aload_n 0) 1 25 := by decide +kernel
theorem dX10_lossBy_25 : Dn cX10_lossBy 25 (.getfield 66) 3 28 := by decide +kernel
theorem dX10_lossBy_28 : Dn cX10_lossBy 28 (.iload 6) 2 30 := by decide +kernel
theorem dX10_lossBy_30 : Dn cX10_lossBy 30 (.iaload) 1 31 := by decide +kernel
theorem dX10_lossBy_31 : Dn cX10_lossBy 31 (.aload_n 0) 1 32 := by decide +kernel
theorem dX10_lossBy_32 : Dn cX10_lossBy 32 (.getfield 69) 3 35 := by decide +kernel
theorem dX10_lossBy_35 : Dn cX10_lossBy 35 (.iload 6) 2 37 := by decide +kernel
theorem dX10_lossBy_37 : Dn cX10_lossBy 37 (.iaload) 1 38 := by decide +kernel
theorem dX10_lossBy_38 : Dn cX10_lossBy 38 (.invokestatic 142) 3 41 := by decide +kernel
theorem dX10_lossBy_41 : Dn cX10_lossBy 41 (.imul) 1 42 := by decide +kernel
theorem dX10_lossBy_42 : Dn cX10_lossBy 42 (.isub) 1 43 := by decide +kernel
theorem dX10_lossBy_43 : Dn cX10_lossBy 43 (.istore 7) 2 45 := by decide +kernel
theorem dX10_lossBy_45 : Dn cX10_lossBy 45 (.iload 4) 2 47 := by decide +kernel
theorem dX10_lossBy_47 : Dn cX10_lossBy 47 (.iload 6) 2 49 := by decide +kernel
theorem dX10_lossBy_49 : Dn cX10_lossBy 49 (.ishr) 1 50 := by decide +kernel
theorem dX10_lossBy_50 : Dn cX10_lossBy 50 (.iconst 1) 1 51 := by decide +kernel
theorem dX10_lossBy_51 : Dn cX10_lossBy 51 (.iand) 1 52 := by decide +kernel
theorem dX10_lossBy_52 : Dn cX10_lossBy 52 (.iconst 1) 1 53 := by decide +kernel
theorem dX10_lossBy_53 : Db cX10_lossBy 53 (.if_icmp .ne 7) (7) 56 60 := by decide +kernel
theorem dX10_lossBy_56 : Dn cX10_lossBy 56 (.iconst 3) 1 57 := by decide +kernel
theorem dX10_lossBy_57 : Db cX10_lossBy 57 (.goto 10) (10) 60 67 := by decide +kernel
theorem dX10_lossBy_60 : Dn cX10_lossBy 60 (.aload_n 0) 1 61 := by decide +kernel
theorem dX10_lossBy_61 : Dn cX10_lossBy 61 (.getfield 72) 3 64 := by decide +kernel
theorem dX10_lossBy_64 : Dn cX10_lossBy 64 (.iload 6) 2 66 := by decide +kernel
theorem dX10_lossBy_66 : Dn cX10_lossBy 66 (.iaload) 1 67 := by decide +kernel
theorem dX10_lossBy_67 : Dn cX10_lossBy 67 (.istore 8) 2 69 := by decide +kernel
theorem dX10_lossBy_69 : Dn cX10_lossBy 69 (.iload 5) 2 71 := by decide +kernel
theorem dX10_lossBy_71 : Dn cX10_lossBy 71 (.aload_n 0) 1 72 := by decide +kernel
theorem dX10_lossBy_72 : Dn cX10_lossBy 72 (.getfield 75) 3 75 := by decide +kernel
theorem dX10_lossBy_75 : Dn cX10_lossBy 75 (.iload 6) 2 77 := by decide +kernel
theorem dX10_lossBy_77 : Dn cX10_lossBy 77 (.iaload) 1 78 := by decide +kernel
theorem dX10_lossBy_78 : Dn cX10_lossBy 78 (.aload_n 0) 1 79 := by decide +kernel
theorem dX10_lossBy_79 : Dn cX10_lossBy 79 (.getfield 81) 3 82 := by decide +kernel
theorem dX10_lossBy_82 : Dn cX10_lossBy 82 (.bipush 10) 2 84 := by decide +kernel
theorem dX10_lossBy_84 : Dn cX10_lossBy 84 (.iload 8) 2 86 := by decide +kernel
theorem dX10_lossBy_86 : Dn cX10_lossBy 86 (.imul) 1 87 := by decide +kernel
theorem dX10_lossBy_87 : Dn cX10_lossBy 87 (.iload 7) 2 89 := by decide +kernel
theorem dX10_lossBy_89 : Db cX10_lossBy 89 (.ifCond .ge 7) (7) 92 96 := by decide +kernel
theorem dX10_lossBy_92 : Dn cX10_lossBy 92 (.iconst 0) 1 93 := by decide +kernel
theorem dX10_lossBy_93 : Db cX10_lossBy 93 (.goto 8) (8) 96 101 := by decide +kernel
theorem dX10_lossBy_96 : Dn cX10_lossBy 96 (.iload 7) 2 98 := by decide +kernel
theorem dX10_lossBy_98 : Dn cX10_lossBy 98 (.bipush 10) 2 100 := by decide +kernel
theorem dX10_lossBy_100 : Dn cX10_lossBy 100 (.idiv) 1 101 := by decide +kernel
theorem dX10_lossBy_101 : Dn cX10_lossBy 101 (.iadd) 1 102 := by decide +kernel
theorem dX10_lossBy_102 : Dn cX10_lossBy 102 (.iaload) 1 103 := by decide +kernel
theorem dX10_lossBy_103 : Dn cX10_lossBy 103 (.imul) 1 104 := by decide +kernel
theorem dX10_lossBy_104 : Dn cX10_lossBy 104 (.bipush 100) 2 106 := by decide +kernel
theorem dX10_lossBy_106 : Dn cX10_lossBy 106 (.idiv) 1 107 := by decide +kernel
theorem dX10_lossBy_107 : Dn cX10_lossBy 107 (.iadd) 1 108 := by decide +kernel
theorem dX10_lossBy_108 : Dn cX10_lossBy 108 (.istore 5) 2 110 := by decide +kernel
theorem dX10_lossBy_110 : Dn cX10_lossBy 110 (.iinc 6 1) 3 113 := by decide +kernel
theorem dX10_lossBy_113 : Db cX10_lossBy 113 (.goto (-107)) (-107) 116 6 := by decide +kernel
theorem dX10_lossBy_116 : Dn cX10_lossBy 116 (.iload 5) 2 118 := by decide +kernel
theorem dX10_lossBy_118 : Dn cX10_lossBy 118 (.ireturn) 1 119 := by decide +kernel
theorem dX10_lossOf_0 : Dn cX10_lossOf 0 (.aload_n 0) 1 1 := by decide +kernel
theorem dX10_lossOf_1 : Dn cX10_lossOf 1 (.aload_n 0) 1 2 := by decide +kernel
theorem dX10_lossOf_2 : Dn cX10_lossOf 2 (.getfield 16) 3 5 := by decide +kernel
theorem dX10_lossOf_5 : Dn cX10_lossOf 5 (.iload_n 1) 1 6 := by decide +kernel
theorem dX10_lossOf_6 : Dn cX10_lossOf 6 (.iaload) 1 7 := by decide +kernel
theorem dX10_lossOf_7 : Dn cX10_lossOf 7 (.aload_n 0) 1 8 := by decide +kernel
theorem dX10_lossOf_8 : Dn cX10_lossOf 8 (.getfield 19) 3 11 := by decide +kernel
theorem dX10_lossOf_11 : Dn cX10_lossOf 11 (.iload_n 1) 1 12 := by decide +kernel
theorem dX10_lossOf_12 : Dn cX10_lossOf 12 (.iaload) 1 13 := by decide +kernel
theorem dX10_lossOf_13 : Dn cX10_lossOf 13 (.aload_n 0) 1 14 := by decide +kernel
theorem dX10_lossOf_14 : Dn cX10_lossOf 14 (.getfield 22) 3 17 := by decide +kernel
theorem dX10_lossOf_17 : Dn cX10_lossOf 17 (.iload_n 1) 1 18 := by decide +kernel
theorem dX10_lossOf_18 : Dn cX10_lossOf 18 (.iaload) 1 19 := by decide +kernel
theorem dX10_lossOf_19 : Dn cX10_lossOf 19 (.iconst 0) 1 20 := by decide +kernel
theorem dX10_lossOf_20 : Dn cX10_lossOf 20 (.invokevirtual 299) 3 23 := by decide +kernel
theorem dX10_lossOf_23 : Dn cX10_lossOf 23 (.ireturn) 1 24 := by decide +kernel
theorem dX10_loss_0 : Dn cX10_loss 0 (.aload_n 0) 1 1 := by decide +kernel
theorem dX10_loss_1 : Dn cX10_loss 1 (.iload_n 1) 1 2 := by decide +kernel
theorem dX10_loss_2 : Dn cX10_loss 2 (.invokevirtual 126) 3 5 := by decide +kernel
theorem dX10_loss_5 : Db cX10_loss 5 (.ifCond .eq 11) (11) 8 16 := by decide +kernel
theorem dX10_loss_8 : Dn cX10_loss 8 (.aload_n 0) 1 9 := by decide +kernel
theorem dX10_loss_9 : Dn cX10_loss 9 (.iload_n 1) 1 10 := by decide +kernel
theorem dX10_loss_10 : Dn cX10_loss 10 (.invokevirtual 302) 3 13 := by decide +kernel
theorem dX10_loss_13 : Db cX10_loss 13 (.goto 4) (4) 16 17 := by decide +kernel
theorem dX10_loss_16 : Dn cX10_loss 16 (.iconst (-1)) 1 17 := by decide +kernel
theorem dX10_loss_17 : Dn cX10_loss 17 (.ireturn) 1 18 := by decide +kernel
theorem dX10_worst_0 : Dn cX10_worst 0 (.iload_n 1) 1 1 := by decide +kernel
theorem dX10_worst_1 : Dn cX10_worst 1 (.invokestatic 120) 3 4 := by decide +kernel
theorem dX10_worst_4 : Db cX10_worst 4 (.ifCond .eq 13) (13) 7 17 := by decide +kernel
theorem dX10_worst_7 : Dn cX10_worst 7 (.iload_n 2) 1 8 := by decide +kernel
theorem dX10_worst_8 : Dn cX10_worst 8 (.i2l) 1 9 := by decide +kernel
theorem dX10_worst_9 : Dn cX10_worst 9 (.lconst 0) 1 10 := by decide +kernel
theorem dX10_worst_10 : Dn cX10_worst 10 (.lconst 1) 1 11 := by decide +kernel
theorem dX10_worst_11 : Dn cX10_worst 11 (.invokestatic 100) 3 14 := by decide +kernel
theorem dX10_worst_14 : Db cX10_worst 14 (.ifCond .ne 6) (6) 17 20 := by decide +kernel
theorem dX10_worst_17 : Dn cX10_worst 17 (.bipush (-2)) 2 19 := by decide +kernel
theorem dX10_worst_19 : Dn cX10_worst 19 (.ireturn) 1 20 := by decide +kernel
theorem dX10_worst_20 : Dn cX10_worst 20 (.bipush (-6)) 2 22 := by decide +kernel
theorem dX10_worst_22 : Dn cX10_worst 22 (.istore_n 3) 1 23 := by decide +kernel
theorem dX10_worst_23 : Dn cX10_worst 23 (.iconst 0) 1 24 := by decide +kernel
theorem dX10_worst_24 : Dn cX10_worst 24 (.istore 4) 2 26 := by decide +kernel
theorem dX10_worst_26 : Dn cX10_worst 26 (.iload 4) 2 28 := by decide +kernel
theorem dX10_worst_28 : Dn cX10_worst 28 (.aload_n 0) 1 29 := by decide +kernel
theorem dX10_worst_29 : Dn cX10_worst 29 (.getfield 96) 3 32 := by decide +kernel
theorem dX10_worst_32 : Db cX10_worst 32 (.if_icmp .ge 50) (50) 35 82 := by decide +kernel
theorem dX10_worst_35 : Dn cX10_worst 35 (.aload_n 0) 1 36 := by decide +kernel
theorem dX10_worst_36 : Dn cX10_worst 36 (.getfield 35) 3 39 := by decide +kernel
theorem dX10_worst_39 : Dn cX10_worst 39 (.iload 4) 2 41 := by decide +kernel
theorem dX10_worst_41 : Dn cX10_worst 41 (.iaload) 1 42 := by decide +kernel
theorem dX10_worst_42 : Dn cX10_worst 42 (.istore 5) 2 44 := by decide +kernel
theorem dX10_worst_44 : Dn cX10_worst 44 (.aload_n 0) 1 45 := by decide +kernel
theorem dX10_worst_45 : Dn cX10_worst 45 (.iload 5) 2 47 := by decide +kernel
theorem dX10_worst_47 : Dn cX10_worst 47 (.iconst (-1)) 1 48 := by decide +kernel
theorem dX10_worst_48 : Dn cX10_worst 48 (.iload_n 1) 1 49 := by decide +kernel
theorem dX10_worst_49 : Dn cX10_worst 49 (.invokevirtual 167) 3 52 := by decide +kernel
theorem dX10_worst_52 : Db cX10_worst 52 (.ifCond .eq 24) (24) 55 76 := by decide +kernel
theorem dX10_worst_55 : Dn cX10_worst 55 (.iload_n 3) 1 56 := by decide +kernel
theorem dX10_worst_56 : Db cX10_worst 56 (.ifCond .lt 17) (17) 59 73 := by decide +kernel
theorem dX10_worst_59 : Dn cX10_worst 59 (.aload_n 0) 1 60 := by decide +kernel
theorem dX10_worst_60 : Dn cX10_worst 60 (.iload 5) 2 62 := by decide +kernel
theorem dX10_worst_62 : Dn cX10_worst 62 (.invokevirtual 302) 3 65 := by decide +kernel
theorem dX10_worst_65 : Dn cX10_worst 65 (.aload_n 0) 1 66 := by decide +kernel
theorem dX10_worst_66 : Dn cX10_worst 66 (.iload_n 3) 1 67 := by decide +kernel
theorem dX10_worst_67 : Dn cX10_worst 67 (.invokevirtual 302) 3 70 := by decide +kernel
theorem dX10_worst_70 : Db cX10_worst 70 (.if_icmp .le 6) (6) 73 76 := by decide +kernel
theorem dX10_worst_73 : Dn cX10_worst 73 (.iload 5) 2 75 := by decide +kernel
theorem dX10_worst_75 : Dn cX10_worst 75 (.istore_n 3) 1 76 := by decide +kernel
theorem dX10_worst_76 : Dn cX10_worst 76 (.iinc 4 1) 3 79 := by decide +kernel
theorem dX10_worst_79 : Db cX10_worst 79 (.goto (-53)) (-53) 82 26 := by decide +kernel
theorem dX10_worst_82 : Dn cX10_worst 82 (.iload_n 2) 1 83 := by decide +kernel
theorem dX10_worst_83 : Db cX10_worst 83 (.ifCond .ne 7) (7) 86 90 := by decide +kernel
theorem dX10_worst_86 : Dn cX10_worst 86 (.iload_n 3) 1 87 := by decide +kernel
theorem dX10_worst_87 : Db cX10_worst 87 (.goto 16) (16) 90 103 := by decide +kernel
theorem dX10_worst_90 : Dn cX10_worst 90 (.iload_n 3) 1 91 := by decide +kernel
theorem dX10_worst_91 : Db cX10_worst 91 (.ifCond .ge 7) (7) 94 98 := by decide +kernel
theorem dX10_worst_94 : Dn cX10_worst 94 (.iconst 0) 1 95 := by decide +kernel
theorem dX10_worst_95 : Db cX10_worst 95 (.goto 8) (8) 98 103 := by decide +kernel
theorem dX10_worst_98 : Dn cX10_worst 98 (.aload_n 0) 1 99 := by decide +kernel
theorem dX10_worst_99 : Dn cX10_worst 99 (.iload_n 3) 1 100 := by decide +kernel
theorem dX10_worst_100 : Dn cX10_worst 100 (.invokevirtual 302) 3 103 := by decide +kernel
theorem dX10_worst_103 : Dn cX10_worst 103 (.ireturn) 1 104 := by decide +kernel
theorem dX10_law_0 : Dn cX10_law 0 (.iload_n 1) 1 1 := by decide +kernel
theorem dX10_law_1 : Dn cX10_law 1 (.iload_n 2) 1 2 := by decide +kernel
theorem dX10_law_2 : Dn cX10_law 2 (.invokestatic 116) 3 5 := by decide +kernel
theorem dX10_law_5 : Db cX10_law 5 (.ifCond .ne 5) (5) 8 10 := by decide +kernel
theorem dX10_law_8 : Dn cX10_law 8 (.iconst (-1)) 1 9 := by decide +kernel
theorem dX10_law_9 : Dn cX10_law 9 (.ireturn) 1 10 := by decide +kernel
theorem dX10_law_10 : Dn cX10_law 10 (.iload_n 3) 1 11 := by decide +kernel
theorem dX10_law_11 : Dn cX10_law 11 (.invokestatic 123) 3 14 := by decide +kernel
theorem dX10_law_14 : Db cX10_law 14 (.ifCond .eq 16) (16) 17 30 := by decide +kernel
theorem dX10_law_17 : Dn cX10_law 17 (.iload 4) 2 19 := by decide +kernel
theorem dX10_law_19 : Dn cX10_law 19 (.i2l) 1 20 := by decide +kernel
theorem dX10_law_20 : Dn cX10_law 20 (.lconst 1) 1 21 := by decide +kernel
theorem dX10_law_21 : Dn cX10_law 21 (.ldc2_w 283) 3 24 := by decide +kernel
theorem dX10_law_24 : Dn cX10_law 24 (.invokestatic 100) 3 27 := by decide +kernel
theorem dX10_law_27 : Db cX10_law 27 (.ifCond .ne 6) (6) 30 33 := by decide +kernel
theorem dX10_law_30 : Dn cX10_law 30 (.bipush (-2)) 2 32 := by decide +kernel
theorem dX10_law_32 : Dn cX10_law 32 (.ireturn) 1 33 := by decide +kernel
theorem dX10_law_33 : Dn cX10_law 33 (.aload_n 0) 1 34 := by decide +kernel
theorem dX10_law_34 : Dn cX10_law 34 (.getfield 305) 3 37 := by decide +kernel
theorem dX10_law_37 : Dn cX10_law 37 (.bipush 12) 2 39 := by decide +kernel
theorem dX10_law_39 : Db cX10_law 39 (.if_icmp .ne 6) (6) 42 45 := by decide +kernel
theorem dX10_law_42 : Dn cX10_law 42 (.bipush (-4)) 2 44 := by decide +kernel
theorem dX10_law_44 : Dn cX10_law 44 (.ireturn) 1 45 := by decide +kernel
theorem dX10_law_45 : Dn cX10_law 45 (.aload_n 0) 1 46 := by decide +kernel
theorem dX10_law_46 : Dn cX10_law 46 (.getfield 84) 3 49 := by decide +kernel
theorem dX10_law_49 : Dn cX10_law 49 (.aload_n 0) 1 50 := by decide +kernel
theorem dX10_law_50 : Dn cX10_law 50 (.getfield 305) 3 53 := by decide +kernel
theorem dX10_law_53 : Dn cX10_law 53 (.iload_n 1) 1 54 := by decide +kernel
theorem dX10_law_54 : Dn cX10_law 54 (.iastore) 1 55 := by decide +kernel
theorem dX10_law_55 : Dn cX10_law 55 (.aload_n 0) 1 56 := by decide +kernel
theorem dX10_law_56 : Dn cX10_law 56 (.getfield 87) 3 59 := by decide +kernel
theorem dX10_law_59 : Dn cX10_law 59 (.aload_n 0) 1 60 := by decide +kernel
theorem dX10_law_60 : Dn cX10_law 60 (.getfield 305) 3 63 := by decide +kernel
theorem dX10_law_63 : Dn cX10_law 63 (.iload_n 2) 1 64 := by decide +kernel
theorem dX10_law_64 : Dn cX10_law 64 (.iastore) 1 65 := by decide +kernel
theorem dX10_law_65 : Dn cX10_law 65 (.aload_n 0) 1 66 := by decide +kernel
theorem dX10_law_66 : Dn cX10_law 66 (.getfield 90) 3 69 := by decide +kernel
theorem dX10_law_69 : Dn cX10_law 69 (.aload_n 0) 1 70 := by decide +kernel
theorem dX10_law_70 : Dn cX10_law 70 (.getfield 305) 3 73 := by decide +kernel
theorem dX10_law_73 : Dn cX10_law 73 (.iload_n 3) 1 74 := by decide +kernel
theorem dX10_law_74 : Dn cX10_law 74 (.iastore) 1 75 := by decide +kernel
theorem dX10_law_75 : Dn cX10_law 75 (.aload_n 0) 1 76 := by decide +kernel
theorem dX10_law_76 : Dn cX10_law 76 (.getfield 93) 3 79 := by decide +kernel
theorem dX10_law_79 : Dn cX10_law 79 (.aload_n 0) 1 80 := by decide +kernel
theorem dX10_law_80 : Dn cX10_law 80 (.getfield 305) 3 83 := by decide +kernel
theorem dX10_law_83 : Dn cX10_law 83 (.iload 4) 2 85 := by decide +kernel
theorem dX10_law_85 : Dn cX10_law 85 (.iastore) 1 86 := by decide +kernel
theorem dX10_law_86 : Dn cX10_law 86 (.aload_n 0) 1 87 := by decide +kernel
theorem dX10_law_87 : Dn cX10_law 87 (.dup) 1 88 := by decide +kernel
theorem dX10_law_88 : Dn cX10_law 88 (.getfield 305) 3 91 := by decide +kernel
theorem dX10_law_91 : Dn cX10_law 91 (.iconst 1) 1 92 := by decide +kernel
theorem dX10_law_92 : Dn cX10_law 92 (.iadd) 1 93 := by decide +kernel
theorem dX10_law_93 : Dn cX10_law 93 (.putfield 305) 3 96 := by decide +kernel
theorem dX10_law_96 : Dn cX10_law 96 (.aload_n 0) 1 97 := by decide +kernel
theorem dX10_law_97 : Dn cX10_law 97 (.getfield 305) 3 100 := by decide +kernel
theorem dX10_law_100 : Dn cX10_law 100 (.ireturn) 1 101 := by decide +kernel
theorem dX10_lawLoss_0 : Dn cX10_lawLoss 0 (.aload_n 0) 1 1 := by decide +kernel
theorem dX10_lawLoss_1 : Dn cX10_lawLoss 1 (.aload_n 0) 1 2 := by decide +kernel
theorem dX10_lawLoss_2 : Dn cX10_lawLoss 2 (.getfield 84) 3 5 := by decide +kernel
theorem dX10_lawLoss_5 : Dn cX10_lawLoss 5 (.iload_n 1) 1 6 := by decide +kernel
theorem dX10_lawLoss_6 : Dn cX10_lawLoss 6 (.iaload) 1 7 := by decide +kernel
theorem dX10_lawLoss_7 : Dn cX10_lawLoss 7 (.aload_n 0) 1 8 := by decide +kernel
theorem dX10_lawLoss_8 : Dn cX10_lawLoss 8 (.getfield 87) 3 11 := by decide +kernel
theorem dX10_lawLoss_11 : Dn cX10_lawLoss 11 (.iload_n 1) 1 12 := by decide +kernel
theorem dX10_lawLoss_12 : Dn cX10_lawLoss 12 (.iaload) 1 13 := by decide +kernel
theorem dX10_lawLoss_13 : Dn cX10_lawLoss 13 (.aload_n 0) 1 14 := by decide +kernel
theorem dX10_lawLoss_14 : Dn cX10_lawLoss 14 (.getfield 90) 3 17 := by decide +kernel
theorem dX10_lawLoss_17 : Dn cX10_lawLoss 17 (.iload_n 1) 1 18 := by decide +kernel
theorem dX10_lawLoss_18 : Dn cX10_lawLoss 18 (.iaload) 1 19 := by decide +kernel
theorem dX10_lawLoss_19 : Dn cX10_lawLoss 19 (.iload_n 2) 1 20 := by decide +kernel
theorem dX10_lawLoss_20 : Dn cX10_lawLoss 20 (.invokevirtual 299) 3 23 := by decide +kernel
theorem dX10_lawLoss_23 : Dn cX10_lawLoss 23 (.ireturn) 1 24 := by decide +kernel
theorem dX10_curve_0 : Dn cX10_curve 0 (.iload_n 1) 1 1 := by decide +kernel
theorem dX10_curve_1 : Dn cX10_curve 1 (.i2l) 1 2 := by decide +kernel
theorem dX10_curve_2 : Dn cX10_curve 2 (.lconst 0) 1 3 := by decide +kernel
theorem dX10_curve_3 : Dn cX10_curve 3 (.ldc2_w 240) 3 6 := by decide +kernel
theorem dX10_curve_6 : Dn cX10_curve 6 (.invokestatic 100) 3 9 := by decide +kernel
theorem dX10_curve_9 : Db cX10_curve 9 (.ifCond .ne 6) (6) 12 15 := by decide +kernel
theorem dX10_curve_12 : Dn cX10_curve 12 (.bipush (-2)) 2 14 := by decide +kernel
theorem dX10_curve_14 : Dn cX10_curve 14 (.ireturn) 1 15 := by decide +kernel
theorem dX10_curve_15 : Dn cX10_curve 15 (.iconst 0) 1 16 := by decide +kernel
theorem dX10_curve_16 : Dn cX10_curve 16 (.istore_n 2) 1 17 := by decide +kernel
theorem dX10_curve_17 : Dn cX10_curve 17 (.iconst 0) 1 18 := by decide +kernel
theorem dX10_curve_18 : Dn cX10_curve 18 (.istore_n 3) 1 19 := by decide +kernel
theorem dX10_curve_19 : Dn cX10_curve 19 (.iload_n 3) 1 20 := by decide +kernel
theorem dX10_curve_20 : Dn cX10_curve 20 (.aload_n 0) 1 21 := by decide +kernel
theorem dX10_curve_21 : Dn cX10_curve 21 (.getfield 305) 3 24 := by decide +kernel
theorem dX10_curve_24 : Db cX10_curve 24 (.if_icmp .ge 32) (32) 27 56 := by decide +kernel
theorem dX10_curve_27 : Dn cX10_curve 27 (.iload_n 2) 1 28 := by decide +kernel
theorem dX10_curve_28 : Dn cX10_curve 28 (.aload_n 0) 1 29 := by decide +kernel
theorem dX10_curve_29 : Dn cX10_curve 29 (.iload_n 3) 1 30 := by decide +kernel
theorem dX10_curve_30 : Dn cX10_curve 30 (.iconst 0) 1 31 := by decide +kernel
theorem dX10_curve_31 : Dn cX10_curve 31 (.invokevirtual 308) 3 34 := by decide +kernel
theorem dX10_curve_34 : Dn cX10_curve 34 (.iload_n 1) 1 35 := by decide +kernel
theorem dX10_curve_35 : Db cX10_curve 35 (.if_icmp .le 12) (12) 38 47 := by decide +kernel
theorem dX10_curve_38 : Dn cX10_curve 38 (.aload_n 0) 1 39 := by decide +kernel
theorem dX10_curve_39 : Dn cX10_curve 39 (.getfield 93) 3 42 := by decide +kernel
theorem dX10_curve_42 : Dn cX10_curve 42 (.iload_n 3) 1 43 := by decide +kernel
theorem dX10_curve_43 : Dn cX10_curve 43 (.iaload) 1 44 := by decide +kernel
theorem dX10_curve_44 : Db cX10_curve 44 (.goto 4) (4) 47 48 := by decide +kernel
theorem dX10_curve_47 : Dn cX10_curve 47 (.iconst 0) 1 48 := by decide +kernel
theorem dX10_curve_48 : Dn cX10_curve 48 (.iadd) 1 49 := by decide +kernel
theorem dX10_curve_49 : Dn cX10_curve 49 (.istore_n 2) 1 50 := by decide +kernel
theorem dX10_curve_50 : Dn cX10_curve 50 (.iinc 3 1) 3 53 := by decide +kernel
theorem dX10_curve_53 : Db cX10_curve 53 (.goto (-34)) (-34) 56 19 := by decide +kernel
theorem dX10_curve_56 : Dn cX10_curve 56 (.iload_n 2) 1 57 := by decide +kernel
theorem dX10_curve_57 : Dn cX10_curve 57 (.ireturn) 1 58 := by decide +kernel
theorem dX10_meanOf_0 : Dn cX10_meanOf 0 (.lconst 0) 1 1 := by decide +kernel
theorem dX10_meanOf_1 : Dn cX10_meanOf 1 (.lstore_n 2) 1 2 := by decide +kernel
theorem dX10_meanOf_2 : Dn cX10_meanOf 2 (.iconst 0) 1 3 := by decide +kernel
theorem dX10_meanOf_3 : Dn cX10_meanOf 3 (.istore 4) 2 5 := by decide +kernel
theorem dX10_meanOf_5 : Dn cX10_meanOf 5 (.iload 4) 2 7 := by decide +kernel
theorem dX10_meanOf_7 : Dn cX10_meanOf 7 (.aload_n 0) 1 8 := by decide +kernel
theorem dX10_meanOf_8 : Dn cX10_meanOf 8 (.getfield 305) 3 11 := by decide +kernel
theorem dX10_meanOf_11 : Db cX10_meanOf 11 (.if_icmp .ge 29) (29) 14 40 := by decide +kernel
theorem dX10_meanOf_14 : Dn cX10_meanOf 14 (.lload_n 2) 1 15 := by decide +kernel
theorem dX10_meanOf_15 : Dn cX10_meanOf 15 (.aload_n 0) 1 16 := by decide +kernel
theorem dX10_meanOf_16 : Dn cX10_meanOf 16 (.getfield 93) 3 19 := by decide +kernel
theorem dX10_meanOf_19 : Dn cX10_meanOf 19 (.iload 4) 2 21 := by decide +kernel
theorem dX10_meanOf_21 : Dn cX10_meanOf 21 (.iaload) 1 22 := by decide +kernel
theorem dX10_meanOf_22 : Dn cX10_meanOf 22 (.i2l) 1 23 := by decide +kernel
theorem dX10_meanOf_23 : Dn cX10_meanOf 23 (.aload_n 0) 1 24 := by decide +kernel
theorem dX10_meanOf_24 : Dn cX10_meanOf 24 (.iload 4) 2 26 := by decide +kernel
theorem dX10_meanOf_26 : Dn cX10_meanOf 26 (.iload_n 1) 1 27 := by decide +kernel
theorem dX10_meanOf_27 : Dn cX10_meanOf 27 (.invokevirtual 308) 3 30 := by decide +kernel
theorem dX10_meanOf_30 : Dn cX10_meanOf 30 (.i2l) 1 31 := by decide +kernel
theorem dX10_meanOf_31 : Dn cX10_meanOf 31 (.lmul) 1 32 := by decide +kernel
theorem dX10_meanOf_32 : Dn cX10_meanOf 32 (.ladd) 1 33 := by decide +kernel
theorem dX10_meanOf_33 : Dn cX10_meanOf 33 (.lstore_n 2) 1 34 := by decide +kernel
theorem dX10_meanOf_34 : Dn cX10_meanOf 34 (.iinc 4 1) 3 37 := by decide +kernel
theorem dX10_meanOf_37 : Db cX10_meanOf 37 (.goto (-32)) (-32) 40 5 := by decide +kernel
theorem dX10_meanOf_40 : Dn cX10_meanOf 40 (.lload_n 2) 1 41 := by decide +kernel
theorem dX10_meanOf_41 : Dn cX10_meanOf 41 (.lreturn) 1 42 := by decide +kernel
theorem dX10_mean_0 : Dn cX10_mean 0 (.iload_n 1) 1 1 := by decide +kernel
theorem dX10_mean_1 : Dn cX10_mean 1 (.i2l) 1 2 := by decide +kernel
theorem dX10_mean_2 : Dn cX10_mean 2 (.lconst 0) 1 3 := by decide +kernel
theorem dX10_mean_3 : Dn cX10_mean 3 (.iconst 1) 1 4 := by decide +kernel
theorem dX10_mean_4 : Dn cX10_mean 4 (.aload_n 0) 1 5 := by decide +kernel
theorem dX10_mean_5 : Dn cX10_mean 5 (.getfield 296) 3 8 := by decide +kernel
theorem dX10_mean_8 : Dn cX10_mean 8 (.ishl) 1 9 := by decide +kernel
theorem dX10_mean_9 : Dn cX10_mean 9 (.iconst 1) 1 10 := by decide +kernel
theorem dX10_mean_10 : Dn cX10_mean 10 (.isub) 1 11 := by decide +kernel
theorem dX10_mean_11 : Dn cX10_mean 11 (.i2l) 1 12 := by decide +kernel
theorem dX10_mean_12 : Dn cX10_mean 12 (.invokestatic 100) 3 15 := by decide +kernel
theorem dX10_mean_15 : Db cX10_mean 15 (.ifCond .eq 11) (11) 18 26 := by decide +kernel
theorem dX10_mean_18 : Dn cX10_mean 18 (.aload_n 0) 1 19 := by decide +kernel
theorem dX10_mean_19 : Dn cX10_mean 19 (.iload_n 1) 1 20 := by decide +kernel
theorem dX10_mean_20 : Dn cX10_mean 20 (.invokevirtual 311) 3 23 := by decide +kernel
theorem dX10_mean_23 : Db cX10_mean 23 (.goto 6) (6) 26 29 := by decide +kernel
theorem dX10_mean_26 : Dn cX10_mean 26 (.ldc2_w 184) 3 29 := by decide +kernel
theorem dX10_mean_29 : Dn cX10_mean 29 (.lreturn) 1 30 := by decide +kernel
theorem dX10_priceOf_0 : Dn cX10_priceOf 0 (.iconst 0) 1 1 := by decide +kernel
theorem dX10_priceOf_1 : Dn cX10_priceOf 1 (.istore_n 2) 1 2 := by decide +kernel
theorem dX10_priceOf_2 : Dn cX10_priceOf 2 (.iconst 0) 1 3 := by decide +kernel
theorem dX10_priceOf_3 : Dn cX10_priceOf 3 (.istore_n 3) 1 4 := by decide +kernel
theorem dX10_priceOf_4 : Dn cX10_priceOf 4 (.iload_n 3) 1 5 := by decide +kernel
theorem dX10_priceOf_5 : Dn cX10_priceOf 5 (.aload_n 0) 1 6 := by decide +kernel
theorem dX10_priceOf_6 : Dn cX10_priceOf 6 (.getfield 296) 3 9 := by decide +kernel
theorem dX10_priceOf_9 : Db cX10_priceOf 9 (.if_icmp .ge 31) (31) 12 40 := by decide +kernel
theorem dX10_priceOf_12 : Dn cX10_priceOf 12 (.iload_n 2) 1 13 := by decide +kernel
theorem dX10_priceOf_13 : Dn cX10_priceOf 13 (.iload_n 1) 1 14 := by decide +kernel
theorem dX10_priceOf_14 : Dn cX10_priceOf 14 (.iload_n 3) 1 15 := by decide +kernel
theorem dX10_priceOf_15 : Dn cX10_priceOf 15 (.ishr) 1 16 := by decide +kernel
theorem dX10_priceOf_16 : Dn cX10_priceOf 16 (.iconst 1) 1 17 := by decide +kernel
theorem dX10_priceOf_17 : Dn cX10_priceOf 17 (.iand) 1 18 := by decide +kernel
theorem dX10_priceOf_18 : Dn cX10_priceOf 18 (.iconst 1) 1 19 := by decide +kernel
theorem dX10_priceOf_19 : Db cX10_priceOf 19 (.if_icmp .ne 12) (12) 22 31 := by decide +kernel
theorem dX10_priceOf_22 : Dn cX10_priceOf 22 (.aload_n 0) 1 23 := by decide +kernel
theorem dX10_priceOf_23 : Dn cX10_priceOf 23 (.getfield 78) 3 26 := by decide +kernel
theorem dX10_priceOf_26 : Dn cX10_priceOf 26 (.iload_n 3) 1 27 := by decide +kernel
theorem dX10_priceOf_27 : Dn cX10_priceOf 27 (.iaload) 1 28 := by decide +kernel
theorem dX10_priceOf_28 : Db cX10_priceOf 28 (.goto 4) (4) 31 32 := by decide +kernel
theorem dX10_priceOf_31 : Dn cX10_priceOf 31 (.iconst 0) 1 32 := by decide +kernel
theorem dX10_priceOf_32 : Dn cX10_priceOf 32 (.iadd) 1 33 := by decide +kernel
theorem dX10_priceOf_33 : Dn cX10_priceOf 33 (.istore_n 2) 1 34 := by decide +kernel
theorem dX10_priceOf_34 : Dn cX10_priceOf 34 (.iinc 3 1) 3 37 := by decide +kernel
theorem dX10_priceOf_37 : Db cX10_priceOf 37 (.goto (-33)) (-33) 40 4 := by decide +kernel
theorem dX10_priceOf_40 : Dn cX10_priceOf 40 (.iload_n 2) 1 41 := by decide +kernel
theorem dX10_priceOf_41 : Dn cX10_priceOf 41 (.ireturn) 1 42 := by decide +kernel
theorem dX10_strengthen_0 : Dn cX10_strengthen 0 (.iload_n 1) 1 1 := by decide +kernel
theorem dX10_strengthen_1 : Dn cX10_strengthen 1 (.i2l) 1 2 := by decide +kernel
theorem dX10_strengthen_2 : Dn cX10_strengthen 2 (.lconst 0) 1 3 := by decide +kernel
theorem dX10_strengthen_3 : Dn cX10_strengthen 3 (.ldc2_w 315) 3 6 := by decide +kernel
theorem dX10_strengthen_6 : Dn cX10_strengthen 6 (.invokestatic 100) 3 9 := by decide +kernel
theorem dX10_strengthen_9 : Db cX10_strengthen 9 (.ifCond .ne 6) (6) 12 15 := by decide +kernel
theorem dX10_strengthen_12 : Dn cX10_strengthen 12 (.bipush (-2)) 2 14 := by decide +kernel
theorem dX10_strengthen_14 : Dn cX10_strengthen 14 (.ireturn) 1 15 := by decide +kernel
theorem dX10_strengthen_15 : Dn cX10_strengthen 15 (.iconst 0) 1 16 := by decide +kernel
theorem dX10_strengthen_16 : Dn cX10_strengthen 16 (.istore_n 2) 1 17 := by decide +kernel
theorem dX10_strengthen_17 : Dn cX10_strengthen 17 (.iconst 1) 1 18 := by decide +kernel
theorem dX10_strengthen_18 : Dn cX10_strengthen 18 (.istore_n 3) 1 19 := by decide +kernel
theorem dX10_strengthen_19 : Dn cX10_strengthen 19 (.iload_n 3) 1 20 := by decide +kernel
theorem dX10_strengthen_20 : Dn cX10_strengthen 20 (.iconst 1) 1 21 := by decide +kernel
theorem dX10_strengthen_21 : Dn cX10_strengthen 21 (.aload_n 0) 1 22 := by decide +kernel
theorem dX10_strengthen_22 : Dn cX10_strengthen 22 (.getfield 296) 3 25 := by decide +kernel
theorem dX10_strengthen_25 : Dn cX10_strengthen 25 (.ishl) 1 26 := by decide +kernel
theorem dX10_strengthen_26 : Db cX10_strengthen 26 (.if_icmp .ge 64) (64) 29 90 := by decide +kernel
theorem dX10_strengthen_29 : Dn cX10_strengthen 29 (.aload_n 0) 1 30 := by decide +kernel
theorem dX10_strengthen_30 : Dn cX10_strengthen 30 (.iload_n 3) 1 31 := by decide +kernel
theorem dX10_strengthen_31 : Dn cX10_strengthen 31 (.invokevirtual 317) 3 34 := by decide +kernel
theorem dX10_strengthen_34 : Dn cX10_strengthen 34 (.iload_n 1) 1 35 := by decide +kernel
theorem dX10_strengthen_35 : Db cX10_strengthen 35 (.if_icmp .gt 49) (49) 38 84 := by decide +kernel
theorem dX10_strengthen_38 : Dn cX10_strengthen 38 (.aload_n 0) 1 39 := by decide +kernel
theorem dX10_strengthen_39 : Dn cX10_strengthen 39 (.iload_n 3) 1 40 := by decide +kernel
theorem dX10_strengthen_40 : Dn cX10_strengthen 40 (.invokevirtual 311) 3 43 := by decide +kernel
theorem dX10_strengthen_43 : Dn cX10_strengthen 43 (.aload_n 0) 1 44 := by decide +kernel
theorem dX10_strengthen_44 : Dn cX10_strengthen 44 (.iload_n 2) 1 45 := by decide +kernel
theorem dX10_strengthen_45 : Dn cX10_strengthen 45 (.invokevirtual 311) 3 48 := by decide +kernel
theorem dX10_strengthen_48 : Dn cX10_strengthen 48 (.lsub) 1 49 := by decide +kernel
theorem dX10_strengthen_49 : Dn cX10_strengthen 49 (.lstore 4) 2 51 := by decide +kernel
theorem dX10_strengthen_51 : Dn cX10_strengthen 51 (.lload 4) 2 53 := by decide +kernel
theorem dX10_strengthen_53 : Dn cX10_strengthen 53 (.lconst 0) 1 54 := by decide +kernel
theorem dX10_strengthen_54 : Dn cX10_strengthen 54 (.lcmp) 1 55 := by decide +kernel
theorem dX10_strengthen_55 : Db cX10_strengthen 55 (.ifCond .lt 23) (23) 58 78 := by decide +kernel
theorem dX10_strengthen_58 : Dn cX10_strengthen 58 (.lload 4) 2 60 := by decide +kernel
theorem dX10_strengthen_60 : Dn cX10_strengthen 60 (.lconst 0) 1 61 := by decide +kernel
theorem dX10_strengthen_61 : Dn cX10_strengthen 61 (.lcmp) 1 62 := by decide +kernel
theorem dX10_strengthen_62 : Db cX10_strengthen 62 (.ifCond .ne 20) (20) 65 82 := by decide +kernel
theorem dX10_strengthen_65 : Dn cX10_strengthen 65 (.aload_n 0) 1 66 := by decide +kernel
theorem dX10_strengthen_66 : Dn cX10_strengthen 66 (.iload_n 3) 1 67 := by decide +kernel
theorem dX10_strengthen_67 : Dn cX10_strengthen 67 (.invokevirtual 317) 3 70 := by decide +kernel
theorem dX10_strengthen_70 : Dn cX10_strengthen 70 (.aload_n 0) 1 71 := by decide +kernel
theorem dX10_strengthen_71 : Dn cX10_strengthen 71 (.iload_n 2) 1 72 := by decide +kernel
theorem dX10_strengthen_72 : Dn cX10_strengthen 72 (.invokevirtual 317) 3 75 := by decide +kernel
theorem dX10_strengthen_75 : Db cX10_strengthen 75 (.if_icmp .ge 7) (7) 78 82 := by decide +kernel
theorem dX10_strengthen_78 : Dn cX10_strengthen 78 (.iload_n 3) 1 79 := by decide +kernel
theorem dX10_strengthen_79 : Db cX10_strengthen 79 (.goto 4) (4) 82 83 := by decide +kernel
theorem dX10_strengthen_82 : Dn cX10_strengthen 82 (.iload_n 2) 1 83 := by decide +kernel
theorem dX10_strengthen_83 : Dn cX10_strengthen 83 (.istore_n 2) 1 84 := by decide +kernel
theorem dX10_strengthen_84 : Dn cX10_strengthen 84 (.iinc 3 1) 3 87 := by decide +kernel
theorem dX10_strengthen_87 : Db cX10_strengthen 87 (.goto (-68)) (-68) 90 19 := by decide +kernel
theorem dX10_strengthen_90 : Dn cX10_strengthen 90 (.iload_n 2) 1 91 := by decide +kernel
theorem dX10_strengthen_91 : Dn cX10_strengthen 91 (.ireturn) 1 92 := by decide +kernel
theorem dX10_told_0 : Dn cX10_told 0 (.iload_n 1) 1 1 := by decide +kernel
theorem dX10_told_1 : Dn cX10_told 1 (.i2l) 1 2 := by decide +kernel
theorem dX10_told_2 : Dn cX10_told 2 (.ldc2_w 292) 3 5 := by decide +kernel
theorem dX10_told_5 : Dn cX10_told 5 (.ldc2_w 320) 3 8 := by decide +kernel
theorem dX10_told_8 : Dn cX10_told 8 (.invokestatic 100) 3 11 := by decide +kernel
theorem dX10_told_11 : Db cX10_told 11 (.ifCond .eq 13) (13) 14 24 := by decide +kernel
theorem dX10_told_14 : Dn cX10_told 14 (.aload_n 0) 1 15 := by decide +kernel
theorem dX10_told_15 : Dn cX10_told 15 (.getfield 32) 3 18 := by decide +kernel
theorem dX10_told_18 : Dn cX10_told 18 (.iload_n 1) 1 19 := by decide +kernel
theorem dX10_told_19 : Dn cX10_told 19 (.bipush 10) 2 21 := by decide +kernel
theorem dX10_told_21 : Dn cX10_told 21 (.isub) 1 22 := by decide +kernel
theorem dX10_told_22 : Dn cX10_told 22 (.iaload) 1 23 := by decide +kernel
theorem dX10_told_23 : Dn cX10_told 23 (.ireturn) 1 24 := by decide +kernel
theorem dX10_told_24 : Dn cX10_told 24 (.iconst 0) 1 25 := by decide +kernel
theorem dX10_told_25 : Dn cX10_told 25 (.istore_n 2) 1 26 := by decide +kernel
theorem dX10_told_26 : Dn cX10_told 26 (.iconst 0) 1 27 := by decide +kernel
theorem dX10_told_27 : Dn cX10_told 27 (.istore_n 3) 1 28 := by decide +kernel
theorem dX10_told_28 : Dn cX10_told 28 (.iload_n 3) 1 29 := by decide +kernel
theorem dX10_told_29 : Dn cX10_told 29 (.aload_n 0) 1 30 := by decide +kernel
theorem dX10_told_30 : Dn cX10_told 30 (.getfield 96) 3 33 := by decide +kernel
theorem dX10_told_33 : Db cX10_told 33 (.if_icmp .ge 26) (26) 36 59 := by decide +kernel
theorem dX10_told_36 : Dn cX10_told 36 (.iload_n 2) 1 37 := by decide +kernel
theorem dX10_told_37 : Dn cX10_told 37 (.aload_n 0) 1 38 := by decide +kernel
theorem dX10_told_38 : Dn cX10_told 38 (.getfield 28) 3 41 := by decide +kernel
theorem dX10_told_41 : Dn cX10_told 41 (.iload_n 3) 1 42 := by decide +kernel
theorem dX10_told_42 : Dn cX10_told 42 (.baload) 1 43 := by decide +kernel
theorem dX10_told_43 : Db cX10_told 43 (.ifCond .eq 7) (7) 46 50 := by decide +kernel
theorem dX10_told_46 : Dn cX10_told 46 (.iconst 1) 1 47 := by decide +kernel
theorem dX10_told_47 : Db cX10_told 47 (.goto 4) (4) 50 51 := by decide +kernel
theorem dX10_told_50 : Dn cX10_told 50 (.iconst 0) 1 51 := by decide +kernel
theorem dX10_told_51 : Dn cX10_told 51 (.iadd) 1 52 := by decide +kernel
theorem dX10_told_52 : Dn cX10_told 52 (.istore_n 2) 1 53 := by decide +kernel
theorem dX10_told_53 : Dn cX10_told 53 (.iinc 3 1) 3 56 := by decide +kernel
theorem dX10_told_56 : Db cX10_told 56 (.goto (-28)) (-28) 59 28 := by decide +kernel
theorem dX10_told_59 : Dn cX10_told 59 (.iload_n 1) 1 60 := by decide +kernel
theorem dX10_told_60 : Dn cX10_told 60 (.tableswitch 70 0 5 #[40, 45, 53, 58, 63, 68]) 40 100 := by decide +kernel
theorem dX10_told_100 : Dn cX10_told 100 (.aload_n 0) 1 101 := by decide +kernel
theorem dX10_told_101 : Dn cX10_told 101 (.getfield 96) 3 104 := by decide +kernel
theorem dX10_told_104 : Dn cX10_told 104 (.ireturn) 1 105 := by decide +kernel
theorem dX10_told_105 : Dn cX10_told 105 (.aload_n 0) 1 106 := by decide +kernel
theorem dX10_told_106 : Dn cX10_told 106 (.getfield 60) 3 109 := by decide +kernel
theorem dX10_told_109 : Dn cX10_told 109 (.bipush 6) 2 111 := by decide +kernel
theorem dX10_told_111 : Dn cX10_told 111 (.iaload) 1 112 := by decide +kernel
theorem dX10_told_112 : Dn cX10_told 112 (.ireturn) 1 113 := by decide +kernel
theorem dX10_told_113 : Dn cX10_told 113 (.aload_n 0) 1 114 := by decide +kernel
theorem dX10_told_114 : Dn cX10_told 114 (.getfield 264) 3 117 := by decide +kernel
theorem dX10_told_117 : Dn cX10_told 117 (.ireturn) 1 118 := by decide +kernel
theorem dX10_told_118 : Dn cX10_told 118 (.aload_n 0) 1 119 := by decide +kernel
theorem dX10_told_119 : Dn cX10_told 119 (.getfield 296) 3 122 := by decide +kernel
theorem dX10_told_122 : Dn cX10_told 122 (.ireturn) 1 123 := by decide +kernel
theorem dX10_told_123 : Dn cX10_told 123 (.aload_n 0) 1 124 := by decide +kernel
theorem dX10_told_124 : Dn cX10_told 124 (.getfield 305) 3 127 := by decide +kernel
theorem dX10_told_127 : Dn cX10_told 127 (.ireturn) 1 128 := by decide +kernel
theorem dX10_told_128 : Dn cX10_told 128 (.iload_n 2) 1 129 := by decide +kernel
theorem dX10_told_129 : Dn cX10_told 129 (.ireturn) 1 130 := by decide +kernel
theorem dX10_told_130 : Dn cX10_told 130 (.bipush (-2)) 2 132 := by decide +kernel
theorem dX10_told_132 : Dn cX10_told 132 (.ireturn) 1 133 := by decide +kernel
theorem dJ9_floorMod_f86c9_0 : Dn cJ9_floorMod_f86c9 0 (.lload_n 0) 1 1 := by decide +kernel
theorem dJ9_floorMod_f86c9_1 : Dn cJ9_floorMod_f86c9 1 (.lload_n 2) 1 2 := by decide +kernel
theorem dJ9_floorMod_f86c9_2 : Dn cJ9_floorMod_f86c9 2 (.lrem) 1 3 := by decide +kernel
theorem dJ9_floorMod_f86c9_3 : Dn cJ9_floorMod_f86c9 3 (.lstore 4) 2 5 := by decide +kernel
theorem dJ9_floorMod_f86c9_5 : Dn cJ9_floorMod_f86c9 5 (.lload_n 0) 1 6 := by decide +kernel
theorem dJ9_floorMod_f86c9_6 : Dn cJ9_floorMod_f86c9 6 (.lload_n 2) 1 7 := by decide +kernel
theorem dJ9_floorMod_f86c9_7 : Dn cJ9_floorMod_f86c9 7 (.lxor) 1 8 := by decide +kernel
theorem dJ9_floorMod_f86c9_8 : Dn cJ9_floorMod_f86c9 8 (.lconst 0) 1 9 := by decide +kernel
theorem dJ9_floorMod_f86c9_9 : Dn cJ9_floorMod_f86c9 9 (.lcmp) 1 10 := by decide +kernel
theorem dJ9_floorMod_f86c9_10 : Db cJ9_floorMod_f86c9 10 (.ifCond .ge 15) (15) 13 25 := by decide +kernel
theorem dJ9_floorMod_f86c9_13 : Dn cJ9_floorMod_f86c9 13 (.lload 4) 2 15 := by decide +kernel
theorem dJ9_floorMod_f86c9_15 : Dn cJ9_floorMod_f86c9 15 (.lconst 0) 1 16 := by decide +kernel
theorem dJ9_floorMod_f86c9_16 : Dn cJ9_floorMod_f86c9 16 (.lcmp) 1 17 := by decide +kernel
theorem dJ9_floorMod_f86c9_17 : Db cJ9_floorMod_f86c9 17 (.ifCond .eq 8) (8) 20 25 := by decide +kernel
theorem dJ9_floorMod_f86c9_20 : Dn cJ9_floorMod_f86c9 20 (.lload 4) 2 22 := by decide +kernel
theorem dJ9_floorMod_f86c9_22 : Dn cJ9_floorMod_f86c9 22 (.lload_n 2) 1 23 := by decide +kernel
theorem dJ9_floorMod_f86c9_23 : Dn cJ9_floorMod_f86c9 23 (.ladd) 1 24 := by decide +kernel
theorem dJ9_floorMod_f86c9_24 : Dn cJ9_floorMod_f86c9 24 (.lreturn) 1 25 := by decide +kernel
theorem dJ9_floorMod_f86c9_25 : Dn cJ9_floorMod_f86c9 25 (.lload 4) 2 27 := by decide +kernel
theorem dJ9_floorMod_f86c9_27 : Dn cJ9_floorMod_f86c9 27 (.lreturn) 1 28 := by decide +kernel
theorem dJ9_abs_0f7a4_0 : Dn cJ9_abs_0f7a4 0 (.iload_n 0) 1 1 := by decide +kernel
theorem dJ9_abs_0f7a4_1 : Db cJ9_abs_0f7a4 1 (.ifCond .ge 8) (8) 4 9 := by decide +kernel
theorem dJ9_abs_0f7a4_4 : Dn cJ9_abs_0f7a4 4 (.iload_n 0) 1 5 := by decide +kernel
theorem dJ9_abs_0f7a4_5 : Dn cJ9_abs_0f7a4 5 (.ineg) 1 6 := by decide +kernel
theorem dJ9_abs_0f7a4_6 : Db cJ9_abs_0f7a4 6 (.goto 4) (4) 9 10 := by decide +kernel
theorem dJ9_abs_0f7a4_9 : Dn cJ9_abs_0f7a4 9 (.iload_n 0) 1 10 := by decide +kernel
theorem dJ9_abs_0f7a4_10 : Dn cJ9_abs_0f7a4 10 (.ireturn) 1 11 := by decide +kernel
theorem dJ9_max_7cf53_0 : Dn cJ9_max_7cf53 0 (.iload_n 0) 1 1 := by decide +kernel
theorem dJ9_max_7cf53_1 : Dn cJ9_max_7cf53 1 (.iload_n 1) 1 2 := by decide +kernel
theorem dJ9_max_7cf53_2 : Db cJ9_max_7cf53 2 (.if_icmp .lt 7) (7) 5 9 := by decide +kernel
theorem dJ9_max_7cf53_5 : Dn cJ9_max_7cf53 5 (.iload_n 0) 1 6 := by decide +kernel
theorem dJ9_max_7cf53_6 : Db cJ9_max_7cf53 6 (.goto 4) (4) 9 10 := by decide +kernel
theorem dJ9_max_7cf53_9 : Dn cJ9_max_7cf53 9 (.iload_n 1) 1 10 := by decide +kernel
theorem dJ9_max_7cf53_10 : Dn cJ9_max_7cf53 10 (.ireturn) 1 11 := by decide +kernel
theorem dJ9_max_f86c9_0 : Dn cJ9_max_f86c9 0 (.lload_n 0) 1 1 := by decide +kernel
theorem dJ9_max_f86c9_1 : Dn cJ9_max_f86c9 1 (.lload_n 2) 1 2 := by decide +kernel
theorem dJ9_max_f86c9_2 : Dn cJ9_max_f86c9 2 (.lcmp) 1 3 := by decide +kernel
theorem dJ9_max_f86c9_3 : Db cJ9_max_f86c9 3 (.ifCond .lt 7) (7) 6 10 := by decide +kernel
theorem dJ9_max_f86c9_6 : Dn cJ9_max_f86c9 6 (.lload_n 0) 1 7 := by decide +kernel
theorem dJ9_max_f86c9_7 : Db cJ9_max_f86c9 7 (.goto 4) (4) 10 11 := by decide +kernel
theorem dJ9_max_f86c9_10 : Dn cJ9_max_f86c9 10 (.lload_n 2) 1 11 := by decide +kernel
theorem dJ9_max_f86c9_11 : Dn cJ9_max_f86c9 11 (.lreturn) 1 12 := by decide +kernel
theorem dJ9_min_7cf53_0 : Dn cJ9_min_7cf53 0 (.iload_n 0) 1 1 := by decide +kernel
theorem dJ9_min_7cf53_1 : Dn cJ9_min_7cf53 1 (.iload_n 1) 1 2 := by decide +kernel
theorem dJ9_min_7cf53_2 : Db cJ9_min_7cf53 2 (.if_icmp .gt 7) (7) 5 9 := by decide +kernel
theorem dJ9_min_7cf53_5 : Dn cJ9_min_7cf53 5 (.iload_n 0) 1 6 := by decide +kernel
theorem dJ9_min_7cf53_6 : Db cJ9_min_7cf53 6 (.goto 4) (4) 9 10 := by decide +kernel
theorem dJ9_min_7cf53_9 : Dn cJ9_min_7cf53 9 (.iload_n 1) 1 10 := by decide +kernel
theorem dJ9_min_7cf53_10 : Dn cJ9_min_7cf53 10 (.ireturn) 1 11 := by decide +kernel
end
section
/-! THE PURE PICTURE: numbers as integers, references as places counted from the law's start, the heap as a table with what was overwritten on top -/
abbrev PV : Type := Int ⊕ Int ⊕ Option Nat
abbrev zI (z : Int) : PV := Sum.inl z
abbrev zJ (z : Int) : PV := Sum.inr (Sum.inl z)
abbrev zR (k : Nat) : PV := Sum.inr (Sum.inr (some k))
abbrev zN : PV := Sum.inr (Sum.inr none)
abbrev zQ (r : Option Nat) : PV := Sum.inr (Sum.inr r)
def rv (sz : Nat) : PV → Value
  | .inl z => .int (Int32.ofInt z)
  | .inr (.inl z) => .long (Int64.ofInt z)
  | .inr (.inr none) => .null
  | .inr (.inr (some k)) => .ref (sz + k)
abbrev PA : Type := (Nat → Int) ⊕ (Nat → Int) ⊕ (Nat → Option Nat)
abbrev PC : Type := (Nat × Nat × PA) ⊕ (Nat × List PV)
abbrev PH : Type := Nat × (Nat → Option PC) × List (Nat × PC)
abbrev oA (t n : Nat) (f : Nat → Int) : PC := Sum.inl (t, n, Sum.inl f)
abbrev oL (t n : Nat) (f : Nat → Int) : PC := Sum.inl (t, n, Sum.inr (Sum.inl f))
abbrev oP (t n : Nat) (f : Nat → Option Nat) : PC := Sum.inl (t, n, Sum.inr (Sum.inr f))
abbrev oO (ci : Nat) (fs : List PV) : PC := Sum.inr (ci, fs)
def hlk : List (Nat × PC) → (Nat → Option PC) → Nat → Option PC
  | [], h, k => h k
  | q :: l, h, k => if q.1 = k then some q.2 else hlk l h k
def hget (p : PH) (k : Nat) : Option PC := hlk p.2.2 p.2.1 k
def aset : List (Nat × PC) → Nat → PC → List (Nat × PC)
  | [], k, c => [(k, c)]
  | q :: l, k, c => if q.1 = k then (k, c) :: l else q :: aset l k c
def asets (l : List (Nat × PC)) : List (Nat × PC) → List (Nat × PC)
  | [] => l
  | q :: r => aset (asets l r) q.1 q.2
def hset (p : PH) (k : Nat) (c : PC) : PH := (p.1, p.2.1, aset p.2.2 k c)
def fup {α : Type} (f : Nat → α) (k : Nat) (v : α) : Nat → α := fun j => if j = k then v else f j
theorem fup_self {α : Type} (f : Nat → α) (k : Nat) (v : α) : fup f k v k = v := by simp [fup]
theorem fup_ne {α : Type} (f : Nat → α) {k j : Nat} (v : α) (h : j ≠ k) : fup f k v j = f j := by simp [fup, h]
theorem hlk_aset (l : List (Nat × PC)) (h : Nat → Option PC) (k j : Nat) (c : PC) : hlk (aset l k c) h j = if k = j then some c else hlk l h j := by
  induction l with
  | nil => simp [aset, hlk]
  | cons q l ih =>
    by_cases h1 : q.1 = k
    · simp only [aset, if_pos h1, hlk]
      by_cases h2 : k = j
      · simp [h2]
      · rw [if_neg h2, if_neg h2, if_neg (by rw [h1]; exact h2)]
    · simp only [aset, if_neg h1, hlk]
      by_cases h2 : q.1 = j
      · rw [if_pos h2, if_neg (by intro e; exact h1 (h2.trans e.symm)), if_pos h2]
      · rw [if_neg h2, ih, if_neg h2]
theorem hget_hset (p : PH) (k j : Nat) (c : PC) : hget (hset p k c) j = if k = j then some c else hget p j := hlk_aset _ _ _ _ _
theorem hget_set_self (p : PH) (k : Nat) (c : PC) : hget (hset p k c) k = some c := by rw [hget_hset, if_pos rfl]
theorem hget_set_ne (p : PH) {k j : Nat} (c : PC) (h : k ≠ j) : hget (hset p k c) j = hget p j := by rw [hget_hset, if_neg h]
/-- the lists of two overwritings, the later one on top -/
theorem hlk_asets (l : List (Nat × PC)) (h : Nat → Option PC) (j : Nat) : ∀ r : List (Nat × PC), hlk (asets l r) h j = hlk r (hlk l h) j
  | [] => rfl
  | q :: r => by
    show hlk (aset (asets l r) q.1 q.2) h j = if q.1 = j then some q.2 else hlk r (hlk l h) j
    rw [hlk_aset, hlk_asets l h j r]
abbrev GT : Type := Nat × va_G × (Nat → ClassId)
def trC (g : GT) : PC → va_E
  | .inl (t, n, .inl f) => .inl (g.2.2 t, n, .inl (fun j => Int32.ofInt (f j)))
  | .inl (t, n, .inr (.inl f)) => .inl (g.2.2 t, n, .inr (.inl (fun j => Int64.ofInt (f j))))
  | .inl (t, n, .inr (.inr f)) => .inl (g.2.2 t, n, .inr (.inr (.inr (.inr (fun j => (f j).map (fun k => g.1 + k))))))
  | .inr (ci, fs) => .inr (ci, fs.map (rv g.1))
/-- the machine's heap holds the picture -/
def Rl (g : GT) (hp : PH) (H : Heap) : Prop := H.size = g.1 + hp.1 ∧ ∀ (k : Nat) (c : PC), hget hp k = some c → k < hp.1 ∧ va_at g.2.1 vwCl (g.1 + k, trC g c) H
def Ag (g : GT) : Nat → Prop := fun q => g.1 ≤ q
theorem Rl.ext {g : GT} {hp hq : PH} {H : Heap} (h : Rl g hp H) (e1 : hq.1 = hp.1) (e2 : ∀ k, hget hq k = hget hp k) : Rl g hq H := ⟨by rw [e1]; exact h.1, fun k c hk => by rw [e1]; exact h.2 k c (by rw [← e2]; exact hk)⟩
/-- one cell changed -/
theorem Rl.put {g : GT} {hp : PH} {H H1 : Heap} (h : Rl g hp H) {k : Nat} {c0 c : PC} (hk : hget hp k = some c0) (z : H1.size = H.size) (o : ∀ q : Nat, q ≠ g.1 + k → H1[q]? = H[q]?) (hc : va_at g.2.1 vwCl (g.1 + k, trC g c) H1) : Rl g (hset hp k c) H1 := by
  refine ⟨by rw [z]; exact h.1, fun j d hj => ?_⟩
  rw [hget_hset] at hj
  by_cases e : k = j
  · rw [if_pos e] at hj
    cases hj
    subst e
    exact ⟨(h.2 k c0 hk).1, hc⟩
  · rw [if_neg e] at hj
    obtain ⟨a1, a2⟩ := h.2 j d hj
    exact ⟨a1, a2.kept (o _ (by show g.1 + j ≠ g.1 + k; omega))⟩
/-- a cell more -/
def hnew (p : PH) (c : PC) : PH := (p.1 + 1, p.2.1, aset p.2.2 p.1 c)
theorem hget_hnew (p : PH) (j : Nat) (c : PC) : hget (hnew p c) j = if p.1 = j then some c else hget p j := hlk_aset _ _ _ _ _
theorem Rl.new {g : GT} {hp : PH} {H H1 : Heap} (h : Rl g hp H) {c : PC} (z : H1.size = H.size + 1) (o : ∀ q : Nat, q < H.size → H1[q]? = H[q]?) (hc : va_at g.2.1 vwCl (g.1 + hp.1, trC g c) H1) : Rl g (hnew hp c) H1 := by
  refine ⟨by rw [z, h.1]; rfl, fun j d hj => ?_⟩
  rw [hget_hnew] at hj
  by_cases e : hp.1 = j
  · rw [if_pos e] at hj
    cases hj
    subst e
    exact ⟨Nat.lt_succ_self _, hc⟩
  · rw [if_neg e] at hj
    obtain ⟨a1, a2⟩ := h.2 j d hj
    exact ⟨Nat.lt_succ_of_lt a1, a2.kept (o _ (by show g.1 + j < H.size; rw [h.1]; omega))⟩
/-! ===== words ===== -/
def nestW : Cond → Bool
  | .fieldLinkNest _ _ _ _ _ _ => true
  | .methodLinkNest _ _ _ _ => true
  | _ => false
def WT : List Cond := lw_tbl.filter goodWord
theorem wt_of {w : Cond} (h : w ∈ lw_tbl) (hg : goodWord w = true) : w ∈ WT := List.mem_filter.mpr ⟨h, hg⟩
theorem wt_good {w : Cond} (h : w ∈ WT) : (w.onTables && w.keeps) = true ∨ ∃ ty, w = .arrayClass ty := good_of_word (List.mem_filter.mp h).2
theorem wt_goodIn {c d : Cond} (hd : d ∈ WT) : GoodIn (c :: WT) (d :: WT) := by
  intro w hw
  rcases List.mem_cons.mp hw with rfl | h
  · exact ⟨List.mem_cons_of_mem _ hd, wt_good hd⟩
  · exact ⟨List.mem_cons_of_mem _ h, wt_good h⟩
/-- what the tables say beside the words: layouts, classes of arrays, links between nest mates, static tables -/
def aTy : List FieldType := [.int, .boolean, .long, .array .long, .array .int, .object RX1]
def stTab : Nat → String × String × String × FieldType × Nat × (Nat → Int)
  | 0 => (RX9, "SET_LEAST", "[I", .int, 5, fun j => if j = 3 then 1 else 0)
  | 1 => (RX9, "SET_MOST", "[I", .int, 5, fun j => if j = 0 then 10 else if j = 1 then 5 else if j = 2 then 20 else if j = 3 then 100000 else 20)
  | _ => (RX8, "ENDS", "[C", .char, 4, fun j => if j = 0 then 44 else if j = 1 then 62 else if j = 2 then 58 else 59)
def Sv (g : GT) (U : State) (H : Heap) : Prop := ∀ i, i < 3 → ∃ t : Nat, va_Z (stTab i).1 (stTab i).2.1 (stTab i).2.2.1 (.ref t) (Ag g) U H ∧ va_T (stTab i).2.2.2.1 t (stTab i).2.2.2.2.1 (fun j => .int (Int32.ofInt ((stTab i).2.2.2.2.2 j))) (Ag g) U H
def Ev (g : GT) (U : State) : Prop := va_K g.2.1 vwCl ((List.range 6).map (fun i => (g.2.2 i, aTy.getD i .int))) U ∧ (∀ w ∈ lw_tbl, nestW w = true → va_Nw w U) ∧ va_AO RX1 U
theorem Ev.moved {g : GT} {u U : State} (hW : u.WarmedH U.vm) (h : Ev g u) : Ev g U := by
  refine ⟨va_K.moved hW.alike h.1, fun w hw hn => ?_, va_AO.moved hW.alike h.2.2⟩
  have h1 := h.2.1 w hw hn
  cases w <;> first | exact va_Nw.warmF hW h1 | exact va_Nw.warmM hW h1 | (exfalso; simp [nestW] at hn)
theorem Ev.same {g : GT} {u U : State} (hW : u.vm = U.vm) (h : Ev g u) : Ev g U := by
  have hA : u.vm.Alike U.vm := by rw [hW]; exact Vm.Alike.refl U.vm
  refine ⟨va_K.moved hA h.1, fun w hw hn => ?_, va_AO.moved hA h.2.2⟩
  have h1 := h.2.1 w hw hn
  cases w <;> first | exact va_Nw.same rfl hW h1 | (exfalso; simp [nestW] at hn)
theorem Sv.moved {g : GT} {u U : State} {H : Heap} (hvm : u.vm.Alike U.vm) (h : Sv g u H) : Sv g U H := fun i hi => by
  obtain ⟨t, a, b⟩ := h i hi
  exact ⟨t, a.moved hvm, b.moved hvm⟩
theorem Sv.kept {g : GT} {U : State} {H H1 : Heap} (h : Sv g U H) (hq : ∀ a : Nat, a < H.size → ¬ Ag g a → H1[a]? = H[a]?) : Sv g U H1 := fun i hi => by
  obtain ⟨t, a, b⟩ := h i hi
  exact ⟨t, a.kept hq, b.kept hq⟩
/-! ===== the judgement ===== -/
abbrev KT : Type := Program × Launch × Env × Room × State × MethodId × Array Value × List Frame × Method × Code × GT
abbrev kS (K : KT) : State := K.2.2.2.2.1
abbrev kA (K : KT) : Array Value := K.2.2.2.2.2.2.1
abbrev kG (K : KT) : GT := K.2.2.2.2.2.2.2.2.2.2
abbrev kM (K : KT) : MethodId := K.2.2.2.2.2.1
abbrev kMeth (K : KT) : Method := K.2.2.2.2.2.2.2.2.1
abbrev kC (K : KT) : Code := K.2.2.2.2.2.2.2.2.2.1
abbrev kR (K : KT) : Room := K.2.2.2.1
def Gd (K : KT) (cc : ByteArray) (own : String) (nL : Nat) : Prop :=
  K.1.tables.exec = Jvm.exec ∧ (kC K).code = cc ∧ (kC K).maxLocals = nL ∧ (kS K).vm.findClass own = some (kM K).cls ∧ (∀ w ∈ WT, w.before (kA K) (kS K) = true) ∧ Ev (kG K) (kS K) ∧ Sv (kG K) (kS K) (kS K).heap ∧ (kMeth K).locks = false ∧ (kG K).1 ≤ (kS K).heap.size
abbrev WK (K : KT) (H : Heap) (locs : List Loc) (cs : Nat × Nat) (Q : State → Prop) (g : JFrame) : Prop :=
  W K.1 K.2.1 K.2.2.1 K.2.2.2.1 K.2.2.2.2.1 K.2.2.2.2.2.1 K.2.2.2.2.2.2.1 K.2.2.2.2.2.2.2.1 K.2.2.2.2.2.2.2.2.1 K.2.2.2.2.2.2.2.2.2.1 H locs cs.1 cs.2 Q g
abbrev lvm (sz : Nat) (lv : List (Nat × PV)) : List (Nat × Value) := lv.map (fun q => (q.1, rv sz q.2))
def Wp (K : KT) (nL : Nat) (Q : State → Prop) (cs : Nat × Nat) (pc : Nat) (lv : List (Nat × PV)) (stk : List PV) (hp : PH) : Prop :=
  ∀ (H : Heap) (locs : List Loc) (ls : Array Slot), Rl (kG K) hp H → va_S (Ag (kG K)) (kS K).heap H locs → lv_has ls nL (lvm (kG K).1 lv) → WK K H locs cs Q (F0 (kM K) pc ls (stk.map (rv (kG K).1)))
abbrev r32 (z : Int) : Prop := -2147483648 ≤ z ∧ z ≤ 2147483647
abbrev r64 (z : Int) : Prop := -9223372036854775808 ≤ z ∧ z ≤ 9223372036854775807
theorem n32 {z : Int} (h : r32 z) : (Int32.ofInt z).toInt = z := Int32.toInt_ofInt_of_le (by omega) (by omega)
theorem n64 {z : Int} (h : r64 z) : (Int64.ofInt z).toInt = z := Int64.toInt_ofInt_of_le (by omega) (by omega)
theorem e32 {a b : Int} (ha : r32 a) (hb : r32 b) : Int32.ofInt a = Int32.ofInt b ↔ a = b := by
  rw [← Int32.toInt_inj, n32 ha, n32 hb]
theorem l32 {a b : Int} (ha : r32 a) (hb : r32 b) : Int32.ofInt a < Int32.ofInt b ↔ a < b := by
  rw [Int32.lt_iff_toInt_lt, n32 ha, n32 hb]
theorem le32 {a b : Int} (ha : r32 a) (hb : r32 b) : Int32.ofInt a ≤ Int32.ofInt b ↔ a ≤ b := by
  rw [Int32.le_iff_toInt_le, n32 ha, n32 hb]
theorem z32 : (0 : Int32) = Int32.ofInt 0 := by decide
section RULES
variable {K : KT} {nL : Nat} {Q : State → Prop} {cs : Nat × Nat} {pc pc' : Nat} {lv : List (Nat × PV)} {stk : List PV} {hp : PH} {cc : ByteArray} {own : String}
theorem wp_iconst (G : Gd K cc own nL) {n : Int} (hd : Dn cc pc (.iconst n) 1 pc') (k : Wp K nL Q cs pc' lv (zI n :: stk) hp) : Wp K nL Q cs pc lv stk hp := by
  intro H locs ls h1 h2 h3
  obtain ⟨hx, hb, -⟩ := G
  obtain ⟨hd, rfl⟩ := hd
  exact lv_iconst hx hb hd rfl (k H locs ls h1 h2 h3)
theorem wp_bipush (G : Gd K cc own nL) {n : Int} (hd : Dn cc pc (.bipush n) 2 pc') (hv : (Int8.ofInt n).toInt32 = Int32.ofInt n) (k : Wp K nL Q cs pc' lv (zI n :: stk) hp) : Wp K nL Q cs pc lv stk hp := by
  intro H locs ls h1 h2 h3
  obtain ⟨hx, hb, -⟩ := G
  obtain ⟨hd, rfl⟩ := hd
  exact lv_bipush hx hb hd hv (k H locs ls h1 h2 h3)
theorem wp_sipush (G : Gd K cc own nL) {n : Int} (hd : Dn cc pc (.sipush n) 3 pc') (hv : (Int16.ofInt n).toInt32 = Int32.ofInt n) (k : Wp K nL Q cs pc' lv (zI n :: stk) hp) : Wp K nL Q cs pc lv stk hp := by
  intro H locs ls h1 h2 h3
  obtain ⟨hx, hb, -⟩ := G
  obtain ⟨hd, rfl⟩ := hd
  exact lv_sipush hx hb hd hv (k H locs ls h1 h2 h3)
theorem wp_lconst (G : Gd K cc own nL) {n : Fin 2} {z : Int} (hd : Dn cc pc (.lconst n) 1 pc') (hv : z = ((n : Nat) : Int)) (k : Wp K nL Q cs pc' lv (zJ z :: stk) hp) : Wp K nL Q cs pc lv stk hp := by
  intro H locs ls h1 h2 h3
  obtain ⟨hx, hb, -⟩ := G
  obtain ⟨hd, rfl⟩ := hd
  subst hv
  exact lv_lconst hx hb hd rfl (k H locs ls h1 h2 h3)
/-- a listed local, by its place in the list -/
theorem lvm_at {ls : Array Slot} {sz : Nat} {lv : List (Nat × PV)} (h : lv_has ls nL (lvm sz lv)) {j i : Nat} {v : PV} (hj : lv[j]? = some (i, v)) : ls[i]? = some (.val (rv sz v)) := lv_at h j (by rw [List.getElem?_map, hj]; rfl)
theorem wp_iload_n (G : Gd K cc own nL) {i : Fin 4} (j : Nat) {z : Int} (hd : Dn cc pc (.iload_n i) 1 pc') (hj : lv[j]? = some ((i : Nat), zI z)) (k : Wp K nL Q cs pc' lv (zI z :: stk) hp) : Wp K nL Q cs pc lv stk hp := by
  intro H locs ls h1 h2 h3
  obtain ⟨hx, hb, -⟩ := G
  obtain ⟨hd, rfl⟩ := hd
  exact lv_iload_n hx hb hd rfl (lvm_at h3 hj) (k H locs ls h1 h2 h3)
theorem wp_iload (G : Gd K cc own nL) {i : Nat} (j : Nat) {z : Int} (hd : Dn cc pc (.iload i) 2 pc') (hj : lv[j]? = some (i, zI z)) (k : Wp K nL Q cs pc' lv (zI z :: stk) hp) : Wp K nL Q cs pc lv stk hp := by
  intro H locs ls h1 h2 h3
  obtain ⟨hx, hb, -⟩ := G
  obtain ⟨hd, rfl⟩ := hd
  exact lv_iload hx hb hd (lvm_at h3 hj) (k H locs ls h1 h2 h3)
theorem wp_lload_n (G : Gd K cc own nL) {i : Fin 4} (j : Nat) {z : Int} (hd : Dn cc pc (.lload_n i) 1 pc') (hj : lv[j]? = some ((i : Nat), zJ z)) (k : Wp K nL Q cs pc' lv (zJ z :: stk) hp) : Wp K nL Q cs pc lv stk hp := by
  intro H locs ls h1 h2 h3
  obtain ⟨hx, hb, -⟩ := G
  obtain ⟨hd, rfl⟩ := hd
  exact lv_lload_n hx hb hd rfl (lvm_at h3 hj) (k H locs ls h1 h2 h3)
theorem wp_lload (G : Gd K cc own nL) {i : Nat} (j : Nat) {z : Int} (hd : Dn cc pc (.lload i) 2 pc') (hj : lv[j]? = some (i, zJ z)) (k : Wp K nL Q cs pc' lv (zJ z :: stk) hp) : Wp K nL Q cs pc lv stk hp := by
  intro H locs ls h1 h2 h3
  obtain ⟨hx, hb, -⟩ := G
  obtain ⟨hd, rfl⟩ := hd
  exact lv_lload hx hb hd (lvm_at h3 hj) (k H locs ls h1 h2 h3)
theorem wp_aload_n (G : Gd K cc own nL) {i : Fin 4} (j : Nat) {r : Nat} (hd : Dn cc pc (.aload_n i) 1 pc') (hj : lv[j]? = some ((i : Nat), zR r)) (k : Wp K nL Q cs pc' lv (zR r :: stk) hp) : Wp K nL Q cs pc lv stk hp := by
  intro H locs ls h1 h2 h3
  obtain ⟨hx, hb, -⟩ := G
  obtain ⟨hd, rfl⟩ := hd
  exact lv_aload_n hx hb hd rfl (lvm_at h3 hj) (k H locs ls h1 h2 h3)
theorem wp_aload (G : Gd K cc own nL) {i : Nat} (j : Nat) {r : Nat} (hd : Dn cc pc (.aload i) 2 pc') (hj : lv[j]? = some (i, zR r)) (k : Wp K nL Q cs pc' lv (zR r :: stk) hp) : Wp K nL Q cs pc lv stk hp := by
  intro H locs ls h1 h2 h3
  obtain ⟨hx, hb, -⟩ := G
  obtain ⟨hd, rfl⟩ := hd
  exact lv_aload hx hb hd (lvm_at h3 hj) (k H locs ls h1 h2 h3)
theorem wp_aload_nN (G : Gd K cc own nL) {i : Fin 4} (j : Nat) (hd : Dn cc pc (.aload_n i) 1 pc') (hj : lv[j]? = some ((i : Nat), zN)) (k : Wp K nL Q cs pc' lv (zN :: stk) hp) : Wp K nL Q cs pc lv stk hp := by
  intro H locs ls h1 h2 h3
  obtain ⟨hx, hb, -⟩ := G
  obtain ⟨hd, rfl⟩ := hd
  exact lv_aload_nN hx hb hd rfl (lvm_at h3 hj) (k H locs ls h1 h2 h3)
theorem wp_aloadN (G : Gd K cc own nL) {i : Nat} (j : Nat) (hd : Dn cc pc (.aload i) 2 pc') (hj : lv[j]? = some (i, zN)) (k : Wp K nL Q cs pc' lv (zN :: stk) hp) : Wp K nL Q cs pc lv stk hp := by
  intro H locs ls h1 h2 h3
  obtain ⟨hx, hb, -⟩ := G
  obtain ⟨hd, rfl⟩ := hd
  exact lv_aloadN hx hb hd (lvm_at h3 hj) (k H locs ls h1 h2 h3)
/-! stores -/
def isJ : PV → Bool
  | .inr (.inl _) => true
  | _ => false
theorem cat_rv (sz : Nat) (v : PV) : ((rv sz v).category == 2) = isJ v := by
  rcases v with z | z | _ | k <;> rfl
def pst (i : Nat) (v : PV) (lv : List (Nat × PV)) : List (Nat × PV) := (i, v) :: lv.filter (fun q => !(q.1 == i) && !(q.1 + 1 == i && isJ q.2))
def pst2 (i : Nat) (v : PV) (lv : List (Nat × PV)) : List (Nat × PV) := (i, v) :: lv.filter (fun q => !(q.1 == i) && (!(q.1 == i + 1) && !(q.1 + 1 == i && isJ q.2)))
theorem pst_map (sz i : Nat) (v : PV) (lv : List (Nat × PV)) : (i, rv sz v) :: (lvm sz lv).filter (fun q => !(q.1 == i) && !(q.1 + 1 == i && q.2.category == 2)) = lvm sz (pst i v lv) := by
  show _ = (i, rv sz v) :: List.map _ _
  rw [List.filter_map]
  congr 2
  refine congrArg (fun f => List.filter f lv) (funext fun q => ?_)
  simp only [Function.comp_apply, cat_rv]
theorem pst2_map (sz i : Nat) (v : PV) (lv : List (Nat × PV)) : (i, rv sz v) :: (lvm sz lv).filter (fun q => !(q.1 == i) && (!(q.1 == i + 1) && !(q.1 + 1 == i && q.2.category == 2))) = lvm sz (pst2 i v lv) := by
  show _ = (i, rv sz v) :: List.map _ _
  rw [List.filter_map]
  congr 2
  refine congrArg (fun f => List.filter f lv) (funext fun q => ?_)
  simp only [Function.comp_apply, cat_rv]
theorem wp_istore_n (G : Gd K cc own nL) {i : Fin 4} {z : Int} {lv' : List (Nat × PV)} (hd : Dn cc pc (.istore_n i) 1 pc') (hn : (i : Nat) < nL) (hl : pst (i : Nat) (zI z) lv = lv') (k : Wp K nL Q cs pc' lv' stk hp) : Wp K nL Q cs pc lv (zI z :: stk) hp := by
  intro H locs ls h1 h2 h3
  obtain ⟨hx, hb, -⟩ := G
  obtain ⟨hd, rfl⟩ := hd
  subst hl
  exact lv_istore_n hx hb hd rfl h3 hn (pst_map _ _ (zI z) _) (fun ls' h' => k H locs ls' h1 h2 h')
theorem wp_istore (G : Gd K cc own nL) {i : Nat} {z : Int} {lv' : List (Nat × PV)} (hd : Dn cc pc (.istore i) 2 pc') (hn : i < nL) (hl : pst i (zI z) lv = lv') (k : Wp K nL Q cs pc' lv' stk hp) : Wp K nL Q cs pc lv (zI z :: stk) hp := by
  intro H locs ls h1 h2 h3
  obtain ⟨hx, hb, -⟩ := G
  obtain ⟨hd, rfl⟩ := hd
  subst hl
  exact lv_istore hx hb hd h3 hn (pst_map _ _ (zI z) _) (fun ls' h' => k H locs ls' h1 h2 h')
theorem wp_lstore_n (G : Gd K cc own nL) {i : Fin 4} {z : Int} {lv' : List (Nat × PV)} (hd : Dn cc pc (.lstore_n i) 1 pc') (hn : (i : Nat) + 1 < nL) (hl : pst2 (i : Nat) (zJ z) lv = lv') (k : Wp K nL Q cs pc' lv' stk hp) : Wp K nL Q cs pc lv (zJ z :: stk) hp := by
  intro H locs ls h1 h2 h3
  obtain ⟨hx, hb, -⟩ := G
  obtain ⟨hd, rfl⟩ := hd
  subst hl
  exact lv_lstore_n hx hb hd rfl h3 hn (pst2_map _ _ (zJ z) _) (fun ls' h' => k H locs ls' h1 h2 h')
theorem wp_lstore (G : Gd K cc own nL) {i : Nat} {z : Int} {lv' : List (Nat × PV)} (hd : Dn cc pc (.lstore i) 2 pc') (hn : i + 1 < nL) (hl : pst2 i (zJ z) lv = lv') (k : Wp K nL Q cs pc' lv' stk hp) : Wp K nL Q cs pc lv (zJ z :: stk) hp := by
  intro H locs ls h1 h2 h3
  obtain ⟨hx, hb, -⟩ := G
  obtain ⟨hd, rfl⟩ := hd
  subst hl
  exact lv_lstore hx hb hd h3 hn (pst2_map _ _ (zJ z) _) (fun ls' h' => k H locs ls' h1 h2 h')
theorem wp_astore_n (G : Gd K cc own nL) {i : Fin 4} {r : Nat} {lv' : List (Nat × PV)} (hd : Dn cc pc (.astore_n i) 1 pc') (hn : (i : Nat) < nL) (hl : pst (i : Nat) (zR r) lv = lv') (k : Wp K nL Q cs pc' lv' stk hp) : Wp K nL Q cs pc lv (zR r :: stk) hp := by
  intro H locs ls h1 h2 h3
  obtain ⟨hx, hb, -⟩ := G
  obtain ⟨hd, rfl⟩ := hd
  subst hl
  exact lv_astore_n hx hb hd rfl h3 hn (pst_map _ _ (zR r) _) (fun ls' h' => k H locs ls' h1 h2 h')
theorem wp_astore (G : Gd K cc own nL) {i : Nat} {r : Nat} {lv' : List (Nat × PV)} (hd : Dn cc pc (.astore i) 2 pc') (hn : i < nL) (hl : pst i (zR r) lv = lv') (k : Wp K nL Q cs pc' lv' stk hp) : Wp K nL Q cs pc lv (zR r :: stk) hp := by
  intro H locs ls h1 h2 h3
  obtain ⟨hx, hb, -⟩ := G
  obtain ⟨hd, rfl⟩ := hd
  subst hl
  exact lv_astore hx hb hd h3 hn (pst_map _ _ (zR r) _) (fun ls' h' => k H locs ls' h1 h2 h')
theorem wp_astore_nN (G : Gd K cc own nL) {i : Fin 4} {lv' : List (Nat × PV)} (hd : Dn cc pc (.astore_n i) 1 pc') (hn : (i : Nat) < nL) (hl : pst (i : Nat) zN lv = lv') (k : Wp K nL Q cs pc' lv' stk hp) : Wp K nL Q cs pc lv (zN :: stk) hp := by
  intro H locs ls h1 h2 h3
  obtain ⟨hx, hb, -⟩ := G
  obtain ⟨hd, rfl⟩ := hd
  subst hl
  exact lv_astore_nN hx hb hd rfl h3 hn (pst_map _ _ zN _) (fun ls' h' => k H locs ls' h1 h2 h')
theorem wp_astoreN (G : Gd K cc own nL) {i : Nat} {lv' : List (Nat × PV)} (hd : Dn cc pc (.astore i) 2 pc') (hn : i < nL) (hl : pst i zN lv = lv') (k : Wp K nL Q cs pc' lv' stk hp) : Wp K nL Q cs pc lv (zN :: stk) hp := by
  intro H locs ls h1 h2 h3
  obtain ⟨hx, hb, -⟩ := G
  obtain ⟨hd, rfl⟩ := hd
  subst hl
  exact lv_astoreN hx hb hd h3 hn (pst_map _ _ zN _) (fun ls' h' => k H locs ls' h1 h2 h')
theorem wp_iinc (G : Gd K cc own nL) {i : Nat} {n z : Int} (j : Nat) {lv' : List (Nat × PV)} (hd : Dn cc pc (.iinc i n) 3 pc') (hj : lv[j]? = some (i, zI z)) (hn : i < nL) (hl : pst i (zI (z + n)) lv = lv') (k : Wp K nL Q cs pc' lv' stk hp) : Wp K nL Q cs pc lv stk hp := by
  intro H locs ls h1 h2 h3
  obtain ⟨hx, hb, -⟩ := G
  obtain ⟨hd, rfl⟩ := hd
  subst hl
  exact lv_iinc (k := j) hx hb hd h3 (by rw [List.getElem?_map, hj]; rfl) (Int32.ofInt_add z n).symm hn (pst_map _ _ (zI (z + n)) _) (fun ls' h' => k H locs ls' h1 h2 h')
end RULES
end
section
theorem mn32 : Int32.minValue.toInt = -2147483648 := by decide
theorem mx32 : Int32.maxValue.toInt = 2147483647 := by decide
theorem mn64 : Int64.minValue.toInt = -9223372036854775808 := by decide
theorem mx64 : Int64.maxValue.toInt = 9223372036854775807 := by decide
theorem dv32 {a b : Int} (ha : 0 ≤ a) (ra : r32 a) (rb : r32 b) : Int32.ofInt a / Int32.ofInt b = Int32.ofInt (a / b) := by
  rw [← Int.tdiv_eq_ediv_of_nonneg ha]
  exact (Int32.ofInt_tdiv (by rw [mn32]; omega) (by rw [mx32]; omega) (by rw [mn32]; omega) (by rw [mx32]; omega)).symm
theorem dv64 {a b : Int} (ha : 0 ≤ a) (ra : r64 a) (rb : r64 b) : Int64.ofInt a / Int64.ofInt b = Int64.ofInt (a / b) := by
  rw [← Int.tdiv_eq_ediv_of_nonneg ha]
  exact (Int64.ofInt_tdiv (by rw [mn64]; omega) (by rw [mx64]; omega) (by rw [mn64]; omega) (by rw [mx64]; omega)).symm
theorem rm32 {a b : Int} (ra : r32 a) (rb : r32 b) : Int32.ofInt a - Int32.ofInt a / Int32.ofInt b * Int32.ofInt b = Int32.ofInt (Int.tmod a b) := by
  rw [irem_eq_mod]
  exact (Int32.ofInt_tmod (by rw [mn32]; omega) (by rw [mx32]; omega) (by rw [mn32]; omega) (by rw [mx32]; omega)).symm
theorem rm64 {a b : Int} (ra : r64 a) (rb : r64 b) : Int64.ofInt a - Int64.ofInt a / Int64.ofInt b * Int64.ofInt b = Int64.ofInt (Int.tmod a b) := by
  rw [← Int64.ofInt_tdiv (by rw [mn64]; omega) (by rw [mx64]; omega) (by rw [mn64]; omega) (by rw [mx64]; omega), ← Int64.ofInt_mul, ← Int64.ofInt_sub, Int.tmod_def, Int.mul_comm]
section RULES2
variable {K : KT} {nL : Nat} {Q : State → Prop} {cs : Nat × Nat} {pc pc' tgt : Nat} {lv : List (Nat × PV)} {stk : List PV} {hp : PH} {cc : ByteArray} {own : String}

theorem wp_iadd (G : Gd K cc own nL) {a b : Int} (hd : Dn cc pc .iadd 1 pc') (k : Wp K nL Q cs pc' lv (zI (a + b) :: stk) hp) : Wp K nL Q cs pc lv (zI b :: zI a :: stk) hp := by
  intro H locs ls h1 h2 h3
  obtain ⟨hx, hb, -⟩ := G
  obtain ⟨hd, rfl⟩ := hd
  have e : Int32.ofInt a + Int32.ofInt b = Int32.ofInt (a + b) := (Int32.ofInt_add a b).symm
  refine lv_iadd (x := Int32.ofInt a) (y := Int32.ofInt b) hx hb hd ?_
  rw [e]
  exact k H locs ls h1 h2 h3
theorem wp_ladd (G : Gd K cc own nL) {a b : Int} (hd : Dn cc pc .ladd 1 pc') (k : Wp K nL Q cs pc' lv (zJ (a + b) :: stk) hp) : Wp K nL Q cs pc lv (zJ b :: zJ a :: stk) hp := by
  intro H locs ls h1 h2 h3
  obtain ⟨hx, hb, -⟩ := G
  obtain ⟨hd, rfl⟩ := hd
  have e : Int64.ofInt a + Int64.ofInt b = Int64.ofInt (a + b) := (Int64.ofInt_add a b).symm
  refine lv_ladd (x := Int64.ofInt a) (y := Int64.ofInt b) hx hb hd ?_
  rw [e]
  exact k H locs ls h1 h2 h3
theorem wp_isub (G : Gd K cc own nL) {a b : Int} (hd : Dn cc pc .isub 1 pc') (k : Wp K nL Q cs pc' lv (zI (a - b) :: stk) hp) : Wp K nL Q cs pc lv (zI b :: zI a :: stk) hp := by
  intro H locs ls h1 h2 h3
  obtain ⟨hx, hb, -⟩ := G
  obtain ⟨hd, rfl⟩ := hd
  have e : Int32.ofInt a - Int32.ofInt b = Int32.ofInt (a - b) := (Int32.ofInt_sub a b).symm
  refine lv_isub (x := Int32.ofInt a) (y := Int32.ofInt b) hx hb hd ?_
  rw [e]
  exact k H locs ls h1 h2 h3
theorem wp_lsub (G : Gd K cc own nL) {a b : Int} (hd : Dn cc pc .lsub 1 pc') (k : Wp K nL Q cs pc' lv (zJ (a - b) :: stk) hp) : Wp K nL Q cs pc lv (zJ b :: zJ a :: stk) hp := by
  intro H locs ls h1 h2 h3
  obtain ⟨hx, hb, -⟩ := G
  obtain ⟨hd, rfl⟩ := hd
  have e : Int64.ofInt a - Int64.ofInt b = Int64.ofInt (a - b) := (Int64.ofInt_sub a b).symm
  refine lv_lsub (x := Int64.ofInt a) (y := Int64.ofInt b) hx hb hd ?_
  rw [e]
  exact k H locs ls h1 h2 h3
theorem wp_imul (G : Gd K cc own nL) {a b : Int} (hd : Dn cc pc .imul 1 pc') (k : Wp K nL Q cs pc' lv (zI (a * b) :: stk) hp) : Wp K nL Q cs pc lv (zI b :: zI a :: stk) hp := by
  intro H locs ls h1 h2 h3
  obtain ⟨hx, hb, -⟩ := G
  obtain ⟨hd, rfl⟩ := hd
  have e : Int32.ofInt a * Int32.ofInt b = Int32.ofInt (a * b) := (Int32.ofInt_mul a b).symm
  refine lv_imul (x := Int32.ofInt a) (y := Int32.ofInt b) hx hb hd ?_
  rw [e]
  exact k H locs ls h1 h2 h3
theorem wp_lmul (G : Gd K cc own nL) {a b : Int} (hd : Dn cc pc .lmul 1 pc') (k : Wp K nL Q cs pc' lv (zJ (a * b) :: stk) hp) : Wp K nL Q cs pc lv (zJ b :: zJ a :: stk) hp := by
  intro H locs ls h1 h2 h3
  obtain ⟨hx, hb, -⟩ := G
  obtain ⟨hd, rfl⟩ := hd
  have e : Int64.ofInt a * Int64.ofInt b = Int64.ofInt (a * b) := (Int64.ofInt_mul a b).symm
  refine lv_lmul (x := Int64.ofInt a) (y := Int64.ofInt b) hx hb hd ?_
  rw [e]
  exact k H locs ls h1 h2 h3
theorem wp_ineg (G : Gd K cc own nL) {a : Int} (hd : Dn cc pc .ineg 1 pc') (k : Wp K nL Q cs pc' lv (zI (-a) :: stk) hp) : Wp K nL Q cs pc lv (zI a :: stk) hp := by
  intro H locs ls h1 h2 h3
  obtain ⟨hx, hb, -⟩ := G
  obtain ⟨hd, rfl⟩ := hd
  have e : -Int32.ofInt a = Int32.ofInt (-a) := (Int32.ofInt_neg a).symm
  refine lv_ineg (x := Int32.ofInt a) hx hb hd ?_
  first | rw [e] | rw [Int32.zero_sub, e]
  exact k H locs ls h1 h2 h3
theorem wp_lneg (G : Gd K cc own nL) {a : Int} (hd : Dn cc pc .lneg 1 pc') (k : Wp K nL Q cs pc' lv (zJ (-a) :: stk) hp) : Wp K nL Q cs pc lv (zJ a :: stk) hp := by
  intro H locs ls h1 h2 h3
  obtain ⟨hx, hb, -⟩ := G
  obtain ⟨hd, rfl⟩ := hd
  have e : -Int64.ofInt a = Int64.ofInt (-a) := (Int64.ofInt_neg a).symm
  refine lv_lneg (x := Int64.ofInt a) hx hb hd ?_
  first | rw [e] | rw [Int64.zero_sub, e]
  exact k H locs ls h1 h2 h3
theorem wp_idiv (G : Gd K cc own nL) {a b : Int} (ha : 0 ≤ a) (hb0 : 0 < b) (ra : r32 a) (rb : r32 b) (hd : Dn cc pc .idiv 1 pc') (k : Wp K nL Q cs pc' lv (zI (a / b) :: stk) hp) : Wp K nL Q cs pc lv (zI b :: zI a :: stk) hp := by
  intro H locs ls h1 h2 h3
  obtain ⟨hx, hb, -⟩ := G
  obtain ⟨hd, rfl⟩ := hd
  have e0 : ¬ Int32.ofInt b = 0 := fun h => by
    have := congrArg Int32.toInt h
    rw [n32 rb] at this
    have z : (0 : Int32).toInt = 0 := by decide
    omega
  have e := dv32 ha ra rb
  refine lv_idiv (x := Int32.ofInt a) (y := Int32.ofInt b) hx hb hd e0 ?_
  rw [e]
  exact k H locs ls h1 h2 h3
theorem wp_ldiv (G : Gd K cc own nL) {a b : Int} (ha : 0 ≤ a) (hb0 : 0 < b) (ra : r64 a) (rb : r64 b) (hd : Dn cc pc .ldiv 1 pc') (k : Wp K nL Q cs pc' lv (zJ (a / b) :: stk) hp) : Wp K nL Q cs pc lv (zJ b :: zJ a :: stk) hp := by
  intro H locs ls h1 h2 h3
  obtain ⟨hx, hb, -⟩ := G
  obtain ⟨hd, rfl⟩ := hd
  have e0 : ¬ Int64.ofInt b = 0 := fun h => by
    have := congrArg Int64.toInt h
    rw [n64 rb] at this
    have z : (0 : Int64).toInt = 0 := by decide
    omega
  have e := dv64 ha ra rb
  refine lv_ldiv (x := Int64.ofInt a) (y := Int64.ofInt b) hx hb hd e0 ?_
  rw [e]
  exact k H locs ls h1 h2 h3
theorem wp_irem (G : Gd K cc own nL) {a b : Int} (hb0 : b ≠ 0) (ra : r32 a) (rb : r32 b) (hd : Dn cc pc .irem 1 pc') (k : Wp K nL Q cs pc' lv (zI (Int.tmod a b) :: stk) hp) : Wp K nL Q cs pc lv (zI b :: zI a :: stk) hp := by
  intro H locs ls h1 h2 h3
  obtain ⟨hx, hb, -⟩ := G
  obtain ⟨hd, rfl⟩ := hd
  have e0 : ¬ Int32.ofInt b = 0 := fun h => by
    have := congrArg Int32.toInt h
    rw [n32 rb] at this
    have z : (0 : Int32).toInt = 0 := by decide
    omega
  have e := rm32 ra rb
  refine lv_irem (x := Int32.ofInt a) (y := Int32.ofInt b) hx hb hd e0 ?_
  rw [e]
  exact k H locs ls h1 h2 h3
theorem wp_lrem (G : Gd K cc own nL) {a b : Int} (hb0 : b ≠ 0) (ra : r64 a) (rb : r64 b) (hd : Dn cc pc .lrem 1 pc') (k : Wp K nL Q cs pc' lv (zJ (Int.tmod a b) :: stk) hp) : Wp K nL Q cs pc lv (zJ b :: zJ a :: stk) hp := by
  intro H locs ls h1 h2 h3
  obtain ⟨hx, hb, -⟩ := G
  obtain ⟨hd, rfl⟩ := hd
  have e0 : ¬ Int64.ofInt b = 0 := fun h => by
    have := congrArg Int64.toInt h
    rw [n64 rb] at this
    have z : (0 : Int64).toInt = 0 := by decide
    omega
  have e := rm64 ra rb
  refine lv_lrem (x := Int64.ofInt a) (y := Int64.ofInt b) hx hb hd e0 ?_
  rw [e]
  exact k H locs ls h1 h2 h3
theorem wp_i2l (G : Gd K cc own nL) {a : Int} (ra : r32 a) (hd : Dn cc pc .i2l 1 pc') (k : Wp K nL Q cs pc' lv (zJ a :: stk) hp) : Wp K nL Q cs pc lv (zI a :: stk) hp := by
  intro H locs ls h1 h2 h3
  obtain ⟨hx, hb, -⟩ := G
  obtain ⟨hd, rfl⟩ := hd
  have e : (Int32.ofInt a).toInt64 = Int64.ofInt a := Int32.toInt64_ofInt (by rw [mn32]; omega) (by rw [mx32]; omega)
  exact lv_i2l (x := Int32.ofInt a) hx hb hd e (k H locs ls h1 h2 h3)
theorem wp_l2i (G : Gd K cc own nL) {a : Int} (hd : Dn cc pc .l2i 1 pc') (k : Wp K nL Q cs pc' lv (zI a :: stk) hp) : Wp K nL Q cs pc lv (zJ a :: stk) hp := by
  intro H locs ls h1 h2 h3
  obtain ⟨hx, hb, -⟩ := G
  obtain ⟨hd, rfl⟩ := hd
  exact lv_l2i (x := Int64.ofInt a) hx hb hd Int64.toInt32_ofInt (k H locs ls h1 h2 h3)
theorem wp_dup (G : Gd K cc own nL) {v : PV} (hj : isJ v = false) (hd : Dn cc pc .dup 1 pc') (k : Wp K nL Q cs pc' lv (v :: v :: stk) hp) : Wp K nL Q cs pc lv (v :: stk) hp := by
  intro H locs ls h1 h2 h3
  obtain ⟨hx, hb, -⟩ := G
  obtain ⟨hd, rfl⟩ := hd
  exact lv_dup hx hb hd (by rcases v with z | z | _ | r <;> first | rfl | (exact absurd hj (by simp [isJ]))) (k H locs ls h1 h2 h3)
theorem wp_pop (G : Gd K cc own nL) {v : PV} (hj : isJ v = false) (hd : Dn cc pc .pop 1 pc') (k : Wp K nL Q cs pc' lv (stk) hp) : Wp K nL Q cs pc lv (v :: stk) hp := by
  intro H locs ls h1 h2 h3
  obtain ⟨hx, hb, -⟩ := G
  obtain ⟨hd, rfl⟩ := hd
  exact lv_pop hx hb hd (by rcases v with z | z | _ | r <;> first | rfl | (exact absurd hj (by simp [isJ]))) (k H locs ls h1 h2 h3)
theorem wp_dup2 (G : Gd K cc own nL) {v w : PV} (hj : isJ v = false) (hj2 : isJ w = false) (hd : Dn cc pc .dup2 1 pc') (k : Wp K nL Q cs pc' lv (v :: w :: v :: w :: stk) hp) : Wp K nL Q cs pc lv (v :: w :: stk) hp := by
  intro H locs ls h1 h2 h3
  obtain ⟨hx, hb, -⟩ := G
  obtain ⟨hd, rfl⟩ := hd
  exact lv_dup2_11 hx hb hd (by rcases v with z | z | _ | r <;> first | rfl | (exact absurd hj (by simp [isJ]))) (by rcases w with z | z | _ | r <;> first | rfl | (exact absurd hj2 (by simp [isJ]))) (k H locs ls h1 h2 h3)
theorem wp_null (G : Gd K cc own nL)  (hd : Dn cc pc .aconst_null 1 pc') (k : Wp K nL Q cs pc' lv (zN :: stk) hp) : Wp K nL Q cs pc lv (stk) hp := by
  intro H locs ls h1 h2 h3
  obtain ⟨hx, hb, -⟩ := G
  obtain ⟨hd, rfl⟩ := hd
  exact lv_null hx hb hd (k H locs ls h1 h2 h3)
theorem wp_icmp_lt (G : Gd K cc own nL) {a b : Int} {off : Int} (hd : Db cc pc (.if_icmp .lt off) off pc' tgt) (ra : r32 a) (rb : r32 b) (kt : a < b → Wp K nL Q cs tgt lv stk hp) (kf : b ≤ a → Wp K nL Q cs pc' lv stk hp) : Wp K nL Q cs pc lv (zI b :: zI a :: stk) hp := by
  intro H locs ls h1 h2 h3
  obtain ⟨hx, hb, -⟩ := G
  obtain ⟨hd, rfl, ht⟩ := hd
  exact lv_icmp_lt (x := Int32.ofInt a) (y := Int32.ofInt b) hx hb hd ht (fun c => kt ((l32 ra rb).mp c) H locs ls h1 h2 h3) (fun c => kf (Int.not_lt.mp (fun z => c ((l32 ra rb).mpr z))) H locs ls h1 h2 h3)
theorem wp_if_lt (G : Gd K cc own nL) {a : Int} {off : Int} (hd : Db cc pc (.ifCond .lt off) off pc' tgt) (ra : r32 a) (kt : a < 0 → Wp K nL Q cs tgt lv stk hp) (kf : 0 ≤ a → Wp K nL Q cs pc' lv stk hp) : Wp K nL Q cs pc lv (zI a :: stk) hp := by
  intro H locs ls h1 h2 h3
  obtain ⟨hx, hb, -⟩ := G
  obtain ⟨hd, rfl, ht⟩ := hd
  have r0 : r32 0 := by omega
  exact lv_if_lt (x := Int32.ofInt a) hx hb hd ht (fun c => kt (by rw [z32] at c; exact (l32 ra r0).mp c) H locs ls h1 h2 h3) (fun c => kf (by rw [z32] at c; exact Int.not_lt.mp (fun z => c ((l32 ra r0).mpr z))) H locs ls h1 h2 h3)
theorem wp_icmp_ge (G : Gd K cc own nL) {a b : Int} {off : Int} (hd : Db cc pc (.if_icmp .ge off) off pc' tgt) (ra : r32 a) (rb : r32 b) (kt : b ≤ a → Wp K nL Q cs tgt lv stk hp) (kf : a < b → Wp K nL Q cs pc' lv stk hp) : Wp K nL Q cs pc lv (zI b :: zI a :: stk) hp := by
  intro H locs ls h1 h2 h3
  obtain ⟨hx, hb, -⟩ := G
  obtain ⟨hd, rfl, ht⟩ := hd
  exact lv_icmp_ge (x := Int32.ofInt a) (y := Int32.ofInt b) hx hb hd ht (fun c => kt (Int.not_lt.mp (fun z => by first | exact absurd c (Int32.not_le.mpr ((l32 ra rb).mpr z)) | exact c ((l32 ra rb).mpr z))) H locs ls h1 h2 h3) (fun c => kf (Int.not_le.mp (fun z => c (by first | exact (le32 rb ra).mpr z | exact fun y => absurd ((l32 ra rb).mp y) (Int.not_lt.mpr z)))) H locs ls h1 h2 h3)
theorem wp_if_ge (G : Gd K cc own nL) {a : Int} {off : Int} (hd : Db cc pc (.ifCond .ge off) off pc' tgt) (ra : r32 a) (kt : 0 ≤ a → Wp K nL Q cs tgt lv stk hp) (kf : a < 0 → Wp K nL Q cs pc' lv stk hp) : Wp K nL Q cs pc lv (zI a :: stk) hp := by
  intro H locs ls h1 h2 h3
  obtain ⟨hx, hb, -⟩ := G
  obtain ⟨hd, rfl, ht⟩ := hd
  have r0 : r32 0 := by omega
  exact lv_if_ge (x := Int32.ofInt a) hx hb hd ht (fun c => kt (by rw [z32] at c; exact Int.not_lt.mp (fun z => by first | exact absurd c (Int32.not_le.mpr ((l32 ra r0).mpr z)) | exact c ((l32 ra r0).mpr z))) H locs ls h1 h2 h3) (fun c => kf (by rw [z32] at c; exact Int.not_le.mp (fun z => c (by first | exact (le32 r0 ra).mpr z | exact fun y => absurd ((l32 ra r0).mp y) (Int.not_lt.mpr z)))) H locs ls h1 h2 h3)
theorem wp_icmp_gt (G : Gd K cc own nL) {a b : Int} {off : Int} (hd : Db cc pc (.if_icmp .gt off) off pc' tgt) (ra : r32 a) (rb : r32 b) (kt : b < a → Wp K nL Q cs tgt lv stk hp) (kf : a ≤ b → Wp K nL Q cs pc' lv stk hp) : Wp K nL Q cs pc lv (zI b :: zI a :: stk) hp := by
  intro H locs ls h1 h2 h3
  obtain ⟨hx, hb, -⟩ := G
  obtain ⟨hd, rfl, ht⟩ := hd
  exact lv_icmp_gt (x := Int32.ofInt a) (y := Int32.ofInt b) hx hb hd ht (fun c => kt ((l32 rb ra).mp c) H locs ls h1 h2 h3) (fun c => kf (Int.not_lt.mp (fun z => c ((l32 rb ra).mpr z))) H locs ls h1 h2 h3)
theorem wp_if_gt (G : Gd K cc own nL) {a : Int} {off : Int} (hd : Db cc pc (.ifCond .gt off) off pc' tgt) (ra : r32 a) (kt : 0 < a → Wp K nL Q cs tgt lv stk hp) (kf : a ≤ 0 → Wp K nL Q cs pc' lv stk hp) : Wp K nL Q cs pc lv (zI a :: stk) hp := by
  intro H locs ls h1 h2 h3
  obtain ⟨hx, hb, -⟩ := G
  obtain ⟨hd, rfl, ht⟩ := hd
  have r0 : r32 0 := by omega
  exact lv_if_gt (x := Int32.ofInt a) hx hb hd ht (fun c => kt (by rw [z32] at c; exact (l32 r0 ra).mp c) H locs ls h1 h2 h3) (fun c => kf (by rw [z32] at c; exact Int.not_lt.mp (fun z => c ((l32 r0 ra).mpr z))) H locs ls h1 h2 h3)
theorem wp_icmp_le (G : Gd K cc own nL) {a b : Int} {off : Int} (hd : Db cc pc (.if_icmp .le off) off pc' tgt) (ra : r32 a) (rb : r32 b) (kt : a ≤ b → Wp K nL Q cs tgt lv stk hp) (kf : b < a → Wp K nL Q cs pc' lv stk hp) : Wp K nL Q cs pc lv (zI b :: zI a :: stk) hp := by
  intro H locs ls h1 h2 h3
  obtain ⟨hx, hb, -⟩ := G
  obtain ⟨hd, rfl, ht⟩ := hd
  exact lv_icmp_le (x := Int32.ofInt a) (y := Int32.ofInt b) hx hb hd ht (fun c => kt (Int.not_lt.mp (fun z => by first | exact absurd c (Int32.not_le.mpr ((l32 rb ra).mpr z)) | exact c ((l32 rb ra).mpr z))) H locs ls h1 h2 h3) (fun c => kf (Int.not_le.mp (fun z => c (by first | exact (le32 ra rb).mpr z | exact fun y => absurd ((l32 rb ra).mp y) (Int.not_lt.mpr z)))) H locs ls h1 h2 h3)
theorem wp_if_le (G : Gd K cc own nL) {a : Int} {off : Int} (hd : Db cc pc (.ifCond .le off) off pc' tgt) (ra : r32 a) (kt : a ≤ 0 → Wp K nL Q cs tgt lv stk hp) (kf : 0 < a → Wp K nL Q cs pc' lv stk hp) : Wp K nL Q cs pc lv (zI a :: stk) hp := by
  intro H locs ls h1 h2 h3
  obtain ⟨hx, hb, -⟩ := G
  obtain ⟨hd, rfl, ht⟩ := hd
  have r0 : r32 0 := by omega
  exact lv_if_le (x := Int32.ofInt a) hx hb hd ht (fun c => kt (by rw [z32] at c; exact Int.not_lt.mp (fun z => by first | exact absurd c (Int32.not_le.mpr ((l32 r0 ra).mpr z)) | exact c ((l32 r0 ra).mpr z))) H locs ls h1 h2 h3) (fun c => kf (by rw [z32] at c; exact Int.not_le.mp (fun z => c (by first | exact (le32 ra r0).mpr z | exact fun y => absurd ((l32 r0 ra).mp y) (Int.not_lt.mpr z)))) H locs ls h1 h2 h3)
theorem wp_icmp_eq (G : Gd K cc own nL) {a b : Int} {off : Int} (hd : Db cc pc (.if_icmp .eq off) off pc' tgt) (ra : r32 a) (rb : r32 b) (kt : a = b → Wp K nL Q cs tgt lv stk hp) (kf : a ≠ b → Wp K nL Q cs pc' lv stk hp) : Wp K nL Q cs pc lv (zI b :: zI a :: stk) hp := by
  intro H locs ls h1 h2 h3
  obtain ⟨hx, hb, -⟩ := G
  obtain ⟨hd, rfl, ht⟩ := hd
  exact lv_icmp_eq (x := Int32.ofInt a) (y := Int32.ofInt b) hx hb hd ht (fun c => kt ((e32 ra rb).mp c) H locs ls h1 h2 h3) (fun c => kf (fun z => c ((e32 ra rb).mpr z)) H locs ls h1 h2 h3)
theorem wp_if_eq (G : Gd K cc own nL) {a : Int} {off : Int} (hd : Db cc pc (.ifCond .eq off) off pc' tgt) (ra : r32 a) (kt : a = 0 → Wp K nL Q cs tgt lv stk hp) (kf : a ≠ 0 → Wp K nL Q cs pc' lv stk hp) : Wp K nL Q cs pc lv (zI a :: stk) hp := by
  intro H locs ls h1 h2 h3
  obtain ⟨hx, hb, -⟩ := G
  obtain ⟨hd, rfl, ht⟩ := hd
  have r0 : r32 0 := by omega
  exact lv_if_eq (x := Int32.ofInt a) hx hb hd ht (fun c => kt (by rw [z32] at c; exact (e32 ra r0).mp c) H locs ls h1 h2 h3) (fun c => kf (by rw [z32] at c; exact fun z => c ((e32 ra r0).mpr z)) H locs ls h1 h2 h3)
theorem wp_icmp_ne (G : Gd K cc own nL) {a b : Int} {off : Int} (hd : Db cc pc (.if_icmp .ne off) off pc' tgt) (ra : r32 a) (rb : r32 b) (kt : a ≠ b → Wp K nL Q cs tgt lv stk hp) (kf : a = b → Wp K nL Q cs pc' lv stk hp) : Wp K nL Q cs pc lv (zI b :: zI a :: stk) hp := by
  intro H locs ls h1 h2 h3
  obtain ⟨hx, hb, -⟩ := G
  obtain ⟨hd, rfl, ht⟩ := hd
  exact lv_icmp_ne (x := Int32.ofInt a) (y := Int32.ofInt b) hx hb hd ht (fun c => kt (fun z => c ((e32 ra rb).mpr z)) H locs ls h1 h2 h3) (fun c => kf ((e32 ra rb).mp c) H locs ls h1 h2 h3)
theorem wp_if_ne (G : Gd K cc own nL) {a : Int} {off : Int} (hd : Db cc pc (.ifCond .ne off) off pc' tgt) (ra : r32 a) (kt : a ≠ 0 → Wp K nL Q cs tgt lv stk hp) (kf : a = 0 → Wp K nL Q cs pc' lv stk hp) : Wp K nL Q cs pc lv (zI a :: stk) hp := by
  intro H locs ls h1 h2 h3
  obtain ⟨hx, hb, -⟩ := G
  obtain ⟨hd, rfl, ht⟩ := hd
  have r0 : r32 0 := by omega
  exact lv_if_ne (x := Int32.ofInt a) hx hb hd ht (fun c => kt (by rw [z32] at c; exact fun z => c ((e32 ra r0).mpr z)) H locs ls h1 h2 h3) (fun c => kf (by rw [z32] at c; exact (e32 ra r0).mp c) H locs ls h1 h2 h3)
theorem wp_goto (G : Gd K cc own nL) {off : Int} (hd : Db cc pc (.goto off) off pc' tgt) (k : Wp K nL Q cs tgt lv stk hp) : Wp K nL Q cs pc lv stk hp := by
  intro H locs ls h1 h2 h3
  obtain ⟨hx, hb, -⟩ := G
  obtain ⟨hd, -, ht⟩ := hd
  exact lv_goto hx hb hd ht (k H locs ls h1 h2 h3)
theorem wp_ifnull (G : Gd K cc own nL) {off : Int} {r : Option Nat} (hd : Db cc pc (.ifnull off) off pc' tgt) (kt : r = none → Wp K nL Q cs tgt lv stk hp) (kf : ∀ a, r = some a → Wp K nL Q cs pc' lv stk hp) : Wp K nL Q cs pc lv (zQ r :: stk) hp := by
  intro H locs ls h1 h2 h3
  obtain ⟨hx, hb, -⟩ := G
  obtain ⟨hd, rfl, ht⟩ := hd
  cases r with
  | none => exact lv_ifnullN hx hb hd ht (kt rfl H locs ls h1 h2 h3)
  | some a => exact lv_ifnull hx hb hd (kf a rfl H locs ls h1 h2 h3)
theorem wp_ifnonnull (G : Gd K cc own nL) {off : Int} {r : Option Nat} (hd : Db cc pc (.ifnonnull off) off pc' tgt) (kt : ∀ a, r = some a → Wp K nL Q cs tgt lv stk hp) (kf : r = none → Wp K nL Q cs pc' lv stk hp) : Wp K nL Q cs pc lv (zQ r :: stk) hp := by
  intro H locs ls h1 h2 h3
  obtain ⟨hx, hb, -⟩ := G
  obtain ⟨hd, rfl, ht⟩ := hd
  cases r with
  | none => exact lv_ifnonnullN hx hb hd (kf rfl H locs ls h1 h2 h3)
  | some a => exact lv_ifnonnull hx hb hd ht (kt a rfl H locs ls h1 h2 h3)
theorem wp_tableIn (G : Gd K cc own nL) {a dflt lo hi off : Int} {offs : Array Int} {len : Nat} (hd : Dn cc pc (.tableswitch dflt lo hi offs) len pc') (ra : r32 a) (hl : lo ≤ a) (hh : a ≤ hi) (ho : offs[(a - lo).toNat]? = some off) (ht : (pc : Int) + off = (tgt : Int)) (k : Wp K nL Q cs tgt lv stk hp) : Wp K nL Q cs pc lv (zI a :: stk) hp := by
  intro H locs ls h1 h2 h3
  obtain ⟨hx, hb, -⟩ := G
  obtain ⟨hd, -⟩ := hd
  have e := n32 ra
  exact lv_tableIn (x := Int32.ofInt a) hx hb hd (by omega) (by omega) (by rw [e]; exact ho) ht (k H locs ls h1 h2 h3)
theorem wp_tableOut (G : Gd K cc own nL) {a dflt lo hi : Int} {offs : Array Int} {len : Nat} (hd : Dn cc pc (.tableswitch dflt lo hi offs) len pc') (ra : r32 a) (hl : a < lo ∨ hi < a) (ht : (pc : Int) + dflt = (tgt : Int)) (k : Wp K nL Q cs tgt lv stk hp) : Wp K nL Q cs pc lv (zI a :: stk) hp := by
  intro H locs ls h1 h2 h3
  obtain ⟨hx, hb, -⟩ := G
  obtain ⟨hd, -⟩ := hd
  have e := n32 ra
  exact lv_tableOut (x := Int32.ofInt a) hx hb hd (by omega) ht (k H locs ls h1 h2 h3)
theorem wp_ldc (G : Gd K cc own nL) {idx : Nat} {z : Int} (hw : Cond.constant own idx (Int32.ofInt z) ∈ WT) (hd : Dn cc pc (.ldc idx) 2 pc') (k : Wp K nL Q cs pc' lv (zI z :: stk) hp) : Wp K nL Q cs pc lv stk hp := by
  intro H locs ls h1 h2 h3
  obtain ⟨hx, hb, -, ho, hts, -⟩ := G
  obtain ⟨hd, rfl⟩ := hd
  exact lv_ldc hx hb ho (hts _ hw) hd (k H locs ls h1 h2 h3)
theorem wp_ldc2 (G : Gd K cc own nL) {idx : Nat} {z : Int} (hw : Cond.constantLong own idx (Int64.ofInt z) ∈ WT) (hd : Dn cc pc (.ldc2_w idx) 3 pc') (k : Wp K nL Q cs pc' lv (zJ z :: stk) hp) : Wp K nL Q cs pc lv stk hp := by
  intro H locs ls h1 h2 h3
  obtain ⟨hx, hb, -, ho, hts, -⟩ := G
  obtain ⟨hd, rfl⟩ := hd
  exact lv_ldc2 hx hb ho (hts _ hw) hd (k H locs ls h1 h2 h3)
/-- the same heap, written otherwise -/
theorem wp_heap {hq : PH} (e1 : hq.1 = hp.1) (e2 : ∀ k, hget hq k = hget hp k) (k : Wp K nL Q cs pc lv stk hq) : Wp K nL Q cs pc lv stk hp := fun H locs ls h1 h2 h3 => k H locs ls (h1.ext e1 e2) h2 h3
/-- fewer locals -/
theorem wp_locals {lv' : List (Nat × PV)} (h : ∀ q ∈ lv', q ∈ lv) (k : Wp K nL Q cs pc lv' stk hp) : Wp K nL Q cs pc lv stk hp := fun H locs ls h1 h2 h3 => k H locs ls h1 h2 ⟨h3.1, h3.2.1, fun q hq => by
  obtain ⟨x, hx, rfl⟩ := List.mem_map.mp hq
  exact h3.2.2 _ (List.mem_map.mpr ⟨x, h x hx, rfl⟩)⟩
theorem wp_lv (js : List Nat) {lv' : List (Nat × PV)} (h : js.filterMap (fun j => lv[j]?) = lv') (k : Wp K nL Q cs pc lv' stk hp) : Wp K nL Q cs pc lv stk hp := by
  refine wp_locals (lv' := lv') (fun q hq => ?_) k
  subst h
  obtain ⟨j, -, hj⟩ := List.mem_filterMap.mp hq
  exact List.mem_of_getElem? hj
/-! lcmp and the branch behind it, at once -/

def cmpZ (a b : Int) : Int := if b < a then 1 else if a = b then 0 else -1
theorem wp_lcmp (G : Gd K cc own nL) {a b : Int} (ra : r64 a) (rb : r64 b) (hd : Dn cc pc .lcmp 1 pc') (k : Wp K nL Q cs pc' lv (zI (cmpZ a b) :: stk) hp) : Wp K nL Q cs pc lv (zJ b :: zJ a :: stk) hp := by
  intro H locs ls h1 h2 h3
  obtain ⟨hx, hb, -⟩ := G
  obtain ⟨hd, rfl⟩ := hd
  have e : lg_cmp (Int64.ofInt a) (Int64.ofInt b) = Int32.ofInt (cmpZ a b) := by
    have e1 : Int64.ofInt b < Int64.ofInt a ↔ b < a := by rw [Int64.lt_iff_toInt_lt, n64 ra, n64 rb]
    have e2 : Int64.ofInt a = Int64.ofInt b ↔ a = b := by rw [← Int64.toInt_inj, n64 ra, n64 rb]
    unfold lg_cmp cmpZ
    by_cases c1 : b < a
    · rw [if_pos c1, if_pos (e1.mpr c1)]; rfl
    · rw [if_neg c1, if_neg (fun z => c1 (e1.mp z))]
      by_cases c2 : a = b
      · rw [if_pos c2, if_pos (e2.mpr c2)]; rfl
      · rw [if_neg c2, if_neg (fun z => c2 (e2.mp z))]; rfl
  have k2 := k H locs ls h1 h2 h3
  refine W.lcmp (x := Int64.ofInt a) (y := Int64.ofInt b) hx hb hd ?_
  rw [e]
  exact k2
theorem cmpZ_r (a b : Int) : r32 (cmpZ a b) := by unfold cmpZ; split <;> (try split) <;> omega
theorem cmpZ_lt {a b : Int} : cmpZ a b < 0 ↔ a < b := by unfold cmpZ; split <;> (try split) <;> omega
theorem cmpZ_eq {a b : Int} : cmpZ a b = 0 ↔ a = b := by unfold cmpZ; split <;> (try split) <;> omega
theorem cmpZ_gt {a b : Int} : 0 < cmpZ a b ↔ b < a := by unfold cmpZ; split <;> (try split) <;> omega
end RULES2
end
section
section RULES3
variable {K : KT} {nL : Nat} {Q : State → Prop} {cs : Nat × Nat} {pc pc' tgt : Nat} {lv : List (Nat × PV)} {stk : List PV} {hp : PH} {cc : ByteArray} {own : String}
/-! fields -/
def clTy : Nat → Nat → FieldType
  | 0 => tyX0 | 1 => tyX1 | 2 => tyX2 | 3 => tyX3 | 4 => tyX4 | 5 => tyX6 | 6 => tyX7 | 7 => tyX8 | 8 => tyX9 | _ => tyX10
/-- what the rows of the tables say of a class, the ci-th -/
def ClOk (ci : Nat) : Prop := ∃ r : vw_C, vwCl[ci]? = some r ∧ (∀ w ∈ u_ws r.1 r.2.1 r.2.2, w ∈ WT) ∧ (∀ k, k < r.2.2 → parseFieldDescriptor (r.2.1 k).2.2.1 = some (clTy ci k)) ∧ (∀ a, a < r.2.2 → ∀ b, b < r.2.2 → a ≠ b → (r.2.1 a).2.1 ≠ (r.2.1 b).2.1)
/-- the entry idx of own's pool is field k of the ci-th class -/
def Fx (own : String) (idx ci k : Nat) : Prop := ∃ r : vw_C, vwCl[ci]? = some r ∧ k < r.2.2 ∧ ((Cond.fieldLink own idx (r.2.1 k).1 (r.2.1 k).2.1 (r.2.1 k).2.2.1 ∈ lw_tbl ∧ goodWord (Cond.fieldLink own idx (r.2.1 k).1 (r.2.1 k).2.1 (r.2.1 k).2.2.1) = true) ∨ Cond.fieldLinkNest own idx (r.2.1 k).1 (r.2.1 k).2.1 (r.2.1 k).2.2.1 RX9 ∈ lw_tbl)
theorem wp_get (G : Gd K cc own nL) {idx r ci : Nat} (f : Nat) {fs : List PV} {v : PV} (hc : ClOk ci) (hf : Fx own idx ci f) (hd : Dn cc pc (.getfield idx) 3 pc') (ho : hget hp r = some (oO ci fs)) (hv : fs[f]? = some v) (k : Wp K nL Q cs pc' lv (v :: stk) hp) : Wp K nL Q cs pc lv (zR r :: stk) hp := by
  intro H locs ls h1 h2 h3
  obtain ⟨hx, hb, -, hown, hts, hE, -⟩ := G
  obtain ⟨hd, rfl⟩ := hd
  obtain ⟨q, hq, hin, -⟩ := hc
  obtain ⟨q2, hq2, hk, hl⟩ := hf
  cases hq.symm.trans hq2
  have hat := (h1.2 r _ ho).2
  have hP : va_P (kG K).2.1 vwCl [((kG K).1 + r, .inr (ci, fs.map (rv (kG K).1)))] H := fun j x hj => by
    have h0 : j < 1 := (List.getElem?_eq_some_iff.mp hj).1
    rw [show j = 0 by omega] at hj
    cases hj
    exact hat
  have hvv : (fs.map (rv (kG K).1))[f]? = some (rv (kG K).1 v) := by rw [List.getElem?_map, hv]; rfl
  rcases hl with ⟨hl, hg⟩ | hl
  · exact va_get hx hb hts hin hown hE.1 hP 0 rfl hq f hk (hts _ (wt_of hl hg)) (fun _ h => h) hvv hd (k H locs ls h1 h2 h3)
  · exact va_getN (host := RX9) hx hb hts hin hown hE.1 hP 0 rfl hq f hk (va_Nw.use rfl (hE.2.1 _ hl rfl)) (fun _ h => h) hvv hd (k H locs ls h1 h2 h3)
/-- what may stand in a field of that type -/
def fitF (ty : FieldType) (v : PV) : Prop := ∀ sz : Nat, narrow ty (rv sz v) = rv sz v ∧ fits ty (rv sz v) = true
theorem fit_int (z : Int) : fitF .int (zI z) := fun sz => ⟨rfl, rfl⟩
theorem fit_ref (t : FieldType) (r : Nat) : fitF (.array t) (zR r) := fun sz => ⟨rfl, rfl⟩
theorem fit_obj (t : String) (r : Nat) : fitF (.object t) (zR r) := fun sz => ⟨rfl, rfl⟩
theorem wp_put (G : Gd K cc own nL) {idx r ci : Nat} (f : Nat) {fs : List PV} {v : PV} (hc : ClOk ci) (hf : Fx own idx ci f) (hd : Dn cc pc (.putfield idx) 3 pc') (ho : hget hp r = some (oO ci fs)) (hlen : f < fs.length) (hfit : fitF (clTy ci f) v) (hfin : ∀ q, vwCl[ci]? = some q → (q.2.1 f).2.2.2 = false) (k : Wp K nL Q cs pc' lv stk (hset hp r (oO ci (fs.set f v)))) : Wp K nL Q cs pc lv (v :: zR r :: stk) hp := by
  intro H locs ls h1 h2 h3
  obtain ⟨hx, hb, -, hown, hts, hE, -⟩ := G
  obtain ⟨hd, rfl⟩ := hd
  obtain ⟨q, hq, hin, hty, hnm⟩ := hc
  obtain ⟨q2, hq2, hk, hl⟩ := hf
  cases hq.symm.trans hq2
  have hap := va_apart (own := own) hts hin (clTy ci) hty hnm hE.1 hq
  obtain ⟨r0, hr0, cell, q1, q2, q3, q4⟩ := (h1.2 r _ ho).2
  cases hq.symm.trans hr0
  obtain ⟨hS, hfc, kC0, hkC, hkind⟩ := hE.1.1 ci _ hq
  obtain ⟨cf, kf, fi, fd, hi, hsl⟩ := hS f hk
  have hlay := hts _ (hin _ (u_in_lay hk))
  unfold u_lay at hlay
  rw [if_neg (by rw [hfin _ hq]; decide)] at hlay
  have hst := (u_facts hfc hkC (u_lays hts hin hk) hi).1
  have h6 := u_store hfc hkC hkind hlay hi (hty f hk) (hfit (kG K).1).1 (hfit (kG K).1).2
  have fin : ∀ H' : Heap, H'[(kG K).1 + r]? = some (cell.setSlot fd.slot (rv (kG K).1 v)) → H'.size = H.size → (∀ q, q ≠ (kG K).1 + r → H'[q]? = H[q]?) → WK K H' (locs ++ [⟨(kG K).1 + r, fd.slot⟩]) cs Q (F0 (kM K) (pc + 3) ls (stk.map (rv (kG K).1))) := by
    intro H' e1 e2 e3
    rw [hsl] at e1
    refine k H' _ ls (h1.put ho e2 e3 ?_) (h2.put e2 e3 (Nat.le_add_right _ _)) h3
    refine ⟨_, hq, t_OB.to (V := updV (vp_V (fs.map (rv (kG K).1))) f (rv (kG K).1 v)) ⟨_, e1, q2, q3, t_set q4 hap hk _⟩ (fun j _ => ?_)⟩
    rw [vp_updV_set (by rw [List.length_map]; exact hlen), List.map_set]
  rcases hl with ⟨hl, hg⟩ | hl
  · exact W.putK hx hb (f := fd) ⟨hown, hts _ (wt_of hl hg), ⟨_, _, _, hi⟩, hst⟩ (by rw [q2]; exact h6) q1 q3 (by rw [hsl]; exact k2_hasslot (q4 f hk)) rfl rfl hd fin
  · exact va_WputK hx hb (f := fd) hown (va_Nw.use rfl (hE.2.1 _ hl rfl)) hi hst (by rw [q2]; exact h6) q1 q3 (by rw [hsl]; exact k2_hasslot (q4 f hk)) rfl rfl hd fin
theorem wp_putF (G : Gd K cc own nL) {idx r ci : Nat} (f : Nat) {fs : List PV} {v : PV} (hc : ClOk ci) (hf : Fx own idx ci f) (hd : Dn cc pc (.putfield idx) 3 pc') (ho : hget hp r = some (oO ci fs)) (hlen : f < fs.length) (hfit : fitF (clTy ci f) v) (hfin : ∀ q, vwCl[ci]? = some q → (q.2.1 f).2.2.2 = true ∧ (q.2.1 f).1 = own ∧ (Cond.fieldLink own idx (q.2.1 f).1 (q.2.1 f).2.1 (q.2.1 f).2.2.1 ∈ WT)) (hin2 : (kMeth K).name = "<init>") (k : Wp K nL Q cs pc' lv stk (hset hp r (oO ci (fs.set f v)))) : Wp K nL Q cs pc lv (v :: zR r :: stk) hp := by
  intro H locs ls h1 h2 h3
  obtain ⟨hx, hb, -, hown, hts, hE, -⟩ := G
  obtain ⟨hd, rfl⟩ := hd
  obtain ⟨q, hq, hin, hty, hnm⟩ := hc
  obtain ⟨q2, hq2, hk, hl⟩ := hf
  cases hq.symm.trans hq2
  have hap := va_apart (own := own) hts hin (clTy ci) hty hnm hE.1 hq
  obtain ⟨r0, hr0, cell, q1, q2, q3, q4⟩ := (h1.2 r _ ho).2
  cases hq.symm.trans hr0
  obtain ⟨hS, hfc, kC0, hkC, hkind⟩ := hE.1.1 ci _ hq
  obtain ⟨cf, kf, fi, fd, hi, hsl⟩ := hS f hk
  have hlay := hts _ (hin _ (u_in_lay hk))
  unfold u_lay at hlay
  rw [if_pos (hfin _ hq).1] at hlay
  have hst := (u_facts hfc hkC (u_lays hts hin hk) hi).1
  have hcf : (kM K).cls = cf := by
    obtain ⟨_, _, c', _, _, _, -, -, hf', -, -, -, hown2, -⟩ := Cond.laysFinal_spec hlay
    have e1 : c' = cf := by have := hi.symm.trans hf'; simp at this; exact this.1.symm
    rw [(hfin _ hq).2.1] at hown2
    rw [← e1]; exact Option.some.inj (hown.symm.trans hown2)
  have h6 := u_fits hfc hkC hkind (Or.inr hlay) hi (hty f hk) (hfit (kG K).1).1 (hfit (kG K).1).2
  refine W.putFinK hx hb hown (hts _ (hfin _ hq).2.2) hi hst hcf hin2 (by rw [q2]; exact h6) q1 q3 (by rw [hsl]; exact k2_hasslot (q4 f hk)) rfl rfl hd fun H' e1 e2 e3 => ?_
  rw [hsl] at e1
  refine k H' _ ls (h1.put ho e2 e3 ?_) (h2.put e2 e3 (Nat.le_add_right _ _)) h3
  refine ⟨_, hq, t_OB.to (V := updV (vp_V (fs.map (rv (kG K).1))) f (rv (kG K).1 v)) ⟨_, e1, q2, q3, t_set q4 hap hk _⟩ (fun j _ => ?_)⟩
  rw [vp_updV_set (by rw [List.length_map]; exact hlen), List.map_set]
/-! arrays -/
theorem inb {z : Int} {j n : Nat} (hz : z = (j : Int)) (hj : j < n) (hn : n < 2147483648) : vp_in (Int32.ofInt z) n := vp_in_iff.mpr (by rw [n32 (by omega)]; omega)
theorem inbN {z : Int} {j n : Nat} (hz : z = (j : Int)) (hj : j < n) (hn : n < 2147483648) : (Int32.ofInt z).toNatClampNeg = j := by
  rw [Int32.toNatClampNeg_ofInt_of_le (by omega) (by omega), hz]; rfl
theorem ev_arr {g : GT} {U : State} (h : Ev g U) (t : Nat) (ht : t < 6) : ArrOfT U (g.2.2 t) (aTy.getD t .int) ∧ va_RA U (g.2.2 t) (aTy.getD t .int) :=
  h.1.2 t (g.2.2 t, aTy.getD t .int) (by rw [List.getElem?_map, List.getElem?_range ht]; rfl)
theorem wp_iald (G : Gd K cc own nL) {r n j : Nat} {f : Nat → Int} {z : Int} (hd : Dn cc pc .iaload 1 pc') (ho : hget hp r = some (oA 0 n f)) (hz : z = (j : Int)) (hj : j < n) (hn : n < 2147483648) (k : Wp K nL Q cs pc' lv (zI (f j) :: stk) hp) : Wp K nL Q cs pc lv (zI z :: zR r :: stk) hp := by
  intro H locs ls h1 h2 h3
  obtain ⟨hx, hb, -, hown, hts, hE, -⟩ := G
  obtain ⟨hd, rfl⟩ := hd
  have e := inbN hz hj hn
  refine W.iald (a := (kG K).1 + r) (j := Int32.ofInt z) (v := .int (Int32.ofInt (f j))) hx hb (h1.2 r _ ho).2 ((ev_arr hE 0 (by decide)).1 n (fun j => .int (Int32.ofInt (f j)))) (fun q => by cases q) (by show ¬ (_ ∨ (arrV _ _ _).slots.size ≤ _); rw [arrV_size]; exact inb hz hj hn) (by show (arrV _ _ _).slots[_]? = _; rw [e, arrV_read _ _ hj]) rfl rfl hd (k H locs ls h1 h2 h3)
theorem wp_zald (G : Gd K cc own nL) {r n j : Nat} {f : Nat → Int} {z : Int} (hd : Dn cc pc .baload 1 pc') (ho : hget hp r = some (oA 1 n f)) (hz : z = (j : Int)) (hj : j < n) (hn : n < 2147483648) (k : Wp K nL Q cs pc' lv (zI (f j) :: stk) hp) : Wp K nL Q cs pc lv (zI z :: zR r :: stk) hp := by
  intro H locs ls h1 h2 h3
  obtain ⟨hx, hb, -, hown, hts, hE, -⟩ := G
  obtain ⟨hd, rfl⟩ := hd
  have e := inbN hz hj hn
  refine W.zald (a := (kG K).1 + r) (j := Int32.ofInt z) (v := .int (Int32.ofInt (f j))) hx hb (h1.2 r _ ho).2 ((ev_arr hE 1 (by decide)).1 n (fun j => .int (Int32.ofInt (f j)))) (fun q => by cases q) (by show ¬ (_ ∨ (arrV _ _ _).slots.size ≤ _); rw [arrV_size]; exact inb hz hj hn) (by show (arrV _ _ _).slots[_]? = _; rw [e, arrV_read _ _ hj]) rfl rfl hd (k H locs ls h1 h2 h3)
theorem wp_lald (G : Gd K cc own nL) {r n j : Nat} {f : Nat → Int} {z : Int} (hd : Dn cc pc .laload 1 pc') (ho : hget hp r = some (oL 2 n f)) (hz : z = (j : Int)) (hj : j < n) (hn : n < 2147483648) (k : Wp K nL Q cs pc' lv (zJ (f j) :: stk) hp) : Wp K nL Q cs pc lv (zI z :: zR r :: stk) hp := by
  intro H locs ls h1 h2 h3
  obtain ⟨hx, hb, -, hown, hts, hE, -⟩ := G
  obtain ⟨hd, rfl⟩ := hd
  have e := inbN hz hj hn
  refine W.lald (a := (kG K).1 + r) (j := Int32.ofInt z) (v := .long (Int64.ofInt (f j))) hx hb (h1.2 r _ ho).2 ((ev_arr hE 2 (by decide)).1 n (fun j => .long (Int64.ofInt (f j)))) (fun q => by cases q) (by show ¬ (_ ∨ (arrV _ _ _).slots.size ≤ _); rw [arrV_size]; exact inb hz hj hn) (by show (arrV _ _ _).slots[_]? = _; rw [e, arrV_read _ _ hj]) rfl rfl hd (k H locs ls h1 h2 h3)
theorem rf_map (sz : Nat) (r : Option Nat) : va_rf (r.map (fun k => sz + k)) = rv sz (zQ r) := by cases r <;> rfl
theorem wp_aald (G : Gd K cc own nL) {r t n j : Nat} {f : Nat → Option Nat} {z : Int} (ht : 3 ≤ t) (ht2 : t < 6) (hd : Dn cc pc .aaload 1 pc') (ho : hget hp r = some (oP t n f)) (hz : z = (j : Int)) (hj : j < n) (hn : n < 2147483648) (k : Wp K nL Q cs pc' lv (zQ (f j) :: stk) hp) : Wp K nL Q cs pc lv (zI z :: zR r :: stk) hp := by
  intro H locs ls h1 h2 h3
  obtain ⟨hx, hb, -, hown, hts, hE, -⟩ := G
  obtain ⟨hd, rfl⟩ := hd
  have e := inbN hz hj hn
  have hr : (aTy.getD t .int).isReference = true := by
    rcases (show t = 3 ∨ t = 4 ∨ t = 5 by omega) with rfl | rfl | rfl <;> rfl
  refine W.aald (a := (kG K).1 + r) (j := Int32.ofInt z) (v := rv (kG K).1 (zQ (f j))) (ty := aTy.getD t .int) hx hb (h1.2 r _ ho).2 ((ev_arr hE t ht2).1 n (fun j => va_rf ((f j).map (fun k => (kG K).1 + k)))) hr (fun q => by cases q) (by show ¬ (_ ∨ (arrV _ _ _).slots.size ≤ _); rw [arrV_size]; exact inb hz hj hn) (by show (arrV _ _ _).slots[_]? = _; rw [e, arrV_read _ _ hj, rf_map]) rfl rfl hd (k H locs ls h1 h2 h3)
theorem wp_alen (G : Gd K cc own nL) {r t n : Nat} {f : Nat → Int} (ht : t < 2) (hd : Dn cc pc .arraylength 1 pc') (ho : hget hp r = some (oA t n f)) (k : Wp K nL Q cs pc' lv (zI (n : Int) :: stk) hp) : Wp K nL Q cs pc lv (zR r :: stk) hp := by
  intro H locs ls h1 h2 h3
  obtain ⟨hx, hb, -, hown, hts, hE, -⟩ := G
  obtain ⟨hd, rfl⟩ := hd
  refine W.alen (a := (kG K).1 + r) (n := Int32.ofInt (n : Int)) (ty := aTy.getD t .int) hx hb (h1.2 r _ ho).2 ((ev_arr hE t (by omega)).1 n (fun j => .int (Int32.ofInt (f j)))) ?_ rfl rfl hd (k H locs ls h1 h2 h3)
  show (arrV _ _ _).slots.size.toInt32 = _
  rw [arrV_size]
  exact (Int32.ofInt_eq_ofNat).symm
theorem updV_fup (f : Nat → Int) (j : Nat) (x : Int) : updV (fun q => Value.int (Int32.ofInt (f q))) j (.int (Int32.ofInt x)) = fun q => Value.int (Int32.ofInt (fup f j x q)) := by
  funext q
  by_cases h : q = j <;> simp [updV, fup, h]
theorem updV_fupL (f : Nat → Int) (j : Nat) (x : Int) : updV (fun q => Value.long (Int64.ofInt (f q))) j (.long (Int64.ofInt x)) = fun q => Value.long (Int64.ofInt (fup f j x q)) := by
  funext q
  by_cases h : q = j <;> simp [updV, fup, h]
theorem wp_iast (G : Gd K cc own nL) {r n j : Nat} {f : Nat → Int} {z x : Int} (hd : Dn cc pc .iastore 1 pc') (ho : hget hp r = some (oA 0 n f)) (hz : z = (j : Int)) (hj : j < n) (hn : n < 2147483648) (k : Wp K nL Q cs pc' lv stk (hset hp r (oA 0 n (fup f j x)))) : Wp K nL Q cs pc lv (zI x :: zI z :: zR r :: stk) hp := by
  intro H locs ls h1 h2 h3
  obtain ⟨hx, hb, -, hown, hts, hE, -⟩ := G
  obtain ⟨hd, rfl⟩ := hd
  have e := inbN hz hj hn
  refine W.iast (a := (kG K).1 + r) (j := Int32.ofInt z) (x := Int32.ofInt x) hx hb (h1.2 r _ ho).2 ((ev_arr hE 0 (by decide)).1 n (fun j => .int (Int32.ofInt (f j)))) (fun q => by cases q) (by show ¬ (_ ∨ (arrV _ _ _).slots.size ≤ _); rw [arrV_size]; exact inb hz hj hn) rfl rfl hd fun H' e1 e2 e3 => ?_
  refine k H' _ ls (h1.put ho e2 e3 ?_) (h2.put e2 e3 (Nat.le_add_right _ _)) h3
  show H'[_]? = some (vp_cell _ _)
  rw [e1, e]
  dsimp only
  rw [vp_cell_i, vp_cell_i, arrV_store, updV_fup]
theorem wp_last (G : Gd K cc own nL) {r n j : Nat} {f : Nat → Int} {z x : Int} (hd : Dn cc pc .lastore 1 pc') (ho : hget hp r = some (oL 2 n f)) (hz : z = (j : Int)) (hj : j < n) (hn : n < 2147483648) (k : Wp K nL Q cs pc' lv stk (hset hp r (oL 2 n (fup f j x)))) : Wp K nL Q cs pc lv (zJ x :: zI z :: zR r :: stk) hp := by
  intro H locs ls h1 h2 h3
  obtain ⟨hx, hb, -, hown, hts, hE, -⟩ := G
  obtain ⟨hd, rfl⟩ := hd
  have e := inbN hz hj hn
  refine W.last (a := (kG K).1 + r) (j := Int32.ofInt z) (x := Int64.ofInt x) hx hb (h1.2 r _ ho).2 ((ev_arr hE 2 (by decide)).1 n (fun j => .long (Int64.ofInt (f j)))) (fun q => by cases q) (by show ¬ (_ ∨ (arrV _ _ _).slots.size ≤ _); rw [arrV_size]; exact inb hz hj hn) rfl rfl hd fun H' e1 e2 e3 => ?_
  refine k H' _ ls (h1.put ho e2 e3 ?_) (h2.put e2 e3 (Nat.le_add_right _ _)) h3
  show H'[_]? = some (vp_cell _ _)
  rw [e1, e]
  dsimp only
  rw [vp_cell_l, vp_cell_l, arrV_store, updV_fupL]
theorem wp_zast (G : Gd K cc own nL) {r n j : Nat} {f : Nat → Int} {z x : Int} (hx01 : x = 0 ∨ x = 1) (hd : Dn cc pc .bastore 1 pc') (ho : hget hp r = some (oA 1 n f)) (hz : z = (j : Int)) (hj : j < n) (hn : n < 2147483648) (k : Wp K nL Q cs pc' lv stk (hset hp r (oA 1 n (fup f j x)))) : Wp K nL Q cs pc lv (zI x :: zI z :: zR r :: stk) hp := by
  intro H locs ls h1 h2 h3
  obtain ⟨hx, hb, -, hown, hts, hE, -⟩ := G
  obtain ⟨hd, rfl⟩ := hd
  have e := inbN hz hj hn
  have en : narrow .boolean (.int (Int32.ofInt x)) = .int (Int32.ofInt x) := by rcases hx01 with rfl | rfl <;> decide
  refine W.zast (a := (kG K).1 + r) (j := Int32.ofInt z) (x := Int32.ofInt x) hx hb (h1.2 r _ ho).2 ((ev_arr hE 1 (by decide)).1 n (fun j => .int (Int32.ofInt (f j)))) (fun q => by cases q) (by show ¬ (_ ∨ (arrV _ _ _).slots.size ≤ _); rw [arrV_size]; exact inb hz hj hn) rfl rfl hd fun H' e1 e2 e3 => ?_
  refine k H' _ ls (h1.put ho e2 e3 ?_) (h2.put e2 e3 (Nat.le_add_right _ _)) h3
  show H'[_]? = some (vp_cell _ _)
  rw [e1, e, en]
  dsimp only
  rw [vp_cell_i, vp_cell_i, arrV_store, updV_fup]
end RULES3
end
section
/-! contracts, returns, calls -/
def Qx (g : GT) (h : Nat → Option PC) (Qp : Option PV → Nat → List (Nat × PC) → Prop) : Array Value → State → Outcome → State → Prop := fun _ st oc t => (∃ (r : Option PV) (nx : Nat) (l : List (Nat × PC)), oc = .returned (r.map (rv g.1)) ∧ Qp r nx l ∧ Rl g (nx, h, l) t.heap) ∧ va_F (Ag g) st t
def Mx (K : KT) (h : Nat → Option PC) (Qp : Option PV → Nat → List (Nat × PC) → Prop) (mm : Nat × Nat) : State → Prop := MQ K.2.2.2.2.2.2.2.1 (Qx (kG K) h Qp) (kA K) (kS K) mm.1 mm.2 (Ag (kG K))
def rmx (d mc ms : Nat) : Room := { frames := d, cells := mc, slots := ms, locals := 40 * d }
def Px (g : GT) (nx : Nat) (h : Nat → Option PC) (U : State) : Prop := Ev g U ∧ Sv g U U.heap ∧ Rl g (nx, h, []) U.heap ∧ g.1 ≤ U.heap.size
def Cx (d : Nat) (mm : Nat × Nat) (y : MethodName) (cc : ByteArray) (maxL : Nat) (ret : Option FieldType) (as : List PV) (nx : Nat) (h : Nat → Option PC) (Qp : Option PV → Nat → List (Nat × PC) → Prop) : Prop :=
  ∀ (l : Launch) (g : GT), Met l y (Cond.code y cc maxL ret :: WT) (rmx d mm.1 mm.2) (va_Pc (as.map (rv g.1)) (Px g nx h)) (Qx g h Qp) mm.1 mm.2 (Ag g)
def pargs : Nat → List PV → List (Nat × PV)
  | _, [] => []
  | i, v :: vs => (i, v) :: pargs (if isJ v then i + 2 else i + 1) vs
theorem pargs_map (sz : Nat) : ∀ (vs : List PV) (i : Nat), lv_args i (vs.map (rv sz)) = lvm sz (pargs i vs)
  | [], _ => rfl
  | v :: vs, i => by
    show (i, rv sz v) :: lv_args (if (rv sz v).category = 2 then i + 2 else i + 1) (vs.map (rv sz)) = (i, rv sz v) :: lvm sz (pargs (if isJ v then i + 2 else i + 1) vs)
    have e : (if (rv sz v).category = 2 then i + 2 else i + 1) = (if isJ v then i + 2 else i + 1) := by
      rcases v with z | z | _ | k <;> rfl
    rw [e, pargs_map sz vs]
def pwd : List PV → Nat
  | [] => 0
  | v :: vs => (if isJ v then 2 else 1) + pwd vs
theorem pwd_len (sz : Nat) : ∀ vs : List PV, (lg_sl (vs.map (rv sz))).length = pwd vs
  | [] => rfl
  | v :: vs => by
    have h := pwd_len sz vs
    unfold lg_sl at h
    unfold lg_sl pwd
    rw [List.map_cons, List.flatMap_cons, List.length_append, h]
    rcases v with z | z | _ | k <;> rfl
/-- a method's facts: its code among the words -/
def My (y : MethodName) (cc : ByteArray) (maxL : Nat) (ret : Option FieldType) (n : Nat) : Prop := Cond.code y cc maxL ret ∈ WT ∧ Cond.initialized y.cls ∈ WT ∧ (y.cls ≠ "java/lang/invoke/MethodHandle" ∧ y.cls ≠ "java/lang/invoke/VarHandle" ∧ (parseMethodDescriptor y.desc).map (fun d => d.parameters.length) = some n)
theorem cx_of {d : Nat} {mm : Nat × Nat} {y : MethodName} {cc : ByteArray} {maxL : Nat} {ret : Option FieldType} {as : List PV} {nx : Nat} {h : Nat → Option PC} {Qp : Option PV → Nat → List (Nat × PC) → Prop} (hy : plainName y.cls = true) (hw : pwd as ≤ maxL)
    (body : ∀ K : KT, Gd K cc y.cls maxL → (kMeth K).sig.returnType = ret → (kMeth K).name = y.name → kR K = rmx d mm.1 mm.2 → Wp K maxL (Mx K h Qp mm) (0, 0) 0 (pargs 0 as) [] (nx, h, [])) : Cx d mm y cc maxL ret as nx h Qp := by
  intro l g
  refine Met.ofW (cc := cc) (maxL := maxL) (ret := ret) hy rfl ?_
  intro p e s m args below meth c s₁ B hml hv
  obtain ⟨rfl, hE, hSv, hR, hsz⟩ := hv
  have hts := atoms_spec (ws := Cond.code y cc maxL ret :: WT) B.pre
  have hb := body (p, l, e, rmx d mm.1 mm.2, s, m, (as.map (rv g.1)).toArray, below, meth, c, g) ⟨B.exec, B.bytes, hml, findClass_of_methodNamed B.named, fun w hw => hts w (List.mem_cons_of_mem _ hw), hE, hSv, B.notSynchronized, hsz⟩ B.returns (name_of_methodNamed B.named B.method).1 rfl
  have hl := lv_entry (as.map (rv g.1)) (n := maxL) (by rw [pwd_len]; exact hw)
  rw [lg_entry_eq]
  rw [pargs_map] at hl
  exact hb s.heap [] _ hR va_S.rf hl
section RULES4
variable {K : KT} {nL : Nat} {Q : State → Prop} {cs mm : Nat × Nat} {pc pc' tgt : Nat} {lv : List (Nat × PV)} {stk rest : List PV} {hp : PH} {cc : ByteArray} {own : String} {h : Nat → Option PC} {Qp : Option PV → Nat → List (Nat × PC) → Prop} {nx : Nat} {l : List (Nat × PC)}
theorem qx_of {K : KT} {H : Heap} {locs : List Loc} (h1 : Rl (kG K) (nx, h, l) H) (h2 : va_S (Ag (kG K)) (kS K).heap H locs) {r : Option PV} (hq : Qp r nx l) {v : Option Value} (hv : v = r.map (rv (kG K).1)) : ∀ t : State, t.heap = H → (kS K).WarmedH t.vm → Qx (kG K) h Qp (kA K) (kS K) (.returned v) t := fun t ht _ => ⟨⟨r, nx, l, by rw [hv], hq, by rw [ht]; exact h1⟩, h2.F ht⟩
theorem wp_ireturn (G : Gd K cc own nL) {z : Int} (hr : (kMeth K).sig.returnType = some .int) (hd : Dn cc pc .ireturn 1 pc') (hq : Qp (some (zI z)) nx l) : Wp K nL (Mx K h Qp mm) mm pc lv [zI z] (nx, h, l) := by
  intro H locs ls h1 h2 h3
  obtain ⟨hx, hb, -, -, -, -, -, hlk, -⟩ := G
  obtain ⟨hd, -⟩ := hd
  exact W.iret hx hb hr (qx_of h1 h2 hq rfl) h2.2.2 hd hlk
theorem wp_zreturn (G : Gd K cc own nL) {z : Int} (hz : z = 0 ∨ z = 1) (hr : (kMeth K).sig.returnType = some .boolean) (hd : Dn cc pc .ireturn 1 pc') (hq : Qp (some (zI z)) nx l) : Wp K nL (Mx K h Qp mm) mm pc lv [zI z] (nx, h, l) := by
  intro H locs ls h1 h2 h3
  obtain ⟨hx, hb, -, -, -, -, -, hlk, -⟩ := G
  obtain ⟨hd, -⟩ := hd
  exact W.zret hx hb hr (by rcases hz with rfl | rfl <;> decide) (qx_of h1 h2 hq rfl) h2.2.2 hd hlk
theorem wp_lreturn (G : Gd K cc own nL) {z : Int} (hr : (kMeth K).sig.returnType = some .long) (hd : Dn cc pc .lreturn 1 pc') (hq : Qp (some (zJ z)) nx l) : Wp K nL (Mx K h Qp mm) mm pc lv [zJ z] (nx, h, l) := by
  intro H locs ls h1 h2 h3
  obtain ⟨hx, hb, -, -, -, -, -, hlk, -⟩ := G
  obtain ⟨hd, -⟩ := hd
  exact W.lret hx hb hr (qx_of h1 h2 hq rfl) h2.2.2 hd hlk
theorem wp_vreturn (G : Gd K cc own nL) (hr : (kMeth K).sig.returnType = none) (hd : Dn cc pc .return_ 1 pc') (hq : Qp none nx l) : Wp K nL (Mx K h Qp mm) mm pc lv [] (nx, h, l) := by
  intro H locs ls h1 h2 h3
  obtain ⟨hx, hb, -, -, -, -, -, hlk, -⟩ := G
  obtain ⟨hd, -⟩ := hd
  exact W.vret hx hb hr (qx_of h1 h2 hq rfl) h2.2.2 hd hlk
theorem wp_areturn (G : Gd K cc own nL) {r : Option Nat} {rt : FieldType} (hr : (kMeth K).sig.returnType = some rt) (hrt : (∃ n, rt = .object n) ∨ ∃ t, rt = .array t) (hd : Dn cc pc .areturn 1 pc') (hq : Qp (some (zQ r)) nx l) : Wp K nL (Mx K h Qp mm) mm pc lv [zQ r] (nx, h, l) := by
  intro H locs ls h1 h2 h3
  obtain ⟨hx, hb, -, -, -, -, -, hlk, -⟩ := G
  obtain ⟨hd, -⟩ := hd
  exact W.aret (v := rv (kG K).1 (zQ r)) hx hb hr hrt (by cases r with | none => exact Or.inl rfl | some a => exact Or.inr ⟨_, rfl⟩) (qx_of h1 h2 hq rfl) h2.2.2 hd hlk
theorem wp_widen {cs' : Nat × Nat} (e1 : cs.1 ≤ cs'.1) (e2 : cs.2 ≤ cs'.2) (k : Wp K nL Q cs' pc lv stk hp) : Wp K nL Q cs pc lv stk hp := fun H locs ls h1 h2 h3 => W.widen e1 e2 (k H locs ls h1 h2 h3)
theorem px_blind {g : GT} {av : List Value} : FrameBlind (va_Pc av (Px g nx h)) := fun a U f mk hq => ⟨hq.1, Ev.same (u := U) (U := U.calling f mk a) rfl hq.2.1, Sv.moved (u := U) (U := U.calling f mk a) (Vm.Alike.refl U.vm) hq.2.2.1, hq.2.2.2.1, hq.2.2.2.2⟩
theorem px_at (G : Gd K cc own nL) {H : Heap} {locs : List Loc} (h1 : Rl (kG K) hp H) (h2 : va_S (Ag (kG K)) (kS K).heap H locs) : ∀ U : State, U.heap = H → (kS K).WarmedH U.vm → Px (kG K) hp.1 (hget hp) U := by
  obtain ⟨-, -, -, -, -, hE, hS, -, hz⟩ := G
  intro U hU hW
  refine ⟨hE.moved hW, ?_, by rw [hU]; exact h1.ext rfl (fun _ => rfl), by rw [hU]; exact Nat.le_trans hz h2.1⟩
  rw [hU]
  exact (hS.kept (fun a ha hn => h2.2.1 a ha hn)).moved hW.alike
/-- behind a call -/
theorem wp_back {y : MethodName} {a : Array Value} {H : Heap} {locs : List Loc} {ls : Array Slot} (h1 : Rl (kG K) hp H) (h2 : va_S (Ag (kG K)) (kS K).heap H locs) (h3 : lv_has ls nL (lvm (kG K).1 lv)) {st0 : List Value}
    (hr : va_Run K.1 K.2.1 K.2.2.1 K.2.2.2.1 K.2.2.2.2.1 K.2.2.2.2.2.1 K.2.2.2.2.2.2.1 K.2.2.2.2.2.2.2.1 K.2.2.2.2.2.2.2.2.1 K.2.2.2.2.2.2.2.2.2.1 H locs cs.1 cs.2 mm.1 mm.2 (F0 (kM K) pc ls st0) (rest.map (rv (kG K).1)) (Qx (kG K) (hget hp) Qp a) (Ag (kG K)))
    (k : ∀ r nx' l', Qp r nx' l' → Wp K nL Q (cs.1 + mm.1, cs.2 + mm.2) (pc + 3) lv (r.toList ++ rest) (nx', hp.2.1, asets hp.2.2 l')) : WK K H locs cs Q (F0 (kM K) pc ls st0) := by
  intro T hT X
  obtain ⟨v, st₀, t, T', L, e0, X', hL, e1, e2, ⟨⟨r, nx', l', ho, hq, hR⟩, hF⟩, st⟩ := hr T hT X
  have hv : v = r.map (rv (kG K).1) := by cases ho; rfl
  subst hv
  have hR2 : Rl (kG K) (nx', hp.2.1, asets hp.2.2 l') T'.heap := by
    rw [e1]
    exact hR.ext rfl (fun j => hlk_asets _ _ _ _)
  have hS2 : va_S (Ag (kG K)) (kS K).heap T'.heap (locs ++ L) := by
    have hF1 := hF.1
    have hF2 := hF.2
    rw [e0] at hF1 hF2
    rw [e1]
    refine ⟨Nat.le_trans h2.1 hF1, fun q q1 q2 => ?_, fun q hq2 => ?_⟩
    · rw [hF2 q (Nat.lt_of_lt_of_le q1 h2.1) q2]
      exact h2.2.1 q q1 q2
    · rcases List.mem_append.mp hq2 with w | w
      · exact h2.2.2 q w
      · exact hL q w
  obtain ⟨t2, a1, b1⟩ := k r nx' l' hq T'.heap (locs ++ L) ls hR2 hS2 h3 T' rfl X'
  refine ⟨t2, st t2 ?_, b1⟩
  have es : (r.toList ++ rest).map (rv (kG K).1) = (r.map (rv (kG K).1)).toList ++ rest.map (rv (kG K).1) := by cases r <;> simp
  rw [es] at a1
  exact a1
def Mlk (own : String) (idx : Nat) (y : MethodName) : Prop := Cond.methodLink own idx y ∈ WT ∨ Cond.methodLinkNest own idx y RX9 ∈ lw_tbl
def rwd : List PV → Nat
  | [] => 0
  | v :: vs => (if isJ v then 2 else 1) + rwd vs
theorem rwd_eq (sz : Nat) : ∀ vs : List PV, ((vs.map (rv sz)).map fun v => v.category).sum = rwd vs
  | [] => rfl
  | v :: vs => by
    have h := rwd_eq sz vs
    rw [List.map_cons, List.map_cons, List.sum_cons, h]
    rcases v with z | z | _ | k <;> rfl
theorem wp_callS (G : Gd K cc own nL) {d n idx maxL : Nat} {y : MethodName} {cb : ByteArray} {ret : Option FieldType} {as : List PV} (hm : My y cb maxL ret n) (hl : Mlk own idx y) (hst : Cond.static y ∈ WT) (hd : Dn cc pc (.invokestatic idx) 3 pc') (hs : stk = as.reverse ++ rest) (hn : as.length = n) (hrw : rwd rest ≤ 8) (hR : d + 1 ≤ (kR K).frames ∧ 8 + (maxL + 11) + 40 * d ≤ (kR K).locals ∧ cs.1 + mm.1 ≤ (kR K).cells ∧ cs.2 + mm.2 ≤ (kR K).slots)
    (C : Cx d mm y cb maxL ret as hp.1 (hget hp) Qp) (k : ∀ r nx' l', Qp r nx' l' → Wp K nL Q (cs.1 + mm.1, cs.2 + mm.2) pc' lv (r.toList ++ rest) (nx', hp.2.1, asets hp.2.2 l')) : Wp K nL Q cs pc lv stk hp := by
  intro H locs ls h1 h2 h3
  have hpx := px_at G h1 h2
  obtain ⟨hx, hb, hml, hown, hts, hE, hSv, hlk, hz⟩ := G
  obtain ⟨hd, rfl⟩ := hd
  have hG : GoodIn WT (Cond.code y cb maxL ret :: WT) := by
    intro w hw
    rcases List.mem_cons.mp hw with rfl | e
    · exact ⟨hm.1, wt_good hm.1⟩
    · exact ⟨e, wt_good e⟩
  have hst0 : stk.map (rv (kG K).1) = (as.map (rv (kG K).1)).reverse ++ rest.map (rv (kG K).1) := by rw [hs, List.map_append, List.map_reverse]
  rw [hst0]
  refine wp_back (y := y) h1 h2 h3 (a := (as.map (rv (kG K).1)).toArray) ?_ k
  rcases hl with hl | hl
  · exact va_runS (Ts := WT) ⟨hx, hb, hml, hown, hts⟩ (C _ _) ⟨callB_of n hts hG rfl rfl rfl (hts _ hm.2.1) (hts _ hl) hm.2.2 ⟨hR.1, hR.2.1⟩, hts _ hst⟩ ⟨px_blind, fun U hU hW => ⟨rfl, hpx U hU hW⟩⟩ rfl (by rw [List.length_map]; exact hn) h3.1 rfl (lv_room (by rw [rwd_eq]; exact hrw)) hd ⟨hR.2.2.1, hR.2.2.2⟩
  · exact va_runSN (Ts := WT) (host := RX9) ⟨hx, hb, hml, hown, hts⟩ (C _ _) ⟨va_cnB n hts hG rfl rfl rfl (hE.2.1 _ hl rfl) (hts _ hm.2.1) hm.2.2 ⟨hR.1, hR.2.1⟩, hts _ hst, trivial⟩ ⟨px_blind, fun U hU hW => ⟨rfl, hpx U hU hW⟩⟩ rfl (by rw [List.length_map]; exact hn) h3.1 rfl (lv_room (by rw [rwd_eq]; exact hrw)) hd ⟨hR.2.2.1, hR.2.2.2⟩
theorem wp_callV (G : Gd K cc own nL) {d n idx maxL b ci : Nat} {y : MethodName} {cb : ByteArray} {ret : Option FieldType} {as fs : List PV} (hm : My y cb maxL ret n) (hl : Mlk own idx y) (hin : Cond.instanceMethod y ∈ WT) (hsel : Cond.selects y.cls y y ∈ WT) (hci : ∃ q, vwCl[ci]? = some q ∧ q.1 = y.cls) (hd : Dn cc pc (.invokevirtual idx) 3 pc') (ho : hget hp b = some (oO ci fs)) (hs : stk = as.reverse ++ zR b :: rest) (hn : as.length = n) (hrw : rwd rest ≤ 8) (hR : d + 1 ≤ (kR K).frames ∧ 8 + (maxL + 11) + 40 * d ≤ (kR K).locals ∧ cs.1 + mm.1 ≤ (kR K).cells ∧ cs.2 + mm.2 ≤ (kR K).slots)
    (C : Cx d mm y cb maxL ret (zR b :: as) hp.1 (hget hp) Qp) (k : ∀ r nx' l', Qp r nx' l' → Wp K nL Q (cs.1 + mm.1, cs.2 + mm.2) pc' lv (r.toList ++ rest) (nx', hp.2.1, asets hp.2.2 l')) : Wp K nL Q cs pc lv stk hp := by
  intro H locs ls h1 h2 h3
  have hpx := px_at G h1 h2
  obtain ⟨hx, hb, hml, hown, hts, hE, hSv, hlk, hz⟩ := G
  obtain ⟨hd, rfl⟩ := hd
  have hG : GoodIn WT (Cond.code y cb maxL ret :: WT) := by
    intro w hw
    rcases List.mem_cons.mp hw with rfl | e
    · exact ⟨hm.1, wt_good hm.1⟩
    · exact ⟨e, wt_good e⟩
  obtain ⟨q, hq, hqc⟩ := hci
  have hP : va_P (kG K).2.1 vwCl [((kG K).1 + b, .inr (ci, fs.map (rv (kG K).1)))] H := fun j x hj => by
    have h0 : j < 1 := (List.getElem?_eq_some_iff.mp hj).1
    rw [show j = 0 by omega] at hj
    cases hj
    exact (h1.2 b _ ho).2
  have hrc := va_recv hE.1 hP hq (q0 := 0) rfl
  rw [hqc] at hrc
  have hst0 : stk.map (rv (kG K).1) = (as.map (rv (kG K).1)).reverse ++ .ref ((kG K).1 + b) :: rest.map (rv (kG K).1) := by rw [hs, List.map_append, List.map_reverse]; rfl
  rw [hst0]
  refine wp_back (y := y) h1 h2 h3 (a := (.ref ((kG K).1 + b) :: as.map (rv (kG K).1)).toArray) ?_ k
  rcases hl with hl | hl
  · exact va_runV (Ts := WT) ⟨hx, hb, hml, hown, hts⟩ (C _ _) ⟨callB_of n hts hG rfl rfl rfl (hts _ hm.2.1) (hts _ hl) hm.2.2 ⟨hR.1, hR.2.1⟩, hts _ hin, hts _ hsel⟩ ⟨px_blind, hrc, fun U hU hW => ⟨rfl, hpx U hU hW⟩⟩ rfl (by rw [List.length_map]; exact hn) h3.1 rfl (lv_room (by rw [rwd_eq]; exact hrw)) hd ⟨hR.2.2.1, hR.2.2.2⟩
  · exact va_runVN (Ts := WT) (host := RX9) ⟨hx, hb, hml, hown, hts⟩ (C _ _) ⟨va_cnB n hts hG rfl rfl rfl (hE.2.1 _ hl rfl) (hts _ hm.2.1) hm.2.2 ⟨hR.1, hR.2.1⟩, hts _ hin, hts _ hsel⟩ ⟨px_blind, hrc, fun U hU hW => ⟨rfl, hpx U hU hW⟩⟩ rfl (by rw [List.length_map]; exact hn) h3.1 rfl (lv_room (by rw [rwd_eq]; exact hrw)) hd ⟨hR.2.2.1, hR.2.2.2⟩
theorem wp_callI (G : Gd K cc own nL) {d n idx maxL b : Nat} {y : MethodName} {cb : ByteArray} {as : List PV} (hm : My y cb maxL none n) (hl : Mlk own idx y) (hin : Cond.instanceMethod y ∈ WT) (hini : y.name = "<init>") (hd : Dn cc pc (.invokespecial idx) 3 pc') (hs : stk = as.reverse ++ zR b :: rest) (hn : as.length = n) (hrw : rwd rest ≤ 8) (hR : d + 1 ≤ (kR K).frames ∧ 8 + (maxL + 11) + 40 * d ≤ (kR K).locals ∧ cs.1 + mm.1 ≤ (kR K).cells ∧ cs.2 + mm.2 ≤ (kR K).slots)
    (C : Cx d mm y cb maxL none (zR b :: as) hp.1 (hget hp) Qp) (k : ∀ r nx' l', Qp r nx' l' → Wp K nL Q (cs.1 + mm.1, cs.2 + mm.2) pc' lv (r.toList ++ rest) (nx', hp.2.1, asets hp.2.2 l')) : Wp K nL Q cs pc lv stk hp := by
  intro H locs ls h1 h2 h3
  have hpx := px_at G h1 h2
  obtain ⟨hx, hb, hml, hown, hts, hE, hSv, hlk, hz⟩ := G
  obtain ⟨hd, rfl⟩ := hd
  have hG : GoodIn WT (Cond.code y cb maxL none :: WT) := by
    intro w hw
    rcases List.mem_cons.mp hw with rfl | e
    · exact ⟨hm.1, wt_good hm.1⟩
    · exact ⟨e, wt_good e⟩
  have hst0 : stk.map (rv (kG K).1) = (as.map (rv (kG K).1)).reverse ++ .ref ((kG K).1 + b) :: rest.map (rv (kG K).1) := by rw [hs, List.map_append, List.map_reverse]; rfl
  rw [hst0]
  refine wp_back (y := y) h1 h2 h3 (a := (.ref ((kG K).1 + b) :: as.map (rv (kG K).1)).toArray) ?_ k
  rcases hl with hl | hl
  · exact va_runI (Ts := WT) ⟨hx, hb, hml, hown, hts⟩ (C _ _) ⟨callB_of n hts hG rfl rfl rfl (hts _ hm.2.1) (hts _ hl) hm.2.2 ⟨hR.1, hR.2.1⟩, hini, hts _ hin⟩ ⟨px_blind, fun U hU hW => ⟨rfl, hpx U hU hW⟩⟩ rfl (by rw [List.length_map]; exact hn) h3.1 rfl (lv_room (by rw [rwd_eq]; exact hrw)) hd ⟨hR.2.2.1, hR.2.2.2⟩
  · exact va_runIN (Ts := WT) (host := RX9) ⟨hx, hb, hml, hown, hts⟩ (C _ _) ⟨va_cnB n hts hG rfl rfl rfl (hE.2.1 _ hl rfl) (hts _ hm.2.1) hm.2.2 ⟨hR.1, hR.2.1⟩, hini, hts _ hin⟩ ⟨px_blind, fun U hU hW => ⟨rfl, hpx U hU hW⟩⟩ rfl (by rw [List.length_map]; exact hn) h3.1 rfl (lv_room (by rw [rwd_eq]; exact hrw)) hd ⟨hR.2.2.1, hR.2.2.2⟩
end RULES4
end
section
section RULES5
variable {K : KT} {nL : Nat} {Q : State → Prop} {cs mm : Nat × Nat} {pc pc' tgt : Nat} {lv : List (Nat × PV)} {stk rest : List PV} {hp : PH} {cc : ByteArray} {own : String} {h : Nat → Option PC} {nx : Nat} {l : List (Nat × PC)}
theorem wp_objInit (G : Gd K cc own nL) {idx r : Nat} (hl : Cond.methodLink own idx objectInit ∈ WT) (hi : Cond.instanceMethod objectInit ∈ WT) (hc : Cond.code objectInit ⟨#[0xb1]⟩ 1 none ∈ WT) (hd : Dn cc pc (.invokespecial idx) 3 pc') (hrw : rwd stk ≤ 8) (hR : 1 ≤ (kR K).frames ∧ 20 ≤ (kR K).locals) (k : Wp K nL Q cs pc' lv stk hp) : Wp K nL Q cs pc lv (zR r :: stk) hp := by
  intro H locs ls h1 h2 h3
  obtain ⟨hx, hb, hml, hown, hts, hE, hSv, hlk, hz⟩ := G
  obtain ⟨hd, rfl⟩ := hd
  refine W.objInit (g := F0 (kM K) pc ls ((zR r :: stk).map (rv (kG K).1))) (rest := stk.map (rv (kG K).1)) hx hb hown (hts _ hl) (hts _ hi) (hts _ hc) rfl (h3.1.trans hml.symm) rfl hd hR.1 ?_ (k H locs ls h1 h2 h3)
  have := lv_room (m := kM K) (pc := pc) (ls := ls) (rest := (zR r :: stk).map (rv (kG K).1)) (st := stk.map (rv (kG K).1)) (by rw [rwd_eq]; exact hrw)
  exact Nat.le_trans (Nat.add_le_add_right this 12) hR.2
theorem wp_new (G : Gd K cc own nL) {idx ci n : Nat} {fs : List PV} (hc : ClOk ci) (hq : ∃ q, vwCl[ci]? = some q ∧ q.2.2 = n ∧ Cond.classLink own idx q.1 ∈ WT ∧ Cond.instantiable q.1 n ∈ WT ∧ Cond.initialized q.1 ∈ WT) (hd : Dn cc pc (.new idx) 3 pc') (hfs : ∀ (sz : Nat) (j : Nat), j < n → defaultValue (clTy ci j) = vp_V (fs.map (rv sz)) j) (hR : cs.1 + 1 ≤ (kR K).cells ∧ cs.2 + n ≤ (kR K).slots) (k : Wp K nL Q (cs.1 + 1, cs.2 + n) pc' lv (zR hp.1 :: stk) (hnew hp (oO ci fs))) : Wp K nL Q cs pc lv stk hp := by
  intro H locs ls h1 h2 h3
  obtain ⟨hx, hb, hml, hown, hts, hE, hSv, hlk, hz⟩ := G
  obtain ⟨hd, rfl⟩ := hd
  obtain ⟨q, hq1, hin, hty, hnm⟩ := hc
  obtain ⟨q2, hq2, rfl, w1, w2, w3⟩ := hq
  cases hq1.symm.trans hq2
  have hKn := hE.1.1 ci _ hq1
  refine W.newcK hx hb hown (hts _ w1) (hts _ w2) (hts _ w3) rfl hd hR.1 hR.2 hKn.2.1 rfl fun H1 kC0 hkC e1 z1 o1 => ?_
  have hR1 : Rl (kG K) (hnew hp (oO ci fs)) H1 := h1.new z1 o1 (by
    have e1' : H1[(kG K).1 + hp.1]? = some (blank ((kG K).2.1.1 ci) kC0) := by rw [← h1.1]; exact e1
    exact ⟨_, hq1, (u_born (clTy ci) hts hin hKn hkC e1' hty).to (fun j hj => hfs _ j hj)⟩)
  have := k H1 locs ls hR1 ⟨Nat.le_trans h2.1 (by omega), fun x a1 a2 => (o1 x (Nat.lt_of_lt_of_le a1 h2.1)).trans (h2.2.1 x a1 a2), h2.2.2⟩ h3
  rw [h1.1]
  exact this
theorem wp_newa (G : Gd K cc own nL) {t n : Nat} {z : Int} {at_ : ArrayType} {c : PC} (ht : t < 3) (hat : newarray.typeOf at_ = aTy.getD t .int) (hw : Cond.arrayClass (newarray.typeOf at_) ∈ WT) (hd : Dn cc pc (.newarray at_) 2 pc') (hz : z = (n : Int)) (hn : n < 60000000) (hc : ∀ g : GT, ∃ a0, trC g c = .inl (g.2.2 t, a0) ∧ ∀ cA, vp_cell cA a0 = arrV cA n (fun _ => defaultValue (newarray.typeOf at_))) (hR : cs.1 + 1 ≤ (kR K).cells ∧ cs.2 + n ≤ (kR K).slots) (k : Wp K nL Q (cs.1 + 1, cs.2 + n) pc' lv (zR hp.1 :: stk) (hnew hp c)) : Wp K nL Q cs pc lv (zI z :: stk) hp := by
  intro H locs ls h1 h2 h3
  obtain ⟨hx, hb, hml, hown, hts, hE, hSv, hlk, hz0⟩ := G
  obtain ⟨hd, rfl⟩ := hd
  have eN : (Int32.ofInt z).toNatClampNeg = n := inbN (n := n + 1) hz (Nat.lt_succ_self n) (by omega)
  have hneg : ¬ Int32.ofInt z < 0 := fun q => (inb (n := n + 1) hz (Nat.lt_succ_self n) (by omega)) (Or.inl q)
  obtain ⟨a0, ha0, hcell⟩ := hc (kG K)
  have hbytes : n * componentBytes (newarray.typeOf at_) ≤ 536870912 := by
    have : componentBytes (newarray.typeOf at_) ≤ 8 := by cases at_ <;> decide
    exact Nat.le_trans (Nat.mul_le_mul_left n this) (by omega)
  refine va_newaK (g := F0 (kM K) pc ls ((zI z :: stk).map (rv (kG K).1))) (n := Int32.ofInt z) (rest := stk.map (rv (kG K).1)) hx hb (hts _ hw) rfl hd rfl hneg eN hbytes hR.1 hR.2 h1.1 fun H1 cA e1 z1 o1 hAr hNm => ?_
  have hRA := (ev_arr hE t (by omega)).2
  have hcA : cA = (kG K).2.2 t := by
    rw [hat] at hNm
    have : (kS K).vm.findClass ("[" ++ (aTy.getD t .int).toString) = some ((kG K).2.2 t) := by
      rcases (show t = 0 ∨ t = 1 ∨ t = 2 by omega) with rfl | rfl | rfl <;> exact hRA
    exact Option.some.inj (hNm.symm.trans this)
  have hsz : H.size = (kG K).1 + hp.1 := h1.1
  have hR1 : Rl (kG K) (hnew hp c) H1 := h1.new (by omega) (fun q hq => o1 q (by omega)) (by
    rw [ha0]
    show H1[_]? = some (vp_cell _ _)
    rw [hcell, ← hcA]
    exact e1)
  exact k H1 locs ls hR1 ⟨Nat.le_trans h2.1 (by omega), fun x a1 a2 => (o1 x (by have := h2.1; omega)).trans (h2.2.1 x a1 a2), h2.2.2⟩ h3
theorem newI (t n : Nat) (at_ : ArrayType) (hd : defaultValue (newarray.typeOf at_) = .int 0) : ∀ g : GT, ∃ a0, trC g (oA t n (fun _ => 0)) = .inl (g.2.2 t, a0) ∧ ∀ cA, vp_cell cA a0 = arrV cA n (fun _ => defaultValue (newarray.typeOf at_)) := fun g => ⟨_, rfl, fun cA => by rw [hd, vp_cell_i]; rfl⟩
theorem newL (t n : Nat) (at_ : ArrayType) (hd : defaultValue (newarray.typeOf at_) = .long 0) : ∀ g : GT, ∃ a0, trC g (oL t n (fun _ => 0)) = .inl (g.2.2 t, a0) ∧ ∀ cA, vp_cell cA a0 = arrV cA n (fun _ => defaultValue (newarray.typeOf at_)) := fun g => ⟨_, rfl, fun cA => by rw [hd, vp_cell_l]; rfl⟩
theorem wp_anew (G : Gd K cc own nL) {idx n : Nat} {z : Int} (hw : Cond.classLink own idx RX1 ∈ WT) (hd : Dn cc pc (.anewarray idx) 3 pc') (hz : z = (n : Int)) (hn : n < 60000000) (hR : cs.1 + 1 ≤ (kR K).cells ∧ cs.2 + n ≤ (kR K).slots) (k : Wp K nL Q (cs.1 + 1, cs.2 + n) pc' lv (zR hp.1 :: stk) (hnew hp (oP 5 n (fun _ => none)))) : Wp K nL Q cs pc lv (zI z :: stk) hp := by
  intro H locs ls h1 h2 h3
  obtain ⟨hx, hb, hml, hown, hts, hE, hSv, hlk, hz0⟩ := G
  obtain ⟨hd, rfl⟩ := hd
  have eN : (Int32.ofInt z).toNatClampNeg = n := inbN (n := n + 1) hz (Nat.lt_succ_self n) (by omega)
  have hneg : ¬ Int32.ofInt z < 0 := fun q => (inb (n := n + 1) hz (Nat.lt_succ_self n) (by omega)) (Or.inl q)
  refine W.anew (g := F0 (kM K) pc ls ((zI z :: stk).map (rv (kG K).1))) (n := Int32.ofInt z) (rest := stk.map (rv (kG K).1)) hx hb hown (hts _ hw) (va_AO.use hE.2.2) rfl hd rfl hneg (by rw [eN]; omega) hR.1 (by rw [eN]; exact hR.2) fun cA kA comp f1 f2 f3 f4 => ?_
  obtain ⟨kA', comp', g1, g2, g3, g4⟩ := (ev_arr hE 5 (by decide)).2
  have hcA : cA = (kG K).2.2 5 := Option.some.inj (f1.symm.trans g4)
  rw [eN]
  generalize hH1 : H.push ({ cls := cA, slots := Array.replicate n .null, vm := .none } : Cell) = H1
  have z1 : H1.size = H.size + 1 := by rw [← hH1, Array.size_push]
  have e1 : H1[H.size]? = some (arrV cA n (fun _ => .null)) := by rw [← hH1, Array.getElem?_push_size, ← arrV_new]
  have o1 : ∀ q : Nat, q < H.size → H1[q]? = H[q]? := fun q hq => by rw [← hH1, Array.getElem?_push, if_neg (Nat.ne_of_lt hq)]
  have hsz : H.size = (kG K).1 + hp.1 := h1.1
  have hR1 : Rl (kG K) (hnew hp (oP 5 n (fun _ => none))) H1 := h1.new z1 o1 (by
    show H1[_]? = some (vp_cell _ _)
    dsimp only
    rw [vp_cell_q, ← hsz, e1, hcA]
    rfl)
  have := k H1 locs ls hR1 ⟨Nat.le_trans h2.1 (by omega), fun x a1 a2 => (o1 x (Nat.lt_of_lt_of_le a1 h2.1)).trans (h2.2.1 x a1 a2), h2.2.2⟩ h3
  rw [hsz]
  exact this
theorem wp_aast (G : Gd K cc own nL) {r n j v : Nat} {f : Nat → Option Nat} {z : Int} {vs : List PV} (hd : Dn cc pc .aastore 1 pc') (ho : hget hp r = some (oP 5 n f)) (hv : hget hp v = some (oO 1 vs)) (hz : z = (j : Int)) (hj : j < n) (hn : n < 2147483648) (k : Wp K nL Q cs pc' lv stk (hset hp r (oP 5 n (fup f j (some v))))) : Wp K nL Q cs pc lv (zR v :: zI z :: zR r :: stk) hp := by
  intro H locs ls h1 h2 h3
  obtain ⟨hx, hb, hml, hown, hts, hE, hSv, hlk, hz0⟩ := G
  obtain ⟨hd, rfl⟩ := hd
  have e := inbN hz hj hn
  have hib := inb hz hj hn
  obtain ⟨r', hr', cellV, g1, g2, g3, -⟩ := (h1.2 v _ hv).2
  have hcls := (hE.1.1 1 (RX1, TX1, 6) rfl).2
  obtain ⟨kA, comp, k1, k2, k3, -⟩ := (ev_arr hE 5 (by decide)).2
  have hcomp : comp = (kG K).2.1.1 1 := Option.some.inj (k3.symm.trans hcls.1)
  subst hcomp
  obtain ⟨kC0, hkC, -⟩ := id hcls.2
  refine W.aast (a := (kG K).1 + r) (v := (kG K).1 + v) (j := Int32.ofInt z) hx hb (h1.2 r _ ho).2 (fun q h => by cases h) (fun h => by cases h) k1 k2 rfl hkC ⟨fun q => hib (Or.inl q), by show _ < (arrV _ _ _).slots.size; rw [arrV_size, e]; exact hj⟩ g1 (fun q h => by rw [g3] at h; cases h) (by rw [g2]; exact hkC) (by rw [g2]; exact va_assign hcls) rfl rfl hd fun H' e1 e2 e3 => ?_
  refine k H' _ ls (h1.put ho e2 e3 ?_) (h2.put e2 e3 (Nat.le_add_right _ _)) h3
  show H'[_]? = some (vp_cell _ _)
  rw [e1, e]
  dsimp only
  rw [vp_cell_q, vp_cell_q, arrV_store]
  congr 2
  funext q
  by_cases hq : q = j
  · subst hq
    simp [updV, fup, va_rf]
  · simp [updV, fup, hq]
/-- a cell of a static table, read at once: getstatic, iload, xaload -/
theorem wp_stab (G : Gd K cc own nL) (i : Nat) (hi : i < 3) {idx p2 p3 j jl : Nat} {z : Int} {k : Fin 4} (hli : Cond.fieldLink own idx (stTab i).1 (stTab i).2.1 (stTab i).2.2.1 ∈ WT) (d1 : Dn cc pc (.getstatic idx) 3 p2) (d2 : Dn cc p2 (.iload_n k) 1 p3) (d3 : Dn cc p3 (if i = 2 then .caload else .iaload) 1 pc') (hl : lv[jl]? = some ((k : Nat), zI z)) (hz : z = (j : Int)) (hj : j < (stTab i).2.2.2.2.1) (kk : Wp K nL Q cs pc' lv (zI ((stTab i).2.2.2.2.2 j) :: stk) hp) : Wp K nL Q cs pc lv stk hp := by
  intro H locs ls h1 h2 h3
  obtain ⟨hx, hb, hml, hown, hts, hE, hSv, hlk, hz0⟩ := G
  obtain ⟨d1, rfl⟩ := d1
  obtain ⟨d2, rfl⟩ := d2
  obtain ⟨d3, rfl⟩ := d3
  obtain ⟨t, hZ, hT⟩ := hSv i hi
  have hn : (stTab i).2.2.2.2.1 < 2147483648 := by rcases (show i = 0 ∨ i = 1 ∨ i = 2 by omega) with rfl | rfl | rfl <;> decide
  have e := inbN hz hj hn
  refine va_gets hx hb hZ h2 hown (hts _ hli) (fun _ h => h) d1 ?_
  refine lv_iload_n hx hb d2 rfl (lvm_at h3 hl) ?_
  rcases (show i = 0 ∨ i = 1 ∨ i = 2 by omega) with rfl | rfl | rfl
  · exact va_ti hx hb hT h2 (inb hz hj hn) (by rw [e]; rfl) d3 (kk H locs ls h1 h2 h3)
  · exact va_ti hx hb hT h2 (inb hz hj hn) (by rw [e]; rfl) d3 (kk H locs ls h1 h2 h3)
  · exact va_tc hx hb hT h2 (inb hz hj hn) (by rw [e]; rfl) d3 (kk H locs ls h1 h2 h3)
end RULES5
end
section
/-! truth as a number; exact contracts; the JDK's max, min, abs; bits -/
noncomputable def bt (P : Prop) : Int := by classical exact if P then 1 else 0
theorem bt_1 {P : Prop} (h : P) : bt P = 1 := by unfold bt; simp [h]
theorem bt_0 {P : Prop} (h : ¬ P) : bt P = 0 := by unfold bt; simp [h]
theorem bt_01 (P : Prop) : bt P = 0 ∨ bt P = 1 := by
  by_cases h : P
  · exact Or.inr (bt_1 h)
  · exact Or.inl (bt_0 h)
theorem bt_r (P : Prop) : r32 (bt P) := by
  rcases bt_01 P with h | h <;> rw [h] <;> omega
theorem bt_iff {P R : Prop} (h : P ↔ R) : bt P = bt R := by
  by_cases hp : P
  · rw [bt_1 hp, bt_1 (h.mp hp)]
  · rw [bt_0 hp, bt_0 (fun z => hp (h.mpr z))]
abbrev Rt (v : PV) (nx : Nat) (l : List (Nat × PC)) : Option PV → Nat → List (Nat × PC) → Prop := fun r nx' l' => r = some v ∧ nx' = nx ∧ l' = l
abbrev Rn (nx : Nat) (l : List (Nat × PC)) : Option PV → Nat → List (Nat × PC) → Prop := fun r nx' l' => r = none ∧ nx' = nx ∧ l' = l
theorem rmx_ok {K : KT} {d d0 mc ms c1 c2 maxL : Nat} (hR : kR K = rmx d mc ms) (h1 : d0 + 1 ≤ d) (h2 : maxL ≤ 21) (h3 : c1 ≤ mc) (h4 : c2 ≤ ms) : d0 + 1 ≤ (kR K).frames ∧ 8 + (maxL + 11) + 40 * d0 ≤ (kR K).locals ∧ c1 ≤ (kR K).cells ∧ c2 ≤ (kR K).slots := by
  rw [hR]
  exact ⟨h1, by show _ ≤ 40 * d; omega, h3, h4⟩
section RULES6
variable {K : KT} {nL : Nat} {Q : State → Prop} {cs mm : Nat × Nat} {pc pc' tgt : Nat} {lv : List (Nat × PV)} {stk rest : List PV} {hp hp2 : PH} {cc : ByteArray} {own : String} {h : Nat → Option PC} {nx : Nat} {l : List (Nat × PC)}
theorem wp_ifeq_bt (G : Gd K cc own nL) {P : Prop} {off : Int} (hd : Db cc pc (.ifCond .eq off) off pc' tgt) (kt : ¬ P → Wp K nL Q cs tgt lv stk hp) (kf : P → Wp K nL Q cs pc' lv stk hp) : Wp K nL Q cs pc lv (zI (bt P) :: stk) hp :=
  wp_if_eq G hd (bt_r P) (fun e => kt (fun z => by rw [bt_1 z] at e; omega)) (fun e => kf (Classical.byContradiction fun z => e (bt_0 z)))
theorem wp_ifne_bt (G : Gd K cc own nL) {P : Prop} {off : Int} (hd : Db cc pc (.ifCond .ne off) off pc' tgt) (kt : P → Wp K nL Q cs tgt lv stk hp) (kf : ¬ P → Wp K nL Q cs pc' lv stk hp) : Wp K nL Q cs pc lv (zI (bt P) :: stk) hp :=
  wp_if_ne G hd (bt_r P) (fun e => kt (Classical.byContradiction fun z => e (bt_0 z))) (fun e => kf (fun z => by rw [bt_1 z] at e; omega))
/-- calls whose answer is told exactly, and that make no cell -/
theorem wp_cSE (G : Gd K cc own nL) {d n idx maxL : Nat} {y : MethodName} {cb : ByteArray} {ret : Option FieldType} {as : List PV} {v : PV} (hm : My y cb maxL ret n) (hl : Mlk own idx y) (hst : Cond.static y ∈ WT) (hd : Dn cc pc (.invokestatic idx) 3 pc') (hs : stk = as.reverse ++ rest) (hn : as.length = n) (hrw : rwd rest ≤ 8) (hR : d + 1 ≤ (kR K).frames ∧ 8 + (maxL + 11) + 40 * d ≤ (kR K).locals ∧ cs.1 ≤ (kR K).cells ∧ cs.2 ≤ (kR K).slots)
    (C : Cx d (0, 0) y cb maxL ret as hp.1 (hget hp) (Rt v hp.1 l)) (he : (hp.1, hp.2.1, asets hp.2.2 l) = hp2) (k : Wp K nL Q cs pc' lv (v :: rest) hp2) : Wp K nL Q cs pc lv stk hp :=
  wp_callS G hm hl hst hd hs hn hrw hR C (fun r nx' l' hq => by obtain ⟨rfl, rfl, rfl⟩ := hq; rw [he]; exact k)
theorem wp_cVE (G : Gd K cc own nL) {d n idx maxL b ci : Nat} {y : MethodName} {cb : ByteArray} {ret : Option FieldType} {as fs : List PV} {v : PV} (hm : My y cb maxL ret n) (hl : Mlk own idx y) (hin : Cond.instanceMethod y ∈ WT) (hsel : Cond.selects y.cls y y ∈ WT) (hci : ∃ q, vwCl[ci]? = some q ∧ q.1 = y.cls) (hd : Dn cc pc (.invokevirtual idx) 3 pc') (ho : hget hp b = some (oO ci fs)) (hs : stk = as.reverse ++ zR b :: rest) (hn : as.length = n) (hrw : rwd rest ≤ 8) (hR : d + 1 ≤ (kR K).frames ∧ 8 + (maxL + 11) + 40 * d ≤ (kR K).locals ∧ cs.1 ≤ (kR K).cells ∧ cs.2 ≤ (kR K).slots)
    (C : Cx d (0, 0) y cb maxL ret (zR b :: as) hp.1 (hget hp) (Rt v hp.1 l)) (he : (hp.1, hp.2.1, asets hp.2.2 l) = hp2) (k : Wp K nL Q cs pc' lv (v :: rest) hp2) : Wp K nL Q cs pc lv stk hp :=
  wp_callV G hm hl hin hsel hci hd ho hs hn hrw hR C (fun r nx' l' hq => by obtain ⟨rfl, rfl, rfl⟩ := hq; rw [he]; exact k)
theorem wp_cVN (G : Gd K cc own nL) {d n idx maxL b ci : Nat} {y : MethodName} {cb : ByteArray} {ret : Option FieldType} {as fs : List PV} (hm : My y cb maxL ret n) (hl : Mlk own idx y) (hin : Cond.instanceMethod y ∈ WT) (hsel : Cond.selects y.cls y y ∈ WT) (hci : ∃ q, vwCl[ci]? = some q ∧ q.1 = y.cls) (hd : Dn cc pc (.invokevirtual idx) 3 pc') (ho : hget hp b = some (oO ci fs)) (hs : stk = as.reverse ++ zR b :: rest) (hn : as.length = n) (hrw : rwd rest ≤ 8) (hR : d + 1 ≤ (kR K).frames ∧ 8 + (maxL + 11) + 40 * d ≤ (kR K).locals ∧ cs.1 ≤ (kR K).cells ∧ cs.2 ≤ (kR K).slots)
    (C : Cx d (0, 0) y cb maxL ret (zR b :: as) hp.1 (hget hp) (Rn hp.1 l)) (he : (hp.1, hp.2.1, asets hp.2.2 l) = hp2) (k : Wp K nL Q cs pc' lv rest hp2) : Wp K nL Q cs pc lv stk hp :=
  wp_callV G hm hl hin hsel hci hd ho hs hn hrw hR C (fun r nx' l' hq => by obtain ⟨rfl, rfl, rfl⟩ := hq; rw [he]; exact k)
theorem max_i {a b : Int} (ra : r32 a) (rb : r32 b) : (if Int32.ofInt a < Int32.ofInt b then Int32.ofInt b else Int32.ofInt a) = Int32.ofInt (max a b) := by
  by_cases c : a < b
  · rw [if_pos ((l32 ra rb).mpr c), Int.max_eq_right (by omega)]
  · rw [if_neg (fun z => c ((l32 ra rb).mp z)), Int.max_eq_left (by omega)]
theorem min_i {a b : Int} (ra : r32 a) (rb : r32 b) : (if Int32.ofInt b < Int32.ofInt a then Int32.ofInt b else Int32.ofInt a) = Int32.ofInt (min a b) := by
  by_cases c : b < a
  · rw [if_pos ((l32 rb ra).mpr c), Int.min_eq_right (by omega)]
  · rw [if_neg (fun z => c ((l32 rb ra).mp z)), Int.min_eq_left (by omega)]
theorem wp_mmax (G : Gd K cc own nL) {idx : Nat} {a b : Int} (ra : r32 a) (rb : r32 b) (hl : Cond.methodLink own idx Lib.Math.max.name ∈ WT) (hst : Cond.static Lib.Math.max.name ∈ WT) (hc : Cond.code Lib.Math.max.name Lib.Math.max.code 2 (some .int) ∈ WT) (hi : Cond.initialized "java/lang/Math" ∈ WT) (hd : Dn cc pc (.invokestatic idx) 3 pc') (hrw : rwd stk ≤ 8) (hR : 0 + 1 ≤ (kR K).frames ∧ 21 ≤ (kR K).locals ∧ cs.1 ≤ (kR K).cells ∧ cs.2 ≤ (kR K).slots) (k : Wp K nL Q cs pc' lv (zI (max a b) :: stk) hp) : Wp K nL Q cs pc lv (zI b :: zI a :: stk) hp := by
  intro H locs ls h1 h2 h3
  obtain ⟨hx, hb, hml, hown, hts, -⟩ := G
  obtain ⟨hd, rfl⟩ := hd
  refine va_mmax (x := Int32.ofInt a) (y := Int32.ofInt b) hx hb (hml.trans h3.1.symm) hown (hts _ hl) (hts _ hst) (hts _ hi) (hts _ hc) hR.1 (by rw [rwd_eq]; exact Nat.le_trans (Nat.add_le_add_right hrw 13) hR.2.1) hR.2.2.1 hR.2.2.2 hd ?_
  rw [max_i ra rb]
  exact k H locs ls h1 h2 h3
theorem wp_mmin (G : Gd K cc own nL) {idx : Nat} {a b : Int} (ra : r32 a) (rb : r32 b) (hl : Cond.methodLink own idx Lib.Math.min.name ∈ WT) (hst : Cond.static Lib.Math.min.name ∈ WT) (hc : Cond.code Lib.Math.min.name Lib.Math.min.code 2 (some .int) ∈ WT) (hi : Cond.initialized "java/lang/Math" ∈ WT) (hd : Dn cc pc (.invokestatic idx) 3 pc') (hrw : rwd stk ≤ 8) (hR : 0 + 1 ≤ (kR K).frames ∧ 21 ≤ (kR K).locals ∧ cs.1 ≤ (kR K).cells ∧ cs.2 ≤ (kR K).slots) (k : Wp K nL Q cs pc' lv (zI (min a b) :: stk) hp) : Wp K nL Q cs pc lv (zI b :: zI a :: stk) hp := by
  intro H locs ls h1 h2 h3
  obtain ⟨hx, hb, hml, hown, hts, -⟩ := G
  obtain ⟨hd, rfl⟩ := hd
  refine va_mmin (x := Int32.ofInt a) (y := Int32.ofInt b) hx hb (hml.trans h3.1.symm) hown (hts _ hl) (hts _ hst) (hts _ hi) (hts _ hc) hR.1 (by rw [rwd_eq]; exact Nat.le_trans (Nat.add_le_add_right hrw 13) hR.2.1) hR.2.2.1 hR.2.2.2 hd ?_
  rw [min_i ra rb]
  exact k H locs ls h1 h2 h3
theorem wp_mabs (G : Gd K cc own nL) {idx : Nat} {a : Int} (ra : r32 a) (hl : Cond.methodLink own idx Lib.Math.abs.name ∈ WT) (hst : Cond.static Lib.Math.abs.name ∈ WT) (hc : Cond.code Lib.Math.abs.name Lib.Math.abs.code 1 (some .int) ∈ WT) (hi : Cond.initialized "java/lang/Math" ∈ WT) (hd : Dn cc pc (.invokestatic idx) 3 pc') (hrw : rwd stk ≤ 8) (hR : 0 + 1 ≤ (kR K).frames ∧ 21 ≤ (kR K).locals ∧ cs.1 ≤ (kR K).cells ∧ cs.2 ≤ (kR K).slots) (k : Wp K nL Q cs pc' lv (zI (if 0 ≤ a then a else -a) :: stk) hp) : Wp K nL Q cs pc lv (zI a :: stk) hp := by
  intro H locs ls h1 h2 h3
  obtain ⟨hx, hb, hml, hown, hts, -⟩ := G
  obtain ⟨hd, rfl⟩ := hd
  have e : (if 0 ≤ Int32.ofInt a then Int32.ofInt a else 0 - Int32.ofInt a) = Int32.ofInt (if 0 ≤ a then a else -a) := by
    have r0 : r32 0 := by omega
    by_cases c : 0 ≤ a
    · rw [if_pos c, if_pos (by rw [z32]; exact (le32 r0 ra).mpr c)]
    · rw [if_neg c, if_neg (fun z => c ((le32 r0 ra).mp (by rw [← z32]; exact z))), z32, ← Int32.ofInt_sub]
      congr 1
      omega
  refine va_mabs (x := Int32.ofInt a) hx hb (hml.trans h3.1.symm) hown (hts _ hl) (hts _ hst) (hts _ hi) (hts _ hc) hR.1 (by rw [rwd_eq]; exact Nat.le_trans (Nat.add_le_add_right hrw 13) hR.2.1) hR.2.2.1 hR.2.2.2 hd ?_
  rw [e]
  exact k H locs ls h1 h2 h3
theorem wp_lmax (G : Gd K cc own nL) {idx : Nat} {a b : Int} (ra : r64 a) (rb : r64 b) (hl : Cond.methodLink own idx Lib.MathLoose.max_long.x ∈ WT) (hst : Cond.static Lib.MathLoose.max_long.x ∈ WT) (hc : Cond.code Lib.MathLoose.max_long.x Lib.MathLoose.max_long.code 4 (some .long) ∈ WT) (hi : Cond.initialized "java/lang/Math" ∈ WT) (hd : Dn cc pc (.invokestatic idx) 3 pc') (hrw : rwd stk ≤ 6) (hR : 0 + 1 ≤ (kR K).frames ∧ 21 ≤ (kR K).locals ∧ cs.1 ≤ (kR K).cells ∧ cs.2 ≤ (kR K).slots) (k : Wp K nL Q cs pc' lv (zJ (max a b) :: stk) hp) : Wp K nL Q cs pc lv (zJ b :: zJ a :: stk) hp := by
  intro H locs ls h1 h2 h3
  obtain ⟨hx, hb, hml, hown, hts, -⟩ := G
  obtain ⟨hd, rfl⟩ := hd
  have e : (if Int64.ofInt b < Int64.ofInt a then Int64.ofInt a else Int64.ofInt b) = Int64.ofInt (max a b) := by
    have e1 : Int64.ofInt b < Int64.ofInt a ↔ b < a := by rw [Int64.lt_iff_toInt_lt, n64 ra, n64 rb]
    by_cases c : b < a
    · rw [if_pos (e1.mpr c), Int.max_eq_left (by omega)]
    · rw [if_neg (fun z => c (e1.mp z)), Int.max_eq_right (by omega)]
  refine va_mmax_long (x := Int64.ofInt a) (y := Int64.ofInt b) hx hb (hml.trans h3.1.symm) hown (hts _ hl) (hts _ hst) (hts _ hi) (hts _ hc) hR.1 (by rw [rwd_eq]; exact Nat.le_trans (Nat.add_le_add_right hrw 15) hR.2.1) hR.2.2.1 hR.2.2.2 hd ?_
  rw [e]
  exact k H locs ls h1 h2 h3
theorem wp_putE (G : Gd K cc own nL) {idx r ci : Nat} (f : Nat) {fs : List PV} {v : PV} (hc : ClOk ci) (hf : Fx own idx ci f) (hd : Dn cc pc (.putfield idx) 3 pc') (ho : hget hp r = some (oO ci fs)) (hlen : f < fs.length) (hfit : fitF (clTy ci f) v) (hfin : ∀ q, vwCl[ci]? = some q → (q.2.1 f).2.2.2 = false) (he : hset hp r (oO ci (fs.set f v)) = hp2) (k : Wp K nL Q cs pc' lv stk hp2) : Wp K nL Q cs pc lv (v :: zR r :: stk) hp := wp_put G f hc hf hd ho hlen hfit hfin (by rw [he]; exact k)
theorem wp_iastE (G : Gd K cc own nL) {r n j : Nat} {f : Nat → Int} {z x : Int} (hd : Dn cc pc .iastore 1 pc') (ho : hget hp r = some (oA 0 n f)) (hz : z = (j : Int)) (hj : j < n) (hn : n < 2147483648) (he : hset hp r (oA 0 n (fup f j x)) = hp2) (k : Wp K nL Q cs pc' lv stk hp2) : Wp K nL Q cs pc lv (zI x :: zI z :: zR r :: stk) hp := wp_iast G hd ho hz hj hn (by rw [he]; exact k)
theorem wp_lastE (G : Gd K cc own nL) {r n j : Nat} {f : Nat → Int} {z x : Int} (hd : Dn cc pc .lastore 1 pc') (ho : hget hp r = some (oL 2 n f)) (hz : z = (j : Int)) (hj : j < n) (hn : n < 2147483648) (he : hset hp r (oL 2 n (fup f j x)) = hp2) (k : Wp K nL Q cs pc' lv stk hp2) : Wp K nL Q cs pc lv (zJ x :: zI z :: zR r :: stk) hp := wp_last G hd ho hz hj hn (by rw [he]; exact k)
theorem wp_zastE (G : Gd K cc own nL) {r n j : Nat} {f : Nat → Int} {z x : Int} (hx01 : x = 0 ∨ x = 1) (hd : Dn cc pc .bastore 1 pc') (ho : hget hp r = some (oA 1 n f)) (hz : z = (j : Int)) (hj : j < n) (hn : n < 2147483648) (he : hset hp r (oA 1 n (fup f j x)) = hp2) (k : Wp K nL Q cs pc' lv stk hp2) : Wp K nL Q cs pc lv (zI x :: zI z :: zR r :: stk) hp := wp_zast G hx01 hd ho hz hj hn (by rw [he]; exact k)
end RULES6
end
section
theorem wt_at {w : Cond} (i : Nat) (h : lw_tbl[i]? = some w) (hg : goodWord w = true) : w ∈ WT := wt_of (List.mem_of_getElem? h) hg
theorem wt_ps {ws : List Cond} (ps : List Nat) (h : ws = ps.filterMap (fun i => lw_tbl[i]?)) (hg : ws.all goodWord = true) : ∀ w ∈ ws, w ∈ WT := by
  intro w hw
  have h1 := List.all_eq_true.mp hg w hw
  rw [h] at hw
  obtain ⟨i, -, hi⟩ := List.mem_filterMap.mp hw
  exact wt_of (List.mem_of_getElem? hi) h1
theorem inX0 : ∀ w ∈ u_ws RX0 TX0 1, w ∈ WT := wt_ps [242] (by decide +kernel) (by decide +kernel)
theorem cOk0 : ClOk 0 := ⟨_, rfl, inX0, tyX0_ok, nmX0⟩
theorem inX1 : ∀ w ∈ u_ws RX1 TX1 6, w ∈ WT := wt_ps [741, 743, 745, 747, 749, 751] (by decide +kernel) (by decide +kernel)
theorem cOk1 : ClOk 1 := ⟨_, rfl, inX1, tyX1_ok, nmX1⟩
theorem inX2 : ∀ w ∈ u_ws RX2 TX2 13, w ∈ WT := wt_ps [323, 325, 327, 329, 331, 333, 335, 337, 339, 341, 343, 345, 347] (by decide +kernel) (by decide +kernel)
theorem cOk2 : ClOk 2 := ⟨_, rfl, inX2, tyX2_ok, nmX2⟩
theorem inX3 : ∀ w ∈ u_ws RX3 TX3 14, w ∈ WT := wt_ps [205, 207, 209, 211, 213, 215, 217, 219, 221, 223, 225, 227, 229, 231] (by decide +kernel) (by decide +kernel)
theorem cOk3 : ClOk 3 := ⟨_, rfl, inX3, tyX3_ok, nmX3⟩
theorem inX4 : ∀ w ∈ u_ws RX4 TX4 5, w ∈ WT := wt_ps [258, 260, 262, 264, 266] (by decide +kernel) (by decide +kernel)
theorem cOk4 : ClOk 4 := ⟨_, rfl, inX4, tyX4_ok, nmX4⟩
theorem inX6 : ∀ w ∈ u_ws RX6 TX6 9, w ∈ WT := wt_ps [160, 162, 164, 166, 168, 170, 172, 174, 176] (by decide +kernel) (by decide +kernel)
theorem cOk5 : ClOk 5 := ⟨_, rfl, inX6, tyX6_ok, nmX6⟩
theorem inX7 : ∀ w ∈ u_ws RX7 TX7 2, w ∈ WT := wt_ps [294, 296] (by decide +kernel) (by decide +kernel)
theorem cOk6 : ClOk 6 := ⟨_, rfl, inX7, tyX7_ok, nmX7⟩
theorem inX8 : ∀ w ∈ u_ws RX8 TX8 2, w ∈ WT := wt_ps [278, 280] (by decide +kernel) (by decide +kernel)
theorem cOk7 : ClOk 7 := ⟨_, rfl, inX8, tyX8_ok, nmX8⟩
theorem inX9 : ∀ w ∈ u_ws RX9 TX9 10, w ∈ WT := wt_ps [360, 362, 364, 366, 368, 370, 372, 374, 376, 378] (by decide +kernel) (by decide +kernel)
theorem cOk8 : ClOk 8 := ⟨_, rfl, inX9, tyX9_ok, nmX9⟩
theorem inX10 : ∀ w ∈ u_ws RX10 TX10 34, w ∈ WT := wt_ps [971, 973, 975, 977, 979, 981, 983, 985, 987, 989, 991, 993, 995, 997, 999, 1001, 1003, 1005, 1007, 1009, 1011, 1013, 1015, 1017, 1019, 1021, 1023, 1025, 1027, 1029, 1031, 1033, 1035, 1037] (by decide +kernel) (by decide +kernel)
theorem cOk9 : ClOk 9 := ⟨_, rfl, inX10, tyX10_ok, nmX10⟩
theorem fX9_7 : Fx RX9 7 8 0 := ⟨_, rfl, by decide, Or.inl ⟨List.mem_of_getElem? (i := 350) (by decide +kernel), by decide +kernel⟩⟩
theorem fX9_16 : Fx RX9 16 8 1 := ⟨_, rfl, by decide, Or.inl ⟨List.mem_of_getElem? (i := 351) (by decide +kernel), by decide +kernel⟩⟩
theorem fX9_23 : Fx RX9 23 8 2 := ⟨_, rfl, by decide, Or.inl ⟨List.mem_of_getElem? (i := 352) (by decide +kernel), by decide +kernel⟩⟩
theorem fX9_30 : Fx RX9 30 8 3 := ⟨_, rfl, by decide, Or.inl ⟨List.mem_of_getElem? (i := 353) (by decide +kernel), by decide +kernel⟩⟩
theorem fX9_37 : Fx RX9 37 8 4 := ⟨_, rfl, by decide, Or.inl ⟨List.mem_of_getElem? (i := 354) (by decide +kernel), by decide +kernel⟩⟩
theorem fX9_44 : Fx RX9 44 8 5 := ⟨_, rfl, by decide, Or.inl ⟨List.mem_of_getElem? (i := 355) (by decide +kernel), by decide +kernel⟩⟩
theorem fX9_50 : Fx RX9 50 8 6 := ⟨_, rfl, by decide, Or.inl ⟨List.mem_of_getElem? (i := 356) (by decide +kernel), by decide +kernel⟩⟩
theorem fX9_54 : Fx RX9 54 8 7 := ⟨_, rfl, by decide, Or.inl ⟨List.mem_of_getElem? (i := 357) (by decide +kernel), by decide +kernel⟩⟩
theorem fX9_61 : Fx RX9 61 8 8 := ⟨_, rfl, by decide, Or.inl ⟨List.mem_of_getElem? (i := 358) (by decide +kernel), by decide +kernel⟩⟩
theorem fX9_68 : Fx RX9 68 8 9 := ⟨_, rfl, by decide, Or.inl ⟨List.mem_of_getElem? (i := 359) (by decide +kernel), by decide +kernel⟩⟩
theorem fX9_97 : Fx RX9 97 5 7 := ⟨_, rfl, by decide, Or.inr (List.mem_of_getElem? (i := 156) (by decide +kernel))⟩
theorem fX9_105 : Fx RX9 105 5 5 := ⟨_, rfl, by decide, Or.inr (List.mem_of_getElem? (i := 147) (by decide +kernel))⟩
theorem fX9_108 : Fx RX9 108 5 1 := ⟨_, rfl, by decide, Or.inr (List.mem_of_getElem? (i := 128) (by decide +kernel))⟩
theorem fX9_111 : Fx RX9 111 5 2 := ⟨_, rfl, by decide, Or.inr (List.mem_of_getElem? (i := 133) (by decide +kernel))⟩
theorem fX9_114 : Fx RX9 114 5 3 := ⟨_, rfl, by decide, Or.inr (List.mem_of_getElem? (i := 137) (by decide +kernel))⟩
theorem fX9_117 : Fx RX9 117 5 4 := ⟨_, rfl, by decide, Or.inr (List.mem_of_getElem? (i := 142) (by decide +kernel))⟩
theorem fX9_120 : Fx RX9 120 5 6 := ⟨_, rfl, by decide, Or.inr (List.mem_of_getElem? (i := 153) (by decide +kernel))⟩
theorem fX9_144 : Fx RX9 144 3 0 := ⟨_, rfl, by decide, Or.inr (List.mem_of_getElem? (i := 190) (by decide +kernel))⟩
theorem fX9_147 : Fx RX9 147 3 1 := ⟨_, rfl, by decide, Or.inr (List.mem_of_getElem? (i := 192) (by decide +kernel))⟩
theorem fX9_222 : Fx RX9 222 4 3 := ⟨_, rfl, by decide, Or.inr (List.mem_of_getElem? (i := 255) (by decide +kernel))⟩
theorem fX9_232 : Fx RX9 232 4 4 := ⟨_, rfl, by decide, Or.inr (List.mem_of_getElem? (i := 257) (by decide +kernel))⟩
theorem fX9_253 : Fx RX9 253 7 0 := ⟨_, rfl, by decide, Or.inr (List.mem_of_getElem? (i := 276) (by decide +kernel))⟩
theorem fX9_280 : Fx RX9 280 2 0 := ⟨_, rfl, by decide, Or.inr (List.mem_of_getElem? (i := 308) (by decide +kernel))⟩
theorem fX9_287 : Fx RX9 287 2 6 := ⟨_, rfl, by decide, Or.inr (List.mem_of_getElem? (i := 315) (by decide +kernel))⟩
theorem fX9_297 : Fx RX9 297 2 7 := ⟨_, rfl, by decide, Or.inr (List.mem_of_getElem? (i := 317) (by decide +kernel))⟩
theorem fX9_314 : Fx RX9 314 5 0 := ⟨_, rfl, by decide, Or.inr (List.mem_of_getElem? (i := 125) (by decide +kernel))⟩
theorem fX9_333 : Fx RX9 333 6 1 := ⟨_, rfl, by decide, Or.inr (List.mem_of_getElem? (i := 293) (by decide +kernel))⟩
theorem fX0_9 : Fx RX0 9 0 0 := ⟨_, rfl, by decide, Or.inl ⟨List.mem_of_getElem? (i := 241) (by decide +kernel), by decide +kernel⟩⟩
theorem fX0_15 : Fx RX0 15 5 0 := ⟨_, rfl, by decide, Or.inr (List.mem_of_getElem? (i := 119) (by decide +kernel))⟩
theorem fX0_25 : Fx RX0 25 5 5 := ⟨_, rfl, by decide, Or.inr (List.mem_of_getElem? (i := 146) (by decide +kernel))⟩
theorem fX1_7 : Fx RX1 7 1 0 := ⟨_, rfl, by decide, Or.inl ⟨List.mem_of_getElem? (i := 731) (by decide +kernel), by decide +kernel⟩⟩
theorem fX1_13 : Fx RX1 13 1 1 := ⟨_, rfl, by decide, Or.inl ⟨List.mem_of_getElem? (i := 733) (by decide +kernel), by decide +kernel⟩⟩
theorem fX1_16 : Fx RX1 16 1 2 := ⟨_, rfl, by decide, Or.inl ⟨List.mem_of_getElem? (i := 735) (by decide +kernel), by decide +kernel⟩⟩
theorem fX1_20 : Fx RX1 20 1 3 := ⟨_, rfl, by decide, Or.inl ⟨List.mem_of_getElem? (i := 737) (by decide +kernel), by decide +kernel⟩⟩
theorem fX1_23 : Fx RX1 23 1 4 := ⟨_, rfl, by decide, Or.inl ⟨List.mem_of_getElem? (i := 739) (by decide +kernel), by decide +kernel⟩⟩
theorem fX1_26 : Fx RX1 26 1 5 := ⟨_, rfl, by decide, Or.inl ⟨List.mem_of_getElem? (i := 740) (by decide +kernel), by decide +kernel⟩⟩
theorem fX1_39 : Fx RX1 39 5 0 := ⟨_, rfl, by decide, Or.inr (List.mem_of_getElem? (i := 121) (by decide +kernel))⟩
theorem fX1_48 : Fx RX1 48 5 6 := ⟨_, rfl, by decide, Or.inr (List.mem_of_getElem? (i := 152) (by decide +kernel))⟩
theorem fX1_51 : Fx RX1 51 5 2 := ⟨_, rfl, by decide, Or.inr (List.mem_of_getElem? (i := 130) (by decide +kernel))⟩
theorem fX2_9 : Fx RX2 9 2 0 := ⟨_, rfl, by decide, Or.inl ⟨List.mem_of_getElem? (i := 307) (by decide +kernel), by decide +kernel⟩⟩
theorem fX2_15 : Fx RX2 15 2 1 := ⟨_, rfl, by decide, Or.inl ⟨List.mem_of_getElem? (i := 309) (by decide +kernel), by decide +kernel⟩⟩
theorem fX2_19 : Fx RX2 19 2 2 := ⟨_, rfl, by decide, Or.inl ⟨List.mem_of_getElem? (i := 310) (by decide +kernel), by decide +kernel⟩⟩
theorem fX2_22 : Fx RX2 22 2 3 := ⟨_, rfl, by decide, Or.inl ⟨List.mem_of_getElem? (i := 311) (by decide +kernel), by decide +kernel⟩⟩
theorem fX2_25 : Fx RX2 25 2 4 := ⟨_, rfl, by decide, Or.inl ⟨List.mem_of_getElem? (i := 312) (by decide +kernel), by decide +kernel⟩⟩
theorem fX2_28 : Fx RX2 28 2 5 := ⟨_, rfl, by decide, Or.inl ⟨List.mem_of_getElem? (i := 313) (by decide +kernel), by decide +kernel⟩⟩
theorem fX2_33 : Fx RX2 33 2 6 := ⟨_, rfl, by decide, Or.inl ⟨List.mem_of_getElem? (i := 314) (by decide +kernel), by decide +kernel⟩⟩
theorem fX2_36 : Fx RX2 36 2 7 := ⟨_, rfl, by decide, Or.inl ⟨List.mem_of_getElem? (i := 316) (by decide +kernel), by decide +kernel⟩⟩
theorem fX2_39 : Fx RX2 39 2 8 := ⟨_, rfl, by decide, Or.inl ⟨List.mem_of_getElem? (i := 318) (by decide +kernel), by decide +kernel⟩⟩
theorem fX2_42 : Fx RX2 42 2 9 := ⟨_, rfl, by decide, Or.inl ⟨List.mem_of_getElem? (i := 319) (by decide +kernel), by decide +kernel⟩⟩
theorem fX2_45 : Fx RX2 45 2 10 := ⟨_, rfl, by decide, Or.inl ⟨List.mem_of_getElem? (i := 320) (by decide +kernel), by decide +kernel⟩⟩
theorem fX2_48 : Fx RX2 48 2 11 := ⟨_, rfl, by decide, Or.inl ⟨List.mem_of_getElem? (i := 321) (by decide +kernel), by decide +kernel⟩⟩
theorem fX2_51 : Fx RX2 51 2 12 := ⟨_, rfl, by decide, Or.inl ⟨List.mem_of_getElem? (i := 322) (by decide +kernel), by decide +kernel⟩⟩
theorem fX2_69 : Fx RX2 69 5 3 := ⟨_, rfl, by decide, Or.inr (List.mem_of_getElem? (i := 138) (by decide +kernel))⟩
theorem fX2_74 : Fx RX2 74 5 4 := ⟨_, rfl, by decide, Or.inr (List.mem_of_getElem? (i := 143) (by decide +kernel))⟩
theorem fX2_77 : Fx RX2 77 5 5 := ⟨_, rfl, by decide, Or.inr (List.mem_of_getElem? (i := 149) (by decide +kernel))⟩
theorem fX2_84 : Fx RX2 84 5 0 := ⟨_, rfl, by decide, Or.inr (List.mem_of_getElem? (i := 124) (by decide +kernel))⟩
theorem fX2_87 : Fx RX2 87 5 8 := ⟨_, rfl, by decide, Or.inr (List.mem_of_getElem? (i := 159) (by decide +kernel))⟩
theorem fX3_11 : Fx RX3 11 3 0 := ⟨_, rfl, by decide, Or.inl ⟨List.mem_of_getElem? (i := 189) (by decide +kernel), by decide +kernel⟩⟩
theorem fX3_15 : Fx RX3 15 3 1 := ⟨_, rfl, by decide, Or.inl ⟨List.mem_of_getElem? (i := 191) (by decide +kernel), by decide +kernel⟩⟩
theorem fX3_18 : Fx RX3 18 3 2 := ⟨_, rfl, by decide, Or.inl ⟨List.mem_of_getElem? (i := 193) (by decide +kernel), by decide +kernel⟩⟩
theorem fX3_21 : Fx RX3 21 3 3 := ⟨_, rfl, by decide, Or.inl ⟨List.mem_of_getElem? (i := 194) (by decide +kernel), by decide +kernel⟩⟩
theorem fX3_24 : Fx RX3 24 3 4 := ⟨_, rfl, by decide, Or.inl ⟨List.mem_of_getElem? (i := 195) (by decide +kernel), by decide +kernel⟩⟩
theorem fX3_27 : Fx RX3 27 3 5 := ⟨_, rfl, by decide, Or.inl ⟨List.mem_of_getElem? (i := 196) (by decide +kernel), by decide +kernel⟩⟩
theorem fX3_31 : Fx RX3 31 3 6 := ⟨_, rfl, by decide, Or.inl ⟨List.mem_of_getElem? (i := 197) (by decide +kernel), by decide +kernel⟩⟩
theorem fX3_36 : Fx RX3 36 3 7 := ⟨_, rfl, by decide, Or.inl ⟨List.mem_of_getElem? (i := 198) (by decide +kernel), by decide +kernel⟩⟩
theorem fX3_39 : Fx RX3 39 3 8 := ⟨_, rfl, by decide, Or.inl ⟨List.mem_of_getElem? (i := 199) (by decide +kernel), by decide +kernel⟩⟩
theorem fX3_43 : Fx RX3 43 3 9 := ⟨_, rfl, by decide, Or.inl ⟨List.mem_of_getElem? (i := 200) (by decide +kernel), by decide +kernel⟩⟩
theorem fX3_46 : Fx RX3 46 3 10 := ⟨_, rfl, by decide, Or.inl ⟨List.mem_of_getElem? (i := 201) (by decide +kernel), by decide +kernel⟩⟩
theorem fX3_49 : Fx RX3 49 3 11 := ⟨_, rfl, by decide, Or.inl ⟨List.mem_of_getElem? (i := 202) (by decide +kernel), by decide +kernel⟩⟩
theorem fX3_52 : Fx RX3 52 3 12 := ⟨_, rfl, by decide, Or.inl ⟨List.mem_of_getElem? (i := 203) (by decide +kernel), by decide +kernel⟩⟩
theorem fX3_55 : Fx RX3 55 3 13 := ⟨_, rfl, by decide, Or.inl ⟨List.mem_of_getElem? (i := 204) (by decide +kernel), by decide +kernel⟩⟩
theorem fX3_78 : Fx RX3 78 5 0 := ⟨_, rfl, by decide, Or.inr (List.mem_of_getElem? (i := 120) (by decide +kernel))⟩
theorem fX3_83 : Fx RX3 83 5 1 := ⟨_, rfl, by decide, Or.inr (List.mem_of_getElem? (i := 127) (by decide +kernel))⟩
theorem fX3_113 : Fx RX3 113 5 2 := ⟨_, rfl, by decide, Or.inr (List.mem_of_getElem? (i := 134) (by decide +kernel))⟩
theorem fX3_122 : Fx RX3 122 5 3 := ⟨_, rfl, by decide, Or.inr (List.mem_of_getElem? (i := 139) (by decide +kernel))⟩
theorem fX3_125 : Fx RX3 125 5 4 := ⟨_, rfl, by decide, Or.inr (List.mem_of_getElem? (i := 144) (by decide +kernel))⟩
theorem fX3_132 : Fx RX3 132 5 5 := ⟨_, rfl, by decide, Or.inr (List.mem_of_getElem? (i := 150) (by decide +kernel))⟩
theorem fX4_9 : Fx RX4 9 4 0 := ⟨_, rfl, by decide, Or.inl ⟨List.mem_of_getElem? (i := 251) (by decide +kernel), by decide +kernel⟩⟩
theorem fX4_15 : Fx RX4 15 4 1 := ⟨_, rfl, by decide, Or.inl ⟨List.mem_of_getElem? (i := 252) (by decide +kernel), by decide +kernel⟩⟩
theorem fX4_18 : Fx RX4 18 4 2 := ⟨_, rfl, by decide, Or.inl ⟨List.mem_of_getElem? (i := 253) (by decide +kernel), by decide +kernel⟩⟩
theorem fX4_23 : Fx RX4 23 4 3 := ⟨_, rfl, by decide, Or.inl ⟨List.mem_of_getElem? (i := 254) (by decide +kernel), by decide +kernel⟩⟩
theorem fX4_26 : Fx RX4 26 4 4 := ⟨_, rfl, by decide, Or.inl ⟨List.mem_of_getElem? (i := 256) (by decide +kernel), by decide +kernel⟩⟩
theorem fX4_29 : Fx RX4 29 5 3 := ⟨_, rfl, by decide, Or.inr (List.mem_of_getElem? (i := 136) (by decide +kernel))⟩
theorem fX4_32 : Fx RX4 32 5 4 := ⟨_, rfl, by decide, Or.inr (List.mem_of_getElem? (i := 141) (by decide +kernel))⟩
theorem fX4_45 : Fx RX4 45 5 5 := ⟨_, rfl, by decide, Or.inr (List.mem_of_getElem? (i := 148) (by decide +kernel))⟩
theorem fX4_48 : Fx RX4 48 5 2 := ⟨_, rfl, by decide, Or.inr (List.mem_of_getElem? (i := 131) (by decide +kernel))⟩
theorem fX4_70 : Fx RX4 70 5 8 := ⟨_, rfl, by decide, Or.inr (List.mem_of_getElem? (i := 158) (by decide +kernel))⟩
theorem fX4_73 : Fx RX4 73 5 0 := ⟨_, rfl, by decide, Or.inr (List.mem_of_getElem? (i := 123) (by decide +kernel))⟩
theorem fX6_9 : Fx RX6 9 5 0 := ⟨_, rfl, by decide, Or.inl ⟨List.mem_of_getElem? (i := 118) (by decide +kernel), by decide +kernel⟩⟩
theorem fX6_15 : Fx RX6 15 5 1 := ⟨_, rfl, by decide, Or.inl ⟨List.mem_of_getElem? (i := 126) (by decide +kernel), by decide +kernel⟩⟩
theorem fX6_19 : Fx RX6 19 5 2 := ⟨_, rfl, by decide, Or.inl ⟨List.mem_of_getElem? (i := 129) (by decide +kernel), by decide +kernel⟩⟩
theorem fX6_22 : Fx RX6 22 5 3 := ⟨_, rfl, by decide, Or.inl ⟨List.mem_of_getElem? (i := 135) (by decide +kernel), by decide +kernel⟩⟩
theorem fX6_25 : Fx RX6 25 5 4 := ⟨_, rfl, by decide, Or.inl ⟨List.mem_of_getElem? (i := 140) (by decide +kernel), by decide +kernel⟩⟩
theorem fX6_28 : Fx RX6 28 5 5 := ⟨_, rfl, by decide, Or.inl ⟨List.mem_of_getElem? (i := 145) (by decide +kernel), by decide +kernel⟩⟩
theorem fX6_31 : Fx RX6 31 5 6 := ⟨_, rfl, by decide, Or.inl ⟨List.mem_of_getElem? (i := 151) (by decide +kernel), by decide +kernel⟩⟩
theorem fX6_34 : Fx RX6 34 5 7 := ⟨_, rfl, by decide, Or.inl ⟨List.mem_of_getElem? (i := 155) (by decide +kernel), by decide +kernel⟩⟩
theorem fX6_38 : Fx RX6 38 5 8 := ⟨_, rfl, by decide, Or.inl ⟨List.mem_of_getElem? (i := 157) (by decide +kernel), by decide +kernel⟩⟩
theorem fX7_9 : Fx RX7 9 6 0 := ⟨_, rfl, by decide, Or.inl ⟨List.mem_of_getElem? (i := 291) (by decide +kernel), by decide +kernel⟩⟩
theorem fX7_15 : Fx RX7 15 6 1 := ⟨_, rfl, by decide, Or.inl ⟨List.mem_of_getElem? (i := 292) (by decide +kernel), by decide +kernel⟩⟩
theorem fX7_31 : Fx RX7 31 5 0 := ⟨_, rfl, by decide, Or.inr (List.mem_of_getElem? (i := 122) (by decide +kernel))⟩
theorem fX7_41 : Fx RX7 41 5 2 := ⟨_, rfl, by decide, Or.inr (List.mem_of_getElem? (i := 132) (by decide +kernel))⟩
theorem fX7_49 : Fx RX7 49 1 0 := ⟨_, rfl, by decide, Or.inr (List.mem_of_getElem? (i := 732) (by decide +kernel))⟩
theorem fX7_54 : Fx RX7 54 1 3 := ⟨_, rfl, by decide, Or.inr (List.mem_of_getElem? (i := 738) (by decide +kernel))⟩
theorem fX7_57 : Fx RX7 57 5 6 := ⟨_, rfl, by decide, Or.inr (List.mem_of_getElem? (i := 154) (by decide +kernel))⟩
theorem fX7_60 : Fx RX7 60 1 2 := ⟨_, rfl, by decide, Or.inr (List.mem_of_getElem? (i := 736) (by decide +kernel))⟩
theorem fX8_9 : Fx RX8 9 7 0 := ⟨_, rfl, by decide, Or.inl ⟨List.mem_of_getElem? (i := 275) (by decide +kernel), by decide +kernel⟩⟩
theorem fX8_15 : Fx RX8 15 7 1 := ⟨_, rfl, by decide, Or.inl ⟨List.mem_of_getElem? (i := 277) (by decide +kernel), by decide +kernel⟩⟩
theorem fX8_34 : Fx RX8 34 1 1 := ⟨_, rfl, by decide, Or.inr (List.mem_of_getElem? (i := 734) (by decide +kernel))⟩
theorem fX10_7 : Fx RX10 7 9 0 := ⟨_, rfl, by decide, Or.inl ⟨List.mem_of_getElem? (i := 937) (by decide +kernel), by decide +kernel⟩⟩
theorem fX10_13 : Fx RX10 13 9 1 := ⟨_, rfl, by decide, Or.inl ⟨List.mem_of_getElem? (i := 938) (by decide +kernel), by decide +kernel⟩⟩
theorem fX10_16 : Fx RX10 16 9 2 := ⟨_, rfl, by decide, Or.inl ⟨List.mem_of_getElem? (i := 939) (by decide +kernel), by decide +kernel⟩⟩
theorem fX10_19 : Fx RX10 19 9 3 := ⟨_, rfl, by decide, Or.inl ⟨List.mem_of_getElem? (i := 940) (by decide +kernel), by decide +kernel⟩⟩
theorem fX10_22 : Fx RX10 22 9 4 := ⟨_, rfl, by decide, Or.inl ⟨List.mem_of_getElem? (i := 941) (by decide +kernel), by decide +kernel⟩⟩
theorem fX10_25 : Fx RX10 25 9 5 := ⟨_, rfl, by decide, Or.inl ⟨List.mem_of_getElem? (i := 942) (by decide +kernel), by decide +kernel⟩⟩
theorem fX10_28 : Fx RX10 28 9 6 := ⟨_, rfl, by decide, Or.inl ⟨List.mem_of_getElem? (i := 943) (by decide +kernel), by decide +kernel⟩⟩
theorem fX10_32 : Fx RX10 32 9 8 := ⟨_, rfl, by decide, Or.inl ⟨List.mem_of_getElem? (i := 945) (by decide +kernel), by decide +kernel⟩⟩
theorem fX10_35 : Fx RX10 35 9 9 := ⟨_, rfl, by decide, Or.inl ⟨List.mem_of_getElem? (i := 946) (by decide +kernel), by decide +kernel⟩⟩
theorem fX10_38 : Fx RX10 38 9 10 := ⟨_, rfl, by decide, Or.inl ⟨List.mem_of_getElem? (i := 947) (by decide +kernel), by decide +kernel⟩⟩
theorem fX10_41 : Fx RX10 41 9 11 := ⟨_, rfl, by decide, Or.inl ⟨List.mem_of_getElem? (i := 948) (by decide +kernel), by decide +kernel⟩⟩
theorem fX10_45 : Fx RX10 45 9 14 := ⟨_, rfl, by decide, Or.inl ⟨List.mem_of_getElem? (i := 951) (by decide +kernel), by decide +kernel⟩⟩
theorem fX10_48 : Fx RX10 48 9 15 := ⟨_, rfl, by decide, Or.inl ⟨List.mem_of_getElem? (i := 952) (by decide +kernel), by decide +kernel⟩⟩
theorem fX10_51 : Fx RX10 51 9 16 := ⟨_, rfl, by decide, Or.inl ⟨List.mem_of_getElem? (i := 953) (by decide +kernel), by decide +kernel⟩⟩
theorem fX10_54 : Fx RX10 54 9 17 := ⟨_, rfl, by decide, Or.inl ⟨List.mem_of_getElem? (i := 954) (by decide +kernel), by decide +kernel⟩⟩
theorem fX10_57 : Fx RX10 57 9 18 := ⟨_, rfl, by decide, Or.inl ⟨List.mem_of_getElem? (i := 955) (by decide +kernel), by decide +kernel⟩⟩
theorem fX10_60 : Fx RX10 60 9 19 := ⟨_, rfl, by decide, Or.inl ⟨List.mem_of_getElem? (i := 956) (by decide +kernel), by decide +kernel⟩⟩
theorem fX10_63 : Fx RX10 63 9 21 := ⟨_, rfl, by decide, Or.inl ⟨List.mem_of_getElem? (i := 958) (by decide +kernel), by decide +kernel⟩⟩
theorem fX10_66 : Fx RX10 66 9 22 := ⟨_, rfl, by decide, Or.inl ⟨List.mem_of_getElem? (i := 959) (by decide +kernel), by decide +kernel⟩⟩
theorem fX10_69 : Fx RX10 69 9 23 := ⟨_, rfl, by decide, Or.inl ⟨List.mem_of_getElem? (i := 960) (by decide +kernel), by decide +kernel⟩⟩
theorem fX10_72 : Fx RX10 72 9 24 := ⟨_, rfl, by decide, Or.inl ⟨List.mem_of_getElem? (i := 961) (by decide +kernel), by decide +kernel⟩⟩
theorem fX10_75 : Fx RX10 75 9 25 := ⟨_, rfl, by decide, Or.inl ⟨List.mem_of_getElem? (i := 962) (by decide +kernel), by decide +kernel⟩⟩
theorem fX10_78 : Fx RX10 78 9 26 := ⟨_, rfl, by decide, Or.inl ⟨List.mem_of_getElem? (i := 963) (by decide +kernel), by decide +kernel⟩⟩
theorem fX10_81 : Fx RX10 81 9 28 := ⟨_, rfl, by decide, Or.inl ⟨List.mem_of_getElem? (i := 965) (by decide +kernel), by decide +kernel⟩⟩
theorem fX10_84 : Fx RX10 84 9 29 := ⟨_, rfl, by decide, Or.inl ⟨List.mem_of_getElem? (i := 966) (by decide +kernel), by decide +kernel⟩⟩
theorem fX10_87 : Fx RX10 87 9 30 := ⟨_, rfl, by decide, Or.inl ⟨List.mem_of_getElem? (i := 967) (by decide +kernel), by decide +kernel⟩⟩
theorem fX10_90 : Fx RX10 90 9 31 := ⟨_, rfl, by decide, Or.inl ⟨List.mem_of_getElem? (i := 968) (by decide +kernel), by decide +kernel⟩⟩
theorem fX10_93 : Fx RX10 93 9 32 := ⟨_, rfl, by decide, Or.inl ⟨List.mem_of_getElem? (i := 969) (by decide +kernel), by decide +kernel⟩⟩
theorem fX10_96 : Fx RX10 96 9 7 := ⟨_, rfl, by decide, Or.inl ⟨List.mem_of_getElem? (i := 944) (by decide +kernel), by decide +kernel⟩⟩
theorem fX10_150 : Fx RX10 150 9 13 := ⟨_, rfl, by decide, Or.inl ⟨List.mem_of_getElem? (i := 950) (by decide +kernel), by decide +kernel⟩⟩
theorem fX10_153 : Fx RX10 153 9 12 := ⟨_, rfl, by decide, Or.inl ⟨List.mem_of_getElem? (i := 949) (by decide +kernel), by decide +kernel⟩⟩
theorem fX10_264 : Fx RX10 264 9 20 := ⟨_, rfl, by decide, Or.inl ⟨List.mem_of_getElem? (i := 957) (by decide +kernel), by decide +kernel⟩⟩
theorem fX10_296 : Fx RX10 296 9 27 := ⟨_, rfl, by decide, Or.inl ⟨List.mem_of_getElem? (i := 964) (by decide +kernel), by decide +kernel⟩⟩
theorem fX10_305 : Fx RX10 305 9 33 := ⟨_, rfl, by decide, Or.inl ⟨List.mem_of_getElem? (i := 970) (by decide +kernel), by decide +kernel⟩⟩
theorem mJ9_abs_0f7a4 : My yJ9_abs_0f7a4 cJ9_abs_0f7a4 1 (some .int) 1 := ⟨wt_at 474 (by decide +kernel) (by decide +kernel), wt_at 101 (by decide +kernel) (by decide +kernel), by decide, by decide, by decide +kernel⟩
theorem sJ9_abs_0f7a4 : Cond.static yJ9_abs_0f7a4 ∈ WT := wt_at 473 (by decide +kernel) (by decide +kernel)
theorem mJ9_floorMod_f86c9 : My yJ9_floorMod_f86c9 cJ9_floorMod_f86c9 6 (some .long) 2 := ⟨wt_at 921 (by decide +kernel) (by decide +kernel), wt_at 101 (by decide +kernel) (by decide +kernel), by decide, by decide, by decide +kernel⟩
theorem sJ9_floorMod_f86c9 : Cond.static yJ9_floorMod_f86c9 ∈ WT := wt_at 920 (by decide +kernel) (by decide +kernel)
theorem mJ9_max_7cf53 : My yJ9_max_7cf53 cJ9_max_7cf53 2 (some .int) 2 := ⟨wt_at 484 (by decide +kernel) (by decide +kernel), wt_at 101 (by decide +kernel) (by decide +kernel), by decide, by decide, by decide +kernel⟩
theorem sJ9_max_7cf53 : Cond.static yJ9_max_7cf53 ∈ WT := wt_at 483 (by decide +kernel) (by decide +kernel)
theorem mJ9_max_f86c9 : My yJ9_max_f86c9 cJ9_max_f86c9 4 (some .long) 2 := ⟨wt_at 918 (by decide +kernel) (by decide +kernel), wt_at 101 (by decide +kernel) (by decide +kernel), by decide, by decide, by decide +kernel⟩
theorem sJ9_max_f86c9 : Cond.static yJ9_max_f86c9 ∈ WT := wt_at 917 (by decide +kernel) (by decide +kernel)
theorem mJ9_min_7cf53 : My yJ9_min_7cf53 cJ9_min_7cf53 2 (some .int) 2 := ⟨wt_at 617 (by decide +kernel) (by decide +kernel), wt_at 101 (by decide +kernel) (by decide +kernel), by decide, by decide, by decide +kernel⟩
theorem sJ9_min_7cf53 : Cond.static yJ9_min_7cf53 ∈ WT := wt_at 616 (by decide +kernel) (by decide +kernel)
theorem mX0_commonest : My yX0_commonest cX0_commonest 7 (some .int) 3 := ⟨wt_at 543 (by decide +kernel) (by decide +kernel), wt_at 95 (by decide +kernel) (by decide +kernel), by decide, by decide, by decide +kernel⟩
theorem pnX0_commonest : plainName yX0_commonest.cls = true := by decide +kernel
theorem iX0_commonest : Cond.instanceMethod yX0_commonest ∈ WT := wt_at 542 (by decide +kernel) (by decide +kernel)
theorem eX0_commonest : Cond.selects yX0_commonest.cls yX0_commonest yX0_commonest ∈ WT := wt_at 17 (by decide +kernel) (by decide +kernel)
theorem mX0_howMany : My yX0_howMany cX0_howMany 7 (some .int) 4 := ⟨wt_at 531 (by decide +kernel) (by decide +kernel), wt_at 95 (by decide +kernel) (by decide +kernel), by decide, by decide, by decide +kernel⟩
theorem pnX0_howMany : plainName yX0_howMany.cls = true := by decide +kernel
theorem iX0_howMany : Cond.instanceMethod yX0_howMany ∈ WT := wt_at 530 (by decide +kernel) (by decide +kernel)
theorem eX0_howMany : Cond.selects yX0_howMany.cls yX0_howMany yX0_howMany ∈ WT := wt_at 15 (by decide +kernel) (by decide +kernel)
theorem mX0_init : My yX0_init cX0_init 1 none 0 := ⟨wt_at 239 (by decide +kernel) (by decide +kernel), wt_at 95 (by decide +kernel) (by decide +kernel), by decide, by decide, by decide +kernel⟩
theorem pnX0_init : plainName yX0_init.cls = true := by decide +kernel
theorem iX0_init : Cond.instanceMethod yX0_init ∈ WT := wt_at 238 (by decide +kernel) (by decide +kernel)
theorem mX0_sumAbove : My yX0_sumAbove cX0_sumAbove 7 (some .int) 4 := ⟨wt_at 557 (by decide +kernel) (by decide +kernel), wt_at 95 (by decide +kernel) (by decide +kernel), by decide, by decide, by decide +kernel⟩
theorem pnX0_sumAbove : plainName yX0_sumAbove.cls = true := by decide +kernel
theorem iX0_sumAbove : Cond.instanceMethod yX0_sumAbove ∈ WT := wt_at 556 (by decide +kernel) (by decide +kernel)
theorem eX0_sumAbove : Cond.selects yX0_sumAbove.cls yX0_sumAbove yX0_sumAbove ∈ WT := wt_at 18 (by decide +kernel) (by decide +kernel)
theorem mX10_about : My yX10_about cX10_about 3 (some .int) 2 := ⟨wt_at 1078 (by decide +kernel) (by decide +kernel), wt_at 100 (by decide +kernel) (by decide +kernel), by decide, by decide, by decide +kernel⟩
theorem pnX10_about : plainName yX10_about.cls = true := by decide +kernel
theorem iX10_about : Cond.instanceMethod yX10_about ∈ WT := wt_at 1076 (by decide +kernel) (by decide +kernel)
theorem eX10_about : Cond.selects yX10_about.cls yX10_about yX10_about ∈ WT := wt_at 1077 (by decide +kernel) (by decide +kernel)
theorem mX10_alike : My yX10_alike cX10_alike 12 (some .long) 4 := ⟨wt_at 1154 (by decide +kernel) (by decide +kernel), wt_at 100 (by decide +kernel) (by decide +kernel), by decide, by decide, by decide +kernel⟩
theorem pnX10_alike : plainName yX10_alike.cls = true := by decide +kernel
theorem iX10_alike : Cond.instanceMethod yX10_alike ∈ WT := wt_at 1152 (by decide +kernel) (by decide +kernel)
theorem eX10_alike : Cond.selects yX10_alike.cls yX10_alike yX10_alike ∈ WT := wt_at 1153 (by decide +kernel) (by decide +kernel)
theorem mX10_allWeights : My yX10_allWeights cX10_allWeights 6 (some .long) 2 := ⟨wt_at 1199 (by decide +kernel) (by decide +kernel), wt_at 100 (by decide +kernel) (by decide +kernel), by decide, by decide, by decide +kernel⟩
theorem pnX10_allWeights : plainName yX10_allWeights.cls = true := by decide +kernel
theorem iX10_allWeights : Cond.instanceMethod yX10_allWeights ∈ WT := wt_at 1198 (by decide +kernel) (by decide +kernel)
theorem eX10_allWeights : Cond.selects yX10_allWeights.cls yX10_allWeights yX10_allWeights ∈ WT := wt_at 75 (by decide +kernel) (by decide +kernel)
theorem mX10_areDays : My yX10_areDays cX10_areDays 3 (some .boolean) 3 := ⟨wt_at 1293 (by decide +kernel) (by decide +kernel), wt_at 100 (by decide +kernel) (by decide +kernel), by decide, by decide, by decide +kernel⟩
theorem pnX10_areDays : plainName yX10_areDays.cls = true := by decide +kernel
theorem sX10_areDays : Cond.static yX10_areDays ∈ WT := wt_at 1292 (by decide +kernel) (by decide +kernel)
theorem mX10_best : My yX10_best cX10_best 12 (some .int) 5 := ⟨wt_at 1311 (by decide +kernel) (by decide +kernel), wt_at 100 (by decide +kernel) (by decide +kernel), by decide, by decide, by decide +kernel⟩
theorem pnX10_best : plainName yX10_best.cls = true := by decide +kernel
theorem iX10_best : Cond.instanceMethod yX10_best ∈ WT := wt_at 1309 (by decide +kernel) (by decide +kernel)
theorem eX10_best : Cond.selects yX10_best.cls yX10_best yX10_best ∈ WT := wt_at 1310 (by decide +kernel) (by decide +kernel)
theorem mX10_blast : My yX10_blast cX10_blast 4 (some .int) 2 := ⟨wt_at 1066 (by decide +kernel) (by decide +kernel), wt_at 100 (by decide +kernel) (by decide +kernel), by decide, by decide, by decide +kernel⟩
theorem pnX10_blast : plainName yX10_blast.cls = true := by decide +kernel
theorem iX10_blast : Cond.instanceMethod yX10_blast ∈ WT := wt_at 1064 (by decide +kernel) (by decide +kernel)
theorem eX10_blast : Cond.selects yX10_blast.cls yX10_blast yX10_blast ∈ WT := wt_at 1065 (by decide +kernel) (by decide +kernel)
theorem mX10_choose : My yX10_choose cX10_choose 5 (some .long) 2 := ⟨wt_at 1157 (by decide +kernel) (by decide +kernel), wt_at 100 (by decide +kernel) (by decide +kernel), by decide, by decide, by decide +kernel⟩
theorem pnX10_choose : plainName yX10_choose.cls = true := by decide +kernel
theorem sX10_choose : Cond.static yX10_choose ∈ WT := wt_at 1156 (by decide +kernel) (by decide +kernel)
theorem mX10_countOf : My yX10_countOf cX10_countOf 6 (some .int) 3 := ⟨wt_at 1129 (by decide +kernel) (by decide +kernel), wt_at 100 (by decide +kernel) (by decide +kernel), by decide, by decide, by decide +kernel⟩
theorem pnX10_countOf : plainName yX10_countOf.cls = true := by decide +kernel
theorem iX10_countOf : Cond.instanceMethod yX10_countOf ∈ WT := wt_at 1128 (by decide +kernel) (by decide +kernel)
theorem eX10_countOf : Cond.selects yX10_countOf.cls yX10_countOf yX10_countOf ∈ WT := wt_at 69 (by decide +kernel) (by decide +kernel)
theorem mX10_curve : My yX10_curve cX10_curve 4 (some .int) 1 := ⟨wt_at 1344 (by decide +kernel) (by decide +kernel), wt_at 100 (by decide +kernel) (by decide +kernel), by decide, by decide, by decide +kernel⟩
theorem pnX10_curve : plainName yX10_curve.cls = true := by decide +kernel
theorem iX10_curve : Cond.instanceMethod yX10_curve ∈ WT := wt_at 1342 (by decide +kernel) (by decide +kernel)
theorem eX10_curve : Cond.selects yX10_curve.cls yX10_curve yX10_curve ∈ WT := wt_at 1343 (by decide +kernel) (by decide +kernel)
theorem mX10_damage : My yX10_damage cX10_damage 5 (some .int) 3 := ⟨wt_at 1320 (by decide +kernel) (by decide +kernel), wt_at 100 (by decide +kernel) (by decide +kernel), by decide, by decide, by decide +kernel⟩
theorem pnX10_damage : plainName yX10_damage.cls = true := by decide +kernel
theorem iX10_damage : Cond.instanceMethod yX10_damage ∈ WT := wt_at 1318 (by decide +kernel) (by decide +kernel)
theorem eX10_damage : Cond.selects yX10_damage.cls yX10_damage yX10_damage ∈ WT := wt_at 1319 (by decide +kernel) (by decide +kernel)
theorem mX10_dayStep : My yX10_dayStep cX10_dayStep 3 (some .int) 1 := ⟨wt_at 1195 (by decide +kernel) (by decide +kernel), wt_at 100 (by decide +kernel) (by decide +kernel), by decide, by decide, by decide +kernel⟩
theorem pnX10_dayStep : plainName yX10_dayStep.cls = true := by decide +kernel
theorem sX10_dayStep : Cond.static yX10_dayStep ∈ WT := wt_at 1194 (by decide +kernel) (by decide +kernel)
theorem mX10_depthOf : My yX10_depthOf cX10_depthOf 5 (some .int) 2 := ⟨wt_at 1224 (by decide +kernel) (by decide +kernel), wt_at 100 (by decide +kernel) (by decide +kernel), by decide, by decide, by decide +kernel⟩
theorem pnX10_depthOf : plainName yX10_depthOf.cls = true := by decide +kernel
theorem iX10_depthOf : Cond.instanceMethod yX10_depthOf ∈ WT := wt_at 1223 (by decide +kernel) (by decide +kernel)
theorem eX10_depthOf : Cond.selects yX10_depthOf.cls yX10_depthOf yX10_depthOf ∈ WT := wt_at 79 (by decide +kernel) (by decide +kernel)
theorem mX10_draw : My yX10_draw cX10_draw 7 (some .int) 3 := ⟨wt_at 1232 (by decide +kernel) (by decide +kernel), wt_at 100 (by decide +kernel) (by decide +kernel), by decide, by decide, by decide +kernel⟩
theorem pnX10_draw : plainName yX10_draw.cls = true := by decide +kernel
theorem iX10_draw : Cond.instanceMethod yX10_draw ∈ WT := wt_at 1230 (by decide +kernel) (by decide +kernel)
theorem eX10_draw : Cond.selects yX10_draw.cls yX10_draw yX10_draw ∈ WT := wt_at 1231 (by decide +kernel) (by decide +kernel)
theorem mX10_drawnFor : My yX10_drawnFor cX10_drawnFor 9 (some .int) 3 := ⟨wt_at 1239 (by decide +kernel) (by decide +kernel), wt_at 100 (by decide +kernel) (by decide +kernel), by decide, by decide, by decide +kernel⟩
theorem pnX10_drawnFor : plainName yX10_drawnFor.cls = true := by decide +kernel
theorem iX10_drawnFor : Cond.instanceMethod yX10_drawnFor ∈ WT := wt_at 1238 (by decide +kernel) (by decide +kernel)
theorem eX10_drawnFor : Cond.selects yX10_drawnFor.cls yX10_drawnFor yX10_drawnFor ∈ WT := wt_at 80 (by decide +kernel) (by decide +kernel)
theorem mX10_families : My yX10_families cX10_families 5 (some .int) 2 := ⟨wt_at 1228 (by decide +kernel) (by decide +kernel), wt_at 100 (by decide +kernel) (by decide +kernel), by decide, by decide, by decide +kernel⟩
theorem pnX10_families : plainName yX10_families.cls = true := by decide +kernel
theorem iX10_families : Cond.instanceMethod yX10_families ∈ WT := wt_at 1226 (by decide +kernel) (by decide +kernel)
theorem eX10_families : Cond.selects yX10_families.cls yX10_families yX10_families ∈ WT := wt_at 1227 (by decide +kernel) (by decide +kernel)
theorem mX10_family : My yX10_family cX10_family 9 (some .int) 3 := ⟨wt_at 1215 (by decide +kernel) (by decide +kernel), wt_at 100 (by decide +kernel) (by decide +kernel), by decide, by decide, by decide +kernel⟩
theorem pnX10_family : plainName yX10_family.cls = true := by decide +kernel
theorem iX10_family : Cond.instanceMethod yX10_family ∈ WT := wt_at 1213 (by decide +kernel) (by decide +kernel)
theorem eX10_family : Cond.selects yX10_family.cls yX10_family yX10_family ∈ WT := wt_at 1214 (by decide +kernel) (by decide +kernel)
theorem mX10_far : My yX10_far cX10_far 6 (some .int) 4 := ⟨wt_at 1117 (by decide +kernel) (by decide +kernel), wt_at 100 (by decide +kernel) (by decide +kernel), by decide, by decide, by decide +kernel⟩
theorem pnX10_far : plainName yX10_far.cls = true := by decide +kernel
theorem sX10_far : Cond.static yX10_far ∈ WT := wt_at 1116 (by decide +kernel) (by decide +kernel)
theorem mX10_fault : My yX10_fault cX10_fault 5 (some .int) 0 := ⟨wt_at 1257 (by decide +kernel) (by decide +kernel), wt_at 100 (by decide +kernel) (by decide +kernel), by decide, by decide, by decide +kernel⟩
theorem pnX10_fault : plainName yX10_fault.cls = true := by decide +kernel
theorem iX10_fault : Cond.instanceMethod yX10_fault ∈ WT := wt_at 1255 (by decide +kernel) (by decide +kernel)
theorem eX10_fault : Cond.selects yX10_fault.cls yX10_fault yX10_fault ∈ WT := wt_at 1256 (by decide +kernel) (by decide +kernel)
theorem mX10_few : My yX10_few cX10_few 9 (some .long) 5 := ⟨wt_at 1161 (by decide +kernel) (by decide +kernel), wt_at 100 (by decide +kernel) (by decide +kernel), by decide, by decide, by decide +kernel⟩
theorem pnX10_few : plainName yX10_few.cls = true := by decide +kernel
theorem iX10_few : Cond.instanceMethod yX10_few ∈ WT := wt_at 1159 (by decide +kernel) (by decide +kernel)
theorem eX10_few : Cond.selects yX10_few.cls yX10_few yX10_few ∈ WT := wt_at 1160 (by decide +kernel) (by decide +kernel)
theorem mX10_findJoins : My yX10_findJoins cX10_findJoins 6 none 0 := ⟨wt_at 1103 (by decide +kernel) (by decide +kernel), wt_at 100 (by decide +kernel) (by decide +kernel), by decide, by decide, by decide +kernel⟩
theorem pnX10_findJoins : plainName yX10_findJoins.cls = true := by decide +kernel
theorem iX10_findJoins : Cond.instanceMethod yX10_findJoins ∈ WT := wt_at 1102 (by decide +kernel) (by decide +kernel)
theorem eX10_findJoins : Cond.selects yX10_findJoins.cls yX10_findJoins yX10_findJoins ∈ WT := wt_at 66 (by decide +kernel) (by decide +kernel)
theorem mX10_firstOf : My yX10_firstOf cX10_firstOf 5 (some .int) 2 := ⟨wt_at 1220 (by decide +kernel) (by decide +kernel), wt_at 100 (by decide +kernel) (by decide +kernel), by decide, by decide, by decide +kernel⟩
theorem pnX10_firstOf : plainName yX10_firstOf.cls = true := by decide +kernel
theorem iX10_firstOf : Cond.instanceMethod yX10_firstOf ∈ WT := wt_at 1219 (by decide +kernel) (by decide +kernel)
theorem eX10_firstOf : Cond.selects yX10_firstOf.cls yX10_firstOf yX10_firstOf ∈ WT := wt_at 78 (by decide +kernel) (by decide +kernel)
theorem mX10_forecast : My yX10_forecast cX10_forecast 2 (some .int) 0 := ⟨wt_at 1269 (by decide +kernel) (by decide +kernel), wt_at 100 (by decide +kernel) (by decide +kernel), by decide, by decide, by decide +kernel⟩
theorem pnX10_forecast : plainName yX10_forecast.cls = true := by decide +kernel
theorem iX10_forecast : Cond.instanceMethod yX10_forecast ∈ WT := wt_at 1267 (by decide +kernel) (by decide +kernel)
theorem eX10_forecast : Cond.selects yX10_forecast.cls yX10_forecast yX10_forecast ∈ WT := wt_at 1268 (by decide +kernel) (by decide +kernel)
theorem mX10_hasQuake : My yX10_hasQuake cX10_hasQuake 5 (some .boolean) 2 := ⟨wt_at 1301 (by decide +kernel) (by decide +kernel), wt_at 100 (by decide +kernel) (by decide +kernel), by decide, by decide, by decide +kernel⟩
theorem pnX10_hasQuake : plainName yX10_hasQuake.cls = true := by decide +kernel
theorem iX10_hasQuake : Cond.instanceMethod yX10_hasQuake ∈ WT := wt_at 1300 (by decide +kernel) (by decide +kernel)
theorem eX10_hasQuake : Cond.selects yX10_hasQuake.cls yX10_hasQuake yX10_hasQuake ∈ WT := wt_at 85 (by decide +kernel) (by decide +kernel)
theorem mX10_house : My yX10_house cX10_house 6 (some .int) 5 := ⟨wt_at 1315 (by decide +kernel) (by decide +kernel), wt_at 100 (by decide +kernel) (by decide +kernel), by decide, by decide, by decide +kernel⟩
theorem pnX10_house : plainName yX10_house.cls = true := by decide +kernel
theorem iX10_house : Cond.instanceMethod yX10_house ∈ WT := wt_at 1313 (by decide +kernel) (by decide +kernel)
theorem eX10_house : Cond.selects yX10_house.cls yX10_house yX10_house ∈ WT := wt_at 1314 (by decide +kernel) (by decide +kernel)
theorem mX10_in : My yX10_in cX10_in 6 (some .boolean) 3 := ⟨wt_at 1050 (by decide +kernel) (by decide +kernel), wt_at 100 (by decide +kernel) (by decide +kernel), by decide, by decide, by decide +kernel⟩
theorem pnX10_in : plainName yX10_in.cls = true := by decide +kernel
theorem sX10_in : Cond.static yX10_in ∈ WT := wt_at 1049 (by decide +kernel) (by decide +kernel)
theorem mX10_init : My yX10_init cX10_init 1 none 0 := ⟨wt_at 934 (by decide +kernel) (by decide +kernel), wt_at 100 (by decide +kernel) (by decide +kernel), by decide, by decide, by decide +kernel⟩
theorem pnX10_init : plainName yX10_init.cls = true := by decide +kernel
theorem iX10_init : Cond.instanceMethod yX10_init ∈ WT := wt_at 933 (by decide +kernel) (by decide +kernel)
theorem mX10_isAhead : My yX10_isAhead cX10_isAhead 3 (some .boolean) 2 := ⟨wt_at 1184 (by decide +kernel) (by decide +kernel), wt_at 100 (by decide +kernel) (by decide +kernel), by decide, by decide, by decide +kernel⟩
theorem pnX10_isAhead : plainName yX10_isAhead.cls = true := by decide +kernel
theorem iX10_isAhead : Cond.instanceMethod yX10_isAhead ∈ WT := wt_at 1183 (by decide +kernel) (by decide +kernel)
theorem eX10_isAhead : Cond.selects yX10_isAhead.cls yX10_isAhead yX10_isAhead ∈ WT := wt_at 72 (by decide +kernel) (by decide +kernel)
theorem mX10_isCell : My yX10_isCell cX10_isCell 2 (some .boolean) 2 := ⟨wt_at 1053 (by decide +kernel) (by decide +kernel), wt_at 100 (by decide +kernel) (by decide +kernel), by decide, by decide, by decide +kernel⟩
theorem pnX10_isCell : plainName yX10_isCell.cls = true := by decide +kernel
theorem sX10_isCell : Cond.static yX10_isCell ∈ WT := wt_at 1052 (by decide +kernel) (by decide +kernel)
theorem mX10_isCounted : My yX10_isCounted cX10_isCounted 4 (some .boolean) 3 := ⟨wt_at 1133 (by decide +kernel) (by decide +kernel), wt_at 100 (by decide +kernel) (by decide +kernel), by decide, by decide, by decide +kernel⟩
theorem pnX10_isCounted : plainName yX10_isCounted.cls = true := by decide +kernel
theorem iX10_isCounted : Cond.instanceMethod yX10_isCounted ∈ WT := wt_at 1132 (by decide +kernel) (by decide +kernel)
theorem eX10_isCounted : Cond.selects yX10_isCounted.cls yX10_isCounted yX10_isCounted ∈ WT := wt_at 70 (by decide +kernel) (by decide +kernel)
theorem mX10_isDay : My yX10_isDay cX10_isDay 1 (some .boolean) 1 := ⟨wt_at 1057 (by decide +kernel) (by decide +kernel), wt_at 100 (by decide +kernel) (by decide +kernel), by decide, by decide, by decide +kernel⟩
theorem pnX10_isDay : plainName yX10_isDay.cls = true := by decide +kernel
theorem sX10_isDay : Cond.static yX10_isDay ∈ WT := wt_at 1056 (by decide +kernel) (by decide +kernel)
theorem mX10_isDigit : My yX10_isDigit cX10_isDigit 1 (some .boolean) 1 := ⟨wt_at 1260 (by decide +kernel) (by decide +kernel), wt_at 100 (by decide +kernel) (by decide +kernel), by decide, by decide, by decide +kernel⟩
theorem pnX10_isDigit : plainName yX10_isDigit.cls = true := by decide +kernel
theorem sX10_isDigit : Cond.static yX10_isDigit ∈ WT := wt_at 1259 (by decide +kernel) (by decide +kernel)
theorem mX10_isForecast : My yX10_isForecast cX10_isForecast 2 (some .boolean) 1 := ⟨wt_at 1278 (by decide +kernel) (by decide +kernel), wt_at 100 (by decide +kernel) (by decide +kernel), by decide, by decide, by decide +kernel⟩
theorem pnX10_isForecast : plainName yX10_isForecast.cls = true := by decide +kernel
theorem iX10_isForecast : Cond.instanceMethod yX10_isForecast ∈ WT := wt_at 1277 (by decide +kernel) (by decide +kernel)
theorem eX10_isForecast : Cond.selects yX10_isForecast.cls yX10_isForecast yX10_isForecast ∈ WT := wt_at 81 (by decide +kernel) (by decide +kernel)
theorem mX10_isGreat : My yX10_isGreat cX10_isGreat 1 (some .boolean) 1 := ⟨wt_at 1061 (by decide +kernel) (by decide +kernel), wt_at 100 (by decide +kernel) (by decide +kernel), by decide, by decide, by decide +kernel⟩
theorem pnX10_isGreat : plainName yX10_isGreat.cls = true := by decide +kernel
theorem sX10_isGreat : Cond.static yX10_isGreat ∈ WT := wt_at 1060 (by decide +kernel) (by decide +kernel)
theorem mX10_isList : My yX10_isList cX10_isList 1 (some .boolean) 1 := ⟨wt_at 1046 (by decide +kernel) (by decide +kernel), wt_at 100 (by decide +kernel) (by decide +kernel), by decide, by decide, by decide +kernel⟩
theorem pnX10_isList : plainName yX10_isList.cls = true := by decide +kernel
theorem sX10_isList : Cond.static yX10_isList ∈ WT := wt_at 1045 (by decide +kernel) (by decide +kernel)
theorem mX10_isPart : My yX10_isPart cX10_isPart 1 (some .boolean) 1 := ⟨wt_at 1145 (by decide +kernel) (by decide +kernel), wt_at 100 (by decide +kernel) (by decide +kernel), by decide, by decide, by decide +kernel⟩
theorem pnX10_isPart : plainName yX10_isPart.cls = true := by decide +kernel
theorem sX10_isPart : Cond.static yX10_isPart ∈ WT := wt_at 1144 (by decide +kernel) (by decide +kernel)
theorem mX10_isQuake : My yX10_isQuake cX10_isQuake 2 (some .boolean) 1 := ⟨wt_at 1070 (by decide +kernel) (by decide +kernel), wt_at 100 (by decide +kernel) (by decide +kernel), by decide, by decide, by decide +kernel⟩
theorem pnX10_isQuake : plainName yX10_isQuake.cls = true := by decide +kernel
theorem iX10_isQuake : Cond.instanceMethod yX10_isQuake ∈ WT := wt_at 1069 (by decide +kernel) (by decide +kernel)
theorem eX10_isQuake : Cond.selects yX10_isQuake.cls yX10_isQuake yX10_isQuake ∈ WT := wt_at 63 (by decide +kernel) (by decide +kernel)
theorem mX10_join : My yX10_join cX10_join 11 (some .int) 3 := ⟨wt_at 1095 (by decide +kernel) (by decide +kernel), wt_at 100 (by decide +kernel) (by decide +kernel), by decide, by decide, by decide +kernel⟩
theorem pnX10_join : plainName yX10_join.cls = true := by decide +kernel
theorem iX10_join : Cond.instanceMethod yX10_join ∈ WT := wt_at 1093 (by decide +kernel) (by decide +kernel)
theorem eX10_join : Cond.selects yX10_join.cls yX10_join yX10_join ∈ WT := wt_at 1094 (by decide +kernel) (by decide +kernel)
theorem mX10_joinBy : My yX10_joinBy cX10_joinBy 5 (some .int) 3 := ⟨wt_at 1107 (by decide +kernel) (by decide +kernel), wt_at 100 (by decide +kernel) (by decide +kernel), by decide, by decide, by decide +kernel⟩
theorem pnX10_joinBy : plainName yX10_joinBy.cls = true := by decide +kernel
theorem iX10_joinBy : Cond.instanceMethod yX10_joinBy ∈ WT := wt_at 1106 (by decide +kernel) (by decide +kernel)
theorem eX10_joinBy : Cond.selects yX10_joinBy.cls yX10_joinBy yX10_joinBy ∈ WT := wt_at 67 (by decide +kernel) (by decide +kernel)
theorem mX10_law : My yX10_law cX10_law 5 (some .int) 4 := ⟨wt_at 1340 (by decide +kernel) (by decide +kernel), wt_at 100 (by decide +kernel) (by decide +kernel), by decide, by decide, by decide +kernel⟩
theorem pnX10_law : plainName yX10_law.cls = true := by decide +kernel
theorem iX10_law : Cond.instanceMethod yX10_law ∈ WT := wt_at 1338 (by decide +kernel) (by decide +kernel)
theorem eX10_law : Cond.selects yX10_law.cls yX10_law yX10_law ∈ WT := wt_at 1339 (by decide +kernel) (by decide +kernel)
theorem mX10_lawLoss : My yX10_lawLoss cX10_lawLoss 3 (some .int) 2 := ⟨wt_at 1348 (by decide +kernel) (by decide +kernel), wt_at 100 (by decide +kernel) (by decide +kernel), by decide, by decide, by decide +kernel⟩
theorem pnX10_lawLoss : plainName yX10_lawLoss.cls = true := by decide +kernel
theorem iX10_lawLoss : Cond.instanceMethod yX10_lawLoss ∈ WT := wt_at 1347 (by decide +kernel) (by decide +kernel)
theorem eX10_lawLoss : Cond.selects yX10_lawLoss.cls yX10_lawLoss yX10_lawLoss ∈ WT := wt_at 88 (by decide +kernel) (by decide +kernel)
theorem mX10_listed : My yX10_listed cX10_listed 5 (some .int) 2 := ⟨wt_at 1099 (by decide +kernel) (by decide +kernel), wt_at 100 (by decide +kernel) (by decide +kernel), by decide, by decide, by decide +kernel⟩
theorem pnX10_listed : plainName yX10_listed.cls = true := by decide +kernel
theorem iX10_listed : Cond.instanceMethod yX10_listed ∈ WT := wt_at 1098 (by decide +kernel) (by decide +kernel)
theorem eX10_listed : Cond.selects yX10_listed.cls yX10_listed yX10_listed ∈ WT := wt_at 65 (by decide +kernel) (by decide +kernel)
theorem mX10_loss : My yX10_loss cX10_loss 2 (some .int) 1 := ⟨wt_at 1324 (by decide +kernel) (by decide +kernel), wt_at 100 (by decide +kernel) (by decide +kernel), by decide, by decide, by decide +kernel⟩
theorem pnX10_loss : plainName yX10_loss.cls = true := by decide +kernel
theorem iX10_loss : Cond.instanceMethod yX10_loss ∈ WT := wt_at 1322 (by decide +kernel) (by decide +kernel)
theorem eX10_loss : Cond.selects yX10_loss.cls yX10_loss yX10_loss ∈ WT := wt_at 1323 (by decide +kernel) (by decide +kernel)
theorem mX10_lossBy : My yX10_lossBy cX10_lossBy 9 (some .int) 4 := ⟨wt_at 1332 (by decide +kernel) (by decide +kernel), wt_at 100 (by decide +kernel) (by decide +kernel), by decide, by decide, by decide +kernel⟩
theorem pnX10_lossBy : plainName yX10_lossBy.cls = true := by decide +kernel
theorem iX10_lossBy : Cond.instanceMethod yX10_lossBy ∈ WT := wt_at 1331 (by decide +kernel) (by decide +kernel)
theorem eX10_lossBy : Cond.selects yX10_lossBy.cls yX10_lossBy yX10_lossBy ∈ WT := wt_at 87 (by decide +kernel) (by decide +kernel)
theorem mX10_lossOf : My yX10_lossOf cX10_lossOf 2 (some .int) 1 := ⟨wt_at 1328 (by decide +kernel) (by decide +kernel), wt_at 100 (by decide +kernel) (by decide +kernel), by decide, by decide, by decide +kernel⟩
theorem pnX10_lossOf : plainName yX10_lossOf.cls = true := by decide +kernel
theorem iX10_lossOf : Cond.instanceMethod yX10_lossOf ∈ WT := wt_at 1327 (by decide +kernel) (by decide +kernel)
theorem eX10_lossOf : Cond.selects yX10_lossOf.cls yX10_lossOf yX10_lossOf ∈ WT := wt_at 86 (by decide +kernel) (by decide +kernel)
theorem mX10_lowest : My yX10_lowest cX10_lowest 11 (some .long) 3 := ⟨wt_at 1150 (by decide +kernel) (by decide +kernel), wt_at 100 (by decide +kernel) (by decide +kernel), by decide, by decide, by decide +kernel⟩
theorem pnX10_lowest : plainName yX10_lowest.cls = true := by decide +kernel
theorem sX10_lowest : Cond.static yX10_lowest ∈ WT := wt_at 1149 (by decide +kernel) (by decide +kernel)
theorem mX10_manyAhead : My yX10_manyAhead cX10_manyAhead 7 (some .int) 3 := ⟨wt_at 1286 (by decide +kernel) (by decide +kernel), wt_at 100 (by decide +kernel) (by decide +kernel), by decide, by decide, by decide +kernel⟩
theorem pnX10_manyAhead : plainName yX10_manyAhead.cls = true := by decide +kernel
theorem iX10_manyAhead : Cond.instanceMethod yX10_manyAhead ∈ WT := wt_at 1285 (by decide +kernel) (by decide +kernel)
theorem eX10_manyAhead : Cond.selects yX10_manyAhead.cls yX10_manyAhead yX10_manyAhead ∈ WT := wt_at 83 (by decide +kernel) (by decide +kernel)
theorem mX10_markOf : My yX10_markOf cX10_markOf 1 (some .int) 1 := ⟨wt_at 1265 (by decide +kernel) (by decide +kernel), wt_at 100 (by decide +kernel) (by decide +kernel), by decide, by decide, by decide +kernel⟩
theorem pnX10_markOf : plainName yX10_markOf.cls = true := by decide +kernel
theorem sX10_markOf : Cond.static yX10_markOf ∈ WT := wt_at 1264 (by decide +kernel) (by decide +kernel)
theorem mX10_mayBear : My yX10_mayBear cX10_mayBear 4 (some .boolean) 3 := ⟨wt_at 1180 (by decide +kernel) (by decide +kernel), wt_at 100 (by decide +kernel) (by decide +kernel), by decide, by decide, by decide +kernel⟩
theorem pnX10_mayBear : plainName yX10_mayBear.cls = true := by decide +kernel
theorem iX10_mayBear : Cond.instanceMethod yX10_mayBear ∈ WT := wt_at 1179 (by decide +kernel) (by decide +kernel)
theorem eX10_mayBear : Cond.selects yX10_mayBear.cls yX10_mayBear yX10_mayBear ∈ WT := wt_at 71 (by decide +kernel) (by decide +kernel)
theorem mX10_mayList : My yX10_mayList cX10_mayList 1 (some .boolean) 1 := ⟨wt_at 1124 (by decide +kernel) (by decide +kernel), wt_at 100 (by decide +kernel) (by decide +kernel), by decide, by decide, by decide +kernel⟩
theorem pnX10_mayList : plainName yX10_mayList.cls = true := by decide +kernel
theorem sX10_mayList : Cond.static yX10_mayList ∈ WT := wt_at 1123 (by decide +kernel) (by decide +kernel)
theorem mX10_mean : My yX10_mean cX10_mean 2 (some .long) 1 := ⟨wt_at 1352 (by decide +kernel) (by decide +kernel), wt_at 100 (by decide +kernel) (by decide +kernel), by decide, by decide, by decide +kernel⟩
theorem pnX10_mean : plainName yX10_mean.cls = true := by decide +kernel
theorem iX10_mean : Cond.instanceMethod yX10_mean ∈ WT := wt_at 1350 (by decide +kernel) (by decide +kernel)
theorem eX10_mean : Cond.selects yX10_mean.cls yX10_mean yX10_mean ∈ WT := wt_at 1351 (by decide +kernel) (by decide +kernel)
theorem mX10_meanOf : My yX10_meanOf cX10_meanOf 5 (some .long) 1 := ⟨wt_at 1356 (by decide +kernel) (by decide +kernel), wt_at 100 (by decide +kernel) (by decide +kernel), by decide, by decide, by decide +kernel⟩
theorem pnX10_meanOf : plainName yX10_meanOf.cls = true := by decide +kernel
theorem iX10_meanOf : Cond.instanceMethod yX10_meanOf ∈ WT := wt_at 1355 (by decide +kernel) (by decide +kernel)
theorem eX10_meanOf : Cond.selects yX10_meanOf.cls yX10_meanOf yX10_meanOf ∈ WT := wt_at 89 (by decide +kernel) (by decide +kernel)
theorem mX10_mend : My yX10_mend cX10_mend 4 (some .int) 2 := ⟨wt_at 1074 (by decide +kernel) (by decide +kernel), wt_at 100 (by decide +kernel) (by decide +kernel), by decide, by decide, by decide +kernel⟩
theorem pnX10_mend : plainName yX10_mend.cls = true := by decide +kernel
theorem iX10_mend : Cond.instanceMethod yX10_mend ∈ WT := wt_at 1072 (by decide +kernel) (by decide +kernel)
theorem eX10_mend : Cond.selects yX10_mend.cls yX10_mend yX10_mend ∈ WT := wt_at 1073 (by decide +kernel) (by decide +kernel)
theorem mX10_missOf : My yX10_missOf cX10_missOf 6 (some .int) 2 := ⟨wt_at 1111 (by decide +kernel) (by decide +kernel), wt_at 100 (by decide +kernel) (by decide +kernel), by decide, by decide, by decide +kernel⟩
theorem pnX10_missOf : plainName yX10_missOf.cls = true := by decide +kernel
theorem iX10_missOf : Cond.instanceMethod yX10_missOf ∈ WT := wt_at 1110 (by decide +kernel) (by decide +kernel)
theorem eX10_missOf : Cond.selects yX10_missOf.cls yX10_missOf yX10_missOf ∈ WT := wt_at 68 (by decide +kernel) (by decide +kernel)
theorem mX10_mixed : My yX10_mixed cX10_mixed 7 (some .long) 6 := ⟨wt_at 1306 (by decide +kernel) (by decide +kernel), wt_at 100 (by decide +kernel) (by decide +kernel), by decide, by decide, by decide +kernel⟩
theorem pnX10_mixed : plainName yX10_mixed.cls = true := by decide +kernel
theorem iX10_mixed : Cond.instanceMethod yX10_mixed ∈ WT := wt_at 1304 (by decide +kernel) (by decide +kernel)
theorem eX10_mixed : Cond.selects yX10_mixed.cls yX10_mixed yX10_mixed ∈ WT := wt_at 1305 (by decide +kernel) (by decide +kernel)
theorem mX10_mostOf : My yX10_mostOf cX10_mostOf 1 (some .int) 1 := ⟨wt_at 1090 (by decide +kernel) (by decide +kernel), wt_at 100 (by decide +kernel) (by decide +kernel), by decide, by decide, by decide +kernel⟩
theorem pnX10_mostOf : plainName yX10_mostOf.cls = true := by decide +kernel
theorem sX10_mostOf : Cond.static yX10_mostOf ∈ WT := wt_at 1089 (by decide +kernel) (by decide +kernel)
theorem mX10_mother : My yX10_mother cX10_mother 4 (some .int) 2 := ⟨wt_at 1203 (by decide +kernel) (by decide +kernel), wt_at 100 (by decide +kernel) (by decide +kernel), by decide, by decide, by decide +kernel⟩
theorem pnX10_mother : plainName yX10_mother.cls = true := by decide +kernel
theorem iX10_mother : Cond.instanceMethod yX10_mother ∈ WT := wt_at 1201 (by decide +kernel) (by decide +kernel)
theorem eX10_mother : Cond.selects yX10_mother.cls yX10_mother yX10_mother ∈ WT := wt_at 1202 (by decide +kernel) (by decide +kernel)
theorem mX10_motherOf : My yX10_motherOf cX10_motherOf 7 (some .int) 2 := ⟨wt_at 1211 (by decide +kernel) (by decide +kernel), wt_at 100 (by decide +kernel) (by decide +kernel), by decide, by decide, by decide +kernel⟩
theorem pnX10_motherOf : plainName yX10_motherOf.cls = true := by decide +kernel
theorem iX10_motherOf : Cond.instanceMethod yX10_motherOf ∈ WT := wt_at 1210 (by decide +kernel) (by decide +kernel)
theorem eX10_motherOf : Cond.selects yX10_motherOf.cls yX10_motherOf yX10_motherOf ∈ WT := wt_at 77 (by decide +kernel) (by decide +kernel)
theorem mX10_often : My yX10_often cX10_often 4 (some .int) 3 := ⟨wt_at 1121 (by decide +kernel) (by decide +kernel), wt_at 100 (by decide +kernel) (by decide +kernel), by decide, by decide, by decide +kernel⟩
theorem pnX10_often : plainName yX10_often.cls = true := by decide +kernel
theorem iX10_often : Cond.instanceMethod yX10_often ∈ WT := wt_at 1119 (by decide +kernel) (by decide +kernel)
theorem eX10_often : Cond.selects yX10_often.cls yX10_often yX10_often ∈ WT := wt_at 1120 (by decide +kernel) (by decide +kernel)
theorem mX10_placeOf : My yX10_placeOf cX10_placeOf 3 (some .int) 1 := ⟨wt_at 1082 (by decide +kernel) (by decide +kernel), wt_at 100 (by decide +kernel) (by decide +kernel), by decide, by decide, by decide +kernel⟩
theorem pnX10_placeOf : plainName yX10_placeOf.cls = true := by decide +kernel
theorem iX10_placeOf : Cond.instanceMethod yX10_placeOf ∈ WT := wt_at 1081 (by decide +kernel) (by decide +kernel)
theorem eX10_placeOf : Cond.selects yX10_placeOf.cls yX10_placeOf yX10_placeOf ∈ WT := wt_at 64 (by decide +kernel) (by decide +kernel)
theorem mX10_power : My yX10_power cX10_power 6 (some .long) 2 := ⟨wt_at 1166 (by decide +kernel) (by decide +kernel), wt_at 100 (by decide +kernel) (by decide +kernel), by decide, by decide, by decide +kernel⟩
theorem pnX10_power : plainName yX10_power.cls = true := by decide +kernel
theorem sX10_power : Cond.static yX10_power ∈ WT := wt_at 1165 (by decide +kernel) (by decide +kernel)
theorem mX10_priceOf : My yX10_priceOf cX10_priceOf 4 (some .int) 1 := ⟨wt_at 1365 (by decide +kernel) (by decide +kernel), wt_at 100 (by decide +kernel) (by decide +kernel), by decide, by decide, by decide +kernel⟩
theorem pnX10_priceOf : plainName yX10_priceOf.cls = true := by decide +kernel
theorem iX10_priceOf : Cond.instanceMethod yX10_priceOf ∈ WT := wt_at 1364 (by decide +kernel) (by decide +kernel)
theorem eX10_priceOf : Cond.selects yX10_priceOf.cls yX10_priceOf yX10_priceOf ∈ WT := wt_at 90 (by decide +kernel) (by decide +kernel)
theorem mX10_quake : My yX10_quake cX10_quake 8 (some .int) 6 := ⟨wt_at 1043 (by decide +kernel) (by decide +kernel), wt_at 100 (by decide +kernel) (by decide +kernel), by decide, by decide, by decide +kernel⟩
theorem pnX10_quake : plainName yX10_quake.cls = true := by decide +kernel
theorem iX10_quake : Cond.instanceMethod yX10_quake ∈ WT := wt_at 1041 (by decide +kernel) (by decide +kernel)
theorem eX10_quake : Cond.selects yX10_quake.cls yX10_quake yX10_quake ∈ WT := wt_at 1042 (by decide +kernel) (by decide +kernel)
theorem mX10_rate : My yX10_rate cX10_rate 7 (some .int) 4 := ⟨wt_at 1243 (by decide +kernel) (by decide +kernel), wt_at 100 (by decide +kernel) (by decide +kernel), by decide, by decide, by decide +kernel⟩
theorem pnX10_rate : plainName yX10_rate.cls = true := by decide +kernel
theorem iX10_rate : Cond.instanceMethod yX10_rate ∈ WT := wt_at 1241 (by decide +kernel) (by decide +kernel)
theorem eX10_rate : Cond.selects yX10_rate.cls yX10_rate yX10_rate ∈ WT := wt_at 1242 (by decide +kernel) (by decide +kernel)
theorem mX10_say : My yX10_say cX10_say 2 (some .int) 1 := ⟨wt_at 1247 (by decide +kernel) (by decide +kernel), wt_at 100 (by decide +kernel) (by decide +kernel), by decide, by decide, by decide +kernel⟩
theorem pnX10_say : plainName yX10_say.cls = true := by decide +kernel
theorem iX10_say : Cond.instanceMethod yX10_say ∈ WT := wt_at 1245 (by decide +kernel) (by decide +kernel)
theorem eX10_say : Cond.selects yX10_say.cls yX10_say yX10_say ∈ WT := wt_at 1246 (by decide +kernel) (by decide +kernel)
theorem mX10_score : My yX10_score cX10_score 5 (some .long) 4 := ⟨wt_at 1290 (by decide +kernel) (by decide +kernel), wt_at 100 (by decide +kernel) (by decide +kernel), by decide, by decide, by decide +kernel⟩
theorem pnX10_score : plainName yX10_score.cls = true := by decide +kernel
theorem iX10_score : Cond.instanceMethod yX10_score ∈ WT := wt_at 1288 (by decide +kernel) (by decide +kernel)
theorem eX10_score : Cond.selects yX10_score.cls yX10_score yX10_score ∈ WT := wt_at 1289 (by decide +kernel) (by decide +kernel)
theorem mX10_scoreOf : My yX10_scoreOf cX10_scoreOf 14 (some .long) 6 := ⟨wt_at 1297 (by decide +kernel) (by decide +kernel), wt_at 100 (by decide +kernel) (by decide +kernel), by decide, by decide, by decide +kernel⟩
theorem pnX10_scoreOf : plainName yX10_scoreOf.cls = true := by decide +kernel
theorem iX10_scoreOf : Cond.instanceMethod yX10_scoreOf ∈ WT := wt_at 1296 (by decide +kernel) (by decide +kernel)
theorem eX10_scoreOf : Cond.selects yX10_scoreOf.cls yX10_scoreOf yX10_scoreOf ∈ WT := wt_at 84 (by decide +kernel) (by decide +kernel)
theorem mX10_set : My yX10_set cX10_set 4 (some .int) 2 := ⟨wt_at 1086 (by decide +kernel) (by decide +kernel), wt_at 100 (by decide +kernel) (by decide +kernel), by decide, by decide, by decide +kernel⟩
theorem pnX10_set : plainName yX10_set.cls = true := by decide +kernel
theorem iX10_set : Cond.instanceMethod yX10_set ∈ WT := wt_at 1084 (by decide +kernel) (by decide +kernel)
theorem eX10_set : Cond.selects yX10_set.cls yX10_set yX10_set ∈ WT := wt_at 1085 (by decide +kernel) (by decide +kernel)
theorem mX10_share : My yX10_share cX10_share 7 (some .long) 4 := ⟨wt_at 1176 (by decide +kernel) (by decide +kernel), wt_at 100 (by decide +kernel) (by decide +kernel), by decide, by decide, by decide +kernel⟩
theorem pnX10_share : plainName yX10_share.cls = true := by decide +kernel
theorem iX10_share : Cond.instanceMethod yX10_share ∈ WT := wt_at 1174 (by decide +kernel) (by decide +kernel)
theorem eX10_share : Cond.selects yX10_share.cls yX10_share yX10_share ∈ WT := wt_at 1175 (by decide +kernel) (by decide +kernel)
theorem mX10_size : My yX10_size cX10_size 1 (some .int) 1 := ⟨wt_at 1114 (by decide +kernel) (by decide +kernel), wt_at 100 (by decide +kernel) (by decide +kernel), by decide, by decide, by decide +kernel⟩
theorem pnX10_size : plainName yX10_size.cls = true := by decide +kernel
theorem sX10_size : Cond.static yX10_size ∈ WT := wt_at 1113 (by decide +kernel) (by decide +kernel)
theorem mX10_slope : My yX10_slope cX10_slope 10 (some .long) 4 := ⟨wt_at 1141 (by decide +kernel) (by decide +kernel), wt_at 100 (by decide +kernel) (by decide +kernel), by decide, by decide, by decide +kernel⟩
theorem pnX10_slope : plainName yX10_slope.cls = true := by decide +kernel
theorem iX10_slope : Cond.instanceMethod yX10_slope ∈ WT := wt_at 1139 (by decide +kernel) (by decide +kernel)
theorem eX10_slope : Cond.selects yX10_slope.cls yX10_slope yX10_slope ∈ WT := wt_at 1140 (by decide +kernel) (by decide +kernel)
theorem mX10_step : My yX10_step cX10_step 5 (some .int) 3 := ⟨wt_at 1170 (by decide +kernel) (by decide +kernel), wt_at 100 (by decide +kernel) (by decide +kernel), by decide, by decide, by decide +kernel⟩
theorem pnX10_step : plainName yX10_step.cls = true := by decide +kernel
theorem iX10_step : Cond.instanceMethod yX10_step ∈ WT := wt_at 1168 (by decide +kernel) (by decide +kernel)
theorem eX10_step : Cond.selects yX10_step.cls yX10_step yX10_step ∈ WT := wt_at 1169 (by decide +kernel) (by decide +kernel)
theorem mX10_strengthen : My yX10_strengthen cX10_strengthen 6 (some .int) 1 := ⟨wt_at 1360 (by decide +kernel) (by decide +kernel), wt_at 100 (by decide +kernel) (by decide +kernel), by decide, by decide, by decide +kernel⟩
theorem pnX10_strengthen : plainName yX10_strengthen.cls = true := by decide +kernel
theorem iX10_strengthen : Cond.instanceMethod yX10_strengthen ∈ WT := wt_at 1358 (by decide +kernel) (by decide +kernel)
theorem eX10_strengthen : Cond.selects yX10_strengthen.cls yX10_strengthen yX10_strengthen ∈ WT := wt_at 1359 (by decide +kernel) (by decide +kernel)
theorem mX10_tells : My yX10_tells cX10_tells 3 (some .int) 2 := ⟨wt_at 1274 (by decide +kernel) (by decide +kernel), wt_at 100 (by decide +kernel) (by decide +kernel), by decide, by decide, by decide +kernel⟩
theorem pnX10_tells : plainName yX10_tells.cls = true := by decide +kernel
theorem iX10_tells : Cond.instanceMethod yX10_tells ∈ WT := wt_at 1272 (by decide +kernel) (by decide +kernel)
theorem eX10_tells : Cond.selects yX10_tells.cls yX10_tells yX10_tells ∈ WT := wt_at 1273 (by decide +kernel) (by decide +kernel)
theorem mX10_told : My yX10_told cX10_told 4 (some .int) 1 := ⟨wt_at 1369 (by decide +kernel) (by decide +kernel), wt_at 100 (by decide +kernel) (by decide +kernel), by decide, by decide, by decide +kernel⟩
theorem pnX10_told : plainName yX10_told.cls = true := by decide +kernel
theorem iX10_told : Cond.instanceMethod yX10_told ∈ WT := wt_at 1367 (by decide +kernel) (by decide +kernel)
theorem eX10_told : Cond.selects yX10_told.cls yX10_told yX10_told ∈ WT := wt_at 1368 (by decide +kernel) (by decide +kernel)
theorem mX10_toldFor : My yX10_toldFor cX10_toldFor 6 (some .int) 2 := ⟨wt_at 1282 (by decide +kernel) (by decide +kernel), wt_at 100 (by decide +kernel) (by decide +kernel), by decide, by decide, by decide +kernel⟩
theorem pnX10_toldFor : plainName yX10_toldFor.cls = true := by decide +kernel
theorem iX10_toldFor : Cond.instanceMethod yX10_toldFor ∈ WT := wt_at 1281 (by decide +kernel) (by decide +kernel)
theorem eX10_toldFor : Cond.selects yX10_toldFor.cls yX10_toldFor yX10_toldFor ∈ WT := wt_at 82 (by decide +kernel) (by decide +kernel)
theorem mX10_weigh : My yX10_weigh cX10_weigh 6 (some .int) 4 := ⟨wt_at 1192 (by decide +kernel) (by decide +kernel), wt_at 100 (by decide +kernel) (by decide +kernel), by decide, by decide, by decide +kernel⟩
theorem pnX10_weigh : plainName yX10_weigh.cls = true := by decide +kernel
theorem iX10_weigh : Cond.instanceMethod yX10_weigh ∈ WT := wt_at 1191 (by decide +kernel) (by decide +kernel)
theorem eX10_weigh : Cond.selects yX10_weigh.cls yX10_weigh yX10_weigh ∈ WT := wt_at 74 (by decide +kernel) (by decide +kernel)
theorem mX10_weightOf : My yX10_weightOf cX10_weightOf 3 (some .int) 2 := ⟨wt_at 1188 (by decide +kernel) (by decide +kernel), wt_at 100 (by decide +kernel) (by decide +kernel), by decide, by decide, by decide +kernel⟩
theorem pnX10_weightOf : plainName yX10_weightOf.cls = true := by decide +kernel
theorem iX10_weightOf : Cond.instanceMethod yX10_weightOf ∈ WT := wt_at 1187 (by decide +kernel) (by decide +kernel)
theorem eX10_weightOf : Cond.selects yX10_weightOf.cls yX10_weightOf yX10_weightOf ∈ WT := wt_at 73 (by decide +kernel) (by decide +kernel)
theorem mX10_whole : My yX10_whole cX10_whole 7 (some .int) 2 := ⟨wt_at 1137 (by decide +kernel) (by decide +kernel), wt_at 100 (by decide +kernel) (by decide +kernel), by decide, by decide, by decide +kernel⟩
theorem pnX10_whole : plainName yX10_whole.cls = true := by decide +kernel
theorem iX10_whole : Cond.instanceMethod yX10_whole ∈ WT := wt_at 1135 (by decide +kernel) (by decide +kernel)
theorem eX10_whole : Cond.selects yX10_whole.cls yX10_whole yX10_whole ∈ WT := wt_at 1136 (by decide +kernel) (by decide +kernel)
theorem mX10_whyNot : My yX10_whyNot cX10_whyNot 3 (some .int) 2 := ⟨wt_at 1207 (by decide +kernel) (by decide +kernel), wt_at 100 (by decide +kernel) (by decide +kernel), by decide, by decide, by decide +kernel⟩
theorem pnX10_whyNot : plainName yX10_whyNot.cls = true := by decide +kernel
theorem iX10_whyNot : Cond.instanceMethod yX10_whyNot ∈ WT := wt_at 1206 (by decide +kernel) (by decide +kernel)
theorem eX10_whyNot : Cond.selects yX10_whyNot.cls yX10_whyNot yX10_whyNot ∈ WT := wt_at 76 (by decide +kernel) (by decide +kernel)
theorem mX10_wipe : My yX10_wipe cX10_wipe 2 (some .int) 0 := ⟨wt_at 1253 (by decide +kernel) (by decide +kernel), wt_at 100 (by decide +kernel) (by decide +kernel), by decide, by decide, by decide +kernel⟩
theorem pnX10_wipe : plainName yX10_wipe.cls = true := by decide +kernel
theorem iX10_wipe : Cond.instanceMethod yX10_wipe ∈ WT := wt_at 1251 (by decide +kernel) (by decide +kernel)
theorem eX10_wipe : Cond.selects yX10_wipe.cls yX10_wipe yX10_wipe ∈ WT := wt_at 1252 (by decide +kernel) (by decide +kernel)
theorem mX10_worst : My yX10_worst cX10_worst 6 (some .int) 2 := ⟨wt_at 1336 (by decide +kernel) (by decide +kernel), wt_at 100 (by decide +kernel) (by decide +kernel), by decide, by decide, by decide +kernel⟩
theorem pnX10_worst : plainName yX10_worst.cls = true := by decide +kernel
theorem iX10_worst : Cond.instanceMethod yX10_worst ∈ WT := wt_at 1334 (by decide +kernel) (by decide +kernel)
theorem eX10_worst : Cond.selects yX10_worst.cls yX10_worst yX10_worst ∈ WT := wt_at 1335 (by decide +kernel) (by decide +kernel)
theorem mX1_howManyAhead : My yX1_howManyAhead cX1_howManyAhead 6 (some .int) 3 := ⟨wt_at 773 (by decide +kernel) (by decide +kernel), wt_at 103 (by decide +kernel) (by decide +kernel), by decide, by decide, by decide +kernel⟩
theorem pnX1_howManyAhead : plainName yX1_howManyAhead.cls = true := by decide +kernel
theorem iX1_howManyAhead : Cond.instanceMethod yX1_howManyAhead ∈ WT := wt_at 772 (by decide +kernel) (by decide +kernel)
theorem eX1_howManyAhead : Cond.selects yX1_howManyAhead.cls yX1_howManyAhead yX1_howManyAhead ∈ WT := wt_at 40 (by decide +kernel) (by decide +kernel)
theorem mX1_init : My yX1_init cX1_init 1 none 0 := ⟨wt_at 729 (by decide +kernel) (by decide +kernel), wt_at 103 (by decide +kernel) (by decide +kernel), by decide, by decide, by decide +kernel⟩
theorem pnX1_init : plainName yX1_init.cls = true := by decide +kernel
theorem iX1_init : Cond.instanceMethod yX1_init ∈ WT := wt_at 728 (by decide +kernel) (by decide +kernel)
theorem mX1_take : My yX1_take cX1_take 3 none 2 := ⟨wt_at 757 (by decide +kernel) (by decide +kernel), wt_at 103 (by decide +kernel) (by decide +kernel), by decide, by decide, by decide +kernel⟩
theorem pnX1_take : plainName yX1_take.cls = true := by decide +kernel
theorem iX1_take : Cond.instanceMethod yX1_take ∈ WT := wt_at 756 (by decide +kernel) (by decide +kernel)
theorem eX1_take : Cond.selects yX1_take.cls yX1_take yX1_take ∈ WT := wt_at 37 (by decide +kernel) (by decide +kernel)
theorem mX1_toldFor : My yX1_toldFor cX1_toldFor 4 (some .int) 2 := ⟨wt_at 769 (by decide +kernel) (by decide +kernel), wt_at 103 (by decide +kernel) (by decide +kernel), by decide, by decide, by decide +kernel⟩
theorem pnX1_toldFor : plainName yX1_toldFor.cls = true := by decide +kernel
theorem iX1_toldFor : Cond.instanceMethod yX1_toldFor ∈ WT := wt_at 768 (by decide +kernel) (by decide +kernel)
theorem eX1_toldFor : Cond.selects yX1_toldFor.cls yX1_toldFor yX1_toldFor ∈ WT := wt_at 39 (by decide +kernel) (by decide +kernel)
theorem mX2_bestHouses : My yX2_bestHouses cX2_bestHouses 8 (some .int) 2 := ⟨wt_at 905 (by decide +kernel) (by decide +kernel), wt_at 99 (by decide +kernel) (by decide +kernel), by decide, by decide, by decide +kernel⟩
theorem pnX2_bestHouses : plainName yX2_bestHouses.cls = true := by decide +kernel
theorem iX2_bestHouses : Cond.instanceMethod yX2_bestHouses ∈ WT := wt_at 904 (by decide +kernel) (by decide +kernel)
theorem eX2_bestHouses : Cond.selects yX2_bestHouses.cls yX2_bestHouses yX2_bestHouses ∈ WT := wt_at 59 (by decide +kernel) (by decide +kernel)
theorem mX2_build : My yX2_build cX2_build 6 (some .int) 5 := ⟨wt_at 837 (by decide +kernel) (by decide +kernel), wt_at 99 (by decide +kernel) (by decide +kernel), by decide, by decide, by decide +kernel⟩
theorem pnX2_build : plainName yX2_build.cls = true := by decide +kernel
theorem iX2_build : Cond.instanceMethod yX2_build ∈ WT := wt_at 836 (by decide +kernel) (by decide +kernel)
theorem eX2_build : Cond.selects yX2_build.cls yX2_build yX2_build ∈ WT := wt_at 50 (by decide +kernel) (by decide +kernel)
theorem mX2_enact : My yX2_enact cX2_enact 5 (some .int) 4 := ⟨wt_at 877 (by decide +kernel) (by decide +kernel), wt_at 99 (by decide +kernel) (by decide +kernel), by decide, by decide, by decide +kernel⟩
theorem pnX2_enact : plainName yX2_enact.cls = true := by decide +kernel
theorem iX2_enact : Cond.instanceMethod yX2_enact ∈ WT := wt_at 876 (by decide +kernel) (by decide +kernel)
theorem eX2_enact : Cond.selects yX2_enact.cls yX2_enact yX2_enact ∈ WT := wt_at 55 (by decide +kernel) (by decide +kernel)
theorem mX2_gainOf : My yX2_gainOf cX2_gainOf 8 (some .long) 2 := ⟨wt_at 910 (by decide +kernel) (by decide +kernel), wt_at 99 (by decide +kernel) (by decide +kernel), by decide, by decide, by decide +kernel⟩
theorem pnX2_gainOf : plainName yX2_gainOf.cls = true := by decide +kernel
theorem iX2_gainOf : Cond.instanceMethod yX2_gainOf ∈ WT := wt_at 909 (by decide +kernel) (by decide +kernel)
theorem eX2_gainOf : Cond.selects yX2_gainOf.cls yX2_gainOf yX2_gainOf ∈ WT := wt_at 60 (by decide +kernel) (by decide +kernel)
theorem mX2_howOftenAbove : My yX2_howOftenAbove cX2_howOftenAbove 5 (some .int) 2 := ⟨wt_at 885 (by decide +kernel) (by decide +kernel), wt_at 99 (by decide +kernel) (by decide +kernel), by decide, by decide, by decide +kernel⟩
theorem pnX2_howOftenAbove : plainName yX2_howOftenAbove.cls = true := by decide +kernel
theorem iX2_howOftenAbove : Cond.instanceMethod yX2_howOftenAbove ∈ WT := wt_at 884 (by decide +kernel) (by decide +kernel)
theorem eX2_howOftenAbove : Cond.selects yX2_howOftenAbove.cls yX2_howOftenAbove yX2_howOftenAbove ∈ WT := wt_at 56 (by decide +kernel) (by decide +kernel)
theorem mX2_init : My yX2_init cX2_init 1 none 0 := ⟨wt_at 303 (by decide +kernel) (by decide +kernel), wt_at 99 (by decide +kernel) (by decide +kernel), by decide, by decide, by decide +kernel⟩
theorem pnX2_init : plainName yX2_init.cls = true := by decide +kernel
theorem iX2_init : Cond.instanceMethod yX2_init ∈ WT := wt_at 302 (by decide +kernel) (by decide +kernel)
theorem mX2_lossByLaw : My yX2_lossByLaw cX2_lossByLaw 4 (some .int) 3 := ⟨wt_at 889 (by decide +kernel) (by decide +kernel), wt_at 99 (by decide +kernel) (by decide +kernel), by decide, by decide, by decide +kernel⟩
theorem pnX2_lossByLaw : plainName yX2_lossByLaw.cls = true := by decide +kernel
theorem iX2_lossByLaw : Cond.instanceMethod yX2_lossByLaw ∈ WT := wt_at 888 (by decide +kernel) (by decide +kernel)
theorem eX2_lossByLaw : Cond.selects yX2_lossByLaw.cls yX2_lossByLaw yX2_lossByLaw ∈ WT := wt_at 57 (by decide +kernel) (by decide +kernel)
theorem mX2_lossByQuake : My yX2_lossByQuake cX2_lossByQuake 4 (some .int) 3 := ⟨wt_at 849 (by decide +kernel) (by decide +kernel), wt_at 99 (by decide +kernel) (by decide +kernel), by decide, by decide, by decide +kernel⟩
theorem pnX2_lossByQuake : plainName yX2_lossByQuake.cls = true := by decide +kernel
theorem iX2_lossByQuake : Cond.instanceMethod yX2_lossByQuake ∈ WT := wt_at 848 (by decide +kernel) (by decide +kernel)
theorem eX2_lossByQuake : Cond.selects yX2_lossByQuake.cls yX2_lossByQuake yX2_lossByQuake ∈ WT := wt_at 51 (by decide +kernel) (by decide +kernel)
theorem mX2_lossInAll : My yX2_lossInAll cX2_lossInAll 9 (some .int) 5 := ⟨wt_at 853 (by decide +kernel) (by decide +kernel), wt_at 99 (by decide +kernel) (by decide +kernel), by decide, by decide, by decide +kernel⟩
theorem pnX2_lossInAll : plainName yX2_lossInAll.cls = true := by decide +kernel
theorem iX2_lossInAll : Cond.instanceMethod yX2_lossInAll ∈ WT := wt_at 852 (by decide +kernel) (by decide +kernel)
theorem eX2_lossInAll : Cond.selects yX2_lossInAll.cls yX2_lossInAll yX2_lossInAll ∈ WT := wt_at 52 (by decide +kernel) (by decide +kernel)
theorem mX2_lossOfHouse : My yX2_lossOfHouse cX2_lossOfHouse 8 (some .int) 6 := ⟨wt_at 857 (by decide +kernel) (by decide +kernel), wt_at 99 (by decide +kernel) (by decide +kernel), by decide, by decide, by decide +kernel⟩
theorem pnX2_lossOfHouse : plainName yX2_lossOfHouse.cls = true := by decide +kernel
theorem iX2_lossOfHouse : Cond.instanceMethod yX2_lossOfHouse ∈ WT := wt_at 856 (by decide +kernel) (by decide +kernel)
theorem eX2_lossOfHouse : Cond.selects yX2_lossOfHouse.cls yX2_lossOfHouse yX2_lossOfHouse ∈ WT := wt_at 53 (by decide +kernel) (by decide +kernel)
theorem mX2_meanLoss : My yX2_meanLoss cX2_meanLoss 6 (some .long) 2 := ⟨wt_at 897 (by decide +kernel) (by decide +kernel), wt_at 99 (by decide +kernel) (by decide +kernel), by decide, by decide, by decide +kernel⟩
theorem pnX2_meanLoss : plainName yX2_meanLoss.cls = true := by decide +kernel
theorem iX2_meanLoss : Cond.instanceMethod yX2_meanLoss ∈ WT := wt_at 896 (by decide +kernel) (by decide +kernel)
theorem eX2_meanLoss : Cond.selects yX2_meanLoss.cls yX2_meanLoss yX2_meanLoss ∈ WT := wt_at 58 (by decide +kernel) (by decide +kernel)
theorem mX2_offer : My yX2_offer cX2_offer 6 none 3 := ⟨wt_at 915 (by decide +kernel) (by decide +kernel), wt_at 99 (by decide +kernel) (by decide +kernel), by decide, by decide, by decide +kernel⟩
theorem pnX2_offer : plainName yX2_offer.cls = true := by decide +kernel
theorem iX2_offer : Cond.instanceMethod yX2_offer ∈ WT := wt_at 914 (by decide +kernel) (by decide +kernel)
theorem eX2_offer : Cond.selects yX2_offer.cls yX2_offer yX2_offer ∈ WT := wt_at 61 (by decide +kernel) (by decide +kernel)
theorem mX2_worstQuake : My yX2_worstQuake cX2_worstQuake 9 (some .int) 3 := ⟨wt_at 867 (by decide +kernel) (by decide +kernel), wt_at 99 (by decide +kernel) (by decide +kernel), by decide, by decide, by decide +kernel⟩
theorem pnX2_worstQuake : plainName yX2_worstQuake.cls = true := by decide +kernel
theorem iX2_worstQuake : Cond.instanceMethod yX2_worstQuake ∈ WT := wt_at 866 (by decide +kernel) (by decide +kernel)
theorem eX2_worstQuake : Cond.selects yX2_worstQuake.cls yX2_worstQuake yX2_worstQuake ∈ WT := wt_at 54 (by decide +kernel) (by decide +kernel)
theorem mX3_cellsApart : My yX3_cellsApart cX3_cellsApart 3 (some .int) 3 := ⟨wt_at 477 (by decide +kernel) (by decide +kernel), wt_at 94 (by decide +kernel) (by decide +kernel), by decide, by decide, by decide +kernel⟩
theorem pnX3_cellsApart : plainName yX3_cellsApart.cls = true := by decide +kernel
theorem sX3_cellsApart : Cond.static yX3_cellsApart ∈ WT := wt_at 476 (by decide +kernel) (by decide +kernel)
theorem mX3_clearPrices : My yX3_clearPrices cX3_clearPrices 2 none 0 := ⟨wt_at 495 (by decide +kernel) (by decide +kernel), wt_at 94 (by decide +kernel) (by decide +kernel), by decide, by decide, by decide +kernel⟩
theorem pnX3_clearPrices : plainName yX3_clearPrices.cls = true := by decide +kernel
theorem iX3_clearPrices : Cond.instanceMethod yX3_clearPrices ∈ WT := wt_at 494 (by decide +kernel) (by decide +kernel)
theorem eX3_clearPrices : Cond.selects yX3_clearPrices.cls yX3_clearPrices yX3_clearPrices ∈ WT := wt_at 8 (by decide +kernel) (by decide +kernel)
theorem mX3_daysApart : My yX3_daysApart cX3_daysApart 3 (some .int) 3 := ⟨wt_at 471 (by decide +kernel) (by decide +kernel), wt_at 94 (by decide +kernel) (by decide +kernel), by decide, by decide, by decide +kernel⟩
theorem pnX3_daysApart : plainName yX3_daysApart.cls = true := by decide +kernel
theorem sX3_daysApart : Cond.static yX3_daysApart ∈ WT := wt_at 470 (by decide +kernel) (by decide +kernel)
theorem mX3_fillCosts : My yX3_fillCosts cX3_fillCosts 14 none 4 := ⟨wt_at 461 (by decide +kernel) (by decide +kernel), wt_at 94 (by decide +kernel) (by decide +kernel), by decide, by decide, by decide +kernel⟩
theorem pnX3_fillCosts : plainName yX3_fillCosts.cls = true := by decide +kernel
theorem iX3_fillCosts : Cond.instanceMethod yX3_fillCosts ∈ WT := wt_at 460 (by decide +kernel) (by decide +kernel)
theorem eX3_fillCosts : Cond.selects yX3_fillCosts.cls yX3_fillCosts yX3_fillCosts ∈ WT := wt_at 7 (by decide +kernel) (by decide +kernel)
theorem mX3_gather : My yX3_gather cX3_gather 5 (some .int) 3 := ⟨wt_at 457 (by decide +kernel) (by decide +kernel), wt_at 94 (by decide +kernel) (by decide +kernel), by decide, by decide, by decide +kernel⟩
theorem pnX3_gather : plainName yX3_gather.cls = true := by decide +kernel
theorem sX3_gather : Cond.static yX3_gather ∈ WT := wt_at 456 (by decide +kernel) (by decide +kernel)
theorem mX3_init : My yX3_init cX3_init 1 none 0 := ⟨wt_at 185 (by decide +kernel) (by decide +kernel), wt_at 94 (by decide +kernel) (by decide +kernel), by decide, by decide, by decide +kernel⟩
theorem pnX3_init : plainName yX3_init.cls = true := by decide +kernel
theorem iX3_init : Cond.instanceMethod yX3_init ∈ WT := wt_at 184 (by decide +kernel) (by decide +kernel)
theorem mX3_loosen : My yX3_loosen cX3_loosen 6 none 1 := ⟨wt_at 504 (by decide +kernel) (by decide +kernel), wt_at 94 (by decide +kernel) (by decide +kernel), by decide, by decide, by decide +kernel⟩
theorem pnX3_loosen : plainName yX3_loosen.cls = true := by decide +kernel
theorem iX3_loosen : Cond.instanceMethod yX3_loosen ∈ WT := wt_at 503 (by decide +kernel) (by decide +kernel)
theorem eX3_loosen : Cond.selects yX3_loosen.cls yX3_loosen yX3_loosen ∈ WT := wt_at 10 (by decide +kernel) (by decide +kernel)
theorem mX3_maySame : My yX3_maySame cX3_maySame 6 (some .boolean) 6 := ⟨wt_at 468 (by decide +kernel) (by decide +kernel), wt_at 94 (by decide +kernel) (by decide +kernel), by decide, by decide, by decide +kernel⟩
theorem pnX3_maySame : plainName yX3_maySame.cls = true := by decide +kernel
theorem sX3_maySame : Cond.static yX3_maySame ∈ WT := wt_at 467 (by decide +kernel) (by decide +kernel)
theorem mX3_missOf : My yX3_missOf cX3_missOf 3 (some .int) 3 := ⟨wt_at 490 (by decide +kernel) (by decide +kernel), wt_at 94 (by decide +kernel) (by decide +kernel), by decide, by decide, by decide +kernel⟩
theorem pnX3_missOf : plainName yX3_missOf.cls = true := by decide +kernel
theorem sX3_missOf : Cond.static yX3_missOf ∈ WT := wt_at 489 (by decide +kernel) (by decide +kernel)
theorem mX3_nearest : My yX3_nearest cX3_nearest 3 (some .int) 0 := ⟨wt_at 508 (by decide +kernel) (by decide +kernel), wt_at 94 (by decide +kernel) (by decide +kernel), by decide, by decide, by decide +kernel⟩
theorem pnX3_nearest : plainName yX3_nearest.cls = true := by decide +kernel
theorem iX3_nearest : Cond.instanceMethod yX3_nearest ∈ WT := wt_at 507 (by decide +kernel) (by decide +kernel)
theorem eX3_nearest : Cond.selects yX3_nearest.cls yX3_nearest yX3_nearest ∈ WT := wt_at 11 (by decide +kernel) (by decide +kernel)
theorem mX3_pairUp : My yX3_pairUp cX3_pairUp 8 none 6 := ⟨wt_at 454 (by decide +kernel) (by decide +kernel), wt_at 94 (by decide +kernel) (by decide +kernel), by decide, by decide, by decide +kernel⟩
theorem pnX3_pairUp : plainName yX3_pairUp.cls = true := by decide +kernel
theorem iX3_pairUp : Cond.instanceMethod yX3_pairUp ∈ WT := wt_at 453 (by decide +kernel) (by decide +kernel)
theorem eX3_pairUp : Cond.selects yX3_pairUp.cls yX3_pairUp yX3_pairUp ∈ WT := wt_at 6 (by decide +kernel) (by decide +kernel)
theorem mX3_partnerOf : My yX3_partnerOf cX3_partnerOf 4 (some .int) 1 := ⟨wt_at 520 (by decide +kernel) (by decide +kernel), wt_at 94 (by decide +kernel) (by decide +kernel), by decide, by decide, by decide +kernel⟩
theorem pnX3_partnerOf : plainName yX3_partnerOf.cls = true := by decide +kernel
theorem iX3_partnerOf : Cond.instanceMethod yX3_partnerOf ∈ WT := wt_at 519 (by decide +kernel) (by decide +kernel)
theorem eX3_partnerOf : Cond.selects yX3_partnerOf.cls yX3_partnerOf yX3_partnerOf ∈ WT := wt_at 14 (by decide +kernel) (by decide +kernel)
theorem mX3_placeRow : My yX3_placeRow cX3_placeRow 5 none 1 := ⟨wt_at 499 (by decide +kernel) (by decide +kernel), wt_at 94 (by decide +kernel) (by decide +kernel), by decide, by decide, by decide +kernel⟩
theorem pnX3_placeRow : plainName yX3_placeRow.cls = true := by decide +kernel
theorem iX3_placeRow : Cond.instanceMethod yX3_placeRow ∈ WT := wt_at 498 (by decide +kernel) (by decide +kernel)
theorem eX3_placeRow : Cond.selects yX3_placeRow.cls yX3_placeRow yX3_placeRow ∈ WT := wt_at 9 (by decide +kernel) (by decide +kernel)
theorem mX3_reprice : My yX3_reprice cX3_reprice 4 none 1 := ⟨wt_at 512 (by decide +kernel) (by decide +kernel), wt_at 94 (by decide +kernel) (by decide +kernel), by decide, by decide, by decide +kernel⟩
theorem pnX3_reprice : plainName yX3_reprice.cls = true := by decide +kernel
theorem iX3_reprice : Cond.instanceMethod yX3_reprice ∈ WT := wt_at 511 (by decide +kernel) (by decide +kernel)
theorem eX3_reprice : Cond.selects yX3_reprice.cls yX3_reprice yX3_reprice ∈ WT := wt_at 12 (by decide +kernel) (by decide +kernel)
theorem mX3_sumUp : My yX3_sumUp cX3_sumUp 4 none 1 := ⟨wt_at 516 (by decide +kernel) (by decide +kernel), wt_at 94 (by decide +kernel) (by decide +kernel), by decide, by decide, by decide +kernel⟩
theorem pnX3_sumUp : plainName yX3_sumUp.cls = true := by decide +kernel
theorem iX3_sumUp : Cond.instanceMethod yX3_sumUp ∈ WT := wt_at 515 (by decide +kernel) (by decide +kernel)
theorem eX3_sumUp : Cond.selects yX3_sumUp.cls yX3_sumUp yX3_sumUp ∈ WT := wt_at 13 (by decide +kernel) (by decide +kernel)
theorem mX3_tenthsApart : My yX3_tenthsApart cX3_tenthsApart 3 (some .int) 3 := ⟨wt_at 487 (by decide +kernel) (by decide +kernel), wt_at 94 (by decide +kernel) (by decide +kernel), by decide, by decide, by decide +kernel⟩
theorem pnX3_tenthsApart : plainName yX3_tenthsApart.cls = true := by decide +kernel
theorem sX3_tenthsApart : Cond.static yX3_tenthsApart ∈ WT := wt_at 486 (by decide +kernel) (by decide +kernel)
theorem mX4_allWeights : My yX4_allWeights cX4_allWeights 9 (some .int) 4 := ⟨wt_at 624 (by decide +kernel) (by decide +kernel), wt_at 96 (by decide +kernel) (by decide +kernel), by decide, by decide, by decide +kernel⟩
theorem pnX4_allWeights : plainName yX4_allWeights.cls = true := by decide +kernel
theorem iX4_allWeights : Cond.instanceMethod yX4_allWeights ∈ WT := wt_at 623 (by decide +kernel) (by decide +kernel)
theorem eX4_allWeights : Cond.selects yX4_allWeights.cls yX4_allWeights yX4_allWeights ∈ WT := wt_at 23 (by decide +kernel) (by decide +kernel)
theorem mX4_deepestOfFamily : My yX4_deepestOfFamily cX4_deepestOfFamily 5 (some .int) 2 := ⟨wt_at 653 (by decide +kernel) (by decide +kernel), wt_at 96 (by decide +kernel) (by decide +kernel), by decide, by decide, by decide +kernel⟩
theorem pnX4_deepestOfFamily : plainName yX4_deepestOfFamily.cls = true := by decide +kernel
theorem iX4_deepestOfFamily : Cond.instanceMethod yX4_deepestOfFamily ∈ WT := wt_at 652 (by decide +kernel) (by decide +kernel)
theorem eX4_deepestOfFamily : Cond.selects yX4_deepestOfFamily.cls yX4_deepestOfFamily yX4_deepestOfFamily ∈ WT := wt_at 28 (by decide +kernel) (by decide +kernel)
theorem mX4_drawn : My yX4_drawn cX4_drawn 14 (some .int) 5 := ⟨wt_at 675 (by decide +kernel) (by decide +kernel), wt_at 96 (by decide +kernel) (by decide +kernel), by decide, by decide, by decide +kernel⟩
theorem pnX4_drawn : plainName yX4_drawn.cls = true := by decide +kernel
theorem iX4_drawn : Cond.instanceMethod yX4_drawn ∈ WT := wt_at 674 (by decide +kernel) (by decide +kernel)
theorem eX4_drawn : Cond.selects yX4_drawn.cls yX4_drawn yX4_drawn ∈ WT := wt_at 31 (by decide +kernel) (by decide +kernel)
theorem mX4_fadeStep : My yX4_fadeStep cX4_fadeStep 3 (some .int) 1 := ⟨wt_at 620 (by decide +kernel) (by decide +kernel), wt_at 96 (by decide +kernel) (by decide +kernel), by decide, by decide, by decide +kernel⟩
theorem pnX4_fadeStep : plainName yX4_fadeStep.cls = true := by decide +kernel
theorem sX4_fadeStep : Cond.static yX4_fadeStep ∈ WT := wt_at 619 (by decide +kernel) (by decide +kernel)
theorem mX4_firstAt : My yX4_firstAt cX4_firstAt 6 (some .int) 2 := ⟨wt_at 666 (by decide +kernel) (by decide +kernel), wt_at 96 (by decide +kernel) (by decide +kernel), by decide, by decide, by decide +kernel⟩
theorem pnX4_firstAt : plainName yX4_firstAt.cls = true := by decide +kernel
theorem iX4_firstAt : Cond.instanceMethod yX4_firstAt ∈ WT := wt_at 665 (by decide +kernel) (by decide +kernel)
theorem eX4_firstAt : Cond.selects yX4_firstAt.cls yX4_firstAt yX4_firstAt ∈ WT := wt_at 30 (by decide +kernel) (by decide +kernel)
theorem mX4_howManyFirst : My yX4_howManyFirst cX4_howManyFirst 4 (some .int) 1 := ⟨wt_at 662 (by decide +kernel) (by decide +kernel), wt_at 96 (by decide +kernel) (by decide +kernel), by decide, by decide, by decide +kernel⟩
theorem pnX4_howManyFirst : plainName yX4_howManyFirst.cls = true := by decide +kernel
theorem iX4_howManyFirst : Cond.instanceMethod yX4_howManyFirst ∈ WT := wt_at 661 (by decide +kernel) (by decide +kernel)
theorem eX4_howManyFirst : Cond.selects yX4_howManyFirst.cls yX4_howManyFirst yX4_howManyFirst ∈ WT := wt_at 29 (by decide +kernel) (by decide +kernel)
theorem mX4_init : My yX4_init cX4_init 1 none 0 := ⟨wt_at 249 (by decide +kernel) (by decide +kernel), wt_at 96 (by decide +kernel) (by decide +kernel), by decide, by decide, by decide +kernel⟩
theorem pnX4_init : plainName yX4_init.cls = true := by decide +kernel
theorem iX4_init : Cond.instanceMethod yX4_init ∈ WT := wt_at 248 (by decide +kernel) (by decide +kernel)
theorem mX4_likeliest : My yX4_likeliest cX4_likeliest 11 (some .int) 4 := ⟨wt_at 636 (by decide +kernel) (by decide +kernel), wt_at 96 (by decide +kernel) (by decide +kernel), by decide, by decide, by decide +kernel⟩
theorem pnX4_likeliest : plainName yX4_likeliest.cls = true := by decide +kernel
theorem iX4_likeliest : Cond.instanceMethod yX4_likeliest ∈ WT := wt_at 635 (by decide +kernel) (by decide +kernel)
theorem eX4_likeliest : Cond.selects yX4_likeliest.cls yX4_likeliest yX4_likeliest ∈ WT := wt_at 25 (by decide +kernel) (by decide +kernel)
theorem mX4_sizeOfFamily : My yX4_sizeOfFamily cX4_sizeOfFamily 5 (some .int) 2 := ⟨wt_at 649 (by decide +kernel) (by decide +kernel), wt_at 96 (by decide +kernel) (by decide +kernel), by decide, by decide, by decide +kernel⟩
theorem pnX4_sizeOfFamily : plainName yX4_sizeOfFamily.cls = true := by decide +kernel
theorem iX4_sizeOfFamily : Cond.instanceMethod yX4_sizeOfFamily ∈ WT := wt_at 648 (by decide +kernel) (by decide +kernel)
theorem eX4_sizeOfFamily : Cond.selects yX4_sizeOfFamily.cls yX4_sizeOfFamily yX4_sizeOfFamily ∈ WT := wt_at 27 (by decide +kernel) (by decide +kernel)
theorem mX4_stepsOf : My yX4_stepsOf cX4_stepsOf 2 (some (.array .int)) 1 := ⟨wt_at 594 (by decide +kernel) (by decide +kernel), wt_at 96 (by decide +kernel) (by decide +kernel), by decide, by decide, by decide +kernel⟩
theorem pnX4_stepsOf : plainName yX4_stepsOf.cls = true := by decide +kernel
theorem iX4_stepsOf : Cond.instanceMethod yX4_stepsOf ∈ WT := wt_at 593 (by decide +kernel) (by decide +kernel)
theorem eX4_stepsOf : Cond.selects yX4_stepsOf.cls yX4_stepsOf yX4_stepsOf ∈ WT := wt_at 19 (by decide +kernel) (by decide +kernel)
theorem mX4_trace : My yX4_trace cX4_trace 7 none 3 := ⟨wt_at 644 (by decide +kernel) (by decide +kernel), wt_at 96 (by decide +kernel) (by decide +kernel), by decide, by decide, by decide +kernel⟩
theorem pnX4_trace : plainName yX4_trace.cls = true := by decide +kernel
theorem iX4_trace : Cond.instanceMethod yX4_trace ∈ WT := wt_at 643 (by decide +kernel) (by decide +kernel)
theorem eX4_trace : Cond.selects yX4_trace.cls yX4_trace yX4_trace ∈ WT := wt_at 26 (by decide +kernel) (by decide +kernel)
theorem mX4_weight : My yX4_weight cX4_weight 4 (some .int) 3 := ⟨wt_at 609 (by decide +kernel) (by decide +kernel), wt_at 96 (by decide +kernel) (by decide +kernel), by decide, by decide, by decide +kernel⟩
theorem pnX4_weight : plainName yX4_weight.cls = true := by decide +kernel
theorem iX4_weight : Cond.instanceMethod yX4_weight ∈ WT := wt_at 608 (by decide +kernel) (by decide +kernel)
theorem eX4_weight : Cond.selects yX4_weight.cls yX4_weight yX4_weight ∈ WT := wt_at 21 (by decide +kernel) (by decide +kernel)
theorem mX4_weightAt : My yX4_weightAt cX4_weightAt 7 (some .int) 5 := ⟨wt_at 613 (by decide +kernel) (by decide +kernel), wt_at 96 (by decide +kernel) (by decide +kernel), by decide, by decide, by decide +kernel⟩
theorem pnX4_weightAt : plainName yX4_weightAt.cls = true := by decide +kernel
theorem iX4_weightAt : Cond.instanceMethod yX4_weightAt ∈ WT := wt_at 612 (by decide +kernel) (by decide +kernel)
theorem eX4_weightAt : Cond.selects yX4_weightAt.cls yX4_weightAt yX4_weightAt ∈ WT := wt_at 22 (by decide +kernel) (by decide +kernel)
theorem mX4_weightIfAhead : My yX4_weightIfAhead cX4_weightIfAhead 6 (some .int) 4 := ⟨wt_at 603 (by decide +kernel) (by decide +kernel), wt_at 96 (by decide +kernel) (by decide +kernel), by decide, by decide, by decide +kernel⟩
theorem pnX4_weightIfAhead : plainName yX4_weightIfAhead.cls = true := by decide +kernel
theorem iX4_weightIfAhead : Cond.instanceMethod yX4_weightIfAhead ∈ WT := wt_at 602 (by decide +kernel) (by decide +kernel)
theorem eX4_weightIfAhead : Cond.selects yX4_weightIfAhead.cls yX4_weightIfAhead yX4_weightIfAhead ∈ WT := wt_at 20 (by decide +kernel) (by decide +kernel)
theorem mX4_weightOn : My yX4_weightOn cX4_weightOn 8 (some .int) 5 := ⟨wt_at 687 (by decide +kernel) (by decide +kernel), wt_at 96 (by decide +kernel) (by decide +kernel), by decide, by decide, by decide +kernel⟩
theorem pnX4_weightOn : plainName yX4_weightOn.cls = true := by decide +kernel
theorem iX4_weightOn : Cond.instanceMethod yX4_weightOn ∈ WT := wt_at 686 (by decide +kernel) (by decide +kernel)
theorem eX4_weightOn : Cond.selects yX4_weightOn.cls yX4_weightOn yX4_weightOn ∈ WT := wt_at 32 (by decide +kernel) (by decide +kernel)
theorem mX5_choose : My yX5_choose cX5_choose 5 (some .long) 2 := ⟨wt_at 574 (by decide +kernel) (by decide +kernel), wt_at 102 (by decide +kernel) (by decide +kernel), by decide, by decide, by decide +kernel⟩
theorem pnX5_choose : plainName yX5_choose.cls = true := by decide +kernel
theorem sX5_choose : Cond.static yX5_choose ∈ WT := wt_at 573 (by decide +kernel) (by decide +kernel)
theorem mX5_greatestDivisor : My yX5_greatestDivisor cX5_greatestDivisor 11 (some .long) 2 := ⟨wt_at 564 (by decide +kernel) (by decide +kernel), wt_at 102 (by decide +kernel) (by decide +kernel), by decide, by decide, by decide +kernel⟩
theorem pnX5_greatestDivisor : plainName yX5_greatestDivisor.cls = true := by decide +kernel
theorem sX5_greatestDivisor : Cond.static yX5_greatestDivisor ∈ WT := wt_at 563 (by decide +kernel) (by decide +kernel)
theorem mX5_partOf : My yX5_partOf cX5_partOf 7 (some .long) 3 := ⟨wt_at 561 (by decide +kernel) (by decide +kernel), wt_at 102 (by decide +kernel) (by decide +kernel), by decide, by decide, by decide +kernel⟩
theorem pnX5_partOf : plainName yX5_partOf.cls = true := by decide +kernel
theorem sX5_partOf : Cond.static yX5_partOf ∈ WT := wt_at 560 (by decide +kernel) (by decide +kernel)
theorem mX5_power : My yX5_power cX5_power 5 (some .long) 2 := ⟨wt_at 585 (by decide +kernel) (by decide +kernel), wt_at 102 (by decide +kernel) (by decide +kernel), by decide, by decide, by decide +kernel⟩
theorem pnX5_power : plainName yX5_power.cls = true := by decide +kernel
theorem sX5_power : Cond.static yX5_power ∈ WT := wt_at 584 (by decide +kernel) (by decide +kernel)
theorem mX5_waysForFew : My yX5_waysForFew cX5_waysForFew 7 (some .long) 4 := ⟨wt_at 582 (by decide +kernel) (by decide +kernel), wt_at 102 (by decide +kernel) (by decide +kernel), by decide, by decide, by decide +kernel⟩
theorem pnX5_waysForFew : plainName yX5_waysForFew.cls = true := by decide +kernel
theorem sX5_waysForFew : Cond.static yX5_waysForFew ∈ WT := wt_at 581 (by decide +kernel) (by decide +kernel)
theorem mX5_waysToDeal : My yX5_waysToDeal cX5_waysToDeal 8 (some .long) 4 := ⟨wt_at 571 (by decide +kernel) (by decide +kernel), wt_at 102 (by decide +kernel) (by decide +kernel), by decide, by decide, by decide +kernel⟩
theorem pnX5_waysToDeal : plainName yX5_waysToDeal.cls = true := by decide +kernel
theorem sX5_waysToDeal : Cond.static yX5_waysToDeal ∈ WT := wt_at 570 (by decide +kernel) (by decide +kernel)
theorem mX6_add : My yX6_add cX6_add 8 (some .int) 6 := ⟨wt_at 407 (by decide +kernel) (by decide +kernel), wt_at 93 (by decide +kernel) (by decide +kernel), by decide, by decide, by decide +kernel⟩
theorem pnX6_add : plainName yX6_add.cls = true := by decide +kernel
theorem iX6_add : Cond.instanceMethod yX6_add ∈ WT := wt_at 406 (by decide +kernel) (by decide +kernel)
theorem eX6_add : Cond.selects yX6_add.cls yX6_add yX6_add ∈ WT := wt_at 1 (by decide +kernel) (by decide +kernel)
theorem mX6_has : My yX6_has cX6_has 2 (some .boolean) 1 := ⟨wt_at 419 (by decide +kernel) (by decide +kernel), wt_at 93 (by decide +kernel) (by decide +kernel), by decide, by decide, by decide +kernel⟩
theorem pnX6_has : plainName yX6_has.cls = true := by decide +kernel
theorem iX6_has : Cond.instanceMethod yX6_has ∈ WT := wt_at 418 (by decide +kernel) (by decide +kernel)
theorem eX6_has : Cond.selects yX6_has.cls yX6_has yX6_has ∈ WT := wt_at 3 (by decide +kernel) (by decide +kernel)
theorem mX6_howManyBlasts : My yX6_howManyBlasts cX6_howManyBlasts 3 (some .int) 0 := ⟨wt_at 929 (by decide +kernel) (by decide +kernel), wt_at 93 (by decide +kernel) (by decide +kernel), by decide, by decide, by decide +kernel⟩
theorem pnX6_howManyBlasts : plainName yX6_howManyBlasts.cls = true := by decide +kernel
theorem iX6_howManyBlasts : Cond.instanceMethod yX6_howManyBlasts ∈ WT := wt_at 928 (by decide +kernel) (by decide +kernel)
theorem eX6_howManyBlasts : Cond.selects yX6_howManyBlasts.cls yX6_howManyBlasts yX6_howManyBlasts ∈ WT := wt_at 62 (by decide +kernel) (by decide +kernel)
theorem mX6_howManyIn : My yX6_howManyIn cX6_howManyIn 4 (some .int) 1 := ⟨wt_at 450 (by decide +kernel) (by decide +kernel), wt_at 93 (by decide +kernel) (by decide +kernel), by decide, by decide, by decide +kernel⟩
theorem pnX6_howManyIn : plainName yX6_howManyIn.cls = true := by decide +kernel
theorem iX6_howManyIn : Cond.instanceMethod yX6_howManyIn ∈ WT := wt_at 449 (by decide +kernel) (by decide +kernel)
theorem eX6_howManyIn : Cond.selects yX6_howManyIn.cls yX6_howManyIn yX6_howManyIn ∈ WT := wt_at 5 (by decide +kernel) (by decide +kernel)
theorem mX6_init : My yX6_init cX6_init 1 none 0 := ⟨wt_at 116 (by decide +kernel) (by decide +kernel), wt_at 93 (by decide +kernel) (by decide +kernel), by decide, by decide, by decide +kernel⟩
theorem pnX6_init : plainName yX6_init.cls = true := by decide +kernel
theorem iX6_init : Cond.instanceMethod yX6_init ∈ WT := wt_at 115 (by decide +kernel) (by decide +kernel)
theorem mX6_isCounted : My yX6_isCounted cX6_isCounted 4 (some .boolean) 3 := ⟨wt_at 535 (by decide +kernel) (by decide +kernel), wt_at 93 (by decide +kernel) (by decide +kernel), by decide, by decide, by decide +kernel⟩
theorem pnX6_isCounted : plainName yX6_isCounted.cls = true := by decide +kernel
theorem iX6_isCounted : Cond.instanceMethod yX6_isCounted ∈ WT := wt_at 534 (by decide +kernel) (by decide +kernel)
theorem eX6_isCounted : Cond.selects yX6_isCounted.cls yX6_isCounted yX6_isCounted ∈ WT := wt_at 16 (by decide +kernel) (by decide +kernel)
theorem mX6_isFull : My yX6_isFull cX6_isFull 1 (some .boolean) 0 := ⟨wt_at 403 (by decide +kernel) (by decide +kernel), wt_at 93 (by decide +kernel) (by decide +kernel), by decide, by decide, by decide +kernel⟩
theorem pnX6_isFull : plainName yX6_isFull.cls = true := by decide +kernel
theorem iX6_isFull : Cond.instanceMethod yX6_isFull ∈ WT := wt_at 402 (by decide +kernel) (by decide +kernel)
theorem eX6_isFull : Cond.selects yX6_isFull.cls yX6_isFull yX6_isFull ∈ WT := wt_at 0 (by decide +kernel) (by decide +kernel)
theorem mX6_isGreat : My yX6_isGreat cX6_isGreat 3 (some .boolean) 2 := ⟨wt_at 777 (by decide +kernel) (by decide +kernel), wt_at 93 (by decide +kernel) (by decide +kernel), by decide, by decide, by decide +kernel⟩
theorem pnX6_isGreat : plainName yX6_isGreat.cls = true := by decide +kernel
theorem iX6_isGreat : Cond.instanceMethod yX6_isGreat ∈ WT := wt_at 776 (by decide +kernel) (by decide +kernel)
theorem eX6_isGreat : Cond.selects yX6_isGreat.cls yX6_isGreat yX6_isGreat ∈ WT := wt_at 41 (by decide +kernel) (by decide +kernel)
theorem mX6_placeOf : My yX6_placeOf cX6_placeOf 3 (some .int) 1 := ⟨wt_at 434 (by decide +kernel) (by decide +kernel), wt_at 93 (by decide +kernel) (by decide +kernel), by decide, by decide, by decide +kernel⟩
theorem pnX6_placeOf : plainName yX6_placeOf.cls = true := by decide +kernel
theorem iX6_placeOf : Cond.instanceMethod yX6_placeOf ∈ WT := wt_at 433 (by decide +kernel) (by decide +kernel)
theorem eX6_placeOf : Cond.selects yX6_placeOf.cls yX6_placeOf yX6_placeOf ∈ WT := wt_at 4 (by decide +kernel) (by decide +kernel)
theorem mX6_putInOrder : My yX6_putInOrder cX6_putInOrder 3 none 1 := ⟨wt_at 411 (by decide +kernel) (by decide +kernel), wt_at 93 (by decide +kernel) (by decide +kernel), by decide, by decide, by decide +kernel⟩
theorem pnX6_putInOrder : plainName yX6_putInOrder.cls = true := by decide +kernel
theorem iX6_putInOrder : Cond.instanceMethod yX6_putInOrder ∈ WT := wt_at 410 (by decide +kernel) (by decide +kernel)
theorem eX6_putInOrder : Cond.selects yX6_putInOrder.cls yX6_putInOrder yX6_putInOrder ∈ WT := wt_at 2 (by decide +kernel) (by decide +kernel)
theorem mX6_strikes : My yX6_strikes cX6_strikes 4 (some .boolean) 2 := ⟨wt_at 815 (by decide +kernel) (by decide +kernel), wt_at 93 (by decide +kernel) (by decide +kernel), by decide, by decide, by decide +kernel⟩
theorem pnX6_strikes : plainName yX6_strikes.cls = true := by decide +kernel
theorem iX6_strikes : Cond.instanceMethod yX6_strikes ∈ WT := wt_at 814 (by decide +kernel) (by decide +kernel)
theorem eX6_strikes : Cond.selects yX6_strikes.cls yX6_strikes yX6_strikes ∈ WT := wt_at 48 (by decide +kernel) (by decide +kernel)
theorem mX7_addStretch : My yX7_addStretch cX7_addStretch 13 none 6 := ⟨wt_at 810 (by decide +kernel) (by decide +kernel), wt_at 98 (by decide +kernel) (by decide +kernel), by decide, by decide, by decide +kernel⟩
theorem pnX7_addStretch : plainName yX7_addStretch.cls = true := by decide +kernel
theorem iX7_addStretch : Cond.instanceMethod yX7_addStretch ∈ WT := wt_at 809 (by decide +kernel) (by decide +kernel)
theorem eX7_addStretch : Cond.selects yX7_addStretch.cls yX7_addStretch yX7_addStretch ∈ WT := wt_at 47 (by decide +kernel) (by decide +kernel)
theorem mX7_init : My yX7_init cX7_init 1 none 0 := ⟨wt_at 289 (by decide +kernel) (by decide +kernel), wt_at 98 (by decide +kernel) (by decide +kernel), by decide, by decide, by decide +kernel⟩
theorem pnX7_init : plainName yX7_init.cls = true := by decide +kernel
theorem iX7_init : Cond.instanceMethod yX7_init ∈ WT := wt_at 288 (by decide +kernel) (by decide +kernel)
theorem mX7_leastMix : My yX7_leastMix cX7_leastMix 3 (some .int) 0 := ⟨wt_at 829 (by decide +kernel) (by decide +kernel), wt_at 98 (by decide +kernel) (by decide +kernel), by decide, by decide, by decide +kernel⟩
theorem pnX7_leastMix : plainName yX7_leastMix.cls = true := by decide +kernel
theorem iX7_leastMix : Cond.instanceMethod yX7_leastMix ∈ WT := wt_at 828 (by decide +kernel) (by decide +kernel)
theorem eX7_leastMix : Cond.selects yX7_leastMix.cls yX7_leastMix yX7_leastMix ∈ WT := wt_at 49 (by decide +kernel) (by decide +kernel)
theorem mX7_mark : My yX7_mark cX7_mark 4 none 3 := ⟨wt_at 802 (by decide +kernel) (by decide +kernel), wt_at 98 (by decide +kernel) (by decide +kernel), by decide, by decide, by decide +kernel⟩
theorem pnX7_mark : plainName yX7_mark.cls = true := by decide +kernel
theorem iX7_mark : Cond.instanceMethod yX7_mark ∈ WT := wt_at 801 (by decide +kernel) (by decide +kernel)
theorem eX7_mark : Cond.selects yX7_mark.cls yX7_mark yX7_mark ∈ WT := wt_at 45 (by decide +kernel) (by decide +kernel)
theorem mX7_markRules : My yX7_markRules cX7_markRules 7 none 4 := ⟨wt_at 806 (by decide +kernel) (by decide +kernel), wt_at 98 (by decide +kernel) (by decide +kernel), by decide, by decide, by decide +kernel⟩
theorem pnX7_markRules : plainName yX7_markRules.cls = true := by decide +kernel
theorem iX7_markRules : Cond.instanceMethod yX7_markRules ∈ WT := wt_at 805 (by decide +kernel) (by decide +kernel)
theorem eX7_markRules : Cond.selects yX7_markRules.cls yX7_markRules yX7_markRules ∈ WT := wt_at 46 (by decide +kernel) (by decide +kernel)
theorem mX7_markStrikes : My yX7_markStrikes cX7_markStrikes 6 none 4 := ⟨wt_at 797 (by decide +kernel) (by decide +kernel), wt_at 98 (by decide +kernel) (by decide +kernel), by decide, by decide, by decide +kernel⟩
theorem pnX7_markStrikes : plainName yX7_markStrikes.cls = true := by decide +kernel
theorem iX7_markStrikes : Cond.instanceMethod yX7_markStrikes ∈ WT := wt_at 796 (by decide +kernel) (by decide +kernel)
theorem eX7_markStrikes : Cond.selects yX7_markStrikes.cls yX7_markStrikes yX7_markStrikes ∈ WT := wt_at 44 (by decide +kernel) (by decide +kernel)
theorem mX7_work : My yX7_work cX7_work 9 none 6 := ⟨wt_at 793 (by decide +kernel) (by decide +kernel), wt_at 98 (by decide +kernel) (by decide +kernel), by decide, by decide, by decide +kernel⟩
theorem pnX7_work : plainName yX7_work.cls = true := by decide +kernel
theorem iX7_work : Cond.instanceMethod yX7_work ∈ WT := wt_at 792 (by decide +kernel) (by decide +kernel)
theorem eX7_work : Cond.selects yX7_work.cls yX7_work yX7_work ∈ WT := wt_at 43 (by decide +kernel) (by decide +kernel)
theorem mX8_add : My yX8_add cX8_add 2 (some .int) 1 := ⟨wt_at 699 (by decide +kernel) (by decide +kernel), wt_at 97 (by decide +kernel) (by decide +kernel), by decide, by decide, by decide +kernel⟩
theorem pnX8_add : plainName yX8_add.cls = true := by decide +kernel
theorem iX8_add : Cond.instanceMethod yX8_add ∈ WT := wt_at 698 (by decide +kernel) (by decide +kernel)
theorem eX8_add : Cond.selects yX8_add.cls yX8_add yX8_add ∈ WT := wt_at 34 (by decide +kernel) (by decide +kernel)
theorem mX8_faultyPlace : My yX8_faultyPlace cX8_faultyPlace 6 (some .int) 0 := ⟨wt_at 711 (by decide +kernel) (by decide +kernel), wt_at 97 (by decide +kernel) (by decide +kernel), by decide, by decide, by decide +kernel⟩
theorem pnX8_faultyPlace : plainName yX8_faultyPlace.cls = true := by decide +kernel
theorem iX8_faultyPlace : Cond.instanceMethod yX8_faultyPlace ∈ WT := wt_at 710 (by decide +kernel) (by decide +kernel)
theorem eX8_faultyPlace : Cond.selects yX8_faultyPlace.cls yX8_faultyPlace yX8_faultyPlace ∈ WT := wt_at 35 (by decide +kernel) (by decide +kernel)
theorem mX8_init : My yX8_init cX8_init 1 none 0 := ⟨wt_at 273 (by decide +kernel) (by decide +kernel), wt_at 97 (by decide +kernel) (by decide +kernel), by decide, by decide, by decide +kernel⟩
theorem pnX8_init : plainName yX8_init.cls = true := by decide +kernel
theorem iX8_init : Cond.instanceMethod yX8_init ∈ WT := wt_at 272 (by decide +kernel) (by decide +kernel)
theorem mX8_isDigit : My yX8_isDigit cX8_isDigit 1 (some .boolean) 1 := ⟨wt_at 714 (by decide +kernel) (by decide +kernel), wt_at 97 (by decide +kernel) (by decide +kernel), by decide, by decide, by decide +kernel⟩
theorem pnX8_isDigit : plainName yX8_isDigit.cls = true := by decide +kernel
theorem sX8_isDigit : Cond.static yX8_isDigit ∈ WT := wt_at 713 (by decide +kernel) (by decide +kernel)
theorem mX8_isFull : My yX8_isFull cX8_isFull 1 (some .boolean) 0 := ⟨wt_at 695 (by decide +kernel) (by decide +kernel), wt_at 97 (by decide +kernel) (by decide +kernel), by decide, by decide, by decide +kernel⟩
theorem pnX8_isFull : plainName yX8_isFull.cls = true := by decide +kernel
theorem iX8_isFull : Cond.instanceMethod yX8_isFull ∈ WT := wt_at 694 (by decide +kernel) (by decide +kernel)
theorem eX8_isFull : Cond.selects yX8_isFull.cls yX8_isFull yX8_isFull ∈ WT := wt_at 33 (by decide +kernel) (by decide +kernel)
theorem mX8_read : My yX8_read cX8_read 5 (some (.object "QuakeLists$Forecast")) 0 := ⟨wt_at 724 (by decide +kernel) (by decide +kernel), wt_at 97 (by decide +kernel) (by decide +kernel), by decide, by decide, by decide +kernel⟩
theorem pnX8_read : plainName yX8_read.cls = true := by decide +kernel
theorem iX8_read : Cond.instanceMethod yX8_read ∈ WT := wt_at 723 (by decide +kernel) (by decide +kernel)
theorem eX8_read : Cond.selects yX8_read.cls yX8_read yX8_read ∈ WT := wt_at 36 (by decide +kernel) (by decide +kernel)
theorem mX9_about : My yX9_about cX9_about 3 (some .int) 2 := ⟨wt_at 430 (by decide +kernel) (by decide +kernel), wt_at 92 (by decide +kernel) (by decide +kernel), by decide, by decide, by decide +kernel⟩
theorem pnX9_about : plainName yX9_about.cls = true := by decide +kernel
theorem iX9_about : Cond.instanceMethod yX9_about ∈ WT := wt_at 428 (by decide +kernel) (by decide +kernel)
theorem eX9_about : Cond.selects yX9_about.cls yX9_about yX9_about ∈ WT := wt_at 429 (by decide +kernel) (by decide +kernel)
theorem mX9_alike : My yX9_alike cX9_alike 11 (some .long) 4 := ⟨wt_at 568 (by decide +kernel) (by decide +kernel), wt_at 92 (by decide +kernel) (by decide +kernel), by decide, by decide, by decide +kernel⟩
theorem pnX9_alike : plainName yX9_alike.cls = true := by decide +kernel
theorem iX9_alike : Cond.instanceMethod yX9_alike ∈ WT := wt_at 566 (by decide +kernel) (by decide +kernel)
theorem eX9_alike : Cond.selects yX9_alike.cls yX9_alike yX9_alike ∈ WT := wt_at 567 (by decide +kernel) (by decide +kernel)
theorem mX9_asNumber : My yX9_asNumber cX9_asNumber 1 (some .int) 1 := ⟨wt_at 422 (by decide +kernel) (by decide +kernel), wt_at 92 (by decide +kernel) (by decide +kernel), by decide, by decide, by decide +kernel⟩
theorem pnX9_asNumber : plainName yX9_asNumber.cls = true := by decide +kernel
theorem sX9_asNumber : Cond.static yX9_asNumber ∈ WT := wt_at 421 (by decide +kernel) (by decide +kernel)
theorem mX9_best : My yX9_best cX9_best 8 (some .int) 5 := ⟨wt_at 824 (by decide +kernel) (by decide +kernel), wt_at 92 (by decide +kernel) (by decide +kernel), by decide, by decide, by decide +kernel⟩
theorem pnX9_best : plainName yX9_best.cls = true := by decide +kernel
theorem iX9_best : Cond.instanceMethod yX9_best ∈ WT := wt_at 822 (by decide +kernel) (by decide +kernel)
theorem eX9_best : Cond.selects yX9_best.cls yX9_best yX9_best ∈ WT := wt_at 823 (by decide +kernel) (by decide +kernel)
theorem mX9_blast : My yX9_blast cX9_blast 4 (some .int) 2 := ⟨wt_at 415 (by decide +kernel) (by decide +kernel), wt_at 92 (by decide +kernel) (by decide +kernel), by decide, by decide, by decide +kernel⟩
theorem pnX9_blast : plainName yX9_blast.cls = true := by decide +kernel
theorem iX9_blast : Cond.instanceMethod yX9_blast ∈ WT := wt_at 413 (by decide +kernel) (by decide +kernel)
theorem eX9_blast : Cond.selects yX9_blast.cls yX9_blast yX9_blast ∈ WT := wt_at 414 (by decide +kernel) (by decide +kernel)
theorem mX9_curve : My yX9_curve cX9_curve 2 (some .int) 1 := ⟨wt_at 881 (by decide +kernel) (by decide +kernel), wt_at 92 (by decide +kernel) (by decide +kernel), by decide, by decide, by decide +kernel⟩
theorem pnX9_curve : plainName yX9_curve.cls = true := by decide +kernel
theorem iX9_curve : Cond.instanceMethod yX9_curve ∈ WT := wt_at 879 (by decide +kernel) (by decide +kernel)
theorem eX9_curve : Cond.selects yX9_curve.cls yX9_curve yX9_curve ∈ WT := wt_at 880 (by decide +kernel) (by decide +kernel)
theorem mX9_damage : My yX9_damage cX9_damage 5 (some .int) 3 := ⟨wt_at 841 (by decide +kernel) (by decide +kernel), wt_at 92 (by decide +kernel) (by decide +kernel), by decide, by decide, by decide +kernel⟩
theorem pnX9_damage : plainName yX9_damage.cls = true := by decide +kernel
theorem iX9_damage : Cond.instanceMethod yX9_damage ∈ WT := wt_at 839 (by decide +kernel) (by decide +kernel)
theorem eX9_damage : Cond.selects yX9_damage.cls yX9_damage yX9_damage ∈ WT := wt_at 840 (by decide +kernel) (by decide +kernel)
theorem mX9_draw : My yX9_draw cX9_draw 5 (some .int) 3 := ⟨wt_at 670 (by decide +kernel) (by decide +kernel), wt_at 92 (by decide +kernel) (by decide +kernel), by decide, by decide, by decide +kernel⟩
theorem pnX9_draw : plainName yX9_draw.cls = true := by decide +kernel
theorem iX9_draw : Cond.instanceMethod yX9_draw ∈ WT := wt_at 668 (by decide +kernel) (by decide +kernel)
theorem eX9_draw : Cond.selects yX9_draw.cls yX9_draw yX9_draw ∈ WT := wt_at 669 (by decide +kernel) (by decide +kernel)
theorem mX9_families : My yX9_families cX9_families 3 (some .int) 2 := ⟨wt_at 658 (by decide +kernel) (by decide +kernel), wt_at 92 (by decide +kernel) (by decide +kernel), by decide, by decide, by decide +kernel⟩
theorem pnX9_families : plainName yX9_families.cls = true := by decide +kernel
theorem iX9_families : Cond.instanceMethod yX9_families ∈ WT := wt_at 656 (by decide +kernel) (by decide +kernel)
theorem eX9_families : Cond.selects yX9_families.cls yX9_families yX9_families ∈ WT := wt_at 657 (by decide +kernel) (by decide +kernel)
theorem mX9_family : My yX9_family cX9_family 6 (some .int) 3 := ⟨wt_at 640 (by decide +kernel) (by decide +kernel), wt_at 92 (by decide +kernel) (by decide +kernel), by decide, by decide, by decide +kernel⟩
theorem pnX9_family : plainName yX9_family.cls = true := by decide +kernel
theorem iX9_family : Cond.instanceMethod yX9_family ∈ WT := wt_at 638 (by decide +kernel) (by decide +kernel)
theorem eX9_family : Cond.selects yX9_family.cls yX9_family yX9_family ∈ WT := wt_at 639 (by decide +kernel) (by decide +kernel)
theorem mX9_fault : My yX9_fault cX9_fault 1 (some .int) 0 := ⟨wt_at 707 (by decide +kernel) (by decide +kernel), wt_at 92 (by decide +kernel) (by decide +kernel), by decide, by decide, by decide +kernel⟩
theorem pnX9_fault : plainName yX9_fault.cls = true := by decide +kernel
theorem iX9_fault : Cond.instanceMethod yX9_fault ∈ WT := wt_at 705 (by decide +kernel) (by decide +kernel)
theorem eX9_fault : Cond.selects yX9_fault.cls yX9_fault yX9_fault ∈ WT := wt_at 706 (by decide +kernel) (by decide +kernel)
theorem mX9_few : My yX9_few cX9_few 6 (some .long) 5 := ⟨wt_at 579 (by decide +kernel) (by decide +kernel), wt_at 92 (by decide +kernel) (by decide +kernel), by decide, by decide, by decide +kernel⟩
theorem pnX9_few : plainName yX9_few.cls = true := by decide +kernel
theorem iX9_few : Cond.instanceMethod yX9_few ∈ WT := wt_at 577 (by decide +kernel) (by decide +kernel)
theorem eX9_few : Cond.selects yX9_few.cls yX9_few yX9_few ∈ WT := wt_at 578 (by decide +kernel) (by decide +kernel)
theorem mX9_forecast : My yX9_forecast cX9_forecast 1 (some .int) 0 := ⟨wt_at 720 (by decide +kernel) (by decide +kernel), wt_at 92 (by decide +kernel) (by decide +kernel), by decide, by decide, by decide +kernel⟩
theorem pnX9_forecast : plainName yX9_forecast.cls = true := by decide +kernel
theorem iX9_forecast : Cond.instanceMethod yX9_forecast ∈ WT := wt_at 718 (by decide +kernel) (by decide +kernel)
theorem eX9_forecast : Cond.selects yX9_forecast.cls yX9_forecast yX9_forecast ∈ WT := wt_at 719 (by decide +kernel) (by decide +kernel)
theorem mX9_forecastOf : My yX9_forecastOf cX9_forecastOf 2 (some (.object "QuakeLists$Forecast")) 1 := ⟨wt_at 765 (by decide +kernel) (by decide +kernel), wt_at 92 (by decide +kernel) (by decide +kernel), by decide, by decide, by decide +kernel⟩
theorem pnX9_forecastOf : plainName yX9_forecastOf.cls = true := by decide +kernel
theorem iX9_forecastOf : Cond.instanceMethod yX9_forecastOf ∈ WT := wt_at 764 (by decide +kernel) (by decide +kernel)
theorem eX9_forecastOf : Cond.selects yX9_forecastOf.cls yX9_forecastOf yX9_forecastOf ∈ WT := wt_at 38 (by decide +kernel) (by decide +kernel)
theorem mX9_house : My yX9_house cX9_house 6 (some .int) 5 := ⟨wt_at 833 (by decide +kernel) (by decide +kernel), wt_at 92 (by decide +kernel) (by decide +kernel), by decide, by decide, by decide +kernel⟩
theorem pnX9_house : plainName yX9_house.cls = true := by decide +kernel
theorem iX9_house : Cond.instanceMethod yX9_house ∈ WT := wt_at 831 (by decide +kernel) (by decide +kernel)
theorem eX9_house : Cond.selects yX9_house.cls yX9_house yX9_house ∈ WT := wt_at 832 (by decide +kernel) (by decide +kernel)
theorem mX9_howFar : My yX9_howFar cX9_howFar 4 (some .int) 4 := ⟨wt_at 480 (by decide +kernel) (by decide +kernel), wt_at 92 (by decide +kernel) (by decide +kernel), by decide, by decide, by decide +kernel⟩
theorem pnX9_howFar : plainName yX9_howFar.cls = true := by decide +kernel
theorem sX9_howFar : Cond.static yX9_howFar ∈ WT := wt_at 479 (by decide +kernel) (by decide +kernel)
theorem mX9_init : My yX9_init cX9_init 1 none 0 := ⟨wt_at 108 (by decide +kernel) (by decide +kernel), wt_at 92 (by decide +kernel) (by decide +kernel), by decide, by decide, by decide +kernel⟩
theorem pnX9_init : plainName yX9_init.cls = true := by decide +kernel
theorem iX9_init : Cond.instanceMethod yX9_init ∈ WT := wt_at 107 (by decide +kernel) (by decide +kernel)
theorem mX9_isCell : My yX9_isCell cX9_isCell 2 (some .boolean) 2 := ⟨wt_at 393 (by decide +kernel) (by decide +kernel), wt_at 92 (by decide +kernel) (by decide +kernel), by decide, by decide, by decide +kernel⟩
theorem pnX9_isCell : plainName yX9_isCell.cls = true := by decide +kernel
theorem sX9_isCell : Cond.static yX9_isCell ∈ WT := wt_at 392 (by decide +kernel) (by decide +kernel)
theorem mX9_isDay : My yX9_isDay cX9_isDay 1 (some .boolean) 1 := ⟨wt_at 396 (by decide +kernel) (by decide +kernel), wt_at 92 (by decide +kernel) (by decide +kernel), by decide, by decide, by decide +kernel⟩
theorem pnX9_isDay : plainName yX9_isDay.cls = true := by decide +kernel
theorem sX9_isDay : Cond.static yX9_isDay ∈ WT := wt_at 395 (by decide +kernel) (by decide +kernel)
theorem mX9_isGreatness : My yX9_isGreatness cX9_isGreatness 1 (some .boolean) 1 := ⟨wt_at 399 (by decide +kernel) (by decide +kernel), wt_at 92 (by decide +kernel) (by decide +kernel), by decide, by decide, by decide +kernel⟩
theorem pnX9_isGreatness : plainName yX9_isGreatness.cls = true := by decide +kernel
theorem sX9_isGreatness : Cond.static yX9_isGreatness ∈ WT := wt_at 398 (by decide +kernel) (by decide +kernel)
theorem mX9_isList : My yX9_isList cX9_isList 1 (some .boolean) 1 := ⟨wt_at 387 (by decide +kernel) (by decide +kernel), wt_at 92 (by decide +kernel) (by decide +kernel), by decide, by decide, by decide +kernel⟩
theorem pnX9_isList : plainName yX9_isList.cls = true := by decide +kernel
theorem sX9_isList : Cond.static yX9_isList ∈ WT := wt_at 386 (by decide +kernel) (by decide +kernel)
theorem mX9_isListOrAll : My yX9_isListOrAll cX9_isListOrAll 1 (some .boolean) 1 := ⟨wt_at 527 (by decide +kernel) (by decide +kernel), wt_at 92 (by decide +kernel) (by decide +kernel), by decide, by decide, by decide +kernel⟩
theorem pnX9_isListOrAll : plainName yX9_isListOrAll.cls = true := by decide +kernel
theorem sX9_isListOrAll : Cond.static yX9_isListOrAll ∈ WT := wt_at 526 (by decide +kernel) (by decide +kernel)
theorem mX9_isPart : My yX9_isPart cX9_isPart 1 (some .boolean) 1 := ⟨wt_at 551 (by decide +kernel) (by decide +kernel), wt_at 92 (by decide +kernel) (by decide +kernel), by decide, by decide, by decide +kernel⟩
theorem pnX9_isPart : plainName yX9_isPart.cls = true := by decide +kernel
theorem sX9_isPart : Cond.static yX9_isPart ∈ WT := wt_at 550 (by decide +kernel) (by decide +kernel)
theorem mX9_isStretch : My yX9_isStretch cX9_isStretch 2 (some .boolean) 2 := ⟨wt_at 789 (by decide +kernel) (by decide +kernel), wt_at 92 (by decide +kernel) (by decide +kernel), by decide, by decide, by decide +kernel⟩
theorem pnX9_isStretch : plainName yX9_isStretch.cls = true := by decide +kernel
theorem sX9_isStretch : Cond.static yX9_isStretch ∈ WT := wt_at 788 (by decide +kernel) (by decide +kernel)
theorem mX9_join : My yX9_join cX9_join 5 (some .int) 3 := ⟨wt_at 446 (by decide +kernel) (by decide +kernel), wt_at 92 (by decide +kernel) (by decide +kernel), by decide, by decide, by decide +kernel⟩
theorem pnX9_join : plainName yX9_join.cls = true := by decide +kernel
theorem iX9_join : Cond.instanceMethod yX9_join ∈ WT := wt_at 444 (by decide +kernel) (by decide +kernel)
theorem eX9_join : Cond.selects yX9_join.cls yX9_join yX9_join ∈ WT := wt_at 445 (by decide +kernel) (by decide +kernel)
theorem mX9_law : My yX9_law cX9_law 5 (some .int) 4 := ⟨wt_at 873 (by decide +kernel) (by decide +kernel), wt_at 92 (by decide +kernel) (by decide +kernel), by decide, by decide, by decide +kernel⟩
theorem pnX9_law : plainName yX9_law.cls = true := by decide +kernel
theorem iX9_law : Cond.instanceMethod yX9_law ∈ WT := wt_at 871 (by decide +kernel) (by decide +kernel)
theorem eX9_law : Cond.selects yX9_law.cls yX9_law yX9_law ∈ WT := wt_at 872 (by decide +kernel) (by decide +kernel)
theorem mX9_loss : My yX9_loss cX9_loss 2 (some .int) 1 := ⟨wt_at 845 (by decide +kernel) (by decide +kernel), wt_at 92 (by decide +kernel) (by decide +kernel), by decide, by decide, by decide +kernel⟩
theorem pnX9_loss : plainName yX9_loss.cls = true := by decide +kernel
theorem iX9_loss : Cond.instanceMethod yX9_loss ∈ WT := wt_at 843 (by decide +kernel) (by decide +kernel)
theorem eX9_loss : Cond.selects yX9_loss.cls yX9_loss yX9_loss ∈ WT := wt_at 844 (by decide +kernel) (by decide +kernel)
theorem mX9_mean : My yX9_mean cX9_mean 2 (some .long) 1 := ⟨wt_at 893 (by decide +kernel) (by decide +kernel), wt_at 92 (by decide +kernel) (by decide +kernel), by decide, by decide, by decide +kernel⟩
theorem pnX9_mean : plainName yX9_mean.cls = true := by decide +kernel
theorem iX9_mean : Cond.instanceMethod yX9_mean ∈ WT := wt_at 891 (by decide +kernel) (by decide +kernel)
theorem eX9_mean : Cond.selects yX9_mean.cls yX9_mean yX9_mean ∈ WT := wt_at 892 (by decide +kernel) (by decide +kernel)
theorem mX9_mend : My yX9_mend cX9_mend 4 (some .int) 2 := ⟨wt_at 426 (by decide +kernel) (by decide +kernel), wt_at 92 (by decide +kernel) (by decide +kernel), by decide, by decide, by decide +kernel⟩
theorem pnX9_mend : plainName yX9_mend.cls = true := by decide +kernel
theorem iX9_mend : Cond.instanceMethod yX9_mend ∈ WT := wt_at 424 (by decide +kernel) (by decide +kernel)
theorem eX9_mend : Cond.selects yX9_mend.cls yX9_mend yX9_mend ∈ WT := wt_at 425 (by decide +kernel) (by decide +kernel)
theorem mX9_mixed : My yX9_mixed cX9_mixed 7 (some .long) 6 := ⟨wt_at 820 (by decide +kernel) (by decide +kernel), wt_at 92 (by decide +kernel) (by decide +kernel), by decide, by decide, by decide +kernel⟩
theorem pnX9_mixed : plainName yX9_mixed.cls = true := by decide +kernel
theorem iX9_mixed : Cond.instanceMethod yX9_mixed ∈ WT := wt_at 818 (by decide +kernel) (by decide +kernel)
theorem eX9_mixed : Cond.selects yX9_mixed.cls yX9_mixed yX9_mixed ∈ WT := wt_at 819 (by decide +kernel) (by decide +kernel)
theorem mX9_mother : My yX9_mother cX9_mother 4 (some .int) 2 := ⟨wt_at 628 (by decide +kernel) (by decide +kernel), wt_at 92 (by decide +kernel) (by decide +kernel), by decide, by decide, by decide +kernel⟩
theorem pnX9_mother : plainName yX9_mother.cls = true := by decide +kernel
theorem iX9_mother : Cond.instanceMethod yX9_mother ∈ WT := wt_at 626 (by decide +kernel) (by decide +kernel)
theorem eX9_mother : Cond.selects yX9_mother.cls yX9_mother yX9_mother ∈ WT := wt_at 627 (by decide +kernel) (by decide +kernel)
theorem mX9_often : My yX9_often cX9_often 4 (some .int) 3 := ⟨wt_at 524 (by decide +kernel) (by decide +kernel), wt_at 92 (by decide +kernel) (by decide +kernel), by decide, by decide, by decide +kernel⟩
theorem pnX9_often : plainName yX9_often.cls = true := by decide +kernel
theorem iX9_often : Cond.instanceMethod yX9_often ∈ WT := wt_at 522 (by decide +kernel) (by decide +kernel)
theorem eX9_often : Cond.selects yX9_often.cls yX9_often yX9_often ∈ WT := wt_at 523 (by decide +kernel) (by decide +kernel)
theorem mX9_quake : My yX9_quake cX9_quake 7 (some .int) 6 := ⟨wt_at 384 (by decide +kernel) (by decide +kernel), wt_at 92 (by decide +kernel) (by decide +kernel), by decide, by decide, by decide +kernel⟩
theorem pnX9_quake : plainName yX9_quake.cls = true := by decide +kernel
theorem iX9_quake : Cond.instanceMethod yX9_quake ∈ WT := wt_at 382 (by decide +kernel) (by decide +kernel)
theorem eX9_quake : Cond.selects yX9_quake.cls yX9_quake yX9_quake ∈ WT := wt_at 383 (by decide +kernel) (by decide +kernel)
theorem mX9_rate : My yX9_rate cX9_rate 5 (some .int) 4 := ⟨wt_at 683 (by decide +kernel) (by decide +kernel), wt_at 92 (by decide +kernel) (by decide +kernel), by decide, by decide, by decide +kernel⟩
theorem pnX9_rate : plainName yX9_rate.cls = true := by decide +kernel
theorem iX9_rate : Cond.instanceMethod yX9_rate ∈ WT := wt_at 681 (by decide +kernel) (by decide +kernel)
theorem eX9_rate : Cond.selects yX9_rate.cls yX9_rate yX9_rate ∈ WT := wt_at 682 (by decide +kernel) (by decide +kernel)
theorem mX9_refusalOfDaughter : My yX9_refusalOfDaughter cX9_refusalOfDaughter 4 (some .int) 3 := ⟨wt_at 632 (by decide +kernel) (by decide +kernel), wt_at 92 (by decide +kernel) (by decide +kernel), by decide, by decide, by decide +kernel⟩
theorem pnX9_refusalOfDaughter : plainName yX9_refusalOfDaughter.cls = true := by decide +kernel
theorem iX9_refusalOfDaughter : Cond.instanceMethod yX9_refusalOfDaughter ∈ WT := wt_at 631 (by decide +kernel) (by decide +kernel)
theorem eX9_refusalOfDaughter : Cond.selects yX9_refusalOfDaughter.cls yX9_refusalOfDaughter yX9_refusalOfDaughter ∈ WT := wt_at 24 (by decide +kernel) (by decide +kernel)
theorem mX9_say : My yX9_say cX9_say 2 (some .int) 1 := ⟨wt_at 691 (by decide +kernel) (by decide +kernel), wt_at 92 (by decide +kernel) (by decide +kernel), by decide, by decide, by decide +kernel⟩
theorem pnX9_say : plainName yX9_say.cls = true := by decide +kernel
theorem iX9_say : Cond.instanceMethod yX9_say ∈ WT := wt_at 689 (by decide +kernel) (by decide +kernel)
theorem eX9_say : Cond.selects yX9_say.cls yX9_say yX9_say ∈ WT := wt_at 690 (by decide +kernel) (by decide +kernel)
theorem mX9_score : My yX9_score cX9_score 5 (some .long) 4 := ⟨wt_at 782 (by decide +kernel) (by decide +kernel), wt_at 92 (by decide +kernel) (by decide +kernel), by decide, by decide, by decide +kernel⟩
theorem pnX9_score : plainName yX9_score.cls = true := by decide +kernel
theorem iX9_score : Cond.instanceMethod yX9_score ∈ WT := wt_at 780 (by decide +kernel) (by decide +kernel)
theorem eX9_score : Cond.selects yX9_score.cls yX9_score yX9_score ∈ WT := wt_at 781 (by decide +kernel) (by decide +kernel)
theorem mX9_scoreOfMix : My yX9_scoreOfMix cX9_scoreOfMix 9 (some .long) 6 := ⟨wt_at 786 (by decide +kernel) (by decide +kernel), wt_at 92 (by decide +kernel) (by decide +kernel), by decide, by decide, by decide +kernel⟩
theorem pnX9_scoreOfMix : plainName yX9_scoreOfMix.cls = true := by decide +kernel
theorem iX9_scoreOfMix : Cond.instanceMethod yX9_scoreOfMix ∈ WT := wt_at 785 (by decide +kernel) (by decide +kernel)
theorem eX9_scoreOfMix : Cond.selects yX9_scoreOfMix.cls yX9_scoreOfMix yX9_scoreOfMix ∈ WT := wt_at 42 (by decide +kernel) (by decide +kernel)
theorem mX9_set : My yX9_set cX9_set 4 (some .int) 2 := ⟨wt_at 438 (by decide +kernel) (by decide +kernel), wt_at 92 (by decide +kernel) (by decide +kernel), by decide, by decide, by decide +kernel⟩
theorem pnX9_set : plainName yX9_set.cls = true := by decide +kernel
theorem iX9_set : Cond.instanceMethod yX9_set ∈ WT := wt_at 436 (by decide +kernel) (by decide +kernel)
theorem eX9_set : Cond.selects yX9_set.cls yX9_set yX9_set ∈ WT := wt_at 437 (by decide +kernel) (by decide +kernel)
theorem mX9_share : My yX9_share cX9_share 7 (some .long) 4 := ⟨wt_at 598 (by decide +kernel) (by decide +kernel), wt_at 92 (by decide +kernel) (by decide +kernel), by decide, by decide, by decide +kernel⟩
theorem pnX9_share : plainName yX9_share.cls = true := by decide +kernel
theorem iX9_share : Cond.instanceMethod yX9_share ∈ WT := wt_at 596 (by decide +kernel) (by decide +kernel)
theorem eX9_share : Cond.selects yX9_share.cls yX9_share yX9_share ∈ WT := wt_at 597 (by decide +kernel) (by decide +kernel)
theorem mX9_slope : My yX9_slope cX9_slope 7 (some .long) 4 := ⟨wt_at 547 (by decide +kernel) (by decide +kernel), wt_at 92 (by decide +kernel) (by decide +kernel), by decide, by decide, by decide +kernel⟩
theorem pnX9_slope : plainName yX9_slope.cls = true := by decide +kernel
theorem iX9_slope : Cond.instanceMethod yX9_slope ∈ WT := wt_at 545 (by decide +kernel) (by decide +kernel)
theorem eX9_slope : Cond.selects yX9_slope.cls yX9_slope yX9_slope ∈ WT := wt_at 546 (by decide +kernel) (by decide +kernel)
theorem mX9_step : My yX9_step cX9_step 6 (some .int) 3 := ⟨wt_at 590 (by decide +kernel) (by decide +kernel), wt_at 92 (by decide +kernel) (by decide +kernel), by decide, by decide, by decide +kernel⟩
theorem pnX9_step : plainName yX9_step.cls = true := by decide +kernel
theorem iX9_step : Cond.instanceMethod yX9_step ∈ WT := wt_at 588 (by decide +kernel) (by decide +kernel)
theorem eX9_step : Cond.selects yX9_step.cls yX9_step yX9_step ∈ WT := wt_at 589 (by decide +kernel) (by decide +kernel)
theorem mX9_strengthen : My yX9_strengthen cX9_strengthen 2 (some .int) 1 := ⟨wt_at 901 (by decide +kernel) (by decide +kernel), wt_at 92 (by decide +kernel) (by decide +kernel), by decide, by decide, by decide +kernel⟩
theorem pnX9_strengthen : plainName yX9_strengthen.cls = true := by decide +kernel
theorem iX9_strengthen : Cond.instanceMethod yX9_strengthen ∈ WT := wt_at 899 (by decide +kernel) (by decide +kernel)
theorem eX9_strengthen : Cond.selects yX9_strengthen.cls yX9_strengthen yX9_strengthen ∈ WT := wt_at 900 (by decide +kernel) (by decide +kernel)
theorem mX9_tells : My yX9_tells cX9_tells 4 (some .int) 2 := ⟨wt_at 761 (by decide +kernel) (by decide +kernel), wt_at 92 (by decide +kernel) (by decide +kernel), by decide, by decide, by decide +kernel⟩
theorem pnX9_tells : plainName yX9_tells.cls = true := by decide +kernel
theorem iX9_tells : Cond.instanceMethod yX9_tells ∈ WT := wt_at 759 (by decide +kernel) (by decide +kernel)
theorem eX9_tells : Cond.selects yX9_tells.cls yX9_tells yX9_tells ∈ WT := wt_at 760 (by decide +kernel) (by decide +kernel)
theorem mX9_told : My yX9_told cX9_told 2 (some .int) 1 := ⟨wt_at 925 (by decide +kernel) (by decide +kernel), wt_at 92 (by decide +kernel) (by decide +kernel), by decide, by decide, by decide +kernel⟩
theorem pnX9_told : plainName yX9_told.cls = true := by decide +kernel
theorem iX9_told : Cond.instanceMethod yX9_told ∈ WT := wt_at 923 (by decide +kernel) (by decide +kernel)
theorem eX9_told : Cond.selects yX9_told.cls yX9_told yX9_told ∈ WT := wt_at 924 (by decide +kernel) (by decide +kernel)
theorem mX9_whole : My yX9_whole cX9_whole 3 (some .int) 2 := ⟨wt_at 539 (by decide +kernel) (by decide +kernel), wt_at 92 (by decide +kernel) (by decide +kernel), by decide, by decide, by decide +kernel⟩
theorem pnX9_whole : plainName yX9_whole.cls = true := by decide +kernel
theorem iX9_whole : Cond.instanceMethod yX9_whole ∈ WT := wt_at 537 (by decide +kernel) (by decide +kernel)
theorem eX9_whole : Cond.selects yX9_whole.cls yX9_whole yX9_whole ∈ WT := wt_at 538 (by decide +kernel) (by decide +kernel)
theorem mX9_wipe : My yX9_wipe cX9_wipe 2 (some .int) 0 := ⟨wt_at 703 (by decide +kernel) (by decide +kernel), wt_at 92 (by decide +kernel) (by decide +kernel), by decide, by decide, by decide +kernel⟩
theorem pnX9_wipe : plainName yX9_wipe.cls = true := by decide +kernel
theorem iX9_wipe : Cond.instanceMethod yX9_wipe ∈ WT := wt_at 701 (by decide +kernel) (by decide +kernel)
theorem eX9_wipe : Cond.selects yX9_wipe.cls yX9_wipe yX9_wipe ∈ WT := wt_at 702 (by decide +kernel) (by decide +kernel)
theorem mX9_within : My yX9_within cX9_within 3 (some .boolean) 3 := ⟨wt_at 390 (by decide +kernel) (by decide +kernel), wt_at 92 (by decide +kernel) (by decide +kernel), by decide, by decide, by decide +kernel⟩
theorem pnX9_within : plainName yX9_within.cls = true := by decide +kernel
theorem sX9_within : Cond.static yX9_within ∈ WT := wt_at 389 (by decide +kernel) (by decide +kernel)
theorem mX9_worst : My yX9_worst cX9_worst 4 (some .int) 2 := ⟨wt_at 863 (by decide +kernel) (by decide +kernel), wt_at 92 (by decide +kernel) (by decide +kernel), by decide, by decide, by decide +kernel⟩
theorem pnX9_worst : plainName yX9_worst.cls = true := by decide +kernel
theorem iX9_worst : Cond.instanceMethod yX9_worst ∈ WT := wt_at 861 (by decide +kernel) (by decide +kernel)
theorem eX9_worst : Cond.selects yX9_worst.cls yX9_worst yX9_worst ∈ WT := wt_at 862 (by decide +kernel) (by decide +kernel)
theorem oiX9 : Cond.methodLink RX9 1 objectInit ∈ WT := wt_at 109 (by decide +kernel) (by decide +kernel)
theorem lX9_15 : Mlk RX9 15 yX6_init := Or.inr (List.mem_of_getElem? (i := 114) (by decide +kernel))
theorem lX9_22 : Mlk RX9 22 yX3_init := Or.inr (List.mem_of_getElem? (i := 183) (by decide +kernel))
theorem lX9_29 : Mlk RX9 29 yX0_init := Or.inr (List.mem_of_getElem? (i := 237) (by decide +kernel))
theorem lX9_36 : Mlk RX9 36 yX4_init := Or.inr (List.mem_of_getElem? (i := 247) (by decide +kernel))
theorem lX9_43 : Mlk RX9 43 yX8_init := Or.inr (List.mem_of_getElem? (i := 271) (by decide +kernel))
theorem lX9_60 : Mlk RX9 60 yX7_init := Or.inr (List.mem_of_getElem? (i := 287) (by decide +kernel))
theorem lX9_67 : Mlk RX9 67 yX2_init := Or.inr (List.mem_of_getElem? (i := 301) (by decide +kernel))
theorem lX9_72 : Mlk RX9 72 yX9_isList := Or.inl (wt_at 385 (by decide +kernel) (by decide +kernel))
theorem lX9_76 : Mlk RX9 76 yX9_isCell := Or.inl (wt_at 391 (by decide +kernel) (by decide +kernel))
theorem lX9_80 : Mlk RX9 80 yX9_isDay := Or.inl (wt_at 394 (by decide +kernel) (by decide +kernel))
theorem lX9_83 : Mlk RX9 83 yX9_isGreatness := Or.inl (wt_at 397 (by decide +kernel) (by decide +kernel))
theorem lX9_86 : Mlk RX9 86 yX6_isFull := Or.inr (List.mem_of_getElem? (i := 400) (by decide +kernel))
theorem lX9_90 : Mlk RX9 90 yX6_add := Or.inr (List.mem_of_getElem? (i := 404) (by decide +kernel))
theorem lX9_94 : Mlk RX9 94 yX6_has := Or.inr (List.mem_of_getElem? (i := 416) (by decide +kernel))
theorem lX9_101 : Mlk RX9 101 yX9_asNumber := Or.inl (wt_at 420 (by decide +kernel) (by decide +kernel))
theorem lX9_123 : Mlk RX9 123 yX6_placeOf := Or.inr (List.mem_of_getElem? (i := 431) (by decide +kernel))
theorem lX9_127 : Mlk RX9 127 yX9_within := Or.inl (wt_at 388 (by decide +kernel) (by decide +kernel))
theorem lX9_137 : Mlk RX9 137 yX6_howManyIn := Or.inr (List.mem_of_getElem? (i := 447) (by decide +kernel))
theorem lX9_140 : Mlk RX9 140 yX3_pairUp := Or.inr (List.mem_of_getElem? (i := 451) (by decide +kernel))
theorem lX9_150 : Mlk RX9 150 yX3_partnerOf := Or.inr (List.mem_of_getElem? (i := 517) (by decide +kernel))
theorem lX9_153 : Mlk RX9 153 yX9_isListOrAll := Or.inl (wt_at 525 (by decide +kernel) (by decide +kernel))
theorem lX9_156 : Mlk RX9 156 yX0_howMany := Or.inr (List.mem_of_getElem? (i := 528) (by decide +kernel))
theorem lX9_160 : Mlk RX9 160 yX0_commonest := Or.inr (List.mem_of_getElem? (i := 540) (by decide +kernel))
theorem lX9_166 : Mlk RX9 166 yX9_isPart := Or.inl (wt_at 549 (by decide +kernel) (by decide +kernel))
theorem lX9_173 : Mlk RX9 173 yX0_sumAbove := Or.inr (List.mem_of_getElem? (i := 554) (by decide +kernel))
theorem lX9_178 : Mlk RX9 178 yX5_partOf := Or.inr (List.mem_of_getElem? (i := 559) (by decide +kernel))
theorem lX9_184 : Mlk RX9 184 yX5_waysToDeal := Or.inr (List.mem_of_getElem? (i := 569) (by decide +kernel))
theorem lX9_188 : Mlk RX9 188 yX5_choose := Or.inr (List.mem_of_getElem? (i := 575) (by decide +kernel))
theorem lX9_192 : Mlk RX9 192 yX5_waysForFew := Or.inr (List.mem_of_getElem? (i := 580) (by decide +kernel))
theorem lX9_195 : Mlk RX9 195 yX5_power := Or.inr (List.mem_of_getElem? (i := 586) (by decide +kernel))
theorem lX9_198 : Mlk RX9 198 yX4_stepsOf := Or.inr (List.mem_of_getElem? (i := 591) (by decide +kernel))
theorem lX9_202 : Mlk RX9 202 yX6_isCounted := Or.inr (List.mem_of_getElem? (i := 599) (by decide +kernel))
theorem lX9_205 : Mlk RX9 205 yX4_weightIfAhead := Or.inr (List.mem_of_getElem? (i := 600) (by decide +kernel))
theorem lX9_208 : Mlk RX9 208 yX4_allWeights := Or.inr (List.mem_of_getElem? (i := 621) (by decide +kernel))
theorem lX9_211 : Mlk RX9 211 yX9_refusalOfDaughter := Or.inl (wt_at 629 (by decide +kernel) (by decide +kernel))
theorem lX9_215 : Mlk RX9 215 yX4_likeliest := Or.inr (List.mem_of_getElem? (i := 633) (by decide +kernel))
theorem lX9_218 : Mlk RX9 218 yX4_trace := Or.inr (List.mem_of_getElem? (i := 641) (by decide +kernel))
theorem lX9_225 : Mlk RX9 225 yX4_sizeOfFamily := Or.inr (List.mem_of_getElem? (i := 646) (by decide +kernel))
theorem lX9_229 : Mlk RX9 229 yX4_deepestOfFamily := Or.inr (List.mem_of_getElem? (i := 650) (by decide +kernel))
theorem lX9_235 : Mlk RX9 235 yX4_howManyFirst := Or.inr (List.mem_of_getElem? (i := 659) (by decide +kernel))
theorem lX9_239 : Mlk RX9 239 yX4_firstAt := Or.inr (List.mem_of_getElem? (i := 663) (by decide +kernel))
theorem lX9_243 : Mlk RX9 243 yX4_drawn := Or.inr (List.mem_of_getElem? (i := 672) (by decide +kernel))
theorem lX9_247 : Mlk RX9 247 yX4_weightOn := Or.inr (List.mem_of_getElem? (i := 684) (by decide +kernel))
theorem lX9_250 : Mlk RX9 250 yX8_isFull := Or.inr (List.mem_of_getElem? (i := 692) (by decide +kernel))
theorem lX9_251 : Mlk RX9 251 yX8_add := Or.inr (List.mem_of_getElem? (i := 696) (by decide +kernel))
theorem lX9_256 : Mlk RX9 256 yX8_faultyPlace := Or.inr (List.mem_of_getElem? (i := 708) (by decide +kernel))
theorem lX9_260 : Mlk RX9 260 yX8_read := Or.inr (List.mem_of_getElem? (i := 721) (by decide +kernel))
theorem lX9_264 : Mlk RX9 264 yX9_forecastOf := Or.inl (wt_at 762 (by decide +kernel) (by decide +kernel))
theorem lX9_268 : Mlk RX9 268 yX1_toldFor := Or.inr (List.mem_of_getElem? (i := 766) (by decide +kernel))
theorem lX9_271 : Mlk RX9 271 yX9_scoreOfMix := Or.inl (wt_at 783 (by decide +kernel) (by decide +kernel))
theorem lX9_277 : Mlk RX9 277 yX7_leastMix := Or.inr (List.mem_of_getElem? (i := 826) (by decide +kernel))
theorem lX9_283 : Mlk RX9 283 yX2_build := Or.inr (List.mem_of_getElem? (i := 834) (by decide +kernel))
theorem lX9_291 : Mlk RX9 291 yX2_lossByQuake := Or.inr (List.mem_of_getElem? (i := 846) (by decide +kernel))
theorem lX9_294 : Mlk RX9 294 yX2_worstQuake := Or.inr (List.mem_of_getElem? (i := 864) (by decide +kernel))
theorem lX9_300 : Mlk RX9 300 yX2_enact := Or.inr (List.mem_of_getElem? (i := 874) (by decide +kernel))
theorem lX9_304 : Mlk RX9 304 yX2_howOftenAbove := Or.inr (List.mem_of_getElem? (i := 882) (by decide +kernel))
theorem lX9_308 : Mlk RX9 308 yX2_meanLoss := Or.inr (List.mem_of_getElem? (i := 894) (by decide +kernel))
theorem lX9_311 : Mlk RX9 311 yX2_bestHouses := Or.inr (List.mem_of_getElem? (i := 902) (by decide +kernel))
theorem lX9_315 : Mlk RX9 315 yX6_howManyBlasts := Or.inr (List.mem_of_getElem? (i := 926) (by decide +kernel))
theorem lX9_318 : Cond.methodLink RX9 318 yJ9_abs_0f7a4 ∈ WT := wt_at 481 (by decide +kernel) (by decide +kernel)
theorem lX9_323 : Cond.methodLink RX9 323 yJ9_max_7cf53 ∈ WT := wt_at 482 (by decide +kernel) (by decide +kernel)
theorem lX9_326 : Mlk RX9 326 yX9_isStretch := Or.inl (wt_at 787 (by decide +kernel) (by decide +kernel))
theorem lX9_329 : Mlk RX9 329 yX7_work := Or.inr (List.mem_of_getElem? (i := 790) (by decide +kernel))
theorem oiX0 : Cond.methodLink RX0 3 objectInit ∈ WT := wt_at 240 (by decide +kernel) (by decide +kernel)
theorem lX0_21 : Mlk RX0 21 yX6_isCounted := Or.inr (List.mem_of_getElem? (i := 532) (by decide +kernel))
theorem oiX1 : Cond.methodLink RX1 1 objectInit ∈ WT := wt_at 730 (by decide +kernel) (by decide +kernel)
theorem lX1_29 : Mlk RX1 29 yX1_howManyAhead := Or.inl (wt_at 770 (by decide +kernel) (by decide +kernel))
theorem lX1_33 : Cond.methodLink RX1 33 yJ9_min_7cf53 ∈ WT := wt_at 778 (by decide +kernel) (by decide +kernel)
theorem lX1_44 : Mlk RX1 44 yX6_isGreat := Or.inr (List.mem_of_getElem? (i := 774) (by decide +kernel))
theorem oiX2 : Cond.methodLink RX2 3 objectInit ∈ WT := wt_at 304 (by decide +kernel) (by decide +kernel)
theorem lX2_55 : Mlk RX2 55 yX9_howFar := Or.inr (List.mem_of_getElem? (i := 858) (by decide +kernel))
theorem lX2_59 : Cond.methodLink RX2 59 yJ9_max_7cf53 ∈ WT := wt_at 859 (by decide +kernel) (by decide +kernel)
theorem lX2_65 : Mlk RX2 65 yX2_lossOfHouse := Or.inl (wt_at 854 (by decide +kernel) (by decide +kernel))
theorem lX2_80 : Mlk RX2 80 yX2_lossInAll := Or.inl (wt_at 850 (by decide +kernel) (by decide +kernel))
theorem lX2_90 : Mlk RX2 90 yX6_isCounted := Or.inr (List.mem_of_getElem? (i := 868) (by decide +kernel))
theorem lX2_94 : Mlk RX2 94 yX2_lossByQuake := Or.inl (wt_at 869 (by decide +kernel) (by decide +kernel))
theorem lX2_98 : Mlk RX2 98 yX2_lossByLaw := Or.inl (wt_at 886 (by decide +kernel) (by decide +kernel))
theorem lX2_104 : Mlk RX2 104 yX2_gainOf := Or.inl (wt_at 907 (by decide +kernel) (by decide +kernel))
theorem lX2_110 : Mlk RX2 110 yX2_offer := Or.inl (wt_at 912 (by decide +kernel) (by decide +kernel))
theorem lX2_114 : Mlk RX2 114 yJ9_floorMod_f86c9 := Or.inl (wt_at 919 (by decide +kernel) (by decide +kernel))
theorem lX2_118 : Cond.methodLink RX2 118 yJ9_max_f86c9 ∈ WT := wt_at 916 (by decide +kernel) (by decide +kernel)
theorem oiX3 : Cond.methodLink RX3 5 objectInit ∈ WT := wt_at 186 (by decide +kernel) (by decide +kernel)
theorem lX3_59 : Mlk RX3 59 yX3_gather := Or.inl (wt_at 455 (by decide +kernel) (by decide +kernel))
theorem lX3_63 : Mlk RX3 63 yX3_fillCosts := Or.inl (wt_at 458 (by decide +kernel) (by decide +kernel))
theorem lX3_67 : Mlk RX3 67 yX3_clearPrices := Or.inl (wt_at 492 (by decide +kernel) (by decide +kernel))
theorem lX3_70 : Mlk RX3 70 yX3_placeRow := Or.inl (wt_at 496 (by decide +kernel) (by decide +kernel))
theorem lX3_74 : Mlk RX3 74 yX3_sumUp := Or.inl (wt_at 513 (by decide +kernel) (by decide +kernel))
theorem lX3_94 : Mlk RX3 94 yX3_maySame := Or.inl (wt_at 466 (by decide +kernel) (by decide +kernel))
theorem lX3_98 : Mlk RX3 98 yX3_missOf := Or.inl (wt_at 488 (by decide +kernel) (by decide +kernel))
theorem lX3_104 : Mlk RX3 104 yX3_daysApart := Or.inl (wt_at 469 (by decide +kernel) (by decide +kernel))
theorem lX3_107 : Mlk RX3 107 yX3_cellsApart := Or.inl (wt_at 475 (by decide +kernel) (by decide +kernel))
theorem lX3_110 : Mlk RX3 110 yX3_tenthsApart := Or.inl (wt_at 485 (by decide +kernel) (by decide +kernel))
theorem lX3_116 : Cond.methodLink RX3 116 yJ9_abs_0f7a4 ∈ WT := wt_at 472 (by decide +kernel) (by decide +kernel)
theorem lX3_128 : Mlk RX3 128 yX9_howFar := Or.inr (List.mem_of_getElem? (i := 478) (by decide +kernel))
theorem lX3_137 : Mlk RX3 137 yX3_loosen := Or.inl (wt_at 501 (by decide +kernel) (by decide +kernel))
theorem lX3_140 : Mlk RX3 140 yX3_nearest := Or.inl (wt_at 505 (by decide +kernel) (by decide +kernel))
theorem lX3_144 : Mlk RX3 144 yX3_reprice := Or.inl (wt_at 509 (by decide +kernel) (by decide +kernel))
theorem oiX4 : Cond.methodLink RX4 3 objectInit ∈ WT := wt_at 250 (by decide +kernel) (by decide +kernel)
theorem lX4_35 : Mlk RX4 35 yX9_howFar := Or.inr (List.mem_of_getElem? (i := 614) (by decide +kernel))
theorem lX4_39 : Cond.methodLink RX4 39 yJ9_min_7cf53 ∈ WT := wt_at 615 (by decide +kernel) (by decide +kernel)
theorem lX4_51 : Mlk RX4 51 yX4_fadeStep := Or.inl (wt_at 618 (by decide +kernel) (by decide +kernel))
theorem lX4_55 : Mlk RX4 55 yX4_weightAt := Or.inl (wt_at 610 (by decide +kernel) (by decide +kernel))
theorem lX4_59 : Mlk RX4 59 yX6_isCounted := Or.inr (List.mem_of_getElem? (i := 604) (by decide +kernel))
theorem lX4_63 : Mlk RX4 63 yX6_placeOf := Or.inr (List.mem_of_getElem? (i := 605) (by decide +kernel))
theorem lX4_66 : Mlk RX4 66 yX4_weight := Or.inl (wt_at 606 (by decide +kernel) (by decide +kernel))
theorem lX4_77 : Mlk RX4 77 yX4_likeliest := Or.inl (wt_at 645 (by decide +kernel) (by decide +kernel))
theorem lX4_81 : Cond.methodLink RX4 81 yJ9_max_7cf53 ∈ WT := wt_at 654 (by decide +kernel) (by decide +kernel)
theorem lX4_88 : Mlk RX4 88 yX4_allWeights := Or.inl (wt_at 678 (by decide +kernel) (by decide +kernel))
theorem lX5_7 : Mlk RX5 7 yX5_greatestDivisor := Or.inl (wt_at 562 (by decide +kernel) (by decide +kernel))
theorem lX5_13 : Mlk RX5 13 yX5_choose := Or.inl (wt_at 572 (by decide +kernel) (by decide +kernel))
theorem lX5_17 : Mlk RX5 17 yX5_power := Or.inl (wt_at 583 (by decide +kernel) (by decide +kernel))
theorem oiX6 : Cond.methodLink RX6 3 objectInit ∈ WT := wt_at 117 (by decide +kernel) (by decide +kernel)
theorem lX6_41 : Mlk RX6 41 yX6_putInOrder := Or.inl (wt_at 408 (by decide +kernel) (by decide +kernel))
theorem lX6_45 : Mlk RX6 45 yX6_isGreat := Or.inl (wt_at 816 (by decide +kernel) (by decide +kernel))
theorem oiX7 : Cond.methodLink RX7 3 objectInit ∈ WT := wt_at 290 (by decide +kernel) (by decide +kernel)
theorem lX7_19 : Mlk RX7 19 yX7_markStrikes := Or.inl (wt_at 794 (by decide +kernel) (by decide +kernel))
theorem lX7_23 : Mlk RX7 23 yX7_markRules := Or.inl (wt_at 803 (by decide +kernel) (by decide +kernel))
theorem lX7_27 : Mlk RX7 27 yX7_addStretch := Or.inl (wt_at 807 (by decide +kernel) (by decide +kernel))
theorem lX7_37 : Mlk RX7 37 yX6_isGreat := Or.inr (List.mem_of_getElem? (i := 798) (by decide +kernel))
theorem lX7_45 : Mlk RX7 45 yX7_mark := Or.inl (wt_at 799 (by decide +kernel) (by decide +kernel))
theorem lX7_63 : Mlk RX7 63 yX1_toldFor := Or.inr (List.mem_of_getElem? (i := 811) (by decide +kernel))
theorem lX7_67 : Mlk RX7 67 yX6_strikes := Or.inr (List.mem_of_getElem? (i := 812) (by decide +kernel))
theorem oiX8 : Cond.methodLink RX8 3 objectInit ∈ WT := wt_at 274 (by decide +kernel) (by decide +kernel)
theorem lX8_19 : Mlk RX8 19 yX8_isDigit := Or.inl (wt_at 712 (by decide +kernel) (by decide +kernel))
theorem lX8_29 : Mlk RX8 29 yX1_init := Or.inr (List.mem_of_getElem? (i := 727) (by decide +kernel))
theorem lX8_30 : Mlk RX8 30 yX1_take := Or.inr (List.mem_of_getElem? (i := 754) (by decide +kernel))
theorem lL_9 : Mlk RL 9 yX9_init := Or.inl (wt_at 106 (by decide +kernel) (by decide +kernel))
theorem lL_12 : Mlk RL 12 yX10_init := Or.inl (wt_at 932 (by decide +kernel) (by decide +kernel))
theorem lL_13 : Mlk RL 13 yX9_quake := Or.inl (wt_at 381 (by decide +kernel) (by decide +kernel))
theorem lL_17 : Mlk RL 17 yX10_quake := Or.inl (wt_at 1040 (by decide +kernel) (by decide +kernel))
theorem lL_18 : Mlk RL 18 yX9_blast := Or.inl (wt_at 412 (by decide +kernel) (by decide +kernel))
theorem lL_22 : Mlk RL 22 yX10_blast := Or.inl (wt_at 1063 (by decide +kernel) (by decide +kernel))
theorem lL_23 : Mlk RL 23 yX9_mend := Or.inl (wt_at 423 (by decide +kernel) (by decide +kernel))
theorem lL_27 : Mlk RL 27 yX10_mend := Or.inl (wt_at 1071 (by decide +kernel) (by decide +kernel))
theorem lL_28 : Mlk RL 28 yX9_about := Or.inl (wt_at 427 (by decide +kernel) (by decide +kernel))
theorem lL_31 : Mlk RL 31 yX10_about := Or.inl (wt_at 1075 (by decide +kernel) (by decide +kernel))
theorem lL_32 : Mlk RL 32 yX9_set := Or.inl (wt_at 435 (by decide +kernel) (by decide +kernel))
theorem lL_35 : Mlk RL 35 yX10_set := Or.inl (wt_at 1083 (by decide +kernel) (by decide +kernel))
theorem lL_36 : Mlk RL 36 yX9_join := Or.inl (wt_at 443 (by decide +kernel) (by decide +kernel))
theorem lL_40 : Mlk RL 40 yX10_join := Or.inl (wt_at 1092 (by decide +kernel) (by decide +kernel))
theorem lL_41 : Mlk RL 41 yX9_often := Or.inl (wt_at 521 (by decide +kernel) (by decide +kernel))
theorem lL_44 : Mlk RL 44 yX10_often := Or.inl (wt_at 1118 (by decide +kernel) (by decide +kernel))
theorem lL_45 : Mlk RL 45 yX9_whole := Or.inl (wt_at 536 (by decide +kernel) (by decide +kernel))
theorem lL_48 : Mlk RL 48 yX10_whole := Or.inl (wt_at 1134 (by decide +kernel) (by decide +kernel))
theorem lL_49 : Mlk RL 49 yX9_slope := Or.inl (wt_at 544 (by decide +kernel) (by decide +kernel))
theorem lL_53 : Mlk RL 53 yX10_slope := Or.inl (wt_at 1138 (by decide +kernel) (by decide +kernel))
theorem lL_54 : Mlk RL 54 yX9_alike := Or.inl (wt_at 565 (by decide +kernel) (by decide +kernel))
theorem lL_57 : Mlk RL 57 yX10_alike := Or.inl (wt_at 1151 (by decide +kernel) (by decide +kernel))
theorem lL_58 : Mlk RL 58 yX9_few := Or.inl (wt_at 576 (by decide +kernel) (by decide +kernel))
theorem lL_62 : Mlk RL 62 yX10_few := Or.inl (wt_at 1158 (by decide +kernel) (by decide +kernel))
theorem lL_63 : Mlk RL 63 yX9_step := Or.inl (wt_at 587 (by decide +kernel) (by decide +kernel))
theorem lL_66 : Mlk RL 66 yX10_step := Or.inl (wt_at 1167 (by decide +kernel) (by decide +kernel))
theorem lL_67 : Mlk RL 67 yX9_share := Or.inl (wt_at 595 (by decide +kernel) (by decide +kernel))
theorem lL_70 : Mlk RL 70 yX10_share := Or.inl (wt_at 1173 (by decide +kernel) (by decide +kernel))
theorem lL_71 : Mlk RL 71 yX9_mother := Or.inl (wt_at 625 (by decide +kernel) (by decide +kernel))
theorem lL_74 : Mlk RL 74 yX10_mother := Or.inl (wt_at 1200 (by decide +kernel) (by decide +kernel))
theorem lL_75 : Mlk RL 75 yX9_family := Or.inl (wt_at 637 (by decide +kernel) (by decide +kernel))
theorem lL_78 : Mlk RL 78 yX10_family := Or.inl (wt_at 1212 (by decide +kernel) (by decide +kernel))
theorem lL_79 : Mlk RL 79 yX9_families := Or.inl (wt_at 655 (by decide +kernel) (by decide +kernel))
theorem lL_82 : Mlk RL 82 yX10_families := Or.inl (wt_at 1225 (by decide +kernel) (by decide +kernel))
theorem lL_83 : Mlk RL 83 yX9_draw := Or.inl (wt_at 667 (by decide +kernel) (by decide +kernel))
theorem lL_86 : Mlk RL 86 yX10_draw := Or.inl (wt_at 1229 (by decide +kernel) (by decide +kernel))
theorem lL_87 : Mlk RL 87 yX9_rate := Or.inl (wt_at 680 (by decide +kernel) (by decide +kernel))
theorem lL_91 : Mlk RL 91 yX10_rate := Or.inl (wt_at 1240 (by decide +kernel) (by decide +kernel))
theorem lL_92 : Mlk RL 92 yX9_say := Or.inl (wt_at 688 (by decide +kernel) (by decide +kernel))
theorem lL_96 : Mlk RL 96 yX10_say := Or.inl (wt_at 1244 (by decide +kernel) (by decide +kernel))
theorem lL_97 : Mlk RL 97 yX9_wipe := Or.inl (wt_at 700 (by decide +kernel) (by decide +kernel))
theorem lL_101 : Mlk RL 101 yX10_wipe := Or.inl (wt_at 1250 (by decide +kernel) (by decide +kernel))
theorem lL_102 : Mlk RL 102 yX9_fault := Or.inl (wt_at 704 (by decide +kernel) (by decide +kernel))
theorem lL_105 : Mlk RL 105 yX10_fault := Or.inl (wt_at 1254 (by decide +kernel) (by decide +kernel))
theorem lL_106 : Mlk RL 106 yX9_forecast := Or.inl (wt_at 717 (by decide +kernel) (by decide +kernel))
theorem lL_109 : Mlk RL 109 yX10_forecast := Or.inl (wt_at 1266 (by decide +kernel) (by decide +kernel))
theorem lL_110 : Mlk RL 110 yX9_tells := Or.inl (wt_at 758 (by decide +kernel) (by decide +kernel))
theorem lL_113 : Mlk RL 113 yX10_tells := Or.inl (wt_at 1271 (by decide +kernel) (by decide +kernel))
theorem lL_114 : Mlk RL 114 yX9_score := Or.inl (wt_at 779 (by decide +kernel) (by decide +kernel))
theorem lL_117 : Mlk RL 117 yX10_score := Or.inl (wt_at 1287 (by decide +kernel) (by decide +kernel))
theorem lL_118 : Mlk RL 118 yX9_mixed := Or.inl (wt_at 817 (by decide +kernel) (by decide +kernel))
theorem lL_122 : Mlk RL 122 yX10_mixed := Or.inl (wt_at 1303 (by decide +kernel) (by decide +kernel))
theorem lL_123 : Mlk RL 123 yX9_best := Or.inl (wt_at 821 (by decide +kernel) (by decide +kernel))
theorem lL_127 : Mlk RL 127 yX10_best := Or.inl (wt_at 1308 (by decide +kernel) (by decide +kernel))
theorem lL_128 : Mlk RL 128 yX9_house := Or.inl (wt_at 830 (by decide +kernel) (by decide +kernel))
theorem lL_131 : Mlk RL 131 yX10_house := Or.inl (wt_at 1312 (by decide +kernel) (by decide +kernel))
theorem lL_132 : Mlk RL 132 yX9_damage := Or.inl (wt_at 838 (by decide +kernel) (by decide +kernel))
theorem lL_135 : Mlk RL 135 yX10_damage := Or.inl (wt_at 1317 (by decide +kernel) (by decide +kernel))
theorem lL_136 : Mlk RL 136 yX9_loss := Or.inl (wt_at 842 (by decide +kernel) (by decide +kernel))
theorem lL_139 : Mlk RL 139 yX10_loss := Or.inl (wt_at 1321 (by decide +kernel) (by decide +kernel))
theorem lL_140 : Mlk RL 140 yX9_worst := Or.inl (wt_at 860 (by decide +kernel) (by decide +kernel))
theorem lL_143 : Mlk RL 143 yX10_worst := Or.inl (wt_at 1333 (by decide +kernel) (by decide +kernel))
theorem lL_144 : Mlk RL 144 yX9_law := Or.inl (wt_at 870 (by decide +kernel) (by decide +kernel))
theorem lL_147 : Mlk RL 147 yX10_law := Or.inl (wt_at 1337 (by decide +kernel) (by decide +kernel))
theorem lL_148 : Mlk RL 148 yX9_curve := Or.inl (wt_at 878 (by decide +kernel) (by decide +kernel))
theorem lL_151 : Mlk RL 151 yX10_curve := Or.inl (wt_at 1341 (by decide +kernel) (by decide +kernel))
theorem lL_152 : Mlk RL 152 yX9_mean := Or.inl (wt_at 890 (by decide +kernel) (by decide +kernel))
theorem lL_156 : Mlk RL 156 yX10_mean := Or.inl (wt_at 1349 (by decide +kernel) (by decide +kernel))
theorem lL_157 : Mlk RL 157 yX9_strengthen := Or.inl (wt_at 898 (by decide +kernel) (by decide +kernel))
theorem lL_160 : Mlk RL 160 yX10_strengthen := Or.inl (wt_at 1357 (by decide +kernel) (by decide +kernel))
theorem lL_161 : Mlk RL 161 yX9_told := Or.inl (wt_at 922 (by decide +kernel) (by decide +kernel))
theorem lL_164 : Mlk RL 164 yX10_told := Or.inl (wt_at 1366 (by decide +kernel) (by decide +kernel))
theorem oiX10 : Cond.methodLink RX10 1 objectInit ∈ WT := wt_at 935 (by decide +kernel) (by decide +kernel)
theorem lX10_100 : Mlk RX10 100 yX10_in := Or.inl (wt_at 1048 (by decide +kernel) (by decide +kernel))
theorem lX10_112 : Mlk RX10 112 yX10_isList := Or.inl (wt_at 1044 (by decide +kernel) (by decide +kernel))
theorem lX10_116 : Mlk RX10 116 yX10_isCell := Or.inl (wt_at 1051 (by decide +kernel) (by decide +kernel))
theorem lX10_120 : Mlk RX10 120 yX10_isDay := Or.inl (wt_at 1055 (by decide +kernel) (by decide +kernel))
theorem lX10_123 : Mlk RX10 123 yX10_isGreat := Or.inl (wt_at 1059 (by decide +kernel) (by decide +kernel))
theorem lX10_126 : Mlk RX10 126 yX10_isQuake := Or.inl (wt_at 1067 (by decide +kernel) (by decide +kernel))
theorem lX10_129 : Mlk RX10 129 yX10_placeOf := Or.inl (wt_at 1079 (by decide +kernel) (by decide +kernel))
theorem lX10_136 : Mlk RX10 136 yX10_mostOf := Or.inl (wt_at 1088 (by decide +kernel) (by decide +kernel))
theorem lX10_139 : Mlk RX10 139 yX10_size := Or.inl (wt_at 1112 (by decide +kernel) (by decide +kernel))
theorem lX10_142 : Mlk RX10 142 yX10_far := Or.inl (wt_at 1115 (by decide +kernel) (by decide +kernel))
theorem lX10_146 : Mlk RX10 146 yX10_missOf := Or.inl (wt_at 1108 (by decide +kernel) (by decide +kernel))
theorem lX10_156 : Mlk RX10 156 yX10_joinBy := Or.inl (wt_at 1104 (by decide +kernel) (by decide +kernel))
theorem lX10_160 : Mlk RX10 160 yX10_listed := Or.inl (wt_at 1096 (by decide +kernel) (by decide +kernel))
theorem lX10_164 : Mlk RX10 164 yX10_findJoins := Or.inl (wt_at 1100 (by decide +kernel) (by decide +kernel))
theorem lX10_167 : Mlk RX10 167 yX10_isCounted := Or.inl (wt_at 1130 (by decide +kernel) (by decide +kernel))
theorem lX10_173 : Mlk RX10 173 yX10_mayList := Or.inl (wt_at 1122 (by decide +kernel) (by decide +kernel))
theorem lX10_176 : Mlk RX10 176 yX10_countOf := Or.inl (wt_at 1126 (by decide +kernel) (by decide +kernel))
theorem lX10_181 : Mlk RX10 181 yX10_isPart := Or.inl (wt_at 1143 (by decide +kernel) (by decide +kernel))
theorem lX10_188 : Mlk RX10 188 yX10_lowest := Or.inl (wt_at 1148 (by decide +kernel) (by decide +kernel))
theorem lX10_192 : Mlk RX10 192 yX10_choose := Or.inl (wt_at 1155 (by decide +kernel) (by decide +kernel))
theorem lX10_200 : Mlk RX10 200 yX10_power := Or.inl (wt_at 1164 (by decide +kernel) (by decide +kernel))
theorem lX10_208 : Mlk RX10 208 yX10_dayStep := Or.inl (wt_at 1193 (by decide +kernel) (by decide +kernel))
theorem lX10_211 : Mlk RX10 211 yX10_weigh := Or.inl (wt_at 1189 (by decide +kernel) (by decide +kernel))
theorem lX10_214 : Mlk RX10 214 yX10_isAhead := Or.inl (wt_at 1181 (by decide +kernel) (by decide +kernel))
theorem lX10_217 : Mlk RX10 217 yX10_mayBear := Or.inl (wt_at 1177 (by decide +kernel) (by decide +kernel))
theorem lX10_220 : Mlk RX10 220 yX10_weightOf := Or.inl (wt_at 1185 (by decide +kernel) (by decide +kernel))
theorem lX10_223 : Mlk RX10 223 yX10_allWeights := Or.inl (wt_at 1196 (by decide +kernel) (by decide +kernel))
theorem lX10_226 : Mlk RX10 226 yX10_whyNot := Or.inl (wt_at 1204 (by decide +kernel) (by decide +kernel))
theorem lX10_229 : Mlk RX10 229 yX10_motherOf := Or.inl (wt_at 1208 (by decide +kernel) (by decide +kernel))
theorem lX10_234 : Mlk RX10 234 yX10_firstOf := Or.inl (wt_at 1217 (by decide +kernel) (by decide +kernel))
theorem lX10_237 : Mlk RX10 237 yX10_depthOf := Or.inl (wt_at 1221 (by decide +kernel) (by decide +kernel))
theorem lX10_246 : Mlk RX10 246 yX10_drawnFor := Or.inl (wt_at 1236 (by decide +kernel) (by decide +kernel))
theorem lX10_258 : Mlk RX10 258 yX10_isDigit := Or.inl (wt_at 1258 (by decide +kernel) (by decide +kernel))
theorem lX10_261 : Mlk RX10 261 yX10_markOf := Or.inl (wt_at 1263 (by decide +kernel) (by decide +kernel))
theorem lX10_267 : Mlk RX10 267 yX10_fault := Or.inl (wt_at 1270 (by decide +kernel) (by decide +kernel))
theorem lX10_271 : Mlk RX10 271 yX10_manyAhead := Or.inl (wt_at 1283 (by decide +kernel) (by decide +kernel))
theorem lX10_274 : Mlk RX10 274 yX10_isForecast := Or.inl (wt_at 1275 (by decide +kernel) (by decide +kernel))
theorem lX10_277 : Mlk RX10 277 yX10_toldFor := Or.inl (wt_at 1279 (by decide +kernel) (by decide +kernel))
theorem lX10_280 : Mlk RX10 280 yX10_hasQuake := Or.inl (wt_at 1298 (by decide +kernel) (by decide +kernel))
theorem lX10_285 : Mlk RX10 285 yX10_areDays := Or.inl (wt_at 1291 (by decide +kernel) (by decide +kernel))
theorem lX10_288 : Mlk RX10 288 yX10_scoreOf := Or.inl (wt_at 1294 (by decide +kernel) (by decide +kernel))
theorem lX10_299 : Mlk RX10 299 yX10_lossBy := Or.inl (wt_at 1329 (by decide +kernel) (by decide +kernel))
theorem lX10_302 : Mlk RX10 302 yX10_lossOf := Or.inl (wt_at 1325 (by decide +kernel) (by decide +kernel))
theorem lX10_308 : Mlk RX10 308 yX10_lawLoss := Or.inl (wt_at 1345 (by decide +kernel) (by decide +kernel))
theorem lX10_311 : Mlk RX10 311 yX10_meanOf := Or.inl (wt_at 1353 (by decide +kernel) (by decide +kernel))
theorem lX10_317 : Mlk RX10 317 yX10_priceOf := Or.inl (wt_at 1362 (by decide +kernel) (by decide +kernel))
theorem oinst : Cond.instanceMethod objectInit ∈ WT := wt_at 110 (by decide +kernel) (by decide +kernel)
theorem ocode : Cond.code objectInit ⟨#[0xb1]⟩ 1 none ∈ WT := wt_at 111 (by decide +kernel) (by decide +kernel)
theorem kX9_164 : Cond.constantLong RX9 164 (Int64.ofInt (-1000000000000000001)) ∈ WT := wt_at 548 (by decide +kernel) (by decide +kernel)
theorem kX9_169 : Cond.constantLong RX9 169 (Int64.ofInt (-1000000000000000002)) ∈ WT := wt_at 552 (by decide +kernel) (by decide +kernel)
theorem kX9_171 : Cond.constantLong RX9 171 (Int64.ofInt (-1000000000000000003)) ∈ WT := wt_at 553 (by decide +kernel) (by decide +kernel)
theorem kX9_176 : Cond.constantLong RX9 176 (Int64.ofInt (2)) ∈ WT := wt_at 558 (by decide +kernel) (by decide +kernel)
theorem kX9_242 : Cond.constant RX9 242 (Int32.ofInt (1000000)) ∈ WT := wt_at 671 (by decide +kernel) (by decide +kernel)
theorem kX9_275 : Cond.constantLong RX9 275 (Int64.ofInt (-1000000000000000000)) ∈ WT := wt_at 825 (by decide +kernel) (by decide +kernel)
theorem kX2_102 : Cond.constantLong RX2 102 (Int64.ofInt (4096)) ∈ WT := wt_at 906 (by decide +kernel) (by decide +kernel)
theorem kX2_108 : Cond.constantLong RX2 108 (Int64.ofInt (8388608)) ∈ WT := wt_at 911 (by decide +kernel) (by decide +kernel)
theorem kX3_86 : Cond.constantLong RX3 86 (Int64.ofInt (23298085122481)) ∈ WT := wt_at 462 (by decide +kernel) (by decide +kernel)
theorem kX3_88 : Cond.constantLong RX3 88 (Int64.ofInt (13)) ∈ WT := wt_at 463 (by decide +kernel) (by decide +kernel)
theorem kX3_90 : Cond.constantLong RX3 90 (Int64.ofInt (23298085122481000)) ∈ WT := wt_at 464 (by decide +kernel) (by decide +kernel)
theorem kX3_92 : Cond.constantLong RX3 92 (Int64.ofInt (12)) ∈ WT := wt_at 465 (by decide +kernel) (by decide +kernel)
theorem kX3_102 : Cond.constantLong RX3 102 (Int64.ofInt (1000000000000000000)) ∈ WT := wt_at 491 (by decide +kernel) (by decide +kernel)
theorem kX3_135 : Cond.constantLong RX3 135 (Int64.ofInt (4000000000000000000)) ∈ WT := wt_at 500 (by decide +kernel) (by decide +kernel)
theorem kX4_84 : Cond.constantLong RX4 84 (Int64.ofInt (16807)) ∈ WT := wt_at 676 (by decide +kernel) (by decide +kernel)
theorem kX4_86 : Cond.constantLong RX4 86 (Int64.ofInt (2147483647)) ∈ WT := wt_at 677 (by decide +kernel) (by decide +kernel)
theorem kX4_91 : Cond.constantLong RX4 91 (Int64.ofInt (-1)) ∈ WT := wt_at 679 (by decide +kernel) (by decide +kernel)
theorem kX10_44 : Cond.constant RX10 44 (Int32.ofInt (53248)) ∈ WT := wt_at 936 (by decide +kernel) (by decide +kernel)
theorem kX10_104 : Cond.constantLong RX10 104 (Int64.ofInt (15)) ∈ WT := wt_at 1054 (by decide +kernel) (by decide +kernel)
theorem kX10_106 : Cond.constantLong RX10 106 (Int64.ofInt (3999)) ∈ WT := wt_at 1058 (by decide +kernel) (by decide +kernel)
theorem kX10_108 : Cond.constantLong RX10 108 (Int64.ofInt (90)) ∈ WT := wt_at 1062 (by decide +kernel) (by decide +kernel)
theorem kX10_110 : Cond.constantLong RX10 110 (Int64.ofInt (2)) ∈ WT := wt_at 1047 (by decide +kernel) (by decide +kernel)
theorem kX10_133 : Cond.constant RX10 133 (Int32.ofInt (100000)) ∈ WT := wt_at 1091 (by decide +kernel) (by decide +kernel)
theorem kX10_134 : Cond.constantLong RX10 134 (Int64.ofInt (4)) ∈ WT := wt_at 1087 (by decide +kernel) (by decide +kernel)
theorem kX10_171 : Cond.constantLong RX10 171 (Int64.ofInt (-1)) ∈ WT := wt_at 1125 (by decide +kernel) (by decide +kernel)
theorem kX10_179 : Cond.constantLong RX10 179 (Int64.ofInt (-1000000000000000001)) ∈ WT := wt_at 1142 (by decide +kernel) (by decide +kernel)
theorem kX10_184 : Cond.constantLong RX10 184 (Int64.ofInt (-1000000000000000002)) ∈ WT := wt_at 1146 (by decide +kernel) (by decide +kernel)
theorem kX10_186 : Cond.constantLong RX10 186 (Int64.ofInt (-1000000000000000003)) ∈ WT := wt_at 1147 (by decide +kernel) (by decide +kernel)
theorem kX10_196 : Cond.constantLong RX10 196 (Int64.ofInt (8)) ∈ WT := wt_at 1162 (by decide +kernel) (by decide +kernel)
theorem kX10_198 : Cond.constantLong RX10 198 (Int64.ofInt (100)) ∈ WT := wt_at 1163 (by decide +kernel) (by decide +kernel)
theorem kX10_204 : Cond.constantLong RX10 204 (Int64.ofInt (9)) ∈ WT := wt_at 1171 (by decide +kernel) (by decide +kernel)
theorem kX10_206 : Cond.constantLong RX10 206 (Int64.ofInt (7)) ∈ WT := wt_at 1172 (by decide +kernel) (by decide +kernel)
theorem kX10_232 : Cond.constantLong RX10 232 (Int64.ofInt (3)) ∈ WT := wt_at 1216 (by decide +kernel) (by decide +kernel)
theorem kX10_240 : Cond.constantLong RX10 240 (Int64.ofInt (1000000)) ∈ WT := wt_at 1233 (by decide +kernel) (by decide +kernel)
theorem kX10_242 : Cond.constantLong RX10 242 (Int64.ofInt (16807)) ∈ WT := wt_at 1234 (by decide +kernel) (by decide +kernel)
theorem kX10_244 : Cond.constantLong RX10 244 (Int64.ofInt (2147483647)) ∈ WT := wt_at 1235 (by decide +kernel) (by decide +kernel)
theorem kX10_250 : Cond.constantLong RX10 250 (Int64.ofInt (33)) ∈ WT := wt_at 1248 (by decide +kernel) (by decide +kernel)
theorem kX10_252 : Cond.constantLong RX10 252 (Int64.ofInt (126)) ∈ WT := wt_at 1249 (by decide +kernel) (by decide +kernel)
theorem kX10_254 : Cond.constantLong RX10 254 (Int64.ofInt (48)) ∈ WT := wt_at 1261 (by decide +kernel) (by decide +kernel)
theorem kX10_256 : Cond.constantLong RX10 256 (Int64.ofInt (57)) ∈ WT := wt_at 1262 (by decide +kernel) (by decide +kernel)
theorem kX10_283 : Cond.constantLong RX10 283 (Int64.ofInt (1000)) ∈ WT := wt_at 1302 (by decide +kernel) (by decide +kernel)
theorem kX10_292 : Cond.constantLong RX10 292 (Int64.ofInt (10)) ∈ WT := wt_at 1307 (by decide +kernel) (by decide +kernel)
theorem kX10_294 : Cond.constantLong RX10 294 (Int64.ofInt (10000)) ∈ WT := wt_at 1316 (by decide +kernel) (by decide +kernel)
theorem kX10_315 : Cond.constantLong RX10 315 (Int64.ofInt (500)) ∈ WT := wt_at 1361 (by decide +kernel) (by decide +kernel)
theorem kX10_320 : Cond.constantLong RX10 320 (Int64.ofInt (14)) ∈ WT := wt_at 1370 (by decide +kernel) (by decide +kernel)
theorem ii8 : Cond.initialized "QuakeLists" ∈ WT := wt_at 92 (by decide +kernel) (by decide +kernel)
theorem ii5 : Cond.initialized "QuakeLists$Quakes" ∈ WT := wt_at 93 (by decide +kernel) (by decide +kernel)
theorem ii3 : Cond.initialized "QuakeLists$Joining" ∈ WT := wt_at 94 (by decide +kernel) (by decide +kernel)
theorem ii0 : Cond.initialized "QuakeLists$Counts" ∈ WT := wt_at 95 (by decide +kernel) (by decide +kernel)
theorem ii4 : Cond.initialized "QuakeLists$Mothers" ∈ WT := wt_at 96 (by decide +kernel) (by decide +kernel)
theorem ii7 : Cond.initialized "QuakeLists$Signs" ∈ WT := wt_at 97 (by decide +kernel) (by decide +kernel)
theorem ii6 : Cond.initialized "QuakeLists$Scores" ∈ WT := wt_at 98 (by decide +kernel) (by decide +kernel)
theorem ii2 : Cond.initialized "QuakeLists$Ground" ∈ WT := wt_at 99 (by decide +kernel) (by decide +kernel)
theorem ii9 : Cond.initialized "QuakeListsModel" ∈ WT := wt_at 100 (by decide +kernel) (by decide +kernel)
theorem ii1 : Cond.initialized "QuakeLists$Forecast" ∈ WT := wt_at 103 (by decide +kernel) (by decide +kernel)
theorem clL_7 : Cond.classLink RL 7 "QuakeLists" ∈ WT := wt_at 104 (by decide +kernel) (by decide +kernel)
theorem ia8 : Cond.instantiable "QuakeLists" 10 ∈ WT := wt_at 105 (by decide +kernel) (by decide +kernel)
theorem clX9_13 : Cond.classLink RX9 13 "QuakeLists$Quakes" ∈ WT := wt_at 112 (by decide +kernel) (by decide +kernel)
theorem ia5 : Cond.instantiable "QuakeLists$Quakes" 9 ∈ WT := wt_at 113 (by decide +kernel) (by decide +kernel)
theorem ac_int : Cond.arrayClass .int ∈ WT := wt_at 179 (by decide +kernel) (by decide +kernel)
theorem ac_boolean : Cond.arrayClass .boolean ∈ WT := wt_at 180 (by decide +kernel) (by decide +kernel)
theorem clX9_20 : Cond.classLink RX9 20 "QuakeLists$Joining" ∈ WT := wt_at 181 (by decide +kernel) (by decide +kernel)
theorem ia3 : Cond.instantiable "QuakeLists$Joining" 14 ∈ WT := wt_at 182 (by decide +kernel) (by decide +kernel)
theorem clX3_34 : Cond.classLink RX3 34 "[[J" ∈ WT := wt_at 187 (by decide +kernel) (by decide +kernel)
theorem ac_long : Cond.arrayClass .long ∈ WT := wt_at 234 (by decide +kernel) (by decide +kernel)
theorem clX9_27 : Cond.classLink RX9 27 "QuakeLists$Counts" ∈ WT := wt_at 235 (by decide +kernel) (by decide +kernel)
theorem ia0 : Cond.instantiable "QuakeLists$Counts" 1 ∈ WT := wt_at 236 (by decide +kernel) (by decide +kernel)
theorem clX9_34 : Cond.classLink RX9 34 "QuakeLists$Mothers" ∈ WT := wt_at 245 (by decide +kernel) (by decide +kernel)
theorem ia4 : Cond.instantiable "QuakeLists$Mothers" 5 ∈ WT := wt_at 246 (by decide +kernel) (by decide +kernel)
theorem clX9_41 : Cond.classLink RX9 41 "QuakeLists$Signs" ∈ WT := wt_at 269 (by decide +kernel) (by decide +kernel)
theorem ia7 : Cond.instantiable "QuakeLists$Signs" 2 ∈ WT := wt_at 270 (by decide +kernel) (by decide +kernel)
theorem clX9_48 : Cond.classLink RX9 48 "QuakeLists$Forecast" ∈ WT := wt_at 283 (by decide +kernel) (by decide +kernel)
theorem clX9_58 : Cond.classLink RX9 58 "QuakeLists$Scores" ∈ WT := wt_at 285 (by decide +kernel) (by decide +kernel)
theorem ia6 : Cond.instantiable "QuakeLists$Scores" 2 ∈ WT := wt_at 286 (by decide +kernel) (by decide +kernel)
theorem clX9_65 : Cond.classLink RX9 65 "QuakeLists$Ground" ∈ WT := wt_at 299 (by decide +kernel) (by decide +kernel)
theorem ia2 : Cond.instantiable "QuakeLists$Ground" 13 ∈ WT := wt_at 300 (by decide +kernel) (by decide +kernel)
theorem clX2_31 : Cond.classLink RX2 31 "[[I" ∈ WT := wt_at 305 (by decide +kernel) (by decide +kernel)
theorem clX8_27 : Cond.classLink RX8 27 "QuakeLists$Forecast" ∈ WT := wt_at 725 (by decide +kernel) (by decide +kernel)
theorem ia1 : Cond.instantiable "QuakeLists$Forecast" 6 ∈ WT := wt_at 726 (by decide +kernel) (by decide +kernel)
theorem clL_10 : Cond.classLink RL 10 "QuakeListsModel" ∈ WT := wt_at 930 (by decide +kernel) (by decide +kernel)
theorem ia9 : Cond.instantiable "QuakeListsModel" 34 ∈ WT := wt_at 931 (by decide +kernel) (by decide +kernel)
theorem ac_char : Cond.arrayClass .char ∈ WT := wt_at 1371 (by decide +kernel) (by decide +kernel)
end
section
/-! the quakes' cells in the class: n quakes; q 0 list, 1 day, 2 x, 3 y, 4 greatness, 5 told, 6 blast; o the order -/
def isQ (h : Nat → Option PC) (n : Nat) (q : Nat → Nat → Int) (o : Nat → Nat) : Prop :=
  h 2 = some (oO 5 [zI ((n : Nat) : Int), zR 3, zR 4, zR 5, zR 6, zR 7, zR 8, zR 9, zR 10]) ∧ h 3 = some (oA 0 40 (q 0)) ∧ h 4 = some (oA 0 40 (q 1)) ∧ h 5 = some (oA 0 40 (q 2)) ∧ h 6 = some (oA 0 40 (q 3)) ∧ h 7 = some (oA 0 40 (q 4)) ∧ h 8 = some (oA 0 40 (q 5)) ∧ h 9 = some (oA 1 40 (q 6)) ∧ h 10 = some (oA 0 40 (fun p => ((o p : Nat) : Int)))
/-- what holds of every quake -/
def okJ (q : Nat → Nat → Int) (j : Nat) : Prop := (0 ≤ q 0 j ∧ q 0 j ≤ 2) ∧ (0 ≤ q 1 j ∧ q 1 j ≤ 3999) ∧ (0 ≤ q 2 j ∧ q 2 j ≤ 15) ∧ (0 ≤ q 3 j ∧ q 3 j ≤ 15) ∧ (0 ≤ q 4 j ∧ q 4 j ≤ 90) ∧ (q 1 j ≤ q 5 j ∧ q 5 j ≤ 3999) ∧ (q 6 j = 0 ∨ q 6 j = 1)
/-- i stands ahead of j -/
def ahd (q : Nat → Nat → Int) (i j : Nat) : Prop := q 1 i < q 1 j ∨ (q 1 i = q 1 j ∧ i < j)
/-- the order: every place holds a quake, places are apart, and by days, then numbers -/
def okO (n : Nat) (q : Nat → Nat → Int) (o : Nat → Nat) : Prop := (∀ p, p < n → o p < n) ∧ (∀ p r, p < r → r < n → ahd q (o p) (o r)) ∧ (∀ j, j < n → ∃ p, p < n ∧ o p = j)
def okQ (n : Nat) (q : Nat → Nat → Int) (o : Nat → Nat) : Prop := n ≤ 40 ∧ (∀ j, j < n → okJ q j) ∧ okO n q o
theorem okQ.l {n : Nat} {q : Nat → Nat → Int} {o : Nat → Nat} (h : okQ n q o) (j : Nat) (hj : j < n) : 0 ≤ q 0 j ∧ q 0 j ≤ 2 := (h.2.1 j hj).1
theorem okQ.d {n : Nat} {q : Nat → Nat → Int} {o : Nat → Nat} (h : okQ n q o) (j : Nat) (hj : j < n) : 0 ≤ q 1 j ∧ q 1 j ≤ 3999 := (h.2.1 j hj).2.1
theorem okQ.x {n : Nat} {q : Nat → Nat → Int} {o : Nat → Nat} (h : okQ n q o) (j : Nat) (hj : j < n) : 0 ≤ q 2 j ∧ q 2 j ≤ 15 := (h.2.1 j hj).2.2.1
theorem okQ.y {n : Nat} {q : Nat → Nat → Int} {o : Nat → Nat} (h : okQ n q o) (j : Nat) (hj : j < n) : 0 ≤ q 3 j ∧ q 3 j ≤ 15 := (h.2.1 j hj).2.2.2.1
theorem okQ.g {n : Nat} {q : Nat → Nat → Int} {o : Nat → Nat} (h : okQ n q o) (j : Nat) (hj : j < n) : 0 ≤ q 4 j ∧ q 4 j ≤ 90 := (h.2.1 j hj).2.2.2.2.1
theorem okQ.t {n : Nat} {q : Nat → Nat → Int} {o : Nat → Nat} (h : okQ n q o) (j : Nat) (hj : j < n) : q 1 j ≤ q 5 j ∧ q 5 j ≤ 3999 ∧ 0 ≤ q 5 j := ⟨(h.2.1 j hj).2.2.2.2.2.1.1, (h.2.1 j hj).2.2.2.2.2.1.2, by have := (h.2.1 j hj).2.2.2.2.2.1; have := (h.2.1 j hj).2.1; omega⟩
theorem okQ.b {n : Nat} {q : Nat → Nat → Int} {o : Nat → Nat} (h : okQ n q o) (j : Nat) (hj : j < n) : q 6 j = 0 ∨ q 6 j = 1 := (h.2.1 j hj).2.2.2.2.2.2
theorem okQ.o {n : Nat} {q : Nat → Nat → Int} {o : Nat → Nat} (h : okQ n q o) (p : Nat) (hp : p < n) : o p < n := h.2.2.1 p hp
/-- how many below k -/
noncomputable def cntZ (P : Nat → Prop) : Nat → Int
  | 0 => 0
  | k + 1 => cntZ P k + bt (P k)
theorem cntZ_y {P : Nat → Prop} {k : Nat} (h : P k) : cntZ P (k + 1) = cntZ P k + 1 := by rw [cntZ, bt_1 h]
theorem cntZ_n {P : Nat → Prop} {k : Nat} (h : ¬ P k) : cntZ P (k + 1) = cntZ P k := by rw [cntZ, bt_0 h]; omega
theorem cntZ_r (P : Nat → Prop) : ∀ k, 0 ≤ cntZ P k ∧ cntZ P k ≤ (k : Int)
  | 0 => ⟨Int.le_refl _, Int.le_refl _⟩
  | k + 1 => by
    have h := cntZ_r P k
    rcases bt_01 (P k) with e | e <;> rw [cntZ, e] <;> omega
theorem cntZ_congr {P R : Nat → Prop} : ∀ k, (∀ j, j < k → (P j ↔ R j)) → cntZ P k = cntZ R k
  | 0, _ => rfl
  | k + 1, h => by rw [cntZ, cntZ, cntZ_congr k (fun j hj => h j (Nat.lt_succ_of_lt hj)), bt_iff (h k (Nat.lt_succ_self k))]
/-- counted: no blast, of the list (-1: of all), known -/
def cnd (q : Nat → Nat → Int) (a b : Int) (j : Nat) : Prop := q 6 j = 0 ∧ q 5 j ≤ b ∧ (a = -1 ∨ q 0 j = a)
def grt (q : Nat → Nat → Int) (m : Int) (j : Nat) : Prop := q 6 j = 0 ∧ m ≤ q 4 j
end
section
/-- a cell is named among the overwritten ones, unchanged -/
theorem wp_own {K : KT} {nL : Nat} {Q : State → Prop} {cs : Nat × Nat} {pc r : Nat} {lv : List (Nat × PV)} {stk : List PV} {hp hp2 : PH} {c : PC} (ho : hget hp r = some c) (he : hset hp r c = hp2) (k : Wp K nL Q cs pc lv stk hp2) : Wp K nL Q cs pc lv stk hp := by
  subst he
  refine wp_heap (hq := hset hp r c) rfl (fun j => ?_) k
  rw [hget_hset]
  by_cases e : r = j
  · rw [if_pos e, ← e, ho]
  · rw [if_neg e]
/-! the place of a new one -/
def insP (dd : Nat → Int) (o : Nat → Nat) (d : Int) : Nat → Nat
  | 0 => 0
  | k + 1 => if d < dd (o k) then insP dd o d k else k + 1
def shO (o : Nat → Nat) (k n r : Nat) : Nat := if k < r ∧ r ≤ n then o (r - 1) else o r
def insO (dd : Nat → Int) (o : Nat → Nat) (d : Int) (n : Nat) : Nat → Nat := fup (shO o (insP dd o d n) n) (insP dd o d n) n
theorem shO_top (o : Nat → Nat) (n : Nat) : (fun p => ((o p : Nat) : Int)) = fun r => ((shO o n n r : Nat) : Int) := by
  funext r
  simp only [shO]
  rw [if_neg (by omega)]
theorem shO_at (o : Nat → Nat) {k n : Nat} (hk : 0 < k) : shO o k n (k - 1) = o (k - 1) := by
  simp only [shO]
  rw [if_neg (by omega)]
theorem shO_step (o : Nat → Nat) {k n : Nat} (hk : 0 < k) (hn : k ≤ n) : fup (fun r => ((shO o k n r : Nat) : Int)) k ((shO o k n (k - 1) : Nat) : Int) = fun r => ((shO o (k - 1) n r : Nat) : Int) := by
  funext r
  rw [shO_at o hk]
  by_cases e : r = k
  · subst e
    rw [fup_self]
    simp only [shO]
    rw [if_pos (by omega)]
  · rw [fup_ne _ _ e]
    simp only [shO]
    by_cases c : k < r ∧ r ≤ n
    · rw [if_pos c, if_pos (by omega)]
    · rw [if_neg c, if_neg (by omega)]
theorem insP_step {dd : Nat → Int} {o : Nat → Nat} {d : Int} {k : Nat} (hk : 0 < k) (h : d < dd (o (k - 1))) : insP dd o d (k - 1) = insP dd o d k := by
  obtain ⟨m, rfl⟩ : ∃ m, k = m + 1 := ⟨k - 1, by omega⟩
  have h2 : d < dd (o m) := h
  rw [insP, if_pos h2]
  rfl
theorem insP_end {dd : Nat → Int} {o : Nat → Nat} {d : Int} {k : Nat} (h : k = 0 ∨ dd (o (k - 1)) ≤ d) : insP dd o d k = k := by
  cases k with
  | zero => rfl
  | succ m =>
    rw [insP, if_neg]
    rcases h with h | h
    · cases h
    · exact Int.not_lt.mpr h
theorem insO_fin {dd : Nat → Int} {o : Nat → Nat} {d : Int} {n k : Nat} (hi : insP dd o d k = insP dd o d n) (h : k = 0 ∨ dd (o (k - 1)) ≤ d) : fup (fun r => ((shO o k n r : Nat) : Int)) k ((n : Nat) : Int) = fun r => ((insO dd o d n r : Nat) : Int) := by
  have e : insP dd o d n = k := by rw [← hi, insP_end h]
  funext r
  unfold insO
  rw [e]
  by_cases c : r = k
  · subst c
    rw [fup_self, fup_self]
  · rw [fup_ne _ _ c, fup_ne _ _ c]
theorem insP_le (dd : Nat → Int) (o : Nat → Nat) (d : Int) : ∀ k, insP dd o d k ≤ k
  | 0 => Nat.le_refl _
  | k + 1 => by
    rw [insP]
    split
    · exact Nat.le_succ_of_le (insP_le dd o d k)
    · exact Nat.le_refl _
theorem ahd_ne {q : Nat → Nat → Int} {i j : Nat} (h : ahd q i j) : i ≠ j := by
  intro e
  subst e
  rcases h with h | h <;> omega
theorem fup_r {f : Nat → Int} {k : Nat} {v : Int} (hv : r32 v) (hf : ∀ j, j < k → r32 (f j)) : ∀ j, j ≤ k → r32 (fup f k v j) := by
  intro j hj
  by_cases e : j = k
  · rw [e, fup_self]; exact hv
  · rw [fup_ne _ _ e]; exact hf j (by omega)
end
section
/-! sums, greatest divisors, ways to choose -/
noncomputable def ifZ (P : Prop) (a b : Int) : Int := by classical exact if P then a else b
theorem ifZ_y {P : Prop} {a b : Int} (h : P) : ifZ P a b = a := by unfold ifZ; simp [h]
theorem ifZ_n {P : Prop} {a b : Int} (h : ¬ P) : ifZ P a b = b := by unfold ifZ; simp [h]
theorem ifZ_iff {P R : Prop} {a b : Int} (h : P ↔ R) : ifZ P a b = ifZ R a b := by
  by_cases c : P
  · rw [ifZ_y c, ifZ_y (h.mp c)]
  · rw [ifZ_n c, ifZ_n (fun z => c (h.mpr z))]
def sumZ (f : Nat → Int) : Nat → Int
  | 0 => 0
  | k + 1 => sumZ f k + f k
theorem sumZ_s (f : Nat → Int) (k : Nat) : sumZ f (k + 1) = sumZ f k + f k := rfl
theorem sumZ_congr {f g : Nat → Int} : ∀ k, (∀ j, j < k → f j = g j) → sumZ f k = sumZ g k
  | 0, _ => rfl
  | k + 1, h => by rw [sumZ, sumZ, sumZ_congr k (fun j hj => h j (Nat.lt_succ_of_lt hj)), h k (Nat.lt_succ_self k)]
theorem sumZ_b {f : Nat → Int} {lo hi : Int} : ∀ k, (∀ j, j < k → lo ≤ f j ∧ f j ≤ hi) → lo * k ≤ sumZ f k ∧ sumZ f k ≤ hi * k
  | 0, _ => by simp [sumZ]
  | k + 1, h => by
    have h1 := sumZ_b k (fun j hj => h j (Nat.lt_succ_of_lt hj))
    have h2 := h k (Nat.lt_succ_self k)
    have e1 : lo * ((k + 1 : Nat) : Int) = lo * k + lo := by rw [Int.natCast_succ, Int.mul_add, Int.mul_one]
    have e2 : hi * ((k + 1 : Nat) : Int) = hi * k + hi := by rw [Int.natCast_succ, Int.mul_add, Int.mul_one]
    rw [sumZ, e1, e2]
    omega
theorem sumZ_0 {f : Nat → Int} {a : Nat} : ∀ b, a ≤ b → (∀ j, a ≤ j → j < b → f j = 0) → sumZ f b = sumZ f a
  | 0, h, _ => by rw [show a = 0 by omega]
  | b + 1, h, hz => by
    by_cases e : a = b + 1
    · rw [e]
    · rw [sumZ, sumZ_0 b (by omega) (fun j h1 h2 => hz j h1 (by omega)), hz b (by omega) (by omega)]
      omega
theorem cnt_sum (P : Nat → Prop) : ∀ k, cntZ P k = sumZ (fun j => bt (P j)) k
  | 0 => rfl
  | k + 1 => by rw [cntZ, sumZ, cnt_sum P k]
def fibN : Nat → Nat
  | 0 => 0
  | 1 => 1
  | n + 2 => fibN (n + 1) + fibN n
theorem fib_mono : ∀ n, fibN n ≤ fibN (n + 1)
  | 0 => by decide
  | n + 1 => by
    show fibN (n + 1) ≤ fibN (n + 1) + fibN n
    omega
theorem fib_8 (n : Nat) : 8 * fibN n ≤ fibN (n + 5) := by
  have h := fib_mono n
  have e2 : fibN (n + 2) = fibN (n + 1) + fibN n := rfl
  have e3 : fibN (n + 3) = fibN (n + 2) + fibN (n + 1) := rfl
  have e4 : fibN (n + 4) = fibN (n + 3) + fibN (n + 2) := rfl
  have e5 : fibN (n + 5) = fibN (n + 4) + fibN (n + 3) := rfl
  omega
theorem fib_pow : ∀ k, 8 ^ k ≤ fibN (5 * k + 1)
  | 0 => by decide
  | k + 1 => by
    have h := fib_pow k
    have h2 := fib_8 (5 * k + 1)
    rw [Nat.pow_succ, show 5 * (k + 1) + 1 = 5 * k + 1 + 5 by omega]
    omega
theorem fib_101 : 1152921504606846976 ≤ fibN 101 := by
  have h := fib_pow 20
  have e : (8 : Nat) ^ 20 = 1152921504606846976 := by decide
  rw [e] at h
  exact h
/-- the walk of the greatest divisor: behind t turns -/
def GJ (a b t x y : Nat) : Prop := Nat.gcd x y = Nat.gcd a b ∧ t ≤ 100 ∧ x < 1152921504606846976 ∧ y < 1152921504606846976 ∧ (t = 0 ∨ (y < x ∧ (y < fibN (101 - t) ∨ x < fibN (102 - t))))
theorem gj_0 {a b : Nat} (ha : a < 1152921504606846976) (hb : b < 1152921504606846976) : GJ a b 0 a b := ⟨rfl, by omega, ha, hb, Or.inl rfl⟩
theorem gj_s {a b t x y : Nat} (h : GJ a b t x y) (hy : y ≠ 0) (ht : t < 100) : GJ a b (t + 1) y (x % y) := by
  obtain ⟨h1, h2, h3, h4, h5⟩ := h
  have hl : x % y < y := Nat.mod_lt _ (by omega)
  refine ⟨?_, by omega, h4, by omega, Or.inr ⟨hl, ?_⟩⟩
  · rw [← h1, Nat.gcd_comm x y, Nat.gcd_rec y x, Nat.gcd_comm]
  · rcases h5 with h5 | ⟨h5, h6⟩
    · subst h5
      exact Or.inr (Nat.lt_of_lt_of_le h4 fib_101)
    · by_cases c : y < fibN (101 - t)
      · exact Or.inr (by rw [show 102 - (t + 1) = 101 - t by omega]; exact c)
      · have h7 := h6.resolve_left c
        have e : fibN (102 - t) = fibN (101 - t) + fibN (100 - t) := by
          obtain ⟨m, hm⟩ : ∃ m, 100 - t = m := ⟨_, rfl⟩
          rw [show 102 - t = m + 2 by omega, show 101 - t = m + 1 by omega, hm]
          rfl
        refine Or.inl ?_
        rw [show 101 - (t + 1) = 100 - t by omega]
        have e2 : x % y ≤ x - y := by
          have := Nat.mod_add_div x y
          have hd : 1 ≤ x / y := (Nat.le_div_iff_mul_le (by omega)).mpr (by omega)
          have : y * 1 ≤ y * (x / y) := Nat.mul_le_mul_left y hd
          omega
        omega
theorem gj_e {a b t x y : Nat} (h : GJ a b t x y) (he : y = 0 ∨ 100 ≤ t) : x = Nat.gcd a b := by
  obtain ⟨h1, h2, h3, h4, h5⟩ := h
  have hy : y = 0 := by
    rcases he with h | h
    · exact h
    · rcases h5 with h5 | ⟨h5, h6⟩
      · omega
      · rw [show 101 - t = 1 by omega, show 102 - t = 2 by omega] at h6
        have e1 : fibN 1 = 1 := rfl
        have e2 : fibN 2 = 1 := rfl
        omega
  rw [← h1, hy, Nat.gcd_zero_right]
/-- a fraction in lowest terms, by part -/
def frc (a b : Nat) (p : Int) : Int := if p = 0 then (((a / Nat.gcd a b : Nat)) : Int) else (((b / Nat.gcd a b : Nat)) : Int)
def chL (n k : Nat) : Nat → Nat
  | 0 => 1
  | i + 1 => chL n k i * (n - k + (i + 1)) / (i + 1)
def chOk (n : Nat) : Bool := (List.range (n + 1)).all fun k => (List.range (k + 1)).all fun i => decide (chL n k i * 64 ≤ 2 ^ 46) && decide (chL n k k ≤ 2 ^ n)
theorem chOk_all : (List.range 41).all chOk = true := by decide +kernel
theorem chL_b {n k i : Nat} (hn : n ≤ 40) (hk : k ≤ n) (hi : i ≤ k) : chL n k i * 64 ≤ 70368744177664 ∧ chL n k k ≤ 2 ^ n := by
  have h1 := List.all_eq_true.mp chOk_all n (List.mem_range.mpr (by omega))
  have h2 := List.all_eq_true.mp h1 k (List.mem_range.mpr (by omega))
  have h3 := List.all_eq_true.mp h2 i (List.mem_range.mpr (by omega))
  simp only [Bool.and_eq_true, decide_eq_true_eq] at h3
  exact ⟨h3.1, h3.2⟩
/-- ways to choose k of n -/
def chI (n : Nat) (k : Int) : Int := if 0 ≤ k ∧ k ≤ (n : Int) then ((chL n k.toNat k.toNat : Nat) : Int) else 0
theorem chI_in {n k : Nat} (h : k ≤ n) : chI n (k : Int) = ((chL n k k : Nat) : Int) := by
  unfold chI
  rw [if_pos (by omega)]
  rfl
theorem chI_out {n : Nat} {k : Int} (h : k < 0 ∨ (n : Int) < k) : chI n k = 0 := by
  unfold chI
  rw [if_neg (by omega)]
theorem chI_b {n : Nat} (hn : n ≤ 40) (k : Int) : 0 ≤ chI n k ∧ chI n k ≤ ((2 ^ n : Nat) : Int) := by
  by_cases c : 0 ≤ k ∧ k ≤ (n : Int)
  · obtain ⟨m, rfl⟩ := Int.eq_ofNat_of_zero_le c.1
    rw [chI_in (by omega)]
    have := (chL_b (n := n) (k := m) (i := m) hn (by omega) (Nat.le_refl m)).2
    omega
  · rw [chI_out (by omega)]
    have : 0 < 2 ^ n := Nat.two_pow_pos n
    omega
theorem pow_step (b : Int) (k : Nat) : b ^ (k + 1) = b ^ k * b := Int.pow_succ b k
theorem pow_b {b : Int} {B : Nat} (h0 : 0 ≤ b) (h1 : b ≤ (B : Int)) : ∀ k : Nat, 0 ≤ b ^ k ∧ b ^ k ≤ ((B ^ k : Nat) : Int)
  | 0 => by simp
  | k + 1 => by
    have h := pow_b h0 h1 k
    rw [pow_step, Nat.pow_succ, Int.natCast_mul]
    exact ⟨Int.mul_nonneg h.1 h0, Int.mul_le_mul h.2 h1 h0 (Int.natCast_nonneg _)⟩
theorem chL_r {n k i : Nat} (hn : n ≤ 40) (hk : k ≤ n) (hi : i < k) : 0 ≤ ((chL n k i : Nat) : Int) * ((((n : Nat) : Int) - ((k : Nat) : Int)) + ((i + 1 : Nat) : Int)) ∧ r64 (((chL n k i : Nat) : Int) * ((((n : Nat) : Int) - ((k : Nat) : Int)) + ((i + 1 : Nat) : Int))) := by
  have h := (chL_b (n := n) (k := k) (i := i) hn hk (by omega)).1
  have e : ((chL n k i : Nat) : Int) * ((((n : Nat) : Int) - ((k : Nat) : Int)) + ((i + 1 : Nat) : Int)) = ((chL n k i * (n - k + (i + 1)) : Nat) : Int) := by
    rw [Int.natCast_mul]
    congr 1
    omega
  rw [e]
  have h2 : chL n k i * (n - k + (i + 1)) ≤ chL n k i * 64 := Nat.mul_le_mul_left _ (by omega)
  omega
theorem chL_s {n k i : Nat} (hk : k ≤ n) : ((chL n k i : Nat) : Int) * ((((n : Nat) : Int) - ((k : Nat) : Int)) + ((i + 1 : Nat) : Int)) / ((i + 1 : Nat) : Int) = ((chL n k (i + 1) : Nat) : Int) := by
  have e : ((chL n k i : Nat) : Int) * ((((n : Nat) : Int) - ((k : Nat) : Int)) + ((i + 1 : Nat) : Int)) = ((chL n k i * (n - k + (i + 1)) : Nat) : Int) := by
    rw [Int.natCast_mul]
    congr 1
    omega
  rw [e, ← Int.natCast_ediv]
  rfl
end
section
/-! weights, the likeliest mother, families -/
def fsN : Nat → Int → Nat
  | 0, _ => 0
  | f + 1, l => if 0 < l then fsN f (l / 2) + 1 else 0
theorem fsN_le : ∀ f l, fsN f l ≤ f
  | 0, _ => Nat.le_refl _
  | f + 1, l => by
    rw [fsN]
    split
    · exact Nat.succ_le_succ (fsN_le f _)
    · omega
theorem fsN_y {s : Nat} {l : Int} (hs : s < 7) (hl : 0 < l) : fsN (7 - s) l = fsN (7 - (s + 1)) (l / 2) + 1 := by
  obtain ⟨m, hm⟩ : ∃ m, 7 - s = m + 1 := ⟨6 - s, by omega⟩
  rw [hm, show 7 - (s + 1) = m by omega, fsN, if_pos hl]
theorem fsN_n {s : Nat} {l : Int} (h : l ≤ 0 ∨ 7 ≤ s) : fsN (7 - s) l = 0 := by
  rcases Nat.lt_or_ge s 7 with c | c
  · obtain ⟨m, hm⟩ : ∃ m, 7 - s = m + 1 := ⟨6 - s, by omega⟩
    rw [hm, fsN, if_neg (by omega)]
  · rw [show 7 - s = 0 by omega, fsN]
def farZ (a b c e : Int) : Int := max (if 0 ≤ a - c then a - c else -(a - c)) (if 0 ≤ b - e then b - e else -(b - e))
theorem farZ_b {a b c e : Int} (ha : 0 ≤ a ∧ a ≤ 15) (hb : 0 ≤ b ∧ b ≤ 15) (hc : 0 ≤ c ∧ c ≤ 15) (he : 0 ≤ e ∧ e ≤ 15) : 0 ≤ farZ a b c e ∧ farZ a b c e ≤ 15 := by
  unfold farZ
  split <;> split <;> omega
theorem farZ_comm (a b c e : Int) : farZ a b c e = farZ c e a b := by
  unfold farZ
  congr 1 <;> split <;> split <;> omega
def wgt (pr fa sp : Nat → Int) (q : Nat → Nat → Int) (i : Nat) (x y d : Int) : Int := pr ((q 4 i / 10).toNat) * fa (fsN 7 (d - q 1 i)) * sp ((min 7 (farZ x y (q 2 i) (q 3 i))).toNat)
def okS (pr fa sp : Nat → Int) : Prop := (∀ k, k < 10 → 0 ≤ pr k ∧ pr k ≤ 100) ∧ (∀ k, k < 8 → 0 ≤ fa k ∧ fa k ≤ 100) ∧ (∀ k, k < 8 → 0 ≤ sp k ∧ sp k ≤ 100)
theorem mul_b {a b : Int} {A B : Int} (ha : 0 ≤ a ∧ a ≤ A) (hb : 0 ≤ b ∧ b ≤ B) : 0 ≤ a * b ∧ a * b ≤ A * B := ⟨Int.mul_nonneg ha.1 hb.1, Int.mul_le_mul ha.2 hb.2 hb.1 (by omega)⟩
theorem wgt_b {pr fa sp : Nat → Int} {q : Nat → Nat → Int} {n i : Nat} {o : Nat → Nat} (hS : okS pr fa sp) (hO : okQ n q o) (hi : i < n) (x y d : Int) : 0 ≤ wgt pr fa sp q i x y d ∧ wgt pr fa sp q i x y d ≤ 1000000 := by
  have hg := hO.g i hi
  have h1 := hS.1 ((q 4 i / 10).toNat) (by omega)
  have h2 := hS.2.1 (fsN 7 (d - q 1 i)) (by have := fsN_le 7 (d - q 1 i); omega)
  have h3 := hS.2.2 ((min 7 (farZ x y (q 2 i) (q 3 i))).toNat) (by omega)
  have h4 := mul_b h1 h2
  have h5 := mul_b h4 h3
  unfold wgt
  omega
/-- the weight of the quake at place r for that at place p -/
def wpl (pr fa sp : Nat → Int) (q : Nat → Nat → Int) (o : Nat → Nat) (p r : Nat) : Int := wgt pr fa sp q (o r) (q 2 (o p)) (q 3 (o p)) (q 1 (o p))
theorem wpl_b {pr fa sp : Nat → Int} {q : Nat → Nat → Int} {n r : Nat} {o : Nat → Nat} (hS : okS pr fa sp) (hO : okQ n q o) (p : Nat) (hr : r < n) : 0 ≤ wpl pr fa sp q o p r ∧ wpl pr fa sp q o p r ≤ 1000000 := wgt_b hS hO (hO.o r hr) _ _ _
noncomputable def lik (pr fa sp : Nat → Int) (q : Nat → Nat → Int) (o : Nat → Nat) (b calm : Int) (p : Nat) : Nat → Int × Int
  | 0 => (-6, calm)
  | r + 1 => by classical exact if cnd q (-1) b (o r) ∧ (lik pr fa sp q o b calm p r).2 < wpl pr fa sp q o p r then (((o r : Nat) : Int), wpl pr fa sp q o p r) else lik pr fa sp q o b calm p r
theorem lik_y {pr fa sp : Nat → Int} {q : Nat → Nat → Int} {o : Nat → Nat} {b calm : Int} {p r : Nat} (h1 : cnd q (-1) b (o r)) (h2 : (lik pr fa sp q o b calm p r).2 < wpl pr fa sp q o p r) : lik pr fa sp q o b calm p (r + 1) = (((o r : Nat) : Int), wpl pr fa sp q o p r) := by
  rw [lik]
  simp [h1, h2]
theorem lik_n {pr fa sp : Nat → Int} {q : Nat → Nat → Int} {o : Nat → Nat} {b calm : Int} {p r : Nat} (h : ¬ (cnd q (-1) b (o r) ∧ (lik pr fa sp q o b calm p r).2 < wpl pr fa sp q o p r)) : lik pr fa sp q o b calm p (r + 1) = lik pr fa sp q o b calm p r := by
  rw [lik]
  simp [h]
theorem lik_b {pr fa sp : Nat → Int} {q : Nat → Nat → Int} {o : Nat → Nat} {b calm : Int} {n p : Nat} (hS : okS pr fa sp) (hO : okQ n q o) (hc : 1 ≤ calm ∧ calm ≤ 100000) : ∀ r, r ≤ n → (1 ≤ (lik pr fa sp q o b calm p r).2 ∧ (lik pr fa sp q o b calm p r).2 ≤ 1000000) ∧ ((lik pr fa sp q o b calm p r).1 = -6 ∨ ∃ r', r' < r ∧ cnd q (-1) b (o r') ∧ (lik pr fa sp q o b calm p r).1 = ((o r' : Nat) : Int))
  | 0, _ => ⟨by rw [lik]; omega, Or.inl rfl⟩
  | r + 1, hr => by
    have h := lik_b (pr := pr) (fa := fa) (sp := sp) (b := b) (p := p) hS hO hc r (by omega)
    by_cases c : cnd q (-1) b (o r) ∧ (lik pr fa sp q o b calm p r).2 < wpl pr fa sp q o p r
    · rw [lik_y c.1 c.2]
      have := wpl_b (p := p) hS hO (r := r) (by omega)
      refine ⟨by have := c.2; omega, Or.inr ⟨r, Nat.lt_succ_self r, c.1, rfl⟩⟩
    · rw [lik_n c]
      refine ⟨h.1, h.2.imp id ?_⟩
      rintro ⟨r', h1, h2⟩
      exact ⟨r', Nat.lt_succ_of_lt h1, h2⟩
/-- the place of the mother's bound, as a number -/
theorem lik_i {pr fa sp : Nat → Int} {q : Nat → Nat → Int} {o : Nat → Nat} {b calm : Int} {n p r : Nat} (hS : okS pr fa sp) (hO : okQ n q o) (hc : 1 ≤ calm ∧ calm ≤ 100000) (hr : r ≤ n) : (lik pr fa sp q o b calm p r).1 = -6 ∨ (0 ≤ (lik pr fa sp q o b calm p r).1 ∧ (lik pr fa sp q o b calm p r).1 < (n : Int)) := by
  rcases (lik_b (p := p) (b := b) hS hO hc r hr).2 with h | ⟨r', h1, -, h3⟩
  · exact Or.inl h
  · have := hO.o r' (by omega)
    exact Or.inr (by omega)
noncomputable def trF (pr fa sp : Nat → Int) (q : Nat → Nat → Int) (o : Nat → Nat) (b calm : Int) (fo de : Nat → Int) : Nat → (Nat → Int) × (Nat → Int)
  | 0 => (fo, de)
  | k + 1 => by classical exact if cnd q (-1) b (o k) then
      (fup (fup (trF pr fa sp q o b calm fo de k).1 (o k) (-6)) (o k) (if (lik pr fa sp q o b calm k k).1 = -6 then ((o k : Nat) : Int) else fup (trF pr fa sp q o b calm fo de k).1 (o k) (-6) ((lik pr fa sp q o b calm k k).1.toNat)),
       fup (fup (trF pr fa sp q o b calm fo de k).2 (o k) 0) (o k) (if (lik pr fa sp q o b calm k k).1 = -6 then 0 else fup (trF pr fa sp q o b calm fo de k).2 (o k) 0 ((lik pr fa sp q o b calm k k).1.toNat) + 1))
      else (fup (trF pr fa sp q o b calm fo de k).1 (o k) (-6), fup (trF pr fa sp q o b calm fo de k).2 (o k) 0)
theorem trF_y {pr fa sp : Nat → Int} {q : Nat → Nat → Int} {o : Nat → Nat} {b calm : Int} {fo de : Nat → Int} {k : Nat} (h : cnd q (-1) b (o k)) : trF pr fa sp q o b calm fo de (k + 1) = (fup (fup (trF pr fa sp q o b calm fo de k).1 (o k) (-6)) (o k) (if (lik pr fa sp q o b calm k k).1 = -6 then ((o k : Nat) : Int) else fup (trF pr fa sp q o b calm fo de k).1 (o k) (-6) ((lik pr fa sp q o b calm k k).1.toNat)),
       fup (fup (trF pr fa sp q o b calm fo de k).2 (o k) 0) (o k) (if (lik pr fa sp q o b calm k k).1 = -6 then 0 else fup (trF pr fa sp q o b calm fo de k).2 (o k) 0 ((lik pr fa sp q o b calm k k).1.toNat) + 1)) := by
  rw [trF]; simp [h]
theorem trF_n {pr fa sp : Nat → Int} {q : Nat → Nat → Int} {o : Nat → Nat} {b calm : Int} {fo de : Nat → Int} {k : Nat} (h : ¬ cnd q (-1) b (o k)) : trF pr fa sp q o b calm fo de (k + 1) = (fup (trF pr fa sp q o b calm fo de k).1 (o k) (-6), fup (trF pr fa sp q o b calm fo de k).2 (o k) 0) := by
  rw [trF]; simp [h]
/-- the first one for which R holds -/
noncomputable def srch (R : Nat → Prop) (v : Nat → Int) : Nat → Int
  | 0 => -6
  | k + 1 => ifZ (srch R v k = -6 ∧ R k) (v k) (srch R v k)
theorem srch_no {R : Nat → Prop} {v : Nat → Int} : ∀ k, (∀ r, r < k → ¬ R r) → srch R v k = -6
  | 0, _ => rfl
  | k + 1, h => by
    rw [srch, ifZ_n (fun z => h k (Nat.lt_succ_self k) z.2)]
    exact srch_no k (fun r hr => h r (Nat.lt_succ_of_lt hr))
theorem srch_at {R : Nat → Prop} {v : Nat → Int} {k : Nat} (h : ∀ r, r < k → ¬ R r) (hk : R k) (hv : 0 ≤ v k) : ∀ m, k < m → srch R v m = v k
  | 0, hm => by omega
  | m + 1, hm => by
    by_cases e : k = m
    · subst e
      rw [srch, ifZ_y ⟨srch_no k h, hk⟩]
    · have := srch_at h hk hv m (by omega)
      rw [srch, this, ifZ_n (fun z => by have := z.1; omega)]
theorem srch_congr {R R' : Nat → Prop} {v : Nat → Int} : ∀ k, (∀ r, r < k → (R r ↔ R' r)) → srch R v k = srch R' v k
  | 0, _ => rfl
  | k + 1, h => by
    rw [srch, srch, srch_congr k (fun r hr => h r (Nat.lt_succ_of_lt hr))]
    exact ifZ_iff ⟨fun z => ⟨z.1, (h k (Nat.lt_succ_self k)).mp z.2⟩, fun z => ⟨z.1, (h k (Nat.lt_succ_self k)).mpr z.2⟩⟩
noncomputable def dpF (F D : Nat → Int) (f : Int) : Nat → Int
  | 0 => 0
  | k + 1 => ifZ (F k = f) (max (dpF F D f k) (D k)) (dpF F D f k)
noncomputable def mvF (c : Nat → Prop) (s : Int) : Nat → Int
  | 0 => s
  | k + 1 => ifZ (c k) (mvF c s k * 16807 % 2147483647) (mvF c s k)
theorem mvF_b {c : Nat → Prop} {s : Int} (hs : 0 ≤ s ∧ s ≤ 2147483647) : ∀ k, 0 ≤ mvF c s k ∧ mvF c s k ≤ 2147483647
  | 0 => hs
  | k + 1 => by
    have h := mvF_b (c := c) hs k
    by_cases z : c k
    · rw [mvF, ifZ_y z]; omega
    · rw [mvF, ifZ_n z]; exact h
theorem tmod_r {a b : Int} (ha : 0 ≤ a) (hb : 0 < b) : 0 ≤ Int.tmod a b ∧ Int.tmod a b < b := by
  rw [Int.tmod_eq_emod_of_nonneg ha]
  exact ⟨Int.emod_nonneg a (by omega), Int.emod_lt_of_pos a hb⟩
theorem swl_b {pr fa sp : Nat → Int} {q : Nat → Nat → Int} {o : Nat → Nat} {n p : Nat} {b : Int} (hS : okS pr fa sp) (hO : okQ n q o) : ∀ r, r ≤ n → 0 ≤ sumZ (fun r => ifZ (cnd q (-1) b (o r)) (wpl pr fa sp q o p r) 0) r ∧ sumZ (fun r => ifZ (cnd q (-1) b (o r)) (wpl pr fa sp q o p r) 0) r ≤ 40000000 := by
  intro r hr
  have h := sumZ_b (f := fun r => ifZ (cnd q (-1) b (o r)) (wpl pr fa sp q o p r) 0) (lo := 0) (hi := 1000000) r (fun j hj => by
    have h1 := wpl_b (p := p) hS hO (r := j) (by omega)
    by_cases c : cnd q (-1) b (o j)
    · rw [ifZ_y c]; exact h1
    · rw [ifZ_n c]; omega)
  have := hO.1
  omega
/-- if the lot is spent at no place, then nowhere further on -/
theorem swl_no {pr fa sp : Nat → Int} {q : Nat → Nat → Int} {o : Nat → Nat} {n p k : Nat} {b L : Int} (hS : okS pr fa sp) (hO : okQ n q o) (hp : p < n) (hno : ∀ r, r < k → ¬ (0 ≤ L - sumZ (fun r => ifZ (cnd q (-1) b (o r)) (wpl pr fa sp q o p r) 0) r ∧ L - sumZ (fun r => ifZ (cnd q (-1) b (o r)) (wpl pr fa sp q o p r) 0) (r + 1) < 0)) (hk : p ≤ k ∨ L - sumZ (fun r => ifZ (cnd q (-1) b (o r)) (wpl pr fa sp q o p r) 0) k < 0) : ∀ r, r < p → ¬ (0 ≤ L - sumZ (fun r => ifZ (cnd q (-1) b (o r)) (wpl pr fa sp q o p r) 0) r ∧ L - sumZ (fun r => ifZ (cnd q (-1) b (o r)) (wpl pr fa sp q o p r) 0) (r + 1) < 0) := by
  have mono : ∀ m r, r ≤ m → m ≤ p → sumZ (fun r => ifZ (cnd q (-1) b (o r)) (wpl pr fa sp q o p r) 0) r ≤ sumZ (fun r => ifZ (cnd q (-1) b (o r)) (wpl pr fa sp q o p r) 0) m := by
    intro m
    induction m with
    | zero => intro r hr _; rw [show r = 0 by omega]; exact Int.le_refl _
    | succ m ih =>
      intro r hr hm
      by_cases e : r = m + 1
      · rw [e]; exact Int.le_refl _
      · have h1 := ih r (by omega) (by omega)
        have h2 := wpl_b (p := p) hS hO (r := m) (by omega)
        rw [sumZ]
        by_cases c : cnd q (-1) b (o m)
        · rw [ifZ_y c]; omega
        · rw [ifZ_n c]; omega
  intro r hr z
  by_cases c : r < k
  · exact hno r c z
  · rcases hk with hk | hk
    · omega
    · have := mono r k (by omega) (by omega)
      omega
end
section
/-! signs: the state of the reading ahead of place i: which number of a rule, how many digits -/
def mrk (k : Nat) : Int := if k = 0 then 44 else if k = 1 then 62 else if k = 2 then 58 else 59
def leZ (j : Nat) : Int := if j = 3 then 1 else 0
def moZ (j : Nat) : Int := if j = 0 then 10 else if j = 1 then 5 else if j = 2 then 20 else if j = 3 then 100000 else 20
theorem mrk_c (k : Nat) : mrk k = 44 ∨ mrk k = 62 ∨ mrk k = 58 ∨ mrk k = 59 := by
  unfold mrk
  split
  · omega
  · split
    · omega
    · split <;> omega
theorem wp_stabE {K : KT} {nL : Nat} {Q : State → Prop} {cs : Nat × Nat} {pc pc' : Nat} {lv : List (Nat × PV)} {stk : List PV} {hp : PH} {cc : ByteArray} {own : String} (G : Gd K cc own nL) (i : Nat) (hi : i < 3) {idx p2 p3 j jl : Nat} {z v : Int} {k : Fin 4} (hv : (stTab i).2.2.2.2.2 j = v) (hli : Cond.fieldLink own idx (stTab i).1 (stTab i).2.1 (stTab i).2.2.1 ∈ WT) (d1 : Dn cc pc (.getstatic idx) 3 p2) (d2 : Dn cc p2 (.iload_n k) 1 p3) (d3 : Dn cc p3 (if i = 2 then .caload else .iaload) 1 pc') (hl : lv[jl]? = some ((k : Nat), zI z)) (hz : z = (j : Int)) (hj : j < (stTab i).2.2.2.2.1) (kk : Wp K nL Q cs pc' lv (zI v :: stk) hp) : Wp K nL Q cs pc lv stk hp :=
  wp_stab G i hi hli d1 d2 d3 hl hz hj (by rw [hv]; exact kk)
def sEnd (sg : Nat → Int) (s : Nat × Nat) (i : Nat) : Prop := 0 < s.2 ∧ sg i = mrk s.1
def sGo (sg : Nat → Int) (s : Nat × Nat) (i : Nat) : Prop := (48 ≤ sg i ∧ sg i ≤ 57) ∧ s.2 < 4
noncomputable def fS (sg : Nat → Int) : Nat → Nat × Nat
  | 0 => (0, 0)
  | i + 1 => by classical exact if sEnd sg (fS sg i) i then (((fS sg i).1 + 1) % 4, 0) else ((fS sg i).1, (fS sg i).2 + 1)
theorem fS_y {sg : Nat → Int} {i : Nat} (h : sEnd sg (fS sg i) i) : fS sg (i + 1) = (((fS sg i).1 + 1) % 4, 0) := by rw [fS]; simp [h]
theorem fS_n {sg : Nat → Int} {i : Nat} (h : ¬ sEnd sg (fS sg i) i) : fS sg (i + 1) = ((fS sg i).1, (fS sg i).2 + 1) := by rw [fS]; simp [h]
def sBad (sg : Nat → Int) (i : Nat) : Prop := ¬ sGo sg (fS sg i) i ∧ ¬ sEnd sg (fS sg i) i
theorem fS_1 (sg : Nat → Int) : ∀ i, (fS sg i).1 < 4
  | 0 => by rw [fS]; omega
  | i + 1 => by
    have h := fS_1 sg i
    by_cases c : sEnd sg (fS sg i) i
    · rw [fS_y c]; exact Nat.mod_lt _ (by omega)
    · rw [fS_n c]; exact h
theorem fS_2 (sg : Nat → Int) : ∀ i, (∀ r, r < i → ¬ sBad sg r) → (fS sg i).2 ≤ 4
  | 0, _ => by rw [fS]; omega
  | i + 1, hb => by
    have h := fS_2 sg i (fun r hr => hb r (Nat.lt_succ_of_lt hr))
    by_cases c : sEnd sg (fS sg i) i
    · rw [fS_y c]; omega
    · rw [fS_n c]
      have := hb i (Nat.lt_succ_self i)
      unfold sBad at this
      have h2 : sGo sg (fS sg i) i := Classical.byContradiction fun z => this ⟨z, c⟩
      have := h2.2
      show (fS sg i).2 + 1 ≤ 4
      omega
/-- the fault of sc signs -/
noncomputable def fltZ (sg : Nat → Int) (sc : Nat) : Int := ifZ (∃ i, i < sc ∧ sBad sg i) (srch (sBad sg) (fun i => ((i : Nat) : Int)) sc) (ifZ ((fS sg sc).1 = 0 ∧ 0 < (fS sg sc).2) (-6) ((sc : Nat) : Int))
theorem flt_at {sg : Nat → Int} {sc k : Nat} (hk : k < sc) (hno : ∀ r, r < k → ¬ sBad sg r) (hb : sBad sg k) : fltZ sg sc = ((k : Nat) : Int) := by
  unfold fltZ
  rw [ifZ_y ⟨k, hk, hb⟩]
  exact srch_at (v := fun i => ((i : Nat) : Int)) hno hb (Int.natCast_nonneg _) sc hk
theorem flt_end {sg : Nat → Int} {sc : Nat} (hno : ∀ r, r < sc → ¬ sBad sg r) : fltZ sg sc = ifZ ((fS sg sc).1 = 0 ∧ 0 < (fS sg sc).2) (-6) ((sc : Nat) : Int) := by
  unfold fltZ
  rw [ifZ_n (fun ⟨i, h1, h2⟩ => hno i h1 h2)]
/-- what is told by the first of ru rules that fits -/
noncomputable def telF (R : Nat → Prop) (c : Nat → Int) (la : Int) (ru : Nat) : Nat → Int
  | 0 => min 1000 la
  | m + 1 => ifZ (R (ru - (m + 1))) (min 1000 (c (ru - (m + 1)))) (telF R c la ru m)
theorem tel_y {R : Nat → Prop} {c : Nat → Int} {la : Int} {ru k : Nat} (hk : k < ru) (h : R k) : telF R c la ru (ru - k) = min 1000 (c k) := by
  obtain ⟨m, hm⟩ : ∃ m, ru - k = m + 1 := ⟨ru - k - 1, by omega⟩
  have e : ru - (m + 1) = k := by omega
  rw [hm, telF, e, ifZ_y h]
theorem tel_n {R : Nat → Prop} {c : Nat → Int} {la : Int} {ru k : Nat} (hk : k < ru) (h : ¬ R k) : telF R c la ru (ru - k) = telF R c la ru (ru - (k + 1)) := by
  obtain ⟨m, hm⟩ : ∃ m, ru - k = m + 1 := ⟨ru - k - 1, by omega⟩
  have e : ru - (m + 1) = k := by omega
  rw [hm, telF, e, ifZ_n h, show ru - (k + 1) = m by omega]
/-- how many a rule of d days, m, sees for a day -/
noncomputable def hma (q : Nat → Nat → Int) (n : Nat) (dy m d : Int) : Int := cntZ (fun j => grt q m j ∧ q 5 j < d ∧ d - dy ≤ q 1 j) n
noncomputable def tld (q : Nat → Nat → Int) (n ru : Nat) (la : Int) (dy le mo ch : Nat → Int) (d : Int) : Int := telF (fun k => mo k < hma q n (dy k) (le k) d) ch la ru ru
def isF (h : Nat → Option PC) (r ru : Nat) (la : Int) (dy le mo ch : Nat → Int) : Prop := h r = some (oO 1 [zI ((ru : Nat) : Int), zI la, zR (r + 1), zR (r + 2), zR (r + 3), zR (r + 4)]) ∧ h (r + 1) = some (oA 0 5 dy) ∧ h (r + 2) = some (oA 0 5 le) ∧ h (r + 3) = some (oA 0 5 mo) ∧ h (r + 4) = some (oA 0 5 ch)
def okF (ru : Nat) (la : Int) (dy le mo ch : Nat → Int) : Prop := ru ≤ 5 ∧ (0 ≤ la ∧ la ≤ 9999) ∧ (∀ k, k < ru → 0 ≤ dy k ∧ dy k ≤ 9999) ∧ (∀ k, k < ru → 0 ≤ le k ∧ le k ≤ 9999) ∧ (∀ k, k < ru → 0 ≤ mo k ∧ mo k ≤ 9999) ∧ (∀ k, k < ru → 0 ≤ ch k ∧ ch k ≤ 9999)
theorem telF_b {R : Nat → Prop} {c : Nat → Int} {la : Int} {ru : Nat} (hl : 0 ≤ la) (hc : ∀ k, k < ru → 0 ≤ c k) : ∀ m, m ≤ ru → 0 ≤ telF R c la ru m ∧ telF R c la ru m ≤ 1000
  | 0, _ => by rw [telF]; omega
  | m + 1, hm => by
    have h := telF_b (R := R) hl hc m (by omega)
    by_cases z : R (ru - (m + 1))
    · rw [telF, ifZ_y z]
      have := hc (ru - (m + 1)) (by omega)
      omega
    · rw [telF, ifZ_n z]; exact h
theorem tld_b {q : Nat → Nat → Int} {n ru : Nat} {la : Int} {dy le mo ch : Nat → Int} (hf : okF ru la dy le mo ch) (d : Int) : 0 ≤ tld q n ru la dy le mo ch d ∧ tld q n ru la dy le mo ch d ≤ 1000 := telF_b hf.2.1.1 (fun k hk => (hf.2.2.2.2.2 k hk).1) ru (Nat.le_refl _)
end
section
/-! scores: marked days, stretches -/
theorem lk_ge {nx : Nat} {h : Nat → Option PC} {l : List (Nat × PC)} {r : Nat} {c : PC} (h93 : 93 ≤ r) (hl : l.all (fun x => decide (x.1 < 93)) = true) (hh : h r = some c) : hget (nx, h, l) r = some c := by
  show hlk l h r = some c
  induction l with
  | nil => exact hh
  | cons x l ih =>
    simp only [List.all_cons, Bool.and_eq_true, decide_eq_true_eq] at hl
    rw [hlk, if_neg (by omega)]
    exact ih hl.2
theorem isF_lk {nx : Nat} {h : Nat → Option PC} {l : List (Nat × PC)} {r ru : Nat} {la : Int} {dy le mo ch : Nat → Int} (h93 : 93 ≤ r) (hl : l.all (fun x => decide (x.1 < 93)) = true) (hF : isF h r ru la dy le mo ch) : isF (hget (nx, h, l)) r ru la dy le mo ch :=
  ⟨lk_ge h93 hl hF.1, lk_ge (by omega) hl hF.2.1, lk_ge (by omega) hl hF.2.2.1, lk_ge (by omega) hl hF.2.2.2.1, lk_ge (by omega) hl hF.2.2.2.2⟩
def mkF (tu : Nat → Int) (d a b : Int) : Nat → Int := if a < d ∧ d ≤ b then fup tu d.toNat 1 else tu
theorem mkF_y {tu : Nat → Int} {d a b : Int} (h : a < d ∧ d ≤ b) : mkF tu d a b = fup tu d.toNat 1 := if_pos h
theorem mkF_n {tu : Nat → Int} {d a b : Int} (h : ¬ (a < d ∧ d ≤ b)) : mkF tu d a b = tu := if_neg h
theorem mkF_1 {tu : Nat → Int} {d a b : Int} (h : a < d ∧ d ≤ b) : mkF tu d a b d.toNat = 1 := by rw [mkF_y h, fup_self]
theorem mkF_k {tu : Nat → Int} {d a b : Int} {j : Nat} (h : tu j = 1) : mkF tu d a b j = 1 := by
  unfold mkF
  split
  · by_cases e : j = d.toNat
    · rw [e, fup_self]
    · rw [fup_ne _ _ e]; exact h
  · exact h
theorem mkF_01 {tu : Nat → Int} {d a b : Int} {j : Nat} (h : tu j = 0 ∨ tu j = 1) : mkF tu d a b j = 0 ∨ mkF tu d a b j = 1 := by
  unfold mkF
  split
  · by_cases e : j = d.toNat
    · rw [e, fup_self]; omega
    · rw [fup_ne _ _ e]; exact h
  · exact h
theorem mkF_out {tu : Nat → Int} {d a b : Int} {j : Nat} (ha : 0 ≤ a) (hj : (j : Int) ≤ a ∨ b < (j : Int)) : mkF tu d a b j = tu j := by
  unfold mkF
  split
  · rw [fup_ne _ _ (by omega)]
  · rfl
noncomputable def msF (q : Nat → Nat → Int) (m a b : Int) (tu : Nat → Int) : Nat → (Nat → Int)
  | 0 => tu
  | k + 1 => by classical exact if grt q m k then mkF (mkF (msF q m a b tu k) (q 1 k) a b) (q 1 k + 1) a b else msF q m a b tu k
theorem msF_y {q : Nat → Nat → Int} {m a b : Int} {tu : Nat → Int} {k : Nat} (h : grt q m k) : msF q m a b tu (k + 1) = mkF (mkF (msF q m a b tu k) (q 1 k) a b) (q 1 k + 1) a b := by rw [msF]; simp [h]
theorem msF_n {q : Nat → Nat → Int} {m a b : Int} {tu : Nat → Int} {k : Nat} (h : ¬ grt q m k) : msF q m a b tu (k + 1) = msF q m a b tu k := by rw [msF]; simp [h]
noncomputable def mrI (q : Nat → Nat → Int) (a b d m : Int) (tu : Nat → Int) : Nat → (Nat → Int)
  | 0 => tu
  | k + 1 => by classical exact if grt q m k then mkF (mkF (mrI q a b d m tu k) (q 5 k + 1) a b) (q 1 k + d + 1) a b else mrI q a b d m tu k
theorem mrI_y {q : Nat → Nat → Int} {a b d m : Int} {tu : Nat → Int} {k : Nat} (h : grt q m k) : mrI q a b d m tu (k + 1) = mkF (mkF (mrI q a b d m tu k) (q 5 k + 1) a b) (q 1 k + d + 1) a b := by rw [mrI]; simp [h]
theorem mrI_n {q : Nat → Nat → Int} {a b d m : Int} {tu : Nat → Int} {k : Nat} (h : ¬ grt q m k) : mrI q a b d m tu (k + 1) = mrI q a b d m tu k := by rw [mrI]; simp [h]
noncomputable def mrF (q : Nat → Nat → Int) (n : Nat) (a b : Int) (dy le : Nat → Int) (tu : Nat → Int) : Nat → (Nat → Int)
  | 0 => tu
  | k + 1 => mrI q a b (dy k) (le k) (mrF q n a b dy le tu k) n
/-- ones stay, all is 0 or 1, nothing outside is touched -/
def mOk (a b : Int) (t u : Nat → Int) : Prop := (∀ j, t j = 1 → u j = 1) ∧ (∀ j, (t j = 0 ∨ t j = 1) → u j = 0 ∨ u j = 1) ∧ (0 ≤ a → ∀ j : Nat, ((j : Int) ≤ a ∨ b < (j : Int)) → u j = t j)
theorem mOk.rf (a b : Int) (t : Nat → Int) : mOk a b t t := ⟨fun _ h => h, fun _ h => h, fun _ _ _ => rfl⟩
theorem mOk.mk {a b d : Int} {t u : Nat → Int} (h : mOk a b t u) : mOk a b t (mkF u d a b) := ⟨fun j hj => mkF_k (h.1 j hj), fun j z => mkF_01 (h.2.1 j z), fun ha j hj => (mkF_out ha hj).trans (h.2.2 ha j hj)⟩
theorem mOk.tr {a b : Int} {t u v : Nat → Int} (h : mOk a b t u) (g : mOk a b u v) : mOk a b t v := ⟨fun j hj => g.1 j (h.1 j hj), fun j z => g.2.1 j (h.2.1 j z), fun ha j hj => (g.2.2 ha j hj).trans (h.2.2 ha j hj)⟩
theorem msF_ok (q : Nat → Nat → Int) (m a b : Int) (tu : Nat → Int) : ∀ k, mOk a b tu (msF q m a b tu k) ∧ ∀ j, j < k → grt q m j → ∀ d, (d = q 1 j ∨ d = q 1 j + 1) → (a < d ∧ d ≤ b) → msF q m a b tu k d.toNat = 1
  | 0 => ⟨mOk.rf _ _ _, fun j hj => by omega⟩
  | k + 1 => by
    obtain ⟨h1, h2⟩ := msF_ok q m a b tu k
    by_cases c : grt q m k
    · rw [msF_y c]
      refine ⟨h1.mk.mk, fun j hj hg d hd hr => ?_⟩
      by_cases e : j = k
      · subst e
        rcases hd with rfl | rfl
        · exact mkF_k (mkF_1 hr)
        · exact mkF_1 hr
      · exact mkF_k (mkF_k (h2 j (by omega) hg d hd hr))
    · rw [msF_n c]
      refine ⟨h1, fun j hj hg d hd hr => ?_⟩
      by_cases e : j = k
      · subst e; exact absurd hg c
      · exact h2 j (by omega) hg d hd hr
theorem mrI_ok (q : Nat → Nat → Int) (a b dd m : Int) (tu : Nat → Int) : ∀ k, mOk a b tu (mrI q a b dd m tu k) ∧ ∀ j, j < k → grt q m j → ∀ d, (d = q 5 j + 1 ∨ d = q 1 j + dd + 1) → (a < d ∧ d ≤ b) → mrI q a b dd m tu k d.toNat = 1
  | 0 => ⟨mOk.rf _ _ _, fun j hj => by omega⟩
  | k + 1 => by
    obtain ⟨h1, h2⟩ := mrI_ok q a b dd m tu k
    by_cases c : grt q m k
    · rw [mrI_y c]
      refine ⟨h1.mk.mk, fun j hj hg d hd hr => ?_⟩
      by_cases e : j = k
      · subst e
        rcases hd with rfl | rfl
        · exact mkF_k (mkF_1 hr)
        · exact mkF_1 hr
      · exact mkF_k (mkF_k (h2 j (by omega) hg d hd hr))
    · rw [mrI_n c]
      refine ⟨h1, fun j hj hg d hd hr => ?_⟩
      by_cases e : j = k
      · subst e; exact absurd hg c
      · exact h2 j (by omega) hg d hd hr
theorem mrF_ok (q : Nat → Nat → Int) (n : Nat) (a b : Int) (dy le : Nat → Int) (tu : Nat → Int) : ∀ k, mOk a b tu (mrF q n a b dy le tu k) ∧ ∀ i, i < k → ∀ j, j < n → grt q (le i) j → ∀ d, (d = q 5 j + 1 ∨ d = q 1 j + dy i + 1) → (a < d ∧ d ≤ b) → mrF q n a b dy le tu k d.toNat = 1
  | 0 => ⟨mOk.rf _ _ _, fun i hi => by omega⟩
  | k + 1 => by
    obtain ⟨h1, h2⟩ := mrF_ok q n a b dy le tu k
    obtain ⟨g1, g2⟩ := mrI_ok q a b (dy k) (le k) (mrF q n a b dy le tu k) n
    rw [mrF]
    refine ⟨h1.tr g1, fun i hi j hj hg d hd hr => ?_⟩
    by_cases e : i = k
    · subst e; exact g2 j hj hg d hd hr
    · exact g1.1 _ (h2 i (by omega) j hj hg d hd hr)
/-- what is due on a day -/
noncomputable def dueZ (q : Nat → Nat → Int) (n : Nat) (m d : Int) : Int := ifZ (∃ j, j < n ∧ q 1 j = d ∧ grt q m j) 1000 0
theorem due_same {q : Nat → Nat → Int} {n : Nat} {m d : Int} (h : ∀ j, j < n → grt q m j → d ≠ q 1 j ∧ d ≠ q 1 j + 1) : dueZ q n m d = dueZ q n m (d - 1) := by
  unfold dueZ
  rw [ifZ_n (fun ⟨j, h1, h2, h3⟩ => (h j h1 h3).1 h2.symm), ifZ_n (fun ⟨j, h1, h2, h3⟩ => (h j h1 h3).2 (by omega))]
theorem tel_congr {R R' : Nat → Prop} {c : Nat → Int} {la : Int} {ru : Nat} (h : ∀ k, k < ru → (R k ↔ R' k)) : ∀ m, m ≤ ru → telF R c la ru m = telF R' c la ru m
  | 0, _ => rfl
  | m + 1, hm => by rw [telF, telF, tel_congr h m (by omega), ifZ_iff (h (ru - (m + 1)) (by omega))]
theorem tld_same {q : Nat → Nat → Int} {n ru : Nat} {la : Int} {dy le mo ch : Nat → Int} {d : Int} (h : ∀ k, k < ru → ∀ j, j < n → grt q (le k) j → d ≠ q 5 j + 1 ∧ d ≠ q 1 j + dy k + 1) : tld q n ru la dy le mo ch d = tld q n ru la dy le mo ch (d - 1) := by
  unfold tld
  refine tel_congr (fun k hk => ?_) ru (Nat.le_refl _)
  have e : hma q n (dy k) (le k) d = hma q n (dy k) (le k) (d - 1) := by
    unfold hma
    refine cntZ_congr n (fun j hj => ?_)
    constructor
    · rintro ⟨g, h1, h2⟩
      have := h k hk j hj g
      exact ⟨g, by omega, by omega⟩
    · rintro ⟨g, h1, h2⟩
      have := h k hk j hj g
      exact ⟨g, by omega, by omega⟩
  rw [e]
/-- one day's part of the score of a mixture -/
noncomputable def ofZ (F G D : Int → Int) (w d : Int) : Int := (w * F d + (10 - w) * G d) / 10 - D d
noncomputable def scZ (F G D : Int → Int) (w a : Int) (k : Nat) : Int := sumZ (fun i => ofZ F G D w (a + ((i : Nat) : Int)) * ofZ F G D w (a + ((i : Nat) : Int))) k
theorem scZ_add (F G D : Int → Int) (w a : Int) (i : Nat) {c : Int} : ∀ k, (∀ t, t < k → ofZ F G D w (a + ((i + t : Nat) : Int)) = c) → scZ F G D w a (i + k) = scZ F G D w a i + ((k : Nat) : Int) * c * c
  | 0, _ => by simp
  | k + 1, h => by
    have ih := scZ_add F G D w a i k (fun t ht => h t (by omega))
    have e := h k (Nat.lt_succ_self k)
    unfold scZ at ih ⊢
    rw [show i + (k + 1) = (i + k) + 1 by omega, sumZ, ih, e, Int.natCast_succ, Int.add_mul, Int.add_mul, Int.one_mul]
    omega
theorem ofZ_b {F G D : Int → Int} {w d : Int} (hF : 0 ≤ F d ∧ F d ≤ 1000) (hG : 0 ≤ G d ∧ G d ≤ 1000) (hD : D d = 0 ∨ D d = 1000) (hw : 0 ≤ w ∧ w ≤ 10) : (0 ≤ w * F d + (10 - w) * G d ∧ w * F d + (10 - w) * G d ≤ 20000) ∧ -1000 ≤ ofZ F G D w d ∧ ofZ F G D w d ≤ 1000 := by
  have h1 := mul_b (a := w) (b := F d) hw hF
  have h2 := mul_b (a := 10 - w) (b := G d) (A := 10) (by omega) hG
  have h3 : w * F d ≤ w * 1000 := Int.mul_le_mul_of_nonneg_left hF.2 hw.1
  have h4 : (10 - w) * G d ≤ (10 - w) * 1000 := Int.mul_le_mul_of_nonneg_left hG.2 (by omega)
  unfold ofZ
  omega
def lmF (su : Nat → Int) : Nat → Nat
  | 0 => 0
  | k + 1 => if su (k + 1) < su (lmF su k) then k + 1 else lmF su k
theorem lmF_le (su : Nat → Int) : ∀ k, lmF su k ≤ k
  | 0 => Nat.le_refl _
  | k + 1 => by
    rw [lmF]
    split
    · exact Nat.le_refl _
    · exact Nat.le_succ_of_le (lmF_le su k)
/-- all marks of a work -/
noncomputable def mkA (q : Nat → Nat → Int) (n : Nat) (m a b : Int) (ru ru2 : Nat) (dy le dy2 le2 : Nat → Int) (tu : Nat → Int) : Nat → Int := mrF q n a b dy2 le2 (mrF q n a b dy le (msF q m a b tu n) ru) ru2
theorem mkA_ok (q : Nat → Nat → Int) (n : Nat) (m a b : Int) (ru ru2 : Nat) (dy le dy2 le2 : Nat → Int) (tu : Nat → Int) : mOk a b tu (mkA q n m a b ru ru2 dy le dy2 le2 tu) := ((msF_ok q m a b tu n).1.tr (mrF_ok q n a b dy le _ ru).1).tr (mrF_ok q n a b dy2 le2 _ ru2).1
theorem mkA_same {q : Nat → Nat → Int} {n : Nat} {m a b : Int} {ru ru2 : Nat} {la la2 : Int} {dy le mo ch dy2 le2 mo2 ch2 : Nat → Int} {tu : Nat → Int} {d : Int} (hr : a < d ∧ d ≤ b) (h0 : mkA q n m a b ru ru2 dy le dy2 le2 tu d.toNat = 0) :
    tld q n ru la dy le mo ch d = tld q n ru la dy le mo ch (d - 1) ∧ tld q n ru2 la2 dy2 le2 mo2 ch2 d = tld q n ru2 la2 dy2 le2 mo2 ch2 (d - 1) ∧ dueZ q n m d = dueZ q n m (d - 1) := by
  have k2 := mrF_ok q n a b dy2 le2 (mrF q n a b dy le (msF q m a b tu n) ru) ru2
  have k1 := mrF_ok q n a b dy le (msF q m a b tu n) ru
  have k0 := msF_ok q m a b tu n
  refine ⟨tld_same (fun k hk j hj hg => ?_), tld_same (fun k hk j hj hg => ?_), due_same (fun j hj hg => ?_)⟩
  · constructor
    · intro e
      have := k2.1.1 _ (k1.2 k hk j hj hg d (Or.inl e) hr)
      unfold mkA at h0; omega
    · intro e
      have := k2.1.1 _ (k1.2 k hk j hj hg d (Or.inr e) hr)
      unfold mkA at h0; omega
  · constructor
    · intro e
      have := k2.2 k hk j hj hg d (Or.inl e) hr
      unfold mkA at h0; omega
    · intro e
      have := k2.2 k hk j hj hg d (Or.inr e) hr
      unfold mkA at h0; omega
  · constructor
    · intro e
      have := k2.1.1 _ (k1.1.1 _ (k0.2 j hj hg d (Or.inl e) hr))
      unfold mkA at h0; omega
    · intro e
      have := k2.1.1 _ (k1.1.1 _ (k0.2 j hj hg d (Or.inr e) hr))
      unfold mkA at h0; omega
theorem wk_new {F G D : Int → Int} {S : Nat → Int} {a s e : Nat} (h1 : a ≤ s) (h2 : s ≤ e) (hS : ∀ w, w < 11 → S w = scZ F G D ((w : Nat) : Int) ((a : Nat) : Int) (s - a)) (hc : ∀ t : Nat, s ≤ t → t < e → F ((t : Nat) : Int) = F ((s : Nat) : Int) ∧ G ((t : Nat) : Int) = G ((s : Nat) : Int) ∧ D ((t : Nat) : Int) = D ((s : Nat) : Int)) : ∀ w, w < 11 → (if w < 11 then S w + (((e : Nat) : Int) - ((s : Nat) : Int)) * ofZ F G D ((w : Nat) : Int) ((s : Nat) : Int) * ofZ F G D ((w : Nat) : Int) ((s : Nat) : Int) else S w) = scZ F G D ((w : Nat) : Int) ((a : Nat) : Int) (e - a) := by
  intro w hw
  rw [if_pos hw, hS w hw]
  have := scZ_add F G D ((w : Nat) : Int) ((a : Nat) : Int) (s - a) (c := ofZ F G D ((w : Nat) : Int) ((s : Nat) : Int)) (e - s) (fun t ht => by
    have := hc (s + t) (by omega) (by omega)
    have e1 : ((a : Nat) : Int) + ((s - a + t : Nat) : Int) = ((s + t : Nat) : Int) := by omega
    unfold ofZ
    rw [e1, this.1, this.2.1, this.2.2])
  rw [show s - a + (e - s) = e - a by omega] at this
  rw [this, show ((e - s : Nat) : Int) = ((e : Nat) : Int) - ((s : Nat) : Int) by omega]
theorem sum1_b (F G D : Int → Int) (w a : Int) (hF : ∀ d, 0 ≤ F d ∧ F d ≤ 1000) (hG : ∀ d, 0 ≤ G d ∧ G d ≤ 1000) (hD : ∀ d, D d = 0 ∨ D d = 1000) (hw : 0 ≤ w ∧ w ≤ 10) (k : Nat) (hk : k ≤ 4000) : 0 ≤ scZ F G D w a k ∧ scZ F G D w a k ≤ 1000000000000 := by
  unfold scZ
  have h := sumZ_b (f := fun i => ofZ F G D w (a + ((i : Nat) : Int)) * ofZ F G D w (a + ((i : Nat) : Int))) (lo := 0) (hi := 1000000) k (fun j _ => by
    have h1 := (ofZ_b (F := F) (G := G) (D := D) (w := w) (d := a + ((j : Nat) : Int)) (hF _) (hG _) (hD _) hw).2
    generalize ofZ F G D w (a + ((j : Nat) : Int)) = x at h1
    rcases Int.le_total 0 x with c | c
    · have := mul_b (a := x) (b := x) (A := 1000) (B := 1000) (by omega) (by omega)
      omega
    · have := mul_b (a := -x) (b := -x) (A := 1000) (B := 1000) (by omega) (by omega)
      rw [Int.neg_mul_neg] at this
      omega)
  omega
theorem due_c (q : Nat → Nat → Int) (n : Nat) (m d : Int) : dueZ q n m d = 0 ∨ dueZ q n m d = 1000 := by
  unfold dueZ
  by_cases c : ∃ j, j < n ∧ q 1 j = d ∧ grt q m j
  · rw [ifZ_y c]; omega
  · rw [ifZ_n c]; omega
end
section
/-! bits -/
section BITS
variable {K : KT} {nL : Nat} {Q : State → Prop} {cs : Nat × Nat} {pc pc' : Nat} {lv : List (Nat × PV)} {stk : List PV} {hp : PH} {cc : ByteArray} {own : String}
theorem o32 (a : Nat) : Int32.ofInt (a : Int) = Int32.ofNat a := Int32.ofInt_eq_ofNat
theorem tb32 (a : Nat) : (Int32.ofNat a).toBitVec = BitVec.ofNat 32 a := rfl
theorem sh_cnt : ∀ k, k < 31 → ((Int32.ofNat k &&& 31).toBitVec.smod 32).toNat = k := by decide +kernel
theorem shr32 {a k : Nat} (ha : a < 2147483648) (hk : k < 31) : Int32.ofInt (a : Int) >>> (Int32.ofInt (k : Int) &&& 31) = Int32.ofInt ((a / 2 ^ k : Nat) : Int) := by
  rw [o32, o32, o32]
  apply Int32.toBitVec_inj.mp
  have e : (Int32.ofNat a >>> (Int32.ofNat k &&& 31)).toBitVec = (Int32.ofNat a).toBitVec.sshiftRight' ((Int32.ofNat k &&& 31).toBitVec.smod 32) := rfl
  rw [e]
  show (Int32.ofNat a).toBitVec.sshiftRight ((Int32.ofNat k &&& 31).toBitVec.smod 32).toNat = _
  rw [sh_cnt k hk, tb32, tb32]
  apply BitVec.eq_of_toNat_eq
  have hm : (BitVec.ofNat 32 a).msb = false := by
    rw [BitVec.msb_eq_decide]
    simp only [BitVec.toNat_ofNat, decide_eq_false_iff_not]
    rw [Nat.mod_eq_of_lt (by omega)]
    omega
  rw [BitVec.toNat_sshiftRight_of_msb_false hm]
  simp only [BitVec.toNat_ofNat]
  have h2 : a / 2 ^ k ≤ a := Nat.div_le_self _ _
  rw [Nat.mod_eq_of_lt (by omega), Nat.mod_eq_of_lt (by omega), Nat.shiftRight_eq_div_pow]
theorem and32 {a b : Nat} (ha : a < 2147483648) (hb : b < 2147483648) : Int32.ofInt (a : Int) &&& Int32.ofInt (b : Int) = Int32.ofInt ((a &&& b : Nat) : Int) := by
  rw [o32, o32, o32]
  apply Int32.toBitVec_inj.mp
  rw [Int32.toBitVec_and, tb32, tb32, tb32]
  apply BitVec.eq_of_toNat_eq
  rw [BitVec.toNat_and]
  simp only [BitVec.toNat_ofNat]
  have := Nat.and_le_left (n := a) (m := b)
  rw [Nat.mod_eq_of_lt (by omega), Nat.mod_eq_of_lt (by omega), Nat.mod_eq_of_lt (by omega)]
theorem or32 {a b : Nat} (ha : a < 1073741824) (hb : b < 1073741824) : Int32.ofInt (a : Int) ||| Int32.ofInt (b : Int) = Int32.ofInt ((a ||| b : Nat) : Int) := by
  rw [o32, o32, o32]
  apply Int32.toBitVec_inj.mp
  rw [Int32.toBitVec_or, tb32, tb32, tb32]
  apply BitVec.eq_of_toNat_eq
  rw [BitVec.toNat_or]
  simp only [BitVec.toNat_ofNat]
  have h3 : a ||| b < 2 ^ 30 := Nat.or_lt_two_pow (by omega) (by omega)
  rw [Nat.mod_eq_of_lt (by omega), Nat.mod_eq_of_lt (by omega), Nat.mod_eq_of_lt (by omega)]
theorem shl1 : ∀ k, k < 31 → (1 : Int32) <<< (Int32.ofNat k &&& 31) = Int32.ofNat (2 ^ k) := by decide +kernel
theorem shl1L : ∀ k, k < 31 → (1 : Int64) <<< ((Int32.ofNat k).toInt64 &&& 63) = Int64.ofNat (2 ^ k) := by decide +kernel
theorem wp_ishr (G : Gd K cc own nL) {a k : Nat} {za zk : Int} (ea : za = ((a : Nat) : Int)) (ek : zk = ((k : Nat) : Int)) (ha : a < 2147483648) (hk : k < 31) (hd : Dn cc pc .ishr 1 pc') (kk : Wp K nL Q cs pc' lv (zI ((a / 2 ^ k : Nat) : Int) :: stk) hp) : Wp K nL Q cs pc lv (zI zk :: zI za :: stk) hp := by
  subst ea ek
  intro H locs ls h1 h2 h3
  obtain ⟨hx, hb, -⟩ := G
  obtain ⟨hd, rfl⟩ := hd
  refine lv_ishr (x := Int32.ofInt (a : Int)) (y := Int32.ofInt (k : Int)) hx hb hd ?_
  rw [shr32 ha hk]
  exact kk H locs ls h1 h2 h3
theorem wp_iand (G : Gd K cc own nL) {a b : Nat} {za zb : Int} (ea : za = ((a : Nat) : Int)) (eb : zb = ((b : Nat) : Int)) (ha : a < 2147483648) (hb0 : b < 2147483648) (hd : Dn cc pc .iand 1 pc') (kk : Wp K nL Q cs pc' lv (zI ((a &&& b : Nat) : Int) :: stk) hp) : Wp K nL Q cs pc lv (zI zb :: zI za :: stk) hp := by
  subst ea eb
  intro H locs ls h1 h2 h3
  obtain ⟨hx, hb, -⟩ := G
  obtain ⟨hd, rfl⟩ := hd
  refine lv_iand (x := Int32.ofInt (a : Int)) (y := Int32.ofInt (b : Int)) hx hb hd ?_
  rw [and32 ha hb0]
  exact kk H locs ls h1 h2 h3
theorem wp_iand1 (G : Gd K cc own nL) {a : Nat} {za : Int} (ea : za = ((a : Nat) : Int)) (ha : a < 2147483648) (hd : Dn cc pc .iand 1 pc') (kk : Wp K nL Q cs pc' lv (zI ((a % 2 : Nat) : Int) :: stk) hp) : Wp K nL Q cs pc lv (zI 1 :: zI za :: stk) hp := by
  refine wp_iand (a := a) (b := 1) G ea rfl ha (by decide) hd ?_
  rw [Nat.and_one_is_mod]
  exact kk
theorem wp_ior (G : Gd K cc own nL) {a b : Nat} {za zb : Int} (ea : za = ((a : Nat) : Int)) (eb : zb = ((b : Nat) : Int)) (ha : a < 1073741824) (hb0 : b < 1073741824) (hd : Dn cc pc .ior 1 pc') (kk : Wp K nL Q cs pc' lv (zI ((a ||| b : Nat) : Int) :: stk) hp) : Wp K nL Q cs pc lv (zI zb :: zI za :: stk) hp := by
  subst ea eb
  intro H locs ls h1 h2 h3
  obtain ⟨hx, hb, -⟩ := G
  obtain ⟨hd, rfl⟩ := hd
  refine lv_ior (x := Int32.ofInt (a : Int)) (y := Int32.ofInt (b : Int)) hx hb hd ?_
  rw [or32 ha hb0]
  exact kk H locs ls h1 h2 h3
theorem wp_ishl1 (G : Gd K cc own nL) {k : Nat} {zk : Int} (ek : zk = ((k : Nat) : Int)) (hk : k < 31) (hd : Dn cc pc .ishl 1 pc') (kk : Wp K nL Q cs pc' lv (zI ((2 ^ k : Nat) : Int) :: stk) hp) : Wp K nL Q cs pc lv (zI zk :: zI 1 :: stk) hp := by
  subst ek
  intro H locs ls h1 h2 h3
  obtain ⟨hx, hb, -⟩ := G
  obtain ⟨hd, rfl⟩ := hd
  refine lv_ishl (x := Int32.ofInt 1) (y := Int32.ofInt (k : Int)) hx hb hd ?_
  have e : Int32.ofInt 1 <<< (Int32.ofInt (k : Int) &&& 31) = Int32.ofInt ((2 ^ k : Nat) : Int) := by rw [o32, o32]; exact shl1 k hk
  rw [e]
  exact kk H locs ls h1 h2 h3
theorem wp_lshl1 (G : Gd K cc own nL) {k : Nat} {zk : Int} (ek : zk = ((k : Nat) : Int)) (hk : k < 31) (hd : Dn cc pc .lshl 1 pc') (kk : Wp K nL Q cs pc' lv (zJ ((2 ^ k : Nat) : Int) :: stk) hp) : Wp K nL Q cs pc lv (zI zk :: zJ 1 :: stk) hp := by
  subst ek
  intro H locs ls h1 h2 h3
  obtain ⟨hx, hb, -⟩ := G
  obtain ⟨hd, rfl⟩ := hd
  refine lv_lshl (x := Int64.ofInt 1) (y := Int32.ofInt (k : Int)) hx hb hd ?_ (kk H locs ls h1 h2 h3)
  rw [o32, Int64.ofInt_eq_ofNat]
  exact shl1L k hk
def xZ (a b : Int) : Int := (Int64.ofInt a ^^^ Int64.ofInt b).toInt
theorem xZ_r (a b : Int) : r64 (xZ a b) := by
  have h1 := Int64.le_toInt (Int64.ofInt a ^^^ Int64.ofInt b)
  have h2 := Int64.toInt_lt (Int64.ofInt a ^^^ Int64.ofInt b)
  unfold xZ
  omega
theorem wp_lxor (G : Gd K cc own nL) {a b : Int} (hd : Dn cc pc .lxor 1 pc') (kk : Wp K nL Q cs pc' lv (zJ (xZ a b) :: stk) hp) : Wp K nL Q cs pc lv (zJ b :: zJ a :: stk) hp := by
  intro H locs ls h1 h2 h3
  obtain ⟨hx, hb, -⟩ := G
  obtain ⟨hd, rfl⟩ := hd
  refine lv_lxor (x := Int64.ofInt a) (y := Int64.ofInt b) hx hb hd ?_
  have e : Int64.ofInt a ^^^ Int64.ofInt b = Int64.ofInt (xZ a b) := by unfold xZ; rw [Int64.ofInt_toInt]
  rw [e]
  exact kk H locs ls h1 h2 h3
theorem neg64 {a : Int} (ra : r64 a) : (Int64.ofInt a).toBitVec.msb = decide (a < 0) := by
  rw [BitVec.msb_eq_toInt]
  have : (Int64.ofInt a).toBitVec.toInt = a := n64 ra
  rw [this]
theorem xZ_s {a b : Int} (ra : r64 a) (rb : r64 b) (hb : 0 ≤ b) : xZ a b < 0 ↔ a < 0 := by
  have e : (Int64.ofInt a ^^^ Int64.ofInt b).toBitVec.msb = (decide (a < 0) ^^ decide (b < 0)) := by
    rw [Int64.toBitVec_xor, BitVec.msb_xor, neg64 ra, neg64 rb]
  rw [BitVec.msb_eq_toInt] at e
  have e2 : (Int64.ofInt a ^^^ Int64.ofInt b).toBitVec.toInt = xZ a b := rfl
  rw [e2] at e
  have hb2 : decide (b < 0) = false := decide_eq_false (by omega)
  rw [hb2, Bool.xor_false] at e
  exact decide_eq_decide.mp e
theorem cx_ofF {d : Nat} {mm : Nat × Nat} {y : MethodName} {cc : ByteArray} {maxL : Nat} {ret : Option FieldType} {as : List PV} {nx : Nat} {h : Nat → Option PC} {Qp : Option PV → Nat → List (Nat × PC) → Prop} (hy : plainFor y = true) (hw : pwd as ≤ maxL)
    (body : ∀ K : KT, Gd K cc y.cls maxL → (kMeth K).sig.returnType = ret → (kMeth K).name = y.name → kR K = rmx d mm.1 mm.2 → Wp K maxL (Mx K h Qp mm) (0, 0) 0 (pargs 0 as) [] (nx, h, [])) : Cx d mm y cc maxL ret as nx h Qp := by
  intro l g
  refine va_MetF (cc := cc) (maxL := maxL) (ret := ret) hy rfl ?_
  intro p e s m args below meth c s₁ B hml hv
  obtain ⟨rfl, hE, hSv, hR, hsz⟩ := hv
  have hts := atoms_spec (ws := Cond.code y cc maxL ret :: WT) B.pre
  have hb := body (p, l, e, rmx d mm.1 mm.2, s, m, (as.map (rv g.1)).toArray, below, meth, c, g) ⟨B.exec, B.bytes, hml, findClass_of_methodNamed B.named, fun w hw => hts w (List.mem_cons_of_mem _ hw), hE, hSv, B.notSynchronized, hsz⟩ B.returns (name_of_methodNamed B.named B.method).1 rfl
  have hl := lv_entry (as.map (rv g.1)) (n := maxL) (by rw [pwd_len]; exact hw)
  rw [lg_entry_eq]
  rw [pargs_map] at hl
  exact hb s.heap [] _ hR va_S.rf hl
end BITS
end

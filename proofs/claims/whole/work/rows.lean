section
-- ===== PART A: goes FIRST, ahead of the names: the tables' words, and 'selects' of the private methods out of them =====
/-- a private method of a class that the tables say can be made, by its rows of tables_1 -/
def lw_okq (q : MethodName × Nat) : Prop := (q.1.cls ≠ "java/lang/invoke/MethodHandle" ∧ q.1.cls ≠ "java/lang/invoke/VarHandle") ∧ Cond.instantiable q.1.cls q.2 ∈ tables_1 ∧ Cond.privateMethod q.1 ∈ tables_1 ∧ Cond.instanceMethod q.1 ∈ tables_1
theorem lw_p0 : lw_okq (⟨"QuakeLists$Quakes", "isFull", "()Z"⟩, 9) := ⟨⟨by decide +kernel, by decide +kernel⟩, List.mem_of_getElem? (i := 22) (by decide +kernel), List.mem_of_getElem? (i := 310) (by decide +kernel), List.mem_of_getElem? (i := 311) (by decide +kernel)⟩
theorem lw_p1 : lw_okq (⟨"QuakeLists$Quakes", "add", "(IIIIII)I"⟩, 9) := ⟨⟨by decide +kernel, by decide +kernel⟩, List.mem_of_getElem? (i := 22) (by decide +kernel), List.mem_of_getElem? (i := 314) (by decide +kernel), List.mem_of_getElem? (i := 315) (by decide +kernel)⟩
theorem lw_p2 : lw_okq (⟨"QuakeLists$Quakes", "putInOrder", "(I)V"⟩, 9) := ⟨⟨by decide +kernel, by decide +kernel⟩, List.mem_of_getElem? (i := 22) (by decide +kernel), List.mem_of_getElem? (i := 318) (by decide +kernel), List.mem_of_getElem? (i := 319) (by decide +kernel)⟩
theorem lw_p3 : lw_okq (⟨"QuakeLists$Quakes", "has", "(I)Z"⟩, 9) := ⟨⟨by decide +kernel, by decide +kernel⟩, List.mem_of_getElem? (i := 22) (by decide +kernel), List.mem_of_getElem? (i := 326) (by decide +kernel), List.mem_of_getElem? (i := 327) (by decide +kernel)⟩
theorem lw_p4 : lw_okq (⟨"QuakeLists$Quakes", "placeOf", "(I)I"⟩, 9) := ⟨⟨by decide +kernel, by decide +kernel⟩, List.mem_of_getElem? (i := 22) (by decide +kernel), List.mem_of_getElem? (i := 341) (by decide +kernel), List.mem_of_getElem? (i := 342) (by decide +kernel)⟩
theorem lw_p5 : lw_okq (⟨"QuakeLists$Quakes", "howManyIn", "(I)I"⟩, 9) := ⟨⟨by decide +kernel, by decide +kernel⟩, List.mem_of_getElem? (i := 22) (by decide +kernel), List.mem_of_getElem? (i := 357) (by decide +kernel), List.mem_of_getElem? (i := 358) (by decide +kernel)⟩
theorem lw_p6 : lw_okq (⟨"QuakeLists$Joining", "pairUp", "(LQuakeLists$Quakes;IIIII)V"⟩, 14) := ⟨⟨by decide +kernel, by decide +kernel⟩, List.mem_of_getElem? (i := 91) (by decide +kernel), List.mem_of_getElem? (i := 361) (by decide +kernel), List.mem_of_getElem? (i := 362) (by decide +kernel)⟩
theorem lw_p7 : lw_okq (⟨"QuakeLists$Joining", "fillCosts", "(LQuakeLists$Quakes;III)V"⟩, 14) := ⟨⟨by decide +kernel, by decide +kernel⟩, List.mem_of_getElem? (i := 91) (by decide +kernel), List.mem_of_getElem? (i := 368) (by decide +kernel), List.mem_of_getElem? (i := 369) (by decide +kernel)⟩
theorem lw_p8 : lw_okq (⟨"QuakeLists$Joining", "clearPrices", "()V"⟩, 14) := ⟨⟨by decide +kernel, by decide +kernel⟩, List.mem_of_getElem? (i := 91) (by decide +kernel), List.mem_of_getElem? (i := 402) (by decide +kernel), List.mem_of_getElem? (i := 403) (by decide +kernel)⟩
theorem lw_p9 : lw_okq (⟨"QuakeLists$Joining", "placeRow", "(I)V"⟩, 14) := ⟨⟨by decide +kernel, by decide +kernel⟩, List.mem_of_getElem? (i := 91) (by decide +kernel), List.mem_of_getElem? (i := 406) (by decide +kernel), List.mem_of_getElem? (i := 407) (by decide +kernel)⟩
theorem lw_p10 : lw_okq (⟨"QuakeLists$Joining", "loosen", "(I)V"⟩, 14) := ⟨⟨by decide +kernel, by decide +kernel⟩, List.mem_of_getElem? (i := 91) (by decide +kernel), List.mem_of_getElem? (i := 411) (by decide +kernel), List.mem_of_getElem? (i := 412) (by decide +kernel)⟩
theorem lw_p11 : lw_okq (⟨"QuakeLists$Joining", "nearest", "()I"⟩, 14) := ⟨⟨by decide +kernel, by decide +kernel⟩, List.mem_of_getElem? (i := 91) (by decide +kernel), List.mem_of_getElem? (i := 415) (by decide +kernel), List.mem_of_getElem? (i := 416) (by decide +kernel)⟩
theorem lw_p12 : lw_okq (⟨"QuakeLists$Joining", "reprice", "(J)V"⟩, 14) := ⟨⟨by decide +kernel, by decide +kernel⟩, List.mem_of_getElem? (i := 91) (by decide +kernel), List.mem_of_getElem? (i := 419) (by decide +kernel), List.mem_of_getElem? (i := 420) (by decide +kernel)⟩
theorem lw_p13 : lw_okq (⟨"QuakeLists$Joining", "sumUp", "(LQuakeLists$Quakes;)V"⟩, 14) := ⟨⟨by decide +kernel, by decide +kernel⟩, List.mem_of_getElem? (i := 91) (by decide +kernel), List.mem_of_getElem? (i := 423) (by decide +kernel), List.mem_of_getElem? (i := 424) (by decide +kernel)⟩
theorem lw_p14 : lw_okq (⟨"QuakeLists$Joining", "partnerOf", "(I)I"⟩, 14) := ⟨⟨by decide +kernel, by decide +kernel⟩, List.mem_of_getElem? (i := 91) (by decide +kernel), List.mem_of_getElem? (i := 427) (by decide +kernel), List.mem_of_getElem? (i := 428) (by decide +kernel)⟩
theorem lw_p15 : lw_okq (⟨"QuakeLists$Counts", "howMany", "(LQuakeLists$Quakes;III)I"⟩, 1) := ⟨⟨by decide +kernel, by decide +kernel⟩, List.mem_of_getElem? (i := 145) (by decide +kernel), List.mem_of_getElem? (i := 438) (by decide +kernel), List.mem_of_getElem? (i := 439) (by decide +kernel)⟩
def lw_privs_1 : List (MethodName × Nat) := [(⟨"QuakeLists$Quakes", "isFull", "()Z"⟩, 9), (⟨"QuakeLists$Quakes", "add", "(IIIIII)I"⟩, 9), (⟨"QuakeLists$Quakes", "putInOrder", "(I)V"⟩, 9), (⟨"QuakeLists$Quakes", "has", "(I)Z"⟩, 9), (⟨"QuakeLists$Quakes", "placeOf", "(I)I"⟩, 9), (⟨"QuakeLists$Quakes", "howManyIn", "(I)I"⟩, 9), (⟨"QuakeLists$Joining", "pairUp", "(LQuakeLists$Quakes;IIIII)V"⟩, 14), (⟨"QuakeLists$Joining", "fillCosts", "(LQuakeLists$Quakes;III)V"⟩, 14), (⟨"QuakeLists$Joining", "clearPrices", "()V"⟩, 14), (⟨"QuakeLists$Joining", "placeRow", "(I)V"⟩, 14), (⟨"QuakeLists$Joining", "loosen", "(I)V"⟩, 14), (⟨"QuakeLists$Joining", "nearest", "()I"⟩, 14), (⟨"QuakeLists$Joining", "reprice", "(J)V"⟩, 14), (⟨"QuakeLists$Joining", "sumUp", "(LQuakeLists$Quakes;)V"⟩, 14), (⟨"QuakeLists$Joining", "partnerOf", "(I)I"⟩, 14), (⟨"QuakeLists$Counts", "howMany", "(LQuakeLists$Quakes;III)I"⟩, 1)]
theorem lw_r1 : ∀ q ∈ lw_privs_1, lw_okq q := List.forall_mem_cons.mpr ⟨lw_p0, List.forall_mem_cons.mpr ⟨lw_p1, List.forall_mem_cons.mpr ⟨lw_p2, List.forall_mem_cons.mpr ⟨lw_p3, List.forall_mem_cons.mpr ⟨lw_p4, List.forall_mem_cons.mpr ⟨lw_p5, List.forall_mem_cons.mpr ⟨lw_p6, List.forall_mem_cons.mpr ⟨lw_p7, List.forall_mem_cons.mpr ⟨lw_p8, List.forall_mem_cons.mpr ⟨lw_p9, List.forall_mem_cons.mpr ⟨lw_p10, List.forall_mem_cons.mpr ⟨lw_p11, List.forall_mem_cons.mpr ⟨lw_p12, List.forall_mem_cons.mpr ⟨lw_p13, List.forall_mem_cons.mpr ⟨lw_p14, List.forall_mem_cons.mpr ⟨lw_p15, fun _ h => absurd h List.not_mem_nil⟩⟩⟩⟩⟩⟩⟩⟩⟩⟩⟩⟩⟩⟩⟩⟩
theorem lw_p16 : lw_okq (⟨"QuakeLists$Quakes", "isCounted", "(III)Z"⟩, 9) := ⟨⟨by decide +kernel, by decide +kernel⟩, List.mem_of_getElem? (i := 22) (by decide +kernel), List.mem_of_getElem? (i := 442) (by decide +kernel), List.mem_of_getElem? (i := 443) (by decide +kernel)⟩
theorem lw_p17 : lw_okq (⟨"QuakeLists$Counts", "commonest", "(LQuakeLists$Quakes;II)I"⟩, 1) := ⟨⟨by decide +kernel, by decide +kernel⟩, List.mem_of_getElem? (i := 145) (by decide +kernel), List.mem_of_getElem? (i := 450) (by decide +kernel), List.mem_of_getElem? (i := 451) (by decide +kernel)⟩
theorem lw_p18 : lw_okq (⟨"QuakeLists$Counts", "sumAbove", "(LQuakeLists$Quakes;III)I"⟩, 1) := ⟨⟨by decide +kernel, by decide +kernel⟩, List.mem_of_getElem? (i := 145) (by decide +kernel), List.mem_of_getElem? (i := 464) (by decide +kernel), List.mem_of_getElem? (i := 465) (by decide +kernel)⟩
theorem lw_p19 : lw_okq (⟨"QuakeLists$Mothers", "stepsOf", "(I)[I"⟩, 5) := ⟨⟨by decide +kernel, by decide +kernel⟩, List.mem_of_getElem? (i := 155) (by decide +kernel), List.mem_of_getElem? (i := 501) (by decide +kernel), List.mem_of_getElem? (i := 502) (by decide +kernel)⟩
theorem lw_p20 : lw_okq (⟨"QuakeLists$Mothers", "weightIfAhead", "(LQuakeLists$Quakes;III)I"⟩, 5) := ⟨⟨by decide +kernel, by decide +kernel⟩, List.mem_of_getElem? (i := 155) (by decide +kernel), List.mem_of_getElem? (i := 510) (by decide +kernel), List.mem_of_getElem? (i := 511) (by decide +kernel)⟩
theorem lw_p21 : lw_okq (⟨"QuakeLists$Mothers", "weight", "(LQuakeLists$Quakes;II)I"⟩, 5) := ⟨⟨by decide +kernel, by decide +kernel⟩, List.mem_of_getElem? (i := 155) (by decide +kernel), List.mem_of_getElem? (i := 516) (by decide +kernel), List.mem_of_getElem? (i := 517) (by decide +kernel)⟩
theorem lw_p22 : lw_okq (⟨"QuakeLists$Mothers", "weightAt", "(LQuakeLists$Quakes;IIII)I"⟩, 5) := ⟨⟨by decide +kernel, by decide +kernel⟩, List.mem_of_getElem? (i := 155) (by decide +kernel), List.mem_of_getElem? (i := 520) (by decide +kernel), List.mem_of_getElem? (i := 521) (by decide +kernel)⟩
theorem lw_p23 : lw_okq (⟨"QuakeLists$Mothers", "allWeights", "(LQuakeLists$Quakes;III)I"⟩, 5) := ⟨⟨by decide +kernel, by decide +kernel⟩, List.mem_of_getElem? (i := 155) (by decide +kernel), List.mem_of_getElem? (i := 531) (by decide +kernel), List.mem_of_getElem? (i := 532) (by decide +kernel)⟩
theorem lw_p24 : lw_okq (⟨"QuakeLists", "refusalOfDaughter", "(IIZ)I"⟩, 10) := ⟨⟨by decide +kernel, by decide +kernel⟩, List.mem_of_getElem? (i := 14) (by decide +kernel), List.mem_of_getElem? (i := 539) (by decide +kernel), List.mem_of_getElem? (i := 540) (by decide +kernel)⟩
theorem lw_p25 : lw_okq (⟨"QuakeLists$Mothers", "likeliest", "(LQuakeLists$Quakes;III)I"⟩, 5) := ⟨⟨by decide +kernel, by decide +kernel⟩, List.mem_of_getElem? (i := 155) (by decide +kernel), List.mem_of_getElem? (i := 543) (by decide +kernel), List.mem_of_getElem? (i := 544) (by decide +kernel)⟩
theorem lw_p26 : lw_okq (⟨"QuakeLists$Mothers", "trace", "(LQuakeLists$Quakes;II)V"⟩, 5) := ⟨⟨by decide +kernel, by decide +kernel⟩, List.mem_of_getElem? (i := 155) (by decide +kernel), List.mem_of_getElem? (i := 551) (by decide +kernel), List.mem_of_getElem? (i := 552) (by decide +kernel)⟩
theorem lw_p27 : lw_okq (⟨"QuakeLists$Mothers", "sizeOfFamily", "(LQuakeLists$Quakes;I)I"⟩, 5) := ⟨⟨by decide +kernel, by decide +kernel⟩, List.mem_of_getElem? (i := 155) (by decide +kernel), List.mem_of_getElem? (i := 556) (by decide +kernel), List.mem_of_getElem? (i := 557) (by decide +kernel)⟩
theorem lw_p28 : lw_okq (⟨"QuakeLists$Mothers", "deepestOfFamily", "(LQuakeLists$Quakes;I)I"⟩, 5) := ⟨⟨by decide +kernel, by decide +kernel⟩, List.mem_of_getElem? (i := 155) (by decide +kernel), List.mem_of_getElem? (i := 560) (by decide +kernel), List.mem_of_getElem? (i := 561) (by decide +kernel)⟩
theorem lw_p29 : lw_okq (⟨"QuakeLists$Mothers", "howManyFirst", "(LQuakeLists$Quakes;)I"⟩, 5) := ⟨⟨by decide +kernel, by decide +kernel⟩, List.mem_of_getElem? (i := 155) (by decide +kernel), List.mem_of_getElem? (i := 569) (by decide +kernel), List.mem_of_getElem? (i := 570) (by decide +kernel)⟩
theorem lw_p30 : lw_okq (⟨"QuakeLists$Mothers", "firstAt", "(LQuakeLists$Quakes;I)I"⟩, 5) := ⟨⟨by decide +kernel, by decide +kernel⟩, List.mem_of_getElem? (i := 155) (by decide +kernel), List.mem_of_getElem? (i := 573) (by decide +kernel), List.mem_of_getElem? (i := 574) (by decide +kernel)⟩
theorem lw_p31 : lw_okq (⟨"QuakeLists$Mothers", "drawn", "(LQuakeLists$Quakes;IIII)I"⟩, 5) := ⟨⟨by decide +kernel, by decide +kernel⟩, List.mem_of_getElem? (i := 155) (by decide +kernel), List.mem_of_getElem? (i := 582) (by decide +kernel), List.mem_of_getElem? (i := 583) (by decide +kernel)⟩
def lw_privs_2 : List (MethodName × Nat) := [(⟨"QuakeLists$Quakes", "isCounted", "(III)Z"⟩, 9), (⟨"QuakeLists$Counts", "commonest", "(LQuakeLists$Quakes;II)I"⟩, 1), (⟨"QuakeLists$Counts", "sumAbove", "(LQuakeLists$Quakes;III)I"⟩, 1), (⟨"QuakeLists$Mothers", "stepsOf", "(I)[I"⟩, 5), (⟨"QuakeLists$Mothers", "weightIfAhead", "(LQuakeLists$Quakes;III)I"⟩, 5), (⟨"QuakeLists$Mothers", "weight", "(LQuakeLists$Quakes;II)I"⟩, 5), (⟨"QuakeLists$Mothers", "weightAt", "(LQuakeLists$Quakes;IIII)I"⟩, 5), (⟨"QuakeLists$Mothers", "allWeights", "(LQuakeLists$Quakes;III)I"⟩, 5), (⟨"QuakeLists", "refusalOfDaughter", "(IIZ)I"⟩, 10), (⟨"QuakeLists$Mothers", "likeliest", "(LQuakeLists$Quakes;III)I"⟩, 5), (⟨"QuakeLists$Mothers", "trace", "(LQuakeLists$Quakes;II)V"⟩, 5), (⟨"QuakeLists$Mothers", "sizeOfFamily", "(LQuakeLists$Quakes;I)I"⟩, 5), (⟨"QuakeLists$Mothers", "deepestOfFamily", "(LQuakeLists$Quakes;I)I"⟩, 5), (⟨"QuakeLists$Mothers", "howManyFirst", "(LQuakeLists$Quakes;)I"⟩, 5), (⟨"QuakeLists$Mothers", "firstAt", "(LQuakeLists$Quakes;I)I"⟩, 5), (⟨"QuakeLists$Mothers", "drawn", "(LQuakeLists$Quakes;IIII)I"⟩, 5)]
theorem lw_r2 : ∀ q ∈ lw_privs_2, lw_okq q := List.forall_mem_cons.mpr ⟨lw_p16, List.forall_mem_cons.mpr ⟨lw_p17, List.forall_mem_cons.mpr ⟨lw_p18, List.forall_mem_cons.mpr ⟨lw_p19, List.forall_mem_cons.mpr ⟨lw_p20, List.forall_mem_cons.mpr ⟨lw_p21, List.forall_mem_cons.mpr ⟨lw_p22, List.forall_mem_cons.mpr ⟨lw_p23, List.forall_mem_cons.mpr ⟨lw_p24, List.forall_mem_cons.mpr ⟨lw_p25, List.forall_mem_cons.mpr ⟨lw_p26, List.forall_mem_cons.mpr ⟨lw_p27, List.forall_mem_cons.mpr ⟨lw_p28, List.forall_mem_cons.mpr ⟨lw_p29, List.forall_mem_cons.mpr ⟨lw_p30, List.forall_mem_cons.mpr ⟨lw_p31, fun _ h => absurd h List.not_mem_nil⟩⟩⟩⟩⟩⟩⟩⟩⟩⟩⟩⟩⟩⟩⟩⟩
theorem lw_p32 : lw_okq (⟨"QuakeLists$Mothers", "weightOn", "(LQuakeLists$Quakes;IIII)I"⟩, 5) := ⟨⟨by decide +kernel, by decide +kernel⟩, List.mem_of_getElem? (i := 155) (by decide +kernel), List.mem_of_getElem? (i := 594) (by decide +kernel), List.mem_of_getElem? (i := 595) (by decide +kernel)⟩
theorem lw_p33 : lw_okq (⟨"QuakeLists$Signs", "isFull", "()Z"⟩, 2) := ⟨⟨by decide +kernel, by decide +kernel⟩, List.mem_of_getElem? (i := 179) (by decide +kernel), List.mem_of_getElem? (i := 602) (by decide +kernel), List.mem_of_getElem? (i := 603) (by decide +kernel)⟩
theorem lw_p34 : lw_okq (⟨"QuakeLists$Signs", "add", "(I)I"⟩, 2) := ⟨⟨by decide +kernel, by decide +kernel⟩, List.mem_of_getElem? (i := 179) (by decide +kernel), List.mem_of_getElem? (i := 606) (by decide +kernel), List.mem_of_getElem? (i := 607) (by decide +kernel)⟩
theorem lw_p35 : lw_okq (⟨"QuakeLists$Signs", "faultyPlace", "()I"⟩, 2) := ⟨⟨by decide +kernel, by decide +kernel⟩, List.mem_of_getElem? (i := 179) (by decide +kernel), List.mem_of_getElem? (i := 618) (by decide +kernel), List.mem_of_getElem? (i := 619) (by decide +kernel)⟩
theorem lw_p36 : lw_okq (⟨"QuakeLists$Signs", "read", "()LQuakeLists$Forecast;"⟩, 2) := ⟨⟨by decide +kernel, by decide +kernel⟩, List.mem_of_getElem? (i := 179) (by decide +kernel), List.mem_of_getElem? (i := 631) (by decide +kernel), List.mem_of_getElem? (i := 632) (by decide +kernel)⟩
theorem lw_p37 : lw_okq (⟨"QuakeLists$Forecast", "take", "(II)V"⟩, 6) := ⟨⟨by decide +kernel, by decide +kernel⟩, List.mem_of_getElem? (i := 635) (by decide +kernel), List.mem_of_getElem? (i := 664) (by decide +kernel), List.mem_of_getElem? (i := 665) (by decide +kernel)⟩
theorem lw_p38 : lw_okq (⟨"QuakeLists", "forecastOf", "(I)LQuakeLists$Forecast;"⟩, 10) := ⟨⟨by decide +kernel, by decide +kernel⟩, List.mem_of_getElem? (i := 14) (by decide +kernel), List.mem_of_getElem? (i := 672) (by decide +kernel), List.mem_of_getElem? (i := 673) (by decide +kernel)⟩
theorem lw_p39 : lw_okq (⟨"QuakeLists$Forecast", "toldFor", "(LQuakeLists$Quakes;I)I"⟩, 6) := ⟨⟨by decide +kernel, by decide +kernel⟩, List.mem_of_getElem? (i := 635) (by decide +kernel), List.mem_of_getElem? (i := 676) (by decide +kernel), List.mem_of_getElem? (i := 677) (by decide +kernel)⟩
theorem lw_p40 : lw_okq (⟨"QuakeLists$Forecast", "howManyAhead", "(LQuakeLists$Quakes;II)I"⟩, 6) := ⟨⟨by decide +kernel, by decide +kernel⟩, List.mem_of_getElem? (i := 635) (by decide +kernel), List.mem_of_getElem? (i := 680) (by decide +kernel), List.mem_of_getElem? (i := 681) (by decide +kernel)⟩
theorem lw_p41 : lw_okq (⟨"QuakeLists$Quakes", "isGreat", "(II)Z"⟩, 9) := ⟨⟨by decide +kernel, by decide +kernel⟩, List.mem_of_getElem? (i := 22) (by decide +kernel), List.mem_of_getElem? (i := 684) (by decide +kernel), List.mem_of_getElem? (i := 685) (by decide +kernel)⟩
theorem lw_p42 : lw_okq (⟨"QuakeLists", "scoreOfMix", "(IIIIII)J"⟩, 10) := ⟨⟨by decide +kernel, by decide +kernel⟩, List.mem_of_getElem? (i := 14) (by decide +kernel), List.mem_of_getElem? (i := 693) (by decide +kernel), List.mem_of_getElem? (i := 694) (by decide +kernel)⟩
theorem lw_p43 : lw_okq (⟨"QuakeLists$Scores", "work", "(LQuakeLists$Quakes;LQuakeLists$Forecast;LQuakeLists$Forecast;III)V"⟩, 2) := ⟨⟨by decide +kernel, by decide +kernel⟩, List.mem_of_getElem? (i := 195) (by decide +kernel), List.mem_of_getElem? (i := 700) (by decide +kernel), List.mem_of_getElem? (i := 701) (by decide +kernel)⟩
theorem lw_p44 : lw_okq (⟨"QuakeLists$Scores", "markStrikes", "(LQuakeLists$Quakes;III)V"⟩, 2) := ⟨⟨by decide +kernel, by decide +kernel⟩, List.mem_of_getElem? (i := 195) (by decide +kernel), List.mem_of_getElem? (i := 704) (by decide +kernel), List.mem_of_getElem? (i := 705) (by decide +kernel)⟩
theorem lw_p45 : lw_okq (⟨"QuakeLists$Scores", "mark", "(III)V"⟩, 2) := ⟨⟨by decide +kernel, by decide +kernel⟩, List.mem_of_getElem? (i := 195) (by decide +kernel), List.mem_of_getElem? (i := 709) (by decide +kernel), List.mem_of_getElem? (i := 710) (by decide +kernel)⟩
theorem lw_p46 : lw_okq (⟨"QuakeLists$Scores", "markRules", "(LQuakeLists$Quakes;LQuakeLists$Forecast;II)V"⟩, 2) := ⟨⟨by decide +kernel, by decide +kernel⟩, List.mem_of_getElem? (i := 195) (by decide +kernel), List.mem_of_getElem? (i := 713) (by decide +kernel), List.mem_of_getElem? (i := 714) (by decide +kernel)⟩
theorem lw_p47 : lw_okq (⟨"QuakeLists$Scores", "addStretch", "(LQuakeLists$Quakes;LQuakeLists$Forecast;LQuakeLists$Forecast;III)V"⟩, 2) := ⟨⟨by decide +kernel, by decide +kernel⟩, List.mem_of_getElem? (i := 195) (by decide +kernel), List.mem_of_getElem? (i := 717) (by decide +kernel), List.mem_of_getElem? (i := 718) (by decide +kernel)⟩
def lw_privs_3 : List (MethodName × Nat) := [(⟨"QuakeLists$Mothers", "weightOn", "(LQuakeLists$Quakes;IIII)I"⟩, 5), (⟨"QuakeLists$Signs", "isFull", "()Z"⟩, 2), (⟨"QuakeLists$Signs", "add", "(I)I"⟩, 2), (⟨"QuakeLists$Signs", "faultyPlace", "()I"⟩, 2), (⟨"QuakeLists$Signs", "read", "()LQuakeLists$Forecast;"⟩, 2), (⟨"QuakeLists$Forecast", "take", "(II)V"⟩, 6), (⟨"QuakeLists", "forecastOf", "(I)LQuakeLists$Forecast;"⟩, 10), (⟨"QuakeLists$Forecast", "toldFor", "(LQuakeLists$Quakes;I)I"⟩, 6), (⟨"QuakeLists$Forecast", "howManyAhead", "(LQuakeLists$Quakes;II)I"⟩, 6), (⟨"QuakeLists$Quakes", "isGreat", "(II)Z"⟩, 9), (⟨"QuakeLists", "scoreOfMix", "(IIIIII)J"⟩, 10), (⟨"QuakeLists$Scores", "work", "(LQuakeLists$Quakes;LQuakeLists$Forecast;LQuakeLists$Forecast;III)V"⟩, 2), (⟨"QuakeLists$Scores", "markStrikes", "(LQuakeLists$Quakes;III)V"⟩, 2), (⟨"QuakeLists$Scores", "mark", "(III)V"⟩, 2), (⟨"QuakeLists$Scores", "markRules", "(LQuakeLists$Quakes;LQuakeLists$Forecast;II)V"⟩, 2), (⟨"QuakeLists$Scores", "addStretch", "(LQuakeLists$Quakes;LQuakeLists$Forecast;LQuakeLists$Forecast;III)V"⟩, 2)]
theorem lw_r3 : ∀ q ∈ lw_privs_3, lw_okq q := List.forall_mem_cons.mpr ⟨lw_p32, List.forall_mem_cons.mpr ⟨lw_p33, List.forall_mem_cons.mpr ⟨lw_p34, List.forall_mem_cons.mpr ⟨lw_p35, List.forall_mem_cons.mpr ⟨lw_p36, List.forall_mem_cons.mpr ⟨lw_p37, List.forall_mem_cons.mpr ⟨lw_p38, List.forall_mem_cons.mpr ⟨lw_p39, List.forall_mem_cons.mpr ⟨lw_p40, List.forall_mem_cons.mpr ⟨lw_p41, List.forall_mem_cons.mpr ⟨lw_p42, List.forall_mem_cons.mpr ⟨lw_p43, List.forall_mem_cons.mpr ⟨lw_p44, List.forall_mem_cons.mpr ⟨lw_p45, List.forall_mem_cons.mpr ⟨lw_p46, List.forall_mem_cons.mpr ⟨lw_p47, fun _ h => absurd h List.not_mem_nil⟩⟩⟩⟩⟩⟩⟩⟩⟩⟩⟩⟩⟩⟩⟩⟩
theorem lw_p48 : lw_okq (⟨"QuakeLists$Quakes", "strikes", "(II)Z"⟩, 9) := ⟨⟨by decide +kernel, by decide +kernel⟩, List.mem_of_getElem? (i := 22) (by decide +kernel), List.mem_of_getElem? (i := 722) (by decide +kernel), List.mem_of_getElem? (i := 723) (by decide +kernel)⟩
theorem lw_p49 : lw_okq (⟨"QuakeLists$Scores", "leastMix", "()I"⟩, 2) := ⟨⟨by decide +kernel, by decide +kernel⟩, List.mem_of_getElem? (i := 195) (by decide +kernel), List.mem_of_getElem? (i := 736) (by decide +kernel), List.mem_of_getElem? (i := 737) (by decide +kernel)⟩
theorem lw_p50 : lw_okq (⟨"QuakeLists$Ground", "build", "(IIIII)I"⟩, 13) := ⟨⟨by decide +kernel, by decide +kernel⟩, List.mem_of_getElem? (i := 209) (by decide +kernel), List.mem_of_getElem? (i := 744) (by decide +kernel), List.mem_of_getElem? (i := 745) (by decide +kernel)⟩
theorem lw_p51 : lw_okq (⟨"QuakeLists$Ground", "lossByQuake", "(LQuakeLists$Quakes;II)I"⟩, 13) := ⟨⟨by decide +kernel, by decide +kernel⟩, List.mem_of_getElem? (i := 209) (by decide +kernel), List.mem_of_getElem? (i := 756) (by decide +kernel), List.mem_of_getElem? (i := 757) (by decide +kernel)⟩
theorem lw_p52 : lw_okq (⟨"QuakeLists$Ground", "lossInAll", "(IIIII)I"⟩, 13) := ⟨⟨by decide +kernel, by decide +kernel⟩, List.mem_of_getElem? (i := 209) (by decide +kernel), List.mem_of_getElem? (i := 760) (by decide +kernel), List.mem_of_getElem? (i := 761) (by decide +kernel)⟩
theorem lw_p53 : lw_okq (⟨"QuakeLists$Ground", "lossOfHouse", "(IIIIII)I"⟩, 13) := ⟨⟨by decide +kernel, by decide +kernel⟩, List.mem_of_getElem? (i := 209) (by decide +kernel), List.mem_of_getElem? (i := 764) (by decide +kernel), List.mem_of_getElem? (i := 765) (by decide +kernel)⟩
theorem lw_p54 : lw_okq (⟨"QuakeLists$Ground", "worstQuake", "(LQuakeLists$Quakes;II)I"⟩, 13) := ⟨⟨by decide +kernel, by decide +kernel⟩, List.mem_of_getElem? (i := 209) (by decide +kernel), List.mem_of_getElem? (i := 774) (by decide +kernel), List.mem_of_getElem? (i := 775) (by decide +kernel)⟩
theorem lw_p55 : lw_okq (⟨"QuakeLists$Ground", "enact", "(IIII)I"⟩, 13) := ⟨⟨by decide +kernel, by decide +kernel⟩, List.mem_of_getElem? (i := 209) (by decide +kernel), List.mem_of_getElem? (i := 784) (by decide +kernel), List.mem_of_getElem? (i := 785) (by decide +kernel)⟩
theorem lw_p56 : lw_okq (⟨"QuakeLists$Ground", "howOftenAbove", "(II)I"⟩, 13) := ⟨⟨by decide +kernel, by decide +kernel⟩, List.mem_of_getElem? (i := 209) (by decide +kernel), List.mem_of_getElem? (i := 792) (by decide +kernel), List.mem_of_getElem? (i := 793) (by decide +kernel)⟩
theorem lw_p57 : lw_okq (⟨"QuakeLists$Ground", "lossByLaw", "(III)I"⟩, 13) := ⟨⟨by decide +kernel, by decide +kernel⟩, List.mem_of_getElem? (i := 209) (by decide +kernel), List.mem_of_getElem? (i := 796) (by decide +kernel), List.mem_of_getElem? (i := 797) (by decide +kernel)⟩
theorem lw_p58 : lw_okq (⟨"QuakeLists$Ground", "meanLoss", "(II)J"⟩, 13) := ⟨⟨by decide +kernel, by decide +kernel⟩, List.mem_of_getElem? (i := 209) (by decide +kernel), List.mem_of_getElem? (i := 804) (by decide +kernel), List.mem_of_getElem? (i := 805) (by decide +kernel)⟩
theorem lw_p59 : lw_okq (⟨"QuakeLists$Ground", "bestHouses", "(II)I"⟩, 13) := ⟨⟨by decide +kernel, by decide +kernel⟩, List.mem_of_getElem? (i := 209) (by decide +kernel), List.mem_of_getElem? (i := 812) (by decide +kernel), List.mem_of_getElem? (i := 813) (by decide +kernel)⟩
theorem lw_p60 : lw_okq (⟨"QuakeLists$Ground", "gainOf", "(II)J"⟩, 13) := ⟨⟨by decide +kernel, by decide +kernel⟩, List.mem_of_getElem? (i := 209) (by decide +kernel), List.mem_of_getElem? (i := 817) (by decide +kernel), List.mem_of_getElem? (i := 818) (by decide +kernel)⟩
theorem lw_p61 : lw_okq (⟨"QuakeLists$Ground", "offer", "(IJI)V"⟩, 13) := ⟨⟨by decide +kernel, by decide +kernel⟩, List.mem_of_getElem? (i := 209) (by decide +kernel), List.mem_of_getElem? (i := 822) (by decide +kernel), List.mem_of_getElem? (i := 823) (by decide +kernel)⟩
theorem lw_p62 : lw_okq (⟨"QuakeLists$Quakes", "howManyBlasts", "()I"⟩, 9) := ⟨⟨by decide +kernel, by decide +kernel⟩, List.mem_of_getElem? (i := 22) (by decide +kernel), List.mem_of_getElem? (i := 836) (by decide +kernel), List.mem_of_getElem? (i := 837) (by decide +kernel)⟩
theorem lw_p63 : lw_okq (⟨"QuakeListsModel", "isQuake", "(I)Z"⟩, 34) := ⟨⟨by decide +kernel, by decide +kernel⟩, List.mem_of_getElem? (i := 840) (by decide +kernel), List.mem_of_getElem? (i := 977) (by decide +kernel), List.mem_of_getElem? (i := 978) (by decide +kernel)⟩
def lw_privs_4 : List (MethodName × Nat) := [(⟨"QuakeLists$Quakes", "strikes", "(II)Z"⟩, 9), (⟨"QuakeLists$Scores", "leastMix", "()I"⟩, 2), (⟨"QuakeLists$Ground", "build", "(IIIII)I"⟩, 13), (⟨"QuakeLists$Ground", "lossByQuake", "(LQuakeLists$Quakes;II)I"⟩, 13), (⟨"QuakeLists$Ground", "lossInAll", "(IIIII)I"⟩, 13), (⟨"QuakeLists$Ground", "lossOfHouse", "(IIIIII)I"⟩, 13), (⟨"QuakeLists$Ground", "worstQuake", "(LQuakeLists$Quakes;II)I"⟩, 13), (⟨"QuakeLists$Ground", "enact", "(IIII)I"⟩, 13), (⟨"QuakeLists$Ground", "howOftenAbove", "(II)I"⟩, 13), (⟨"QuakeLists$Ground", "lossByLaw", "(III)I"⟩, 13), (⟨"QuakeLists$Ground", "meanLoss", "(II)J"⟩, 13), (⟨"QuakeLists$Ground", "bestHouses", "(II)I"⟩, 13), (⟨"QuakeLists$Ground", "gainOf", "(II)J"⟩, 13), (⟨"QuakeLists$Ground", "offer", "(IJI)V"⟩, 13), (⟨"QuakeLists$Quakes", "howManyBlasts", "()I"⟩, 9), (⟨"QuakeListsModel", "isQuake", "(I)Z"⟩, 34)]
theorem lw_r4 : ∀ q ∈ lw_privs_4, lw_okq q := List.forall_mem_cons.mpr ⟨lw_p48, List.forall_mem_cons.mpr ⟨lw_p49, List.forall_mem_cons.mpr ⟨lw_p50, List.forall_mem_cons.mpr ⟨lw_p51, List.forall_mem_cons.mpr ⟨lw_p52, List.forall_mem_cons.mpr ⟨lw_p53, List.forall_mem_cons.mpr ⟨lw_p54, List.forall_mem_cons.mpr ⟨lw_p55, List.forall_mem_cons.mpr ⟨lw_p56, List.forall_mem_cons.mpr ⟨lw_p57, List.forall_mem_cons.mpr ⟨lw_p58, List.forall_mem_cons.mpr ⟨lw_p59, List.forall_mem_cons.mpr ⟨lw_p60, List.forall_mem_cons.mpr ⟨lw_p61, List.forall_mem_cons.mpr ⟨lw_p62, List.forall_mem_cons.mpr ⟨lw_p63, fun _ h => absurd h List.not_mem_nil⟩⟩⟩⟩⟩⟩⟩⟩⟩⟩⟩⟩⟩⟩⟩⟩
theorem lw_p64 : lw_okq (⟨"QuakeListsModel", "placeOf", "(I)I"⟩, 34) := ⟨⟨by decide +kernel, by decide +kernel⟩, List.mem_of_getElem? (i := 840) (by decide +kernel), List.mem_of_getElem? (i := 989) (by decide +kernel), List.mem_of_getElem? (i := 990) (by decide +kernel)⟩
theorem lw_p65 : lw_okq (⟨"QuakeListsModel", "listed", "(IZ)I"⟩, 34) := ⟨⟨by decide +kernel, by decide +kernel⟩, List.mem_of_getElem? (i := 840) (by decide +kernel), List.mem_of_getElem? (i := 1006) (by decide +kernel), List.mem_of_getElem? (i := 1007) (by decide +kernel)⟩
theorem lw_p66 : lw_okq (⟨"QuakeListsModel", "findJoins", "()V"⟩, 34) := ⟨⟨by decide +kernel, by decide +kernel⟩, List.mem_of_getElem? (i := 840) (by decide +kernel), List.mem_of_getElem? (i := 1010) (by decide +kernel), List.mem_of_getElem? (i := 1011) (by decide +kernel)⟩
theorem lw_p67 : lw_okq (⟨"QuakeListsModel", "joinBy", "(III)I"⟩, 34) := ⟨⟨by decide +kernel, by decide +kernel⟩, List.mem_of_getElem? (i := 840) (by decide +kernel), List.mem_of_getElem? (i := 1014) (by decide +kernel), List.mem_of_getElem? (i := 1015) (by decide +kernel)⟩
theorem lw_p68 : lw_okq (⟨"QuakeListsModel", "missOf", "(II)I"⟩, 34) := ⟨⟨by decide +kernel, by decide +kernel⟩, List.mem_of_getElem? (i := 840) (by decide +kernel), List.mem_of_getElem? (i := 1018) (by decide +kernel), List.mem_of_getElem? (i := 1019) (by decide +kernel)⟩
theorem lw_p69 : lw_okq (⟨"QuakeListsModel", "countOf", "(III)I"⟩, 34) := ⟨⟨by decide +kernel, by decide +kernel⟩, List.mem_of_getElem? (i := 840) (by decide +kernel), List.mem_of_getElem? (i := 1036) (by decide +kernel), List.mem_of_getElem? (i := 1037) (by decide +kernel)⟩
theorem lw_p70 : lw_okq (⟨"QuakeListsModel", "isCounted", "(III)Z"⟩, 34) := ⟨⟨by decide +kernel, by decide +kernel⟩, List.mem_of_getElem? (i := 840) (by decide +kernel), List.mem_of_getElem? (i := 1040) (by decide +kernel), List.mem_of_getElem? (i := 1041) (by decide +kernel)⟩
theorem lw_p71 : lw_okq (⟨"QuakeListsModel", "mayBear", "(III)Z"⟩, 34) := ⟨⟨by decide +kernel, by decide +kernel⟩, List.mem_of_getElem? (i := 840) (by decide +kernel), List.mem_of_getElem? (i := 1087) (by decide +kernel), List.mem_of_getElem? (i := 1088) (by decide +kernel)⟩
theorem lw_p72 : lw_okq (⟨"QuakeListsModel", "isAhead", "(II)Z"⟩, 34) := ⟨⟨by decide +kernel, by decide +kernel⟩, List.mem_of_getElem? (i := 840) (by decide +kernel), List.mem_of_getElem? (i := 1091) (by decide +kernel), List.mem_of_getElem? (i := 1092) (by decide +kernel)⟩
theorem lw_p73 : lw_okq (⟨"QuakeListsModel", "weightOf", "(II)I"⟩, 34) := ⟨⟨by decide +kernel, by decide +kernel⟩, List.mem_of_getElem? (i := 840) (by decide +kernel), List.mem_of_getElem? (i := 1095) (by decide +kernel), List.mem_of_getElem? (i := 1096) (by decide +kernel)⟩
theorem lw_p74 : lw_okq (⟨"QuakeListsModel", "weigh", "(IIII)I"⟩, 34) := ⟨⟨by decide +kernel, by decide +kernel⟩, List.mem_of_getElem? (i := 840) (by decide +kernel), List.mem_of_getElem? (i := 1099) (by decide +kernel), List.mem_of_getElem? (i := 1100) (by decide +kernel)⟩
theorem lw_p75 : lw_okq (⟨"QuakeListsModel", "allWeights", "(II)J"⟩, 34) := ⟨⟨by decide +kernel, by decide +kernel⟩, List.mem_of_getElem? (i := 840) (by decide +kernel), List.mem_of_getElem? (i := 1106) (by decide +kernel), List.mem_of_getElem? (i := 1107) (by decide +kernel)⟩
theorem lw_p76 : lw_okq (⟨"QuakeListsModel", "whyNot", "(II)I"⟩, 34) := ⟨⟨by decide +kernel, by decide +kernel⟩, List.mem_of_getElem? (i := 840) (by decide +kernel), List.mem_of_getElem? (i := 1114) (by decide +kernel), List.mem_of_getElem? (i := 1115) (by decide +kernel)⟩
theorem lw_p77 : lw_okq (⟨"QuakeListsModel", "motherOf", "(II)I"⟩, 34) := ⟨⟨by decide +kernel, by decide +kernel⟩, List.mem_of_getElem? (i := 840) (by decide +kernel), List.mem_of_getElem? (i := 1118) (by decide +kernel), List.mem_of_getElem? (i := 1119) (by decide +kernel)⟩
theorem lw_p78 : lw_okq (⟨"QuakeListsModel", "firstOf", "(II)I"⟩, 34) := ⟨⟨by decide +kernel, by decide +kernel⟩, List.mem_of_getElem? (i := 840) (by decide +kernel), List.mem_of_getElem? (i := 1127) (by decide +kernel), List.mem_of_getElem? (i := 1128) (by decide +kernel)⟩
theorem lw_p79 : lw_okq (⟨"QuakeListsModel", "depthOf", "(II)I"⟩, 34) := ⟨⟨by decide +kernel, by decide +kernel⟩, List.mem_of_getElem? (i := 840) (by decide +kernel), List.mem_of_getElem? (i := 1131) (by decide +kernel), List.mem_of_getElem? (i := 1132) (by decide +kernel)⟩
def lw_privs_5 : List (MethodName × Nat) := [(⟨"QuakeListsModel", "placeOf", "(I)I"⟩, 34), (⟨"QuakeListsModel", "listed", "(IZ)I"⟩, 34), (⟨"QuakeListsModel", "findJoins", "()V"⟩, 34), (⟨"QuakeListsModel", "joinBy", "(III)I"⟩, 34), (⟨"QuakeListsModel", "missOf", "(II)I"⟩, 34), (⟨"QuakeListsModel", "countOf", "(III)I"⟩, 34), (⟨"QuakeListsModel", "isCounted", "(III)Z"⟩, 34), (⟨"QuakeListsModel", "mayBear", "(III)Z"⟩, 34), (⟨"QuakeListsModel", "isAhead", "(II)Z"⟩, 34), (⟨"QuakeListsModel", "weightOf", "(II)I"⟩, 34), (⟨"QuakeListsModel", "weigh", "(IIII)I"⟩, 34), (⟨"QuakeListsModel", "allWeights", "(II)J"⟩, 34), (⟨"QuakeListsModel", "whyNot", "(II)I"⟩, 34), (⟨"QuakeListsModel", "motherOf", "(II)I"⟩, 34), (⟨"QuakeListsModel", "firstOf", "(II)I"⟩, 34), (⟨"QuakeListsModel", "depthOf", "(II)I"⟩, 34)]
theorem lw_r5 : ∀ q ∈ lw_privs_5, lw_okq q := List.forall_mem_cons.mpr ⟨lw_p64, List.forall_mem_cons.mpr ⟨lw_p65, List.forall_mem_cons.mpr ⟨lw_p66, List.forall_mem_cons.mpr ⟨lw_p67, List.forall_mem_cons.mpr ⟨lw_p68, List.forall_mem_cons.mpr ⟨lw_p69, List.forall_mem_cons.mpr ⟨lw_p70, List.forall_mem_cons.mpr ⟨lw_p71, List.forall_mem_cons.mpr ⟨lw_p72, List.forall_mem_cons.mpr ⟨lw_p73, List.forall_mem_cons.mpr ⟨lw_p74, List.forall_mem_cons.mpr ⟨lw_p75, List.forall_mem_cons.mpr ⟨lw_p76, List.forall_mem_cons.mpr ⟨lw_p77, List.forall_mem_cons.mpr ⟨lw_p78, List.forall_mem_cons.mpr ⟨lw_p79, fun _ h => absurd h List.not_mem_nil⟩⟩⟩⟩⟩⟩⟩⟩⟩⟩⟩⟩⟩⟩⟩⟩
theorem lw_p80 : lw_okq (⟨"QuakeListsModel", "drawnFor", "(IJI)I"⟩, 34) := ⟨⟨by decide +kernel, by decide +kernel⟩, List.mem_of_getElem? (i := 840) (by decide +kernel), List.mem_of_getElem? (i := 1146) (by decide +kernel), List.mem_of_getElem? (i := 1147) (by decide +kernel)⟩
theorem lw_p81 : lw_okq (⟨"QuakeListsModel", "isForecast", "(I)Z"⟩, 34) := ⟨⟨by decide +kernel, by decide +kernel⟩, List.mem_of_getElem? (i := 840) (by decide +kernel), List.mem_of_getElem? (i := 1185) (by decide +kernel), List.mem_of_getElem? (i := 1186) (by decide +kernel)⟩
theorem lw_p82 : lw_okq (⟨"QuakeListsModel", "toldFor", "(II)I"⟩, 34) := ⟨⟨by decide +kernel, by decide +kernel⟩, List.mem_of_getElem? (i := 840) (by decide +kernel), List.mem_of_getElem? (i := 1189) (by decide +kernel), List.mem_of_getElem? (i := 1190) (by decide +kernel)⟩
theorem lw_p83 : lw_okq (⟨"QuakeListsModel", "manyAhead", "(III)I"⟩, 34) := ⟨⟨by decide +kernel, by decide +kernel⟩, List.mem_of_getElem? (i := 840) (by decide +kernel), List.mem_of_getElem? (i := 1193) (by decide +kernel), List.mem_of_getElem? (i := 1194) (by decide +kernel)⟩
theorem lw_p84 : lw_okq (⟨"QuakeListsModel", "scoreOf", "(IIIIII)J"⟩, 34) := ⟨⟨by decide +kernel, by decide +kernel⟩, List.mem_of_getElem? (i := 840) (by decide +kernel), List.mem_of_getElem? (i := 1204) (by decide +kernel), List.mem_of_getElem? (i := 1205) (by decide +kernel)⟩
theorem lw_p85 : lw_okq (⟨"QuakeListsModel", "hasQuake", "(II)Z"⟩, 34) := ⟨⟨by decide +kernel, by decide +kernel⟩, List.mem_of_getElem? (i := 840) (by decide +kernel), List.mem_of_getElem? (i := 1208) (by decide +kernel), List.mem_of_getElem? (i := 1209) (by decide +kernel)⟩
theorem lw_p86 : lw_okq (⟨"QuakeListsModel", "lossOf", "(I)I"⟩, 34) := ⟨⟨by decide +kernel, by decide +kernel⟩, List.mem_of_getElem? (i := 840) (by decide +kernel), List.mem_of_getElem? (i := 1235) (by decide +kernel), List.mem_of_getElem? (i := 1236) (by decide +kernel)⟩
theorem lw_p87 : lw_okq (⟨"QuakeListsModel", "lossBy", "(IIII)I"⟩, 34) := ⟨⟨by decide +kernel, by decide +kernel⟩, List.mem_of_getElem? (i := 840) (by decide +kernel), List.mem_of_getElem? (i := 1239) (by decide +kernel), List.mem_of_getElem? (i := 1240) (by decide +kernel)⟩
theorem lw_p88 : lw_okq (⟨"QuakeListsModel", "lawLoss", "(II)I"⟩, 34) := ⟨⟨by decide +kernel, by decide +kernel⟩, List.mem_of_getElem? (i := 840) (by decide +kernel), List.mem_of_getElem? (i := 1255) (by decide +kernel), List.mem_of_getElem? (i := 1256) (by decide +kernel)⟩
theorem lw_p89 : lw_okq (⟨"QuakeListsModel", "meanOf", "(I)J"⟩, 34) := ⟨⟨by decide +kernel, by decide +kernel⟩, List.mem_of_getElem? (i := 840) (by decide +kernel), List.mem_of_getElem? (i := 1263) (by decide +kernel), List.mem_of_getElem? (i := 1264) (by decide +kernel)⟩
theorem lw_p90 : lw_okq (⟨"QuakeListsModel", "priceOf", "(I)I"⟩, 34) := ⟨⟨by decide +kernel, by decide +kernel⟩, List.mem_of_getElem? (i := 840) (by decide +kernel), List.mem_of_getElem? (i := 1272) (by decide +kernel), List.mem_of_getElem? (i := 1273) (by decide +kernel)⟩
def lw_privs_6 : List (MethodName × Nat) := [(⟨"QuakeListsModel", "drawnFor", "(IJI)I"⟩, 34), (⟨"QuakeListsModel", "isForecast", "(I)Z"⟩, 34), (⟨"QuakeListsModel", "toldFor", "(II)I"⟩, 34), (⟨"QuakeListsModel", "manyAhead", "(III)I"⟩, 34), (⟨"QuakeListsModel", "scoreOf", "(IIIIII)J"⟩, 34), (⟨"QuakeListsModel", "hasQuake", "(II)Z"⟩, 34), (⟨"QuakeListsModel", "lossOf", "(I)I"⟩, 34), (⟨"QuakeListsModel", "lossBy", "(IIII)I"⟩, 34), (⟨"QuakeListsModel", "lawLoss", "(II)I"⟩, 34), (⟨"QuakeListsModel", "meanOf", "(I)J"⟩, 34), (⟨"QuakeListsModel", "priceOf", "(I)I"⟩, 34)]
theorem lw_r6 : ∀ q ∈ lw_privs_6, lw_okq q := List.forall_mem_cons.mpr ⟨lw_p80, List.forall_mem_cons.mpr ⟨lw_p81, List.forall_mem_cons.mpr ⟨lw_p82, List.forall_mem_cons.mpr ⟨lw_p83, List.forall_mem_cons.mpr ⟨lw_p84, List.forall_mem_cons.mpr ⟨lw_p85, List.forall_mem_cons.mpr ⟨lw_p86, List.forall_mem_cons.mpr ⟨lw_p87, List.forall_mem_cons.mpr ⟨lw_p88, List.forall_mem_cons.mpr ⟨lw_p89, List.forall_mem_cons.mpr ⟨lw_p90, fun _ h => absurd h List.not_mem_nil⟩⟩⟩⟩⟩⟩⟩⟩⟩⟩⟩
def lw_privs : List (MethodName × Nat) := lw_privs_1 ++ (lw_privs_2 ++ (lw_privs_3 ++ (lw_privs_4 ++ (lw_privs_5 ++ (lw_privs_6)))))
def lw_tbl : List Cond := k2_sels lw_privs ++ tables_1
theorem lw_privs_ok : ∀ q ∈ lw_privs, lw_okq q := by
  show ∀ q ∈ lw_privs_1 ++ (lw_privs_2 ++ (lw_privs_3 ++ (lw_privs_4 ++ (lw_privs_5 ++ (lw_privs_6))))), lw_okq q
  exact List.forall_mem_append.mpr ⟨lw_r1, List.forall_mem_append.mpr ⟨lw_r2, List.forall_mem_append.mpr ⟨lw_r3, List.forall_mem_append.mpr ⟨lw_r4, List.forall_mem_append.mpr ⟨lw_r5, lw_r6⟩⟩⟩⟩⟩
-- ===== end of PART A; then your names; then what follows =====
def RX0 : String := "QuakeLists$Counts"
def TX0 : u_T := fun k => match k with
  | _ => ("QuakeLists$Counts", "tally", "[I", true)
def tyX0 : Nat → FieldType := fun k => match k with
  | _ => .array .int
abbrev wsX00 : List Cond := u_ws RX0 TX0 1
theorem nmX0 : ∀ a, a < 1 → ∀ b, b < 1 → a ≠ b → (TX0 a).2.1 ≠ (TX0 b).2.1 := by decide +kernel
theorem tyX0_ok : ∀ k, k < 1 → parseFieldDescriptor (TX0 k).2.2.1 = some (tyX0 k) := by decide +kernel
abbrev cX0_init : ByteArray := prog_2_method_1_code
def yX0_init : MethodName := ⟨RX0, "<init>", "()V"⟩
abbrev cX0_howMany : ByteArray := prog_2_method_2_code
def yX0_howMany : MethodName := ⟨RX0, "howMany", "(LQuakeLists$Quakes;III)I"⟩
abbrev cX0_sumAbove : ByteArray := prog_2_method_3_code
def yX0_sumAbove : MethodName := ⟨RX0, "sumAbove", "(LQuakeLists$Quakes;III)I"⟩
abbrev cX0_commonest : ByteArray := prog_2_method_4_code
def yX0_commonest : MethodName := ⟨RX0, "commonest", "(LQuakeLists$Quakes;II)I"⟩
def RX1 : String := "QuakeLists$Forecast"
def TX1 : u_T := fun k => match k with
  | 0 => ("QuakeLists$Forecast", "rules", "I", false)
  | 1 => ("QuakeLists$Forecast", "last", "I", false)
  | 2 => ("QuakeLists$Forecast", "days", "[I", true)
  | 3 => ("QuakeLists$Forecast", "least", "[I", true)
  | 4 => ("QuakeLists$Forecast", "more", "[I", true)
  | _ => ("QuakeLists$Forecast", "chance", "[I", true)
def tyX1 : Nat → FieldType := fun k => match k with
  | 0 => .int
  | 1 => .int
  | 2 => .array .int
  | 3 => .array .int
  | 4 => .array .int
  | _ => .array .int
abbrev wsX10 : List Cond := u_ws RX1 TX1 6
theorem nmX1 : ∀ a, a < 6 → ∀ b, b < 6 → a ≠ b → (TX1 a).2.1 ≠ (TX1 b).2.1 := by decide +kernel
theorem tyX1_ok : ∀ k, k < 6 → parseFieldDescriptor (TX1 k).2.2.1 = some (tyX1 k) := by decide +kernel
abbrev cX1_init : ByteArray := prog_3_method_1_code
def yX1_init : MethodName := ⟨RX1, "<init>", "()V"⟩
abbrev cX1_take : ByteArray := prog_3_method_2_code
def yX1_take : MethodName := ⟨RX1, "take", "(II)V"⟩
abbrev cX1_toldFor : ByteArray := prog_3_method_3_code
def yX1_toldFor : MethodName := ⟨RX1, "toldFor", "(LQuakeLists$Quakes;I)I"⟩
abbrev cX1_howManyAhead : ByteArray := prog_3_method_4_code
def yX1_howManyAhead : MethodName := ⟨RX1, "howManyAhead", "(LQuakeLists$Quakes;II)I"⟩
def RX2 : String := "QuakeLists$Ground"
def TX2 : u_T := fun k => match k with
  | 0 => ("QuakeLists$Ground", "houses", "I", false)
  | 1 => ("QuakeLists$Ground", "houseX", "[I", true)
  | 2 => ("QuakeLists$Ground", "houseY", "[I", true)
  | 3 => ("QuakeLists$Ground", "kind", "[I", true)
  | 4 => ("QuakeLists$Ground", "worth", "[I", true)
  | 5 => ("QuakeLists$Ground", "price", "[I", true)
  | 6 => ("QuakeLists$Ground", "damages", "[[I", true)
  | 7 => ("QuakeLists$Ground", "laws", "I", false)
  | 8 => ("QuakeLists$Ground", "lawX", "[I", true)
  | 9 => ("QuakeLists$Ground", "lawY", "[I", true)
  | 10 => ("QuakeLists$Ground", "lawGreatness", "[I", true)
  | 11 => ("QuakeLists$Ground", "lawOften", "[I", true)
  | _ => ("QuakeLists$Ground", "gainFor", "[J", true)
def tyX2 : Nat → FieldType := fun k => match k with
  | 0 => .int
  | 1 => .array .int
  | 2 => .array .int
  | 3 => .array .int
  | 4 => .array .int
  | 5 => .array .int
  | 6 => .array (.array .int)
  | 7 => .int
  | 8 => .array .int
  | 9 => .array .int
  | 10 => .array .int
  | 11 => .array .int
  | _ => .array .long
abbrev wsX20 : List Cond := u_ws RX2 TX2 13
theorem nmX2 : ∀ a, a < 13 → ∀ b, b < 13 → a ≠ b → (TX2 a).2.1 ≠ (TX2 b).2.1 := by decide +kernel
theorem tyX2_ok : ∀ k, k < 13 → parseFieldDescriptor (TX2 k).2.2.1 = some (tyX2 k) := by decide +kernel
abbrev cX2_init : ByteArray := prog_4_method_1_code
def yX2_init : MethodName := ⟨RX2, "<init>", "()V"⟩
abbrev cX2_build : ByteArray := prog_4_method_2_code
def yX2_build : MethodName := ⟨RX2, "build", "(IIIII)I"⟩
abbrev cX2_enact : ByteArray := prog_4_method_3_code
def yX2_enact : MethodName := ⟨RX2, "enact", "(IIII)I"⟩
abbrev cX2_lossOfHouse : ByteArray := prog_4_method_4_code
def yX2_lossOfHouse : MethodName := ⟨RX2, "lossOfHouse", "(IIIIII)I"⟩
abbrev cX2_lossInAll : ByteArray := prog_4_method_5_code
def yX2_lossInAll : MethodName := ⟨RX2, "lossInAll", "(IIIII)I"⟩
abbrev cX2_lossByQuake : ByteArray := prog_4_method_6_code
def yX2_lossByQuake : MethodName := ⟨RX2, "lossByQuake", "(LQuakeLists$Quakes;II)I"⟩
abbrev cX2_lossByLaw : ByteArray := prog_4_method_7_code
def yX2_lossByLaw : MethodName := ⟨RX2, "lossByLaw", "(III)I"⟩
abbrev cX2_worstQuake : ByteArray := prog_4_method_8_code
def yX2_worstQuake : MethodName := ⟨RX2, "worstQuake", "(LQuakeLists$Quakes;II)I"⟩
abbrev cX2_howOftenAbove : ByteArray := prog_4_method_9_code
def yX2_howOftenAbove : MethodName := ⟨RX2, "howOftenAbove", "(II)I"⟩
abbrev cX2_meanLoss : ByteArray := prog_4_method_10_code
def yX2_meanLoss : MethodName := ⟨RX2, "meanLoss", "(II)J"⟩
abbrev cX2_gainOf : ByteArray := prog_4_method_11_code
def yX2_gainOf : MethodName := ⟨RX2, "gainOf", "(II)J"⟩
abbrev cX2_bestHouses : ByteArray := prog_4_method_12_code
def yX2_bestHouses : MethodName := ⟨RX2, "bestHouses", "(II)I"⟩
abbrev cX2_offer : ByteArray := prog_4_method_13_code
def yX2_offer : MethodName := ⟨RX2, "offer", "(IJI)V"⟩
def RX3 : String := "QuakeLists$Joining"
def TX3 : u_T := fun k => match k with
  | 0 => ("QuakeLists$Joining", "pairs", "I", false)
  | 1 => ("QuakeLists$Joining", "missInAll", "I", false)
  | 2 => ("QuakeLists$Joining", "rows", "I", false)
  | 3 => ("QuakeLists$Joining", "partners", "I", false)
  | 4 => ("QuakeLists$Joining", "columns", "I", false)
  | 5 => ("QuakeLists$Joining", "ofA", "[I", true)
  | 6 => ("QuakeLists$Joining", "ofB", "[I", true)
  | 7 => ("QuakeLists$Joining", "cost", "[[J", true)
  | 8 => ("QuakeLists$Joining", "rowPrice", "[J", true)
  | 9 => ("QuakeLists$Joining", "columnPrice", "[J", true)
  | 10 => ("QuakeLists$Joining", "slack", "[J", true)
  | 11 => ("QuakeLists$Joining", "rowOf", "[I", true)
  | 12 => ("QuakeLists$Joining", "before", "[I", true)
  | _ => ("QuakeLists$Joining", "reached", "[Z", true)
def tyX3 : Nat → FieldType := fun k => match k with
  | 0 => .int
  | 1 => .int
  | 2 => .int
  | 3 => .int
  | 4 => .int
  | 5 => .array .int
  | 6 => .array .int
  | 7 => .array (.array .long)
  | 8 => .array .long
  | 9 => .array .long
  | 10 => .array .long
  | 11 => .array .int
  | 12 => .array .int
  | _ => .array .boolean
abbrev wsX30 : List Cond := u_ws RX3 TX3 14
theorem nmX3 : ∀ a, a < 14 → ∀ b, b < 14 → a ≠ b → (TX3 a).2.1 ≠ (TX3 b).2.1 := by decide +kernel
theorem tyX3_ok : ∀ k, k < 14 → parseFieldDescriptor (TX3 k).2.2.1 = some (tyX3 k) := by decide +kernel
abbrev cX3_init : ByteArray := prog_5_method_1_code
def yX3_init : MethodName := ⟨RX3, "<init>", "()V"⟩
abbrev cX3_pairUp : ByteArray := prog_5_method_2_code
def yX3_pairUp : MethodName := ⟨RX3, "pairUp", "(LQuakeLists$Quakes;IIIII)V"⟩
abbrev cX3_partnerOf : ByteArray := prog_5_method_3_code
def yX3_partnerOf : MethodName := ⟨RX3, "partnerOf", "(I)I"⟩
abbrev cX3_gather : ByteArray := prog_5_method_4_code
def yX3_gather : MethodName := ⟨RX3, "gather", "(LQuakeLists$Quakes;I[I)I"⟩
abbrev cX3_fillCosts : ByteArray := prog_5_method_5_code
def yX3_fillCosts : MethodName := ⟨RX3, "fillCosts", "(LQuakeLists$Quakes;III)V"⟩
abbrev cX3_maySame : ByteArray := prog_5_method_6_code
def yX3_maySame : MethodName := ⟨RX3, "maySame", "(LQuakeLists$Quakes;IIIII)Z"⟩
abbrev cX3_missOf : ByteArray := prog_5_method_7_code
def yX3_missOf : MethodName := ⟨RX3, "missOf", "(LQuakeLists$Quakes;II)I"⟩
abbrev cX3_daysApart : ByteArray := prog_5_method_8_code
def yX3_daysApart : MethodName := ⟨RX3, "daysApart", "(LQuakeLists$Quakes;II)I"⟩
abbrev cX3_cellsApart : ByteArray := prog_5_method_9_code
def yX3_cellsApart : MethodName := ⟨RX3, "cellsApart", "(LQuakeLists$Quakes;II)I"⟩
abbrev cX3_tenthsApart : ByteArray := prog_5_method_10_code
def yX3_tenthsApart : MethodName := ⟨RX3, "tenthsApart", "(LQuakeLists$Quakes;II)I"⟩
abbrev cX3_clearPrices : ByteArray := prog_5_method_11_code
def yX3_clearPrices : MethodName := ⟨RX3, "clearPrices", "()V"⟩
abbrev cX3_placeRow : ByteArray := prog_5_method_12_code
def yX3_placeRow : MethodName := ⟨RX3, "placeRow", "(I)V"⟩
abbrev cX3_loosen : ByteArray := prog_5_method_13_code
def yX3_loosen : MethodName := ⟨RX3, "loosen", "(I)V"⟩
abbrev cX3_nearest : ByteArray := prog_5_method_14_code
def yX3_nearest : MethodName := ⟨RX3, "nearest", "()I"⟩
abbrev cX3_reprice : ByteArray := prog_5_method_15_code
def yX3_reprice : MethodName := ⟨RX3, "reprice", "(J)V"⟩
abbrev cX3_sumUp : ByteArray := prog_5_method_16_code
def yX3_sumUp : MethodName := ⟨RX3, "sumUp", "(LQuakeLists$Quakes;)V"⟩
def RX4 : String := "QuakeLists$Mothers"
def TX4 : u_T := fun k => match k with
  | 0 => ("QuakeLists$Mothers", "produce", "[I", true)
  | 1 => ("QuakeLists$Mothers", "fade", "[I", true)
  | 2 => ("QuakeLists$Mothers", "spread", "[I", true)
  | 3 => ("QuakeLists$Mothers", "firstOf", "[I", true)
  | _ => ("QuakeLists$Mothers", "depthOf", "[I", true)
def tyX4 : Nat → FieldType := fun k => match k with
  | 0 => .array .int
  | 1 => .array .int
  | 2 => .array .int
  | 3 => .array .int
  | _ => .array .int
abbrev wsX40 : List Cond := u_ws RX4 TX4 5
theorem nmX4 : ∀ a, a < 5 → ∀ b, b < 5 → a ≠ b → (TX4 a).2.1 ≠ (TX4 b).2.1 := by decide +kernel
theorem tyX4_ok : ∀ k, k < 5 → parseFieldDescriptor (TX4 k).2.2.1 = some (tyX4 k) := by decide +kernel
abbrev cX4_init : ByteArray := prog_6_method_1_code
def yX4_init : MethodName := ⟨RX4, "<init>", "()V"⟩
abbrev cX4_stepsOf : ByteArray := prog_6_method_2_code
def yX4_stepsOf : MethodName := ⟨RX4, "stepsOf", "(I)[I"⟩
abbrev cX4_fadeStep : ByteArray := prog_6_method_3_code
def yX4_fadeStep : MethodName := ⟨RX4, "fadeStep", "(I)I"⟩
abbrev cX4_weightAt : ByteArray := prog_6_method_4_code
def yX4_weightAt : MethodName := ⟨RX4, "weightAt", "(LQuakeLists$Quakes;IIII)I"⟩
abbrev cX4_weight : ByteArray := prog_6_method_5_code
def yX4_weight : MethodName := ⟨RX4, "weight", "(LQuakeLists$Quakes;II)I"⟩
abbrev cX4_weightIfAhead : ByteArray := prog_6_method_6_code
def yX4_weightIfAhead : MethodName := ⟨RX4, "weightIfAhead", "(LQuakeLists$Quakes;III)I"⟩
abbrev cX4_allWeights : ByteArray := prog_6_method_7_code
def yX4_allWeights : MethodName := ⟨RX4, "allWeights", "(LQuakeLists$Quakes;III)I"⟩
abbrev cX4_weightOn : ByteArray := prog_6_method_8_code
def yX4_weightOn : MethodName := ⟨RX4, "weightOn", "(LQuakeLists$Quakes;IIII)I"⟩
abbrev cX4_likeliest : ByteArray := prog_6_method_9_code
def yX4_likeliest : MethodName := ⟨RX4, "likeliest", "(LQuakeLists$Quakes;III)I"⟩
abbrev cX4_trace : ByteArray := prog_6_method_10_code
def yX4_trace : MethodName := ⟨RX4, "trace", "(LQuakeLists$Quakes;II)V"⟩
abbrev cX4_sizeOfFamily : ByteArray := prog_6_method_11_code
def yX4_sizeOfFamily : MethodName := ⟨RX4, "sizeOfFamily", "(LQuakeLists$Quakes;I)I"⟩
abbrev cX4_deepestOfFamily : ByteArray := prog_6_method_12_code
def yX4_deepestOfFamily : MethodName := ⟨RX4, "deepestOfFamily", "(LQuakeLists$Quakes;I)I"⟩
abbrev cX4_howManyFirst : ByteArray := prog_6_method_13_code
def yX4_howManyFirst : MethodName := ⟨RX4, "howManyFirst", "(LQuakeLists$Quakes;)I"⟩
abbrev cX4_firstAt : ByteArray := prog_6_method_14_code
def yX4_firstAt : MethodName := ⟨RX4, "firstAt", "(LQuakeLists$Quakes;I)I"⟩
abbrev cX4_drawn : ByteArray := prog_6_method_15_code
def yX4_drawn : MethodName := ⟨RX4, "drawn", "(LQuakeLists$Quakes;IIII)I"⟩
def RX5 : String := "QuakeLists$Odds"
def TX5 : u_T := fun k => match k with
  | _ => ("", "", "", false)
def tyX5 : Nat → FieldType := fun k => match k with
  | _ => .int
abbrev wsX50 : List Cond := u_ws RX5 TX5 0
theorem nmX5 : ∀ a, a < 0 → ∀ b, b < 0 → a ≠ b → (TX5 a).2.1 ≠ (TX5 b).2.1 := by decide +kernel
theorem tyX5_ok : ∀ k, k < 0 → parseFieldDescriptor (TX5 k).2.2.1 = some (tyX5 k) := by decide +kernel
abbrev cX5_partOf : ByteArray := prog_7_method_2_code
def yX5_partOf : MethodName := ⟨RX5, "partOf", "(JJI)J"⟩
abbrev cX5_greatestDivisor : ByteArray := prog_7_method_3_code
def yX5_greatestDivisor : MethodName := ⟨RX5, "greatestDivisor", "(JJ)J"⟩
abbrev cX5_choose : ByteArray := prog_7_method_4_code
def yX5_choose : MethodName := ⟨RX5, "choose", "(II)J"⟩
abbrev cX5_power : ByteArray := prog_7_method_5_code
def yX5_power : MethodName := ⟨RX5, "power", "(II)J"⟩
abbrev cX5_waysToDeal : ByteArray := prog_7_method_6_code
def yX5_waysToDeal : MethodName := ⟨RX5, "waysToDeal", "(IIII)J"⟩
abbrev cX5_waysForFew : ByteArray := prog_7_method_7_code
def yX5_waysForFew : MethodName := ⟨RX5, "waysForFew", "(IIII)J"⟩
def RX6 : String := "QuakeLists$Quakes"
def TX6 : u_T := fun k => match k with
  | 0 => ("QuakeLists$Quakes", "count", "I", false)
  | 1 => ("QuakeLists$Quakes", "list", "[I", true)
  | 2 => ("QuakeLists$Quakes", "day", "[I", true)
  | 3 => ("QuakeLists$Quakes", "x", "[I", true)
  | 4 => ("QuakeLists$Quakes", "y", "[I", true)
  | 5 => ("QuakeLists$Quakes", "greatness", "[I", true)
  | 6 => ("QuakeLists$Quakes", "toldOn", "[I", true)
  | 7 => ("QuakeLists$Quakes", "isBlast", "[Z", true)
  | _ => ("QuakeLists$Quakes", "order", "[I", true)
def tyX6 : Nat → FieldType := fun k => match k with
  | 0 => .int
  | 1 => .array .int
  | 2 => .array .int
  | 3 => .array .int
  | 4 => .array .int
  | 5 => .array .int
  | 6 => .array .int
  | 7 => .array .boolean
  | _ => .array .int
abbrev wsX60 : List Cond := u_ws RX6 TX6 9
theorem nmX6 : ∀ a, a < 9 → ∀ b, b < 9 → a ≠ b → (TX6 a).2.1 ≠ (TX6 b).2.1 := by decide +kernel
theorem tyX6_ok : ∀ k, k < 9 → parseFieldDescriptor (TX6 k).2.2.1 = some (tyX6 k) := by decide +kernel
abbrev cX6_init : ByteArray := prog_8_method_1_code
def yX6_init : MethodName := ⟨RX6, "<init>", "()V"⟩
abbrev cX6_isFull : ByteArray := prog_8_method_2_code
def yX6_isFull : MethodName := ⟨RX6, "isFull", "()Z"⟩
abbrev cX6_has : ByteArray := prog_8_method_3_code
def yX6_has : MethodName := ⟨RX6, "has", "(I)Z"⟩
abbrev cX6_add : ByteArray := prog_8_method_4_code
def yX6_add : MethodName := ⟨RX6, "add", "(IIIIII)I"⟩
abbrev cX6_putInOrder : ByteArray := prog_8_method_5_code
def yX6_putInOrder : MethodName := ⟨RX6, "putInOrder", "(I)V"⟩
abbrev cX6_placeOf : ByteArray := prog_8_method_6_code
def yX6_placeOf : MethodName := ⟨RX6, "placeOf", "(I)I"⟩
abbrev cX6_isCounted : ByteArray := prog_8_method_7_code
def yX6_isCounted : MethodName := ⟨RX6, "isCounted", "(III)Z"⟩
abbrev cX6_isGreat : ByteArray := prog_8_method_8_code
def yX6_isGreat : MethodName := ⟨RX6, "isGreat", "(II)Z"⟩
abbrev cX6_strikes : ByteArray := prog_8_method_9_code
def yX6_strikes : MethodName := ⟨RX6, "strikes", "(II)Z"⟩
abbrev cX6_howManyIn : ByteArray := prog_8_method_10_code
def yX6_howManyIn : MethodName := ⟨RX6, "howManyIn", "(I)I"⟩
abbrev cX6_howManyBlasts : ByteArray := prog_8_method_11_code
def yX6_howManyBlasts : MethodName := ⟨RX6, "howManyBlasts", "()I"⟩
def RX7 : String := "QuakeLists$Scores"
def TX7 : u_T := fun k => match k with
  | 0 => ("QuakeLists$Scores", "turns", "[Z", true)
  | _ => ("QuakeLists$Scores", "sums", "[J", true)
def tyX7 : Nat → FieldType := fun k => match k with
  | 0 => .array .boolean
  | _ => .array .long
abbrev wsX70 : List Cond := u_ws RX7 TX7 2
theorem nmX7 : ∀ a, a < 2 → ∀ b, b < 2 → a ≠ b → (TX7 a).2.1 ≠ (TX7 b).2.1 := by decide +kernel
theorem tyX7_ok : ∀ k, k < 2 → parseFieldDescriptor (TX7 k).2.2.1 = some (tyX7 k) := by decide +kernel
abbrev cX7_init : ByteArray := prog_9_method_1_code
def yX7_init : MethodName := ⟨RX7, "<init>", "()V"⟩
abbrev cX7_work : ByteArray := prog_9_method_2_code
def yX7_work : MethodName := ⟨RX7, "work", "(LQuakeLists$Quakes;LQuakeLists$Forecast;LQuakeLists$Forecast;III)V"⟩
abbrev cX7_leastMix : ByteArray := prog_9_method_3_code
def yX7_leastMix : MethodName := ⟨RX7, "leastMix", "()I"⟩
abbrev cX7_mark : ByteArray := prog_9_method_4_code
def yX7_mark : MethodName := ⟨RX7, "mark", "(III)V"⟩
abbrev cX7_markStrikes : ByteArray := prog_9_method_5_code
def yX7_markStrikes : MethodName := ⟨RX7, "markStrikes", "(LQuakeLists$Quakes;III)V"⟩
abbrev cX7_markRules : ByteArray := prog_9_method_6_code
def yX7_markRules : MethodName := ⟨RX7, "markRules", "(LQuakeLists$Quakes;LQuakeLists$Forecast;II)V"⟩
abbrev cX7_addStretch : ByteArray := prog_9_method_7_code
def yX7_addStretch : MethodName := ⟨RX7, "addStretch", "(LQuakeLists$Quakes;LQuakeLists$Forecast;LQuakeLists$Forecast;III)V"⟩
def RX8 : String := "QuakeLists$Signs"
def TX8 : u_T := fun k => match k with
  | 0 => ("QuakeLists$Signs", "count", "I", false)
  | _ => ("QuakeLists$Signs", "sign", "[I", true)
def tyX8 : Nat → FieldType := fun k => match k with
  | 0 => .int
  | _ => .array .int
abbrev wsX80 : List Cond := u_ws RX8 TX8 2
theorem nmX8 : ∀ a, a < 2 → ∀ b, b < 2 → a ≠ b → (TX8 a).2.1 ≠ (TX8 b).2.1 := by decide +kernel
theorem tyX8_ok : ∀ k, k < 2 → parseFieldDescriptor (TX8 k).2.2.1 = some (tyX8 k) := by decide +kernel
abbrev cX8_init : ByteArray := prog_10_method_1_code
def yX8_init : MethodName := ⟨RX8, "<init>", "()V"⟩
abbrev cX8_isFull : ByteArray := prog_10_method_2_code
def yX8_isFull : MethodName := ⟨RX8, "isFull", "()Z"⟩
abbrev cX8_add : ByteArray := prog_10_method_3_code
def yX8_add : MethodName := ⟨RX8, "add", "(I)I"⟩
abbrev cX8_isDigit : ByteArray := prog_10_method_4_code
def yX8_isDigit : MethodName := ⟨RX8, "isDigit", "(I)Z"⟩
abbrev cX8_faultyPlace : ByteArray := prog_10_method_5_code
def yX8_faultyPlace : MethodName := ⟨RX8, "faultyPlace", "()I"⟩
abbrev cX8_read : ByteArray := prog_10_method_6_code
def yX8_read : MethodName := ⟨RX8, "read", "()LQuakeLists$Forecast;"⟩
def RX9 : String := "QuakeLists"
def TX9 : u_T := fun k => match k with
  | 0 => ("QuakeLists", "settings", "[I", true)
  | 1 => ("QuakeLists", "quakes", "LQuakeLists$Quakes;", true)
  | 2 => ("QuakeLists", "joining", "LQuakeLists$Joining;", true)
  | 3 => ("QuakeLists", "counts", "LQuakeLists$Counts;", true)
  | 4 => ("QuakeLists", "mothers", "LQuakeLists$Mothers;", true)
  | 5 => ("QuakeLists", "signs", "LQuakeLists$Signs;", true)
  | 6 => ("QuakeLists", "forecasts", "[LQuakeLists$Forecast;", true)
  | 7 => ("QuakeLists", "forecastCount", "I", false)
  | 8 => ("QuakeLists", "scores", "LQuakeLists$Scores;", true)
  | _ => ("QuakeLists", "ground", "LQuakeLists$Ground;", true)
def tyX9 : Nat → FieldType := fun k => match k with
  | 0 => .array .int
  | 1 => .object "QuakeLists$Quakes"
  | 2 => .object "QuakeLists$Joining"
  | 3 => .object "QuakeLists$Counts"
  | 4 => .object "QuakeLists$Mothers"
  | 5 => .object "QuakeLists$Signs"
  | 6 => .array (.object "QuakeLists$Forecast")
  | 7 => .int
  | 8 => .object "QuakeLists$Scores"
  | _ => .object "QuakeLists$Ground"
abbrev wsX90 : List Cond := u_ws RX9 TX9 10
theorem nmX9 : ∀ a, a < 10 → ∀ b, b < 10 → a ≠ b → (TX9 a).2.1 ≠ (TX9 b).2.1 := by decide +kernel
theorem tyX9_ok : ∀ k, k < 10 → parseFieldDescriptor (TX9 k).2.2.1 = some (tyX9 k) := by decide +kernel
abbrev cX9_init : ByteArray := prog_1_method_1_code
def yX9_init : MethodName := ⟨RX9, "<init>", "()V"⟩
abbrev cX9_quake : ByteArray := prog_1_method_2_code
def yX9_quake : MethodName := ⟨RX9, "quake", "(IIIIII)I"⟩
abbrev cX9_blast : ByteArray := prog_1_method_3_code
def yX9_blast : MethodName := ⟨RX9, "blast", "(IZ)I"⟩
abbrev cX9_mend : ByteArray := prog_1_method_4_code
def yX9_mend : MethodName := ⟨RX9, "mend", "(II)I"⟩
abbrev cX9_about : ByteArray := prog_1_method_5_code
def yX9_about : MethodName := ⟨RX9, "about", "(II)I"⟩
abbrev cX9_set : ByteArray := prog_1_method_6_code
def yX9_set : MethodName := ⟨RX9, "set", "(II)I"⟩
abbrev cX9_join : ByteArray := prog_1_method_7_code
def yX9_join : MethodName := ⟨RX9, "join", "(III)I"⟩
abbrev cX9_often : ByteArray := prog_1_method_8_code
def yX9_often : MethodName := ⟨RX9, "often", "(III)I"⟩
abbrev cX9_whole : ByteArray := prog_1_method_9_code
def yX9_whole : MethodName := ⟨RX9, "whole", "(II)I"⟩
abbrev cX9_slope : ByteArray := prog_1_method_10_code
def yX9_slope : MethodName := ⟨RX9, "slope", "(IIII)J"⟩
abbrev cX9_alike : ByteArray := prog_1_method_11_code
def yX9_alike : MethodName := ⟨RX9, "alike", "(IIII)J"⟩
abbrev cX9_few : ByteArray := prog_1_method_12_code
def yX9_few : MethodName := ⟨RX9, "few", "(IIIII)J"⟩
abbrev cX9_step : ByteArray := prog_1_method_13_code
def yX9_step : MethodName := ⟨RX9, "step", "(III)I"⟩
abbrev cX9_share : ByteArray := prog_1_method_14_code
def yX9_share : MethodName := ⟨RX9, "share", "(IIII)J"⟩
abbrev cX9_mother : ByteArray := prog_1_method_15_code
def yX9_mother : MethodName := ⟨RX9, "mother", "(II)I"⟩
abbrev cX9_family : ByteArray := prog_1_method_16_code
def yX9_family : MethodName := ⟨RX9, "family", "(III)I"⟩
abbrev cX9_families : ByteArray := prog_1_method_17_code
def yX9_families : MethodName := ⟨RX9, "families", "(II)I"⟩
abbrev cX9_draw : ByteArray := prog_1_method_18_code
def yX9_draw : MethodName := ⟨RX9, "draw", "(III)I"⟩
abbrev cX9_rate : ByteArray := prog_1_method_19_code
def yX9_rate : MethodName := ⟨RX9, "rate", "(IIII)I"⟩
abbrev cX9_say : ByteArray := prog_1_method_20_code
def yX9_say : MethodName := ⟨RX9, "say", "(I)I"⟩
abbrev cX9_wipe : ByteArray := prog_1_method_21_code
def yX9_wipe : MethodName := ⟨RX9, "wipe", "()I"⟩
abbrev cX9_fault : ByteArray := prog_1_method_22_code
def yX9_fault : MethodName := ⟨RX9, "fault", "()I"⟩
abbrev cX9_forecast : ByteArray := prog_1_method_23_code
def yX9_forecast : MethodName := ⟨RX9, "forecast", "()I"⟩
abbrev cX9_tells : ByteArray := prog_1_method_24_code
def yX9_tells : MethodName := ⟨RX9, "tells", "(II)I"⟩
abbrev cX9_score : ByteArray := prog_1_method_25_code
def yX9_score : MethodName := ⟨RX9, "score", "(IIII)J"⟩
abbrev cX9_mixed : ByteArray := prog_1_method_26_code
def yX9_mixed : MethodName := ⟨RX9, "mixed", "(IIIIII)J"⟩
abbrev cX9_best : ByteArray := prog_1_method_27_code
def yX9_best : MethodName := ⟨RX9, "best", "(IIIII)I"⟩
abbrev cX9_house : ByteArray := prog_1_method_28_code
def yX9_house : MethodName := ⟨RX9, "house", "(IIIII)I"⟩
abbrev cX9_damage : ByteArray := prog_1_method_29_code
def yX9_damage : MethodName := ⟨RX9, "damage", "(III)I"⟩
abbrev cX9_loss : ByteArray := prog_1_method_30_code
def yX9_loss : MethodName := ⟨RX9, "loss", "(I)I"⟩
abbrev cX9_worst : ByteArray := prog_1_method_31_code
def yX9_worst : MethodName := ⟨RX9, "worst", "(II)I"⟩
abbrev cX9_law : ByteArray := prog_1_method_32_code
def yX9_law : MethodName := ⟨RX9, "law", "(IIII)I"⟩
abbrev cX9_curve : ByteArray := prog_1_method_33_code
def yX9_curve : MethodName := ⟨RX9, "curve", "(I)I"⟩
abbrev cX9_mean : ByteArray := prog_1_method_34_code
def yX9_mean : MethodName := ⟨RX9, "mean", "(I)J"⟩
abbrev cX9_strengthen : ByteArray := prog_1_method_35_code
def yX9_strengthen : MethodName := ⟨RX9, "strengthen", "(I)I"⟩
abbrev cX9_told : ByteArray := prog_1_method_36_code
def yX9_told : MethodName := ⟨RX9, "told", "(I)I"⟩
abbrev cX9_within : ByteArray := prog_1_method_37_code
def yX9_within : MethodName := ⟨RX9, "within", "(III)Z"⟩
abbrev cX9_isList : ByteArray := prog_1_method_38_code
def yX9_isList : MethodName := ⟨RX9, "isList", "(I)Z"⟩
abbrev cX9_isListOrAll : ByteArray := prog_1_method_39_code
def yX9_isListOrAll : MethodName := ⟨RX9, "isListOrAll", "(I)Z"⟩
abbrev cX9_isDay : ByteArray := prog_1_method_40_code
def yX9_isDay : MethodName := ⟨RX9, "isDay", "(I)Z"⟩
abbrev cX9_isStretch : ByteArray := prog_1_method_41_code
def yX9_isStretch : MethodName := ⟨RX9, "isStretch", "(II)Z"⟩
abbrev cX9_isCell : ByteArray := prog_1_method_42_code
def yX9_isCell : MethodName := ⟨RX9, "isCell", "(II)Z"⟩
abbrev cX9_isGreatness : ByteArray := prog_1_method_43_code
def yX9_isGreatness : MethodName := ⟨RX9, "isGreatness", "(I)Z"⟩
abbrev cX9_isPart : ByteArray := prog_1_method_44_code
def yX9_isPart : MethodName := ⟨RX9, "isPart", "(I)Z"⟩
abbrev cX9_asNumber : ByteArray := prog_1_method_45_code
def yX9_asNumber : MethodName := ⟨RX9, "asNumber", "(Z)I"⟩
abbrev cX9_howFar : ByteArray := prog_1_method_46_code
def yX9_howFar : MethodName := ⟨RX9, "howFar", "(IIII)I"⟩
abbrev cX9_refusalOfDaughter : ByteArray := prog_1_method_47_code
def yX9_refusalOfDaughter : MethodName := ⟨RX9, "refusalOfDaughter", "(IIZ)I"⟩
abbrev cX9_forecastOf : ByteArray := prog_1_method_48_code
def yX9_forecastOf : MethodName := ⟨RX9, "forecastOf", "(I)LQuakeLists$Forecast;"⟩
abbrev cX9_scoreOfMix : ByteArray := prog_1_method_49_code
def yX9_scoreOfMix : MethodName := ⟨RX9, "scoreOfMix", "(IIIIII)J"⟩
def RX10 : String := "QuakeListsModel"
def TX10 : u_T := fun k => match k with
  | 0 => ("QuakeListsModel", "listOf", "[I", true)
  | 1 => ("QuakeListsModel", "dayOf", "[I", true)
  | 2 => ("QuakeListsModel", "placeX", "[I", true)
  | 3 => ("QuakeListsModel", "placeY", "[I", true)
  | 4 => ("QuakeListsModel", "great", "[I", true)
  | 5 => ("QuakeListsModel", "toldOn", "[I", true)
  | 6 => ("QuakeListsModel", "isBlast", "[Z", true)
  | 7 => ("QuakeListsModel", "quakes", "I", false)
  | 8 => ("QuakeListsModel", "numbers", "[I", true)
  | 9 => ("QuakeListsModel", "row", "[I", true)
  | 10 => ("QuakeListsModel", "ofA", "[I", true)
  | 11 => ("QuakeListsModel", "ofB", "[I", true)
  | 12 => ("QuakeListsModel", "manyA", "I", false)
  | 13 => ("QuakeListsModel", "manyB", "I", false)
  | 14 => ("QuakeListsModel", "bestJoin", "[I", true)
  | 15 => ("QuakeListsModel", "produce", "[I", true)
  | 16 => ("QuakeListsModel", "fade", "[I", true)
  | 17 => ("QuakeListsModel", "spread", "[I", true)
  | 18 => ("QuakeListsModel", "signs", "[I", true)
  | 19 => ("QuakeListsModel", "signMany", "[I", true)
  | 20 => ("QuakeListsModel", "forecasts", "I", false)
  | 21 => ("QuakeListsModel", "ruleIs", "[I", true)
  | 22 => ("QuakeListsModel", "houseX", "[I", true)
  | 23 => ("QuakeListsModel", "houseY", "[I", true)
  | 24 => ("QuakeListsModel", "kinds", "[I", true)
  | 25 => ("QuakeListsModel", "worths", "[I", true)
  | 26 => ("QuakeListsModel", "prices", "[I", true)
  | 27 => ("QuakeListsModel", "houses", "I", false)
  | 28 => ("QuakeListsModel", "damages", "[I", true)
  | 29 => ("QuakeListsModel", "lawX", "[I", true)
  | 30 => ("QuakeListsModel", "lawY", "[I", true)
  | 31 => ("QuakeListsModel", "lawGreat", "[I", true)
  | 32 => ("QuakeListsModel", "lawOften", "[I", true)
  | _ => ("QuakeListsModel", "laws", "I", false)
def tyX10 : Nat → FieldType := fun k => match k with
  | 0 => .array .int
  | 1 => .array .int
  | 2 => .array .int
  | 3 => .array .int
  | 4 => .array .int
  | 5 => .array .int
  | 6 => .array .boolean
  | 7 => .int
  | 8 => .array .int
  | 9 => .array .int
  | 10 => .array .int
  | 11 => .array .int
  | 12 => .int
  | 13 => .int
  | 14 => .array .int
  | 15 => .array .int
  | 16 => .array .int
  | 17 => .array .int
  | 18 => .array .int
  | 19 => .array .int
  | 20 => .int
  | 21 => .array .int
  | 22 => .array .int
  | 23 => .array .int
  | 24 => .array .int
  | 25 => .array .int
  | 26 => .array .int
  | 27 => .int
  | 28 => .array .int
  | 29 => .array .int
  | 30 => .array .int
  | 31 => .array .int
  | 32 => .array .int
  | _ => .int
abbrev wsX100 : List Cond := u_ws RX10 TX10 34
theorem nmX10 : ∀ a, a < 34 → ∀ b, b < 34 → a ≠ b → (TX10 a).2.1 ≠ (TX10 b).2.1 := by decide +kernel
theorem tyX10_ok : ∀ k, k < 34 → parseFieldDescriptor (TX10 k).2.2.1 = some (tyX10 k) := by decide +kernel
abbrev cX10_init : ByteArray := prog_12_method_1_code
def yX10_init : MethodName := ⟨RX10, "<init>", "()V"⟩
abbrev cX10_in : ByteArray := prog_12_method_3_code
def yX10_in : MethodName := ⟨RX10, "in", "(JJJ)Z"⟩
abbrev cX10_size : ByteArray := prog_12_method_4_code
def yX10_size : MethodName := ⟨RX10, "size", "(I)I"⟩
abbrev cX10_lowest : ByteArray := prog_12_method_5_code
def yX10_lowest : MethodName := ⟨RX10, "lowest", "(JJI)J"⟩
abbrev cX10_isQuake : ByteArray := prog_12_method_6_code
def yX10_isQuake : MethodName := ⟨RX10, "isQuake", "(I)Z"⟩
abbrev cX10_isCell : ByteArray := prog_12_method_7_code
def yX10_isCell : MethodName := ⟨RX10, "isCell", "(II)Z"⟩
abbrev cX10_isDay : ByteArray := prog_12_method_8_code
def yX10_isDay : MethodName := ⟨RX10, "isDay", "(I)Z"⟩
abbrev cX10_isGreat : ByteArray := prog_12_method_9_code
def yX10_isGreat : MethodName := ⟨RX10, "isGreat", "(I)Z"⟩
abbrev cX10_isList : ByteArray := prog_12_method_10_code
def yX10_isList : MethodName := ⟨RX10, "isList", "(I)Z"⟩
abbrev cX10_quake : ByteArray := prog_12_method_11_code
def yX10_quake : MethodName := ⟨RX10, "quake", "(IIIIII)I"⟩
abbrev cX10_blast : ByteArray := prog_12_method_12_code
def yX10_blast : MethodName := ⟨RX10, "blast", "(IZ)I"⟩
abbrev cX10_mend : ByteArray := prog_12_method_13_code
def yX10_mend : MethodName := ⟨RX10, "mend", "(II)I"⟩
abbrev cX10_placeOf : ByteArray := prog_12_method_14_code
def yX10_placeOf : MethodName := ⟨RX10, "placeOf", "(I)I"⟩
abbrev cX10_about : ByteArray := prog_12_method_15_code
def yX10_about : MethodName := ⟨RX10, "about", "(II)I"⟩
abbrev cX10_mostOf : ByteArray := prog_12_method_16_code
def yX10_mostOf : MethodName := ⟨RX10, "mostOf", "(I)I"⟩
abbrev cX10_set : ByteArray := prog_12_method_17_code
def yX10_set : MethodName := ⟨RX10, "set", "(II)I"⟩
abbrev cX10_far : ByteArray := prog_12_method_18_code
def yX10_far : MethodName := ⟨RX10, "far", "(IIII)I"⟩
abbrev cX10_listed : ByteArray := prog_12_method_19_code
def yX10_listed : MethodName := ⟨RX10, "listed", "(IZ)I"⟩
abbrev cX10_missOf : ByteArray := prog_12_method_20_code
def yX10_missOf : MethodName := ⟨RX10, "missOf", "(II)I"⟩
abbrev cX10_joinBy : ByteArray := prog_12_method_21_code
def yX10_joinBy : MethodName := ⟨RX10, "joinBy", "(III)I"⟩
abbrev cX10_findJoins : ByteArray := prog_12_method_22_code
def yX10_findJoins : MethodName := ⟨RX10, "findJoins", "()V"⟩
abbrev cX10_join : ByteArray := prog_12_method_23_code
def yX10_join : MethodName := ⟨RX10, "join", "(III)I"⟩
abbrev cX10_isCounted : ByteArray := prog_12_method_24_code
def yX10_isCounted : MethodName := ⟨RX10, "isCounted", "(III)Z"⟩
abbrev cX10_countOf : ByteArray := prog_12_method_25_code
def yX10_countOf : MethodName := ⟨RX10, "countOf", "(III)I"⟩
abbrev cX10_mayList : ByteArray := prog_12_method_26_code
def yX10_mayList : MethodName := ⟨RX10, "mayList", "(I)Z"⟩
abbrev cX10_often : ByteArray := prog_12_method_27_code
def yX10_often : MethodName := ⟨RX10, "often", "(III)I"⟩
abbrev cX10_whole : ByteArray := prog_12_method_28_code
def yX10_whole : MethodName := ⟨RX10, "whole", "(II)I"⟩
abbrev cX10_isPart : ByteArray := prog_12_method_29_code
def yX10_isPart : MethodName := ⟨RX10, "isPart", "(I)Z"⟩
abbrev cX10_slope : ByteArray := prog_12_method_30_code
def yX10_slope : MethodName := ⟨RX10, "slope", "(IIII)J"⟩
abbrev cX10_choose : ByteArray := prog_12_method_31_code
def yX10_choose : MethodName := ⟨RX10, "choose", "(II)J"⟩
abbrev cX10_alike : ByteArray := prog_12_method_32_code
def yX10_alike : MethodName := ⟨RX10, "alike", "(IIII)J"⟩
abbrev cX10_power : ByteArray := prog_12_method_33_code
def yX10_power : MethodName := ⟨RX10, "power", "(JI)J"⟩
abbrev cX10_few : ByteArray := prog_12_method_34_code
def yX10_few : MethodName := ⟨RX10, "few", "(IIIII)J"⟩
abbrev cX10_step : ByteArray := prog_12_method_35_code
def yX10_step : MethodName := ⟨RX10, "step", "(III)I"⟩
abbrev cX10_dayStep : ByteArray := prog_12_method_36_code
def yX10_dayStep : MethodName := ⟨RX10, "dayStep", "(I)I"⟩
abbrev cX10_weigh : ByteArray := prog_12_method_37_code
def yX10_weigh : MethodName := ⟨RX10, "weigh", "(IIII)I"⟩
abbrev cX10_weightOf : ByteArray := prog_12_method_38_code
def yX10_weightOf : MethodName := ⟨RX10, "weightOf", "(II)I"⟩
abbrev cX10_isAhead : ByteArray := prog_12_method_39_code
def yX10_isAhead : MethodName := ⟨RX10, "isAhead", "(II)Z"⟩
abbrev cX10_mayBear : ByteArray := prog_12_method_40_code
def yX10_mayBear : MethodName := ⟨RX10, "mayBear", "(III)Z"⟩
abbrev cX10_allWeights : ByteArray := prog_12_method_41_code
def yX10_allWeights : MethodName := ⟨RX10, "allWeights", "(II)J"⟩
abbrev cX10_share : ByteArray := prog_12_method_42_code
def yX10_share : MethodName := ⟨RX10, "share", "(IIII)J"⟩
abbrev cX10_motherOf : ByteArray := prog_12_method_43_code
def yX10_motherOf : MethodName := ⟨RX10, "motherOf", "(II)I"⟩
abbrev cX10_whyNot : ByteArray := prog_12_method_44_code
def yX10_whyNot : MethodName := ⟨RX10, "whyNot", "(II)I"⟩
abbrev cX10_mother : ByteArray := prog_12_method_45_code
def yX10_mother : MethodName := ⟨RX10, "mother", "(II)I"⟩
abbrev cX10_firstOf : ByteArray := prog_12_method_46_code
def yX10_firstOf : MethodName := ⟨RX10, "firstOf", "(II)I"⟩
abbrev cX10_depthOf : ByteArray := prog_12_method_47_code
def yX10_depthOf : MethodName := ⟨RX10, "depthOf", "(II)I"⟩
abbrev cX10_family : ByteArray := prog_12_method_48_code
def yX10_family : MethodName := ⟨RX10, "family", "(III)I"⟩
abbrev cX10_families : ByteArray := prog_12_method_49_code
def yX10_families : MethodName := ⟨RX10, "families", "(II)I"⟩
abbrev cX10_drawnFor : ByteArray := prog_12_method_50_code
def yX10_drawnFor : MethodName := ⟨RX10, "drawnFor", "(IJI)I"⟩
abbrev cX10_draw : ByteArray := prog_12_method_51_code
def yX10_draw : MethodName := ⟨RX10, "draw", "(III)I"⟩
abbrev cX10_rate : ByteArray := prog_12_method_52_code
def yX10_rate : MethodName := ⟨RX10, "rate", "(IIII)I"⟩
abbrev cX10_say : ByteArray := prog_12_method_53_code
def yX10_say : MethodName := ⟨RX10, "say", "(I)I"⟩
abbrev cX10_wipe : ByteArray := prog_12_method_54_code
def yX10_wipe : MethodName := ⟨RX10, "wipe", "()I"⟩
abbrev cX10_isDigit : ByteArray := prog_12_method_55_code
def yX10_isDigit : MethodName := ⟨RX10, "isDigit", "(I)Z"⟩
abbrev cX10_markOf : ByteArray := prog_12_method_56_code
def yX10_markOf : MethodName := ⟨RX10, "markOf", "(I)I"⟩
abbrev cX10_fault : ByteArray := prog_12_method_57_code
def yX10_fault : MethodName := ⟨RX10, "fault", "()I"⟩
abbrev cX10_forecast : ByteArray := prog_12_method_58_code
def yX10_forecast : MethodName := ⟨RX10, "forecast", "()I"⟩
abbrev cX10_isForecast : ByteArray := prog_12_method_59_code
def yX10_isForecast : MethodName := ⟨RX10, "isForecast", "(I)Z"⟩
abbrev cX10_manyAhead : ByteArray := prog_12_method_60_code
def yX10_manyAhead : MethodName := ⟨RX10, "manyAhead", "(III)I"⟩
abbrev cX10_toldFor : ByteArray := prog_12_method_61_code
def yX10_toldFor : MethodName := ⟨RX10, "toldFor", "(II)I"⟩
abbrev cX10_tells : ByteArray := prog_12_method_62_code
def yX10_tells : MethodName := ⟨RX10, "tells", "(II)I"⟩
abbrev cX10_hasQuake : ByteArray := prog_12_method_63_code
def yX10_hasQuake : MethodName := ⟨RX10, "hasQuake", "(II)Z"⟩
abbrev cX10_scoreOf : ByteArray := prog_12_method_64_code
def yX10_scoreOf : MethodName := ⟨RX10, "scoreOf", "(IIIIII)J"⟩
abbrev cX10_areDays : ByteArray := prog_12_method_65_code
def yX10_areDays : MethodName := ⟨RX10, "areDays", "(III)Z"⟩
abbrev cX10_score : ByteArray := prog_12_method_66_code
def yX10_score : MethodName := ⟨RX10, "score", "(IIII)J"⟩
abbrev cX10_mixed : ByteArray := prog_12_method_67_code
def yX10_mixed : MethodName := ⟨RX10, "mixed", "(IIIIII)J"⟩
abbrev cX10_best : ByteArray := prog_12_method_68_code
def yX10_best : MethodName := ⟨RX10, "best", "(IIIII)I"⟩
abbrev cX10_house : ByteArray := prog_12_method_69_code
def yX10_house : MethodName := ⟨RX10, "house", "(IIIII)I"⟩
abbrev cX10_damage : ByteArray := prog_12_method_70_code
def yX10_damage : MethodName := ⟨RX10, "damage", "(III)I"⟩
abbrev cX10_lossBy : ByteArray := prog_12_method_71_code
def yX10_lossBy : MethodName := ⟨RX10, "lossBy", "(IIII)I"⟩
abbrev cX10_lossOf : ByteArray := prog_12_method_72_code
def yX10_lossOf : MethodName := ⟨RX10, "lossOf", "(I)I"⟩
abbrev cX10_loss : ByteArray := prog_12_method_73_code
def yX10_loss : MethodName := ⟨RX10, "loss", "(I)I"⟩
abbrev cX10_worst : ByteArray := prog_12_method_74_code
def yX10_worst : MethodName := ⟨RX10, "worst", "(II)I"⟩
abbrev cX10_law : ByteArray := prog_12_method_75_code
def yX10_law : MethodName := ⟨RX10, "law", "(IIII)I"⟩
abbrev cX10_lawLoss : ByteArray := prog_12_method_76_code
def yX10_lawLoss : MethodName := ⟨RX10, "lawLoss", "(II)I"⟩
abbrev cX10_curve : ByteArray := prog_12_method_77_code
def yX10_curve : MethodName := ⟨RX10, "curve", "(I)I"⟩
abbrev cX10_meanOf : ByteArray := prog_12_method_78_code
def yX10_meanOf : MethodName := ⟨RX10, "meanOf", "(I)J"⟩
abbrev cX10_mean : ByteArray := prog_12_method_79_code
def yX10_mean : MethodName := ⟨RX10, "mean", "(I)J"⟩
abbrev cX10_priceOf : ByteArray := prog_12_method_80_code
def yX10_priceOf : MethodName := ⟨RX10, "priceOf", "(I)I"⟩
abbrev cX10_strengthen : ByteArray := prog_12_method_81_code
def yX10_strengthen : MethodName := ⟨RX10, "strengthen", "(I)I"⟩
abbrev cX10_told : ByteArray := prog_12_method_82_code
def yX10_told : MethodName := ⟨RX10, "told", "(I)I"⟩
def RJ9 : String := "java/lang/Math"
def TJ9 : u_T := fun k => match k with
  | _ => ("", "", "", false)
def tyJ9 : Nat → FieldType := fun k => match k with
  | _ => .int
abbrev wsJ90 : List Cond := u_ws RJ9 TJ9 0
theorem nmJ9 : ∀ a, a < 0 → ∀ b, b < 0 → a ≠ b → (TJ9 a).2.1 ≠ (TJ9 b).2.1 := by decide +kernel
theorem tyJ9_ok : ∀ k, k < 0 → parseFieldDescriptor (TJ9 k).2.2.1 = some (tyJ9 k) := by decide +kernel
abbrev cJ9_floorMod_f86c9 : ByteArray := prog_13_method_52_code
def yJ9_floorMod_f86c9 : MethodName := ⟨RJ9, "floorMod", "(JJ)J"⟩
abbrev cJ9_abs_0f7a4 : ByteArray := prog_13_method_59_code
def yJ9_abs_0f7a4 : MethodName := ⟨RJ9, "abs", "(I)I"⟩
abbrev cJ9_max_7cf53 : ByteArray := prog_13_method_65_code
def yJ9_max_7cf53 : MethodName := ⟨RJ9, "max", "(II)I"⟩
abbrev cJ9_max_f86c9 : ByteArray := prog_13_method_66_code
def yJ9_max_f86c9 : MethodName := ⟨RJ9, "max", "(JJ)J"⟩
abbrev cJ9_min_7cf53 : ByteArray := prog_13_method_69_code
def yJ9_min_7cf53 : MethodName := ⟨RJ9, "min", "(II)I"⟩
def RL : String := "QuakeListsLaw"
abbrev cL_law : ByteArray := code
def yL_law : MethodName := ⟨RL, "law", "([I)Z"⟩
abbrev vwCl : List vw_C := [(RX0, TX0, 1), (RX1, TX1, 6), (RX2, TX2, 13), (RX3, TX3, 14), (RX4, TX4, 5), (RX6, TX6, 9), (RX7, TX7, 2), (RX8, TX8, 2), (RX9, TX9, 10), (RX10, TX10, 34)]
abbrev Dn (cc : ByteArray) (pc : Nat) (i : Instr) (n pc' : Nat) : Prop := decode cc pc = .ok (i, n) ∧ pc + n = pc'
abbrev Db (cc : ByteArray) (pc : Nat) (i : Instr) (off : Int) (pc' tgt : Nat) : Prop := decode cc pc = .ok (i, 3) ∧ pc + 3 = pc' ∧ (pc : Int) + off = (tgt : Int)
end
section
/-! THE PURE PICTURE: numbers as integers, references as places counted from the law's start, the heap as a table with what was overwritten on top -/
abbrev PV : Type := Int ⊕ Int ⊕ Option Nat
abbrev zI (z : Int) : PV := Sum.inl z
abbrev zJ (z : Int) : PV := Sum.inr (Sum.inl z)
abbrev zR (k : Nat) : PV := Sum.inr (Sum.inr (some k))
abbrev zN : PV := Sum.inr (Sum.inr none)
abbrev zQ (r : Option Nat) : PV := Sum.inr (Sum.inr r)
def rv (sz : Nat) : PV → Value
  | .inl z => .int (Int32.ofInt z)
  | .inr (.inl z) => .long (Int64.ofInt z)
  | .inr (.inr none) => .null
  | .inr (.inr (some k)) => .ref (sz + k)
abbrev PA : Type := (Nat → Int) ⊕ (Nat → Int) ⊕ (Nat → Option Nat)
abbrev PC : Type := (Nat × Nat × PA) ⊕ (Nat × List PV)
abbrev PH : Type := Nat × (Nat → Option PC) × List (Nat × PC)
abbrev oA (t n : Nat) (f : Nat → Int) : PC := Sum.inl (t, n, Sum.inl f)
abbrev oL (t n : Nat) (f : Nat → Int) : PC := Sum.inl (t, n, Sum.inr (Sum.inl f))
abbrev oP (t n : Nat) (f : Nat → Option Nat) : PC := Sum.inl (t, n, Sum.inr (Sum.inr f))
abbrev oO (ci : Nat) (fs : List PV) : PC := Sum.inr (ci, fs)
def hlk : List (Nat × PC) → (Nat → Option PC) → Nat → Option PC
  | [], h, k => h k
  | q :: l, h, k => if q.1 = k then some q.2 else hlk l h k
def hget (p : PH) (k : Nat) : Option PC := hlk p.2.2 p.2.1 k
def aset : List (Nat × PC) → Nat → PC → List (Nat × PC)
  | [], k, c => [(k, c)]
  | q :: l, k, c => if q.1 = k then (k, c) :: l else q :: aset l k c
def asets (l : List (Nat × PC)) : List (Nat × PC) → List (Nat × PC)
  | [] => l
  | q :: r => aset (asets l r) q.1 q.2
def hset (p : PH) (k : Nat) (c : PC) : PH := (p.1, p.2.1, aset p.2.2 k c)
def fup {α : Type} (f : Nat → α) (k : Nat) (v : α) : Nat → α := fun j => if j = k then v else f j
theorem fup_self {α : Type} (f : Nat → α) (k : Nat) (v : α) : fup f k v k = v := by simp [fup]
theorem fup_ne {α : Type} (f : Nat → α) {k j : Nat} (v : α) (h : j ≠ k) : fup f k v j = f j := by simp [fup, h]
theorem hlk_aset (l : List (Nat × PC)) (h : Nat → Option PC) (k j : Nat) (c : PC) : hlk (aset l k c) h j = if k = j then some c else hlk l h j := by
  induction l with
  | nil => simp [aset, hlk]
  | cons q l ih =>
    by_cases h1 : q.1 = k
    · simp only [aset, if_pos h1, hlk]
      by_cases h2 : k = j
      · simp [h2]
      · rw [if_neg h2, if_neg h2, if_neg (by rw [h1]; exact h2)]
    · simp only [aset, if_neg h1, hlk]
      by_cases h2 : q.1 = j
      · rw [if_pos h2, if_neg (by intro e; exact h1 (h2.trans e.symm)), if_pos h2]
      · rw [if_neg h2, ih, if_neg h2]
theorem hget_hset (p : PH) (k j : Nat) (c : PC) : hget (hset p k c) j = if k = j then some c else hget p j := hlk_aset _ _ _ _ _
theorem hget_set_self (p : PH) (k : Nat) (c : PC) : hget (hset p k c) k = some c := by rw [hget_hset, if_pos rfl]
theorem hget_set_ne (p : PH) {k j : Nat} (c : PC) (h : k ≠ j) : hget (hset p k c) j = hget p j := by rw [hget_hset, if_neg h]
/-- the lists of two overwritings, the later one on top -/
theorem hlk_asets (l : List (Nat × PC)) (h : Nat → Option PC) (j : Nat) : ∀ r : List (Nat × PC), hlk (asets l r) h j = hlk r (hlk l h) j
  | [] => rfl
  | q :: r => by
    show hlk (aset (asets l r) q.1 q.2) h j = if q.1 = j then some q.2 else hlk r (hlk l h) j
    rw [hlk_aset, hlk_asets l h j r]
abbrev GT : Type := Nat × va_G × (Nat → ClassId)
def trC (g : GT) : PC → va_E
  | .inl (t, n, .inl f) => .inl (g.2.2 t, n, .inl (fun j => Int32.ofInt (f j)))
  | .inl (t, n, .inr (.inl f)) => .inl (g.2.2 t, n, .inr (.inl (fun j => Int64.ofInt (f j))))
  | .inl (t, n, .inr (.inr f)) => .inl (g.2.2 t, n, .inr (.inr (.inr (.inr (fun j => (f j).map (fun k => g.1 + k))))))
  | .inr (ci, fs) => .inr (ci, fs.map (rv g.1))
/-- the machine's heap holds the picture -/
def Rl (g : GT) (hp : PH) (H : Heap) : Prop := H.size = g.1 + hp.1 ∧ ∀ (k : Nat) (c : PC), hget hp k = some c → k < hp.1 ∧ va_at g.2.1 vwCl (g.1 + k, trC g c) H
def Ag (g : GT) : Nat → Prop := fun q => g.1 ≤ q
theorem Rl.ext {g : GT} {hp hq : PH} {H : Heap} (h : Rl g hp H) (e1 : hq.1 = hp.1) (e2 : ∀ k, hget hq k = hget hp k) : Rl g hq H := ⟨by rw [e1]; exact h.1, fun k c hk => by rw [e1]; exact h.2 k c (by rw [← e2]; exact hk)⟩
/-- one cell changed -/
theorem Rl.put {g : GT} {hp : PH} {H H1 : Heap} (h : Rl g hp H) {k : Nat} {c0 c : PC} (hk : hget hp k = some c0) (z : H1.size = H.size) (o : ∀ q : Nat, q ≠ g.1 + k → H1[q]? = H[q]?) (hc : va_at g.2.1 vwCl (g.1 + k, trC g c) H1) : Rl g (hset hp k c) H1 := by
  refine ⟨by rw [z]; exact h.1, fun j d hj => ?_⟩
  rw [hget_hset] at hj
  by_cases e : k = j
  · rw [if_pos e] at hj
    cases hj
    subst e
    exact ⟨(h.2 k c0 hk).1, hc⟩
  · rw [if_neg e] at hj
    obtain ⟨a1, a2⟩ := h.2 j d hj
    exact ⟨a1, a2.kept (o _ (by show g.1 + j ≠ g.1 + k; omega))⟩
/-- a cell more -/
def hnew (p : PH) (c : PC) : PH := (p.1 + 1, p.2.1, aset p.2.2 p.1 c)
theorem hget_hnew (p : PH) (j : Nat) (c : PC) : hget (hnew p c) j = if p.1 = j then some c else hget p j := hlk_aset _ _ _ _ _
theorem Rl.new {g : GT} {hp : PH} {H H1 : Heap} (h : Rl g hp H) {c : PC} (z : H1.size = H.size + 1) (o : ∀ q : Nat, q < H.size → H1[q]? = H[q]?) (hc : va_at g.2.1 vwCl (g.1 + hp.1, trC g c) H1) : Rl g (hnew hp c) H1 := by
  refine ⟨by rw [z, h.1]; rfl, fun j d hj => ?_⟩
  rw [hget_hnew] at hj
  by_cases e : hp.1 = j
  · rw [if_pos e] at hj
    cases hj
    subst e
    exact ⟨Nat.lt_succ_self _, hc⟩
  · rw [if_neg e] at hj
    obtain ⟨a1, a2⟩ := h.2 j d hj
    exact ⟨Nat.lt_succ_of_lt a1, a2.kept (o _ (by show g.1 + j < H.size; rw [h.1]; omega))⟩
/-! ===== words ===== -/
def nestW : Cond → Bool
  | .fieldLinkNest _ _ _ _ _ _ => true
  | .methodLinkNest _ _ _ _ => true
  | _ => false
def WT : List Cond := lw_tbl.filter goodWord
theorem wt_of {w : Cond} (h : w ∈ lw_tbl) (hg : goodWord w = true) : w ∈ WT := List.mem_filter.mpr ⟨h, hg⟩
theorem wt_good {w : Cond} (h : w ∈ WT) : (w.onTables && w.keeps) = true ∨ ∃ ty, w = .arrayClass ty := good_of_word (List.mem_filter.mp h).2
theorem wt_goodIn {c d : Cond} (hd : d ∈ WT) : GoodIn (c :: WT) (d :: WT) := by
  intro w hw
  rcases List.mem_cons.mp hw with rfl | h
  · exact ⟨List.mem_cons_of_mem _ hd, wt_good hd⟩
  · exact ⟨List.mem_cons_of_mem _ h, wt_good h⟩
/-- what the tables say beside the words: layouts, classes of arrays, links between nest mates, static tables -/
def aTy : List FieldType := [.int, .boolean, .long, .array .long, .array .int, .object RX1]
def stTab : Nat → String × String × String × FieldType × Nat × (Nat → Int)
  | 0 => (RX9, "SET_LEAST", "[I", .int, 5, fun j => if j = 3 then 1 else 0)
  | 1 => (RX9, "SET_MOST", "[I", .int, 5, fun j => if j = 0 then 10 else if j = 1 then 5 else if j = 2 then 20 else if j = 3 then 100000 else 20)
  | _ => (RX8, "ENDS", "[C", .char, 4, fun j => if j = 0 then 44 else if j = 1 then 62 else if j = 2 then 58 else 59)
def Sv (g : GT) (U : State) (H : Heap) : Prop := ∀ i, i < 3 → ∃ t : Nat, va_Z (stTab i).1 (stTab i).2.1 (stTab i).2.2.1 (.ref t) (Ag g) U H ∧ va_T (stTab i).2.2.2.1 t (stTab i).2.2.2.2.1 (fun j => .int (Int32.ofInt ((stTab i).2.2.2.2.2 j))) (Ag g) U H
def Ev (g : GT) (U : State) : Prop := va_K g.2.1 vwCl ((List.range 6).map (fun i => (g.2.2 i, aTy.getD i .int))) U ∧ (∀ w ∈ lw_tbl, nestW w = true → va_Nw w U) ∧ va_AO RX1 U
theorem Ev.moved {g : GT} {u U : State} (hW : u.WarmedH U.vm) (h : Ev g u) : Ev g U := by
  refine ⟨va_K.moved hW.alike h.1, fun w hw hn => ?_, va_AO.moved hW.alike h.2.2⟩
  have h1 := h.2.1 w hw hn
  cases w <;> first | exact va_Nw.warmF hW h1 | exact va_Nw.warmM hW h1 | (exfalso; simp [nestW] at hn)
theorem Ev.same {g : GT} {u U : State} (hW : u.vm = U.vm) (h : Ev g u) : Ev g U := by
  have hA : u.vm.Alike U.vm := by rw [hW]; exact Vm.Alike.refl U.vm
  refine ⟨va_K.moved hA h.1, fun w hw hn => ?_, va_AO.moved hA h.2.2⟩
  have h1 := h.2.1 w hw hn
  cases w <;> first | exact va_Nw.same rfl hW h1 | (exfalso; simp [nestW] at hn)
theorem Sv.moved {g : GT} {u U : State} {H : Heap} (hvm : u.vm.Alike U.vm) (h : Sv g u H) : Sv g U H := fun i hi => by
  obtain ⟨t, a, b⟩ := h i hi
  exact ⟨t, a.moved hvm, b.moved hvm⟩
theorem Sv.kept {g : GT} {U : State} {H H1 : Heap} (h : Sv g U H) (hq : ∀ a : Nat, a < H.size → ¬ Ag g a → H1[a]? = H[a]?) : Sv g U H1 := fun i hi => by
  obtain ⟨t, a, b⟩ := h i hi
  exact ⟨t, a.kept hq, b.kept hq⟩
/-! ===== the judgement ===== -/
abbrev KT : Type := Program × Launch × Env × Room × State × MethodId × Array Value × List Frame × Method × Code × GT
abbrev kS (K : KT) : State := K.2.2.2.2.1
abbrev kA (K : KT) : Array Value := K.2.2.2.2.2.2.1
abbrev kG (K : KT) : GT := K.2.2.2.2.2.2.2.2.2.2
abbrev kM (K : KT) : MethodId := K.2.2.2.2.2.1
abbrev kMeth (K : KT) : Method := K.2.2.2.2.2.2.2.2.1
abbrev kC (K : KT) : Code := K.2.2.2.2.2.2.2.2.2.1
abbrev kR (K : KT) : Room := K.2.2.2.1
def Gd (K : KT) (cc : ByteArray) (own : String) (nL : Nat) : Prop :=
  K.1.tables.exec = Jvm.exec ∧ (kC K).code = cc ∧ (kC K).maxLocals = nL ∧ (kS K).vm.findClass own = some (kM K).cls ∧ (∀ w ∈ WT, w.before (kA K) (kS K) = true) ∧ Ev (kG K) (kS K) ∧ Sv (kG K) (kS K) (kS K).heap ∧ (kMeth K).locks = false ∧ (kG K).1 ≤ (kS K).heap.size
abbrev WK (K : KT) (H : Heap) (locs : List Loc) (cs : Nat × Nat) (Q : State → Prop) (g : JFrame) : Prop :=
  W K.1 K.2.1 K.2.2.1 K.2.2.2.1 K.2.2.2.2.1 K.2.2.2.2.2.1 K.2.2.2.2.2.2.1 K.2.2.2.2.2.2.2.1 K.2.2.2.2.2.2.2.2.1 K.2.2.2.2.2.2.2.2.2.1 H locs cs.1 cs.2 Q g
abbrev lvm (sz : Nat) (lv : List (Nat × PV)) : List (Nat × Value) := lv.map (fun q => (q.1, rv sz q.2))
def Wp (K : KT) (nL : Nat) (Q : State → Prop) (cs : Nat × Nat) (pc : Nat) (lv : List (Nat × PV)) (stk : List PV) (hp : PH) : Prop :=
  ∀ (H : Heap) (locs : List Loc) (ls : Array Slot), Rl (kG K) hp H → va_S (Ag (kG K)) (kS K).heap H locs → lv_has ls nL (lvm (kG K).1 lv) → WK K H locs cs Q (F0 (kM K) pc ls (stk.map (rv (kG K).1)))
abbrev r32 (z : Int) : Prop := -2147483648 ≤ z ∧ z ≤ 2147483647
abbrev r64 (z : Int) : Prop := -9223372036854775808 ≤ z ∧ z ≤ 9223372036854775807
theorem n32 {z : Int} (h : r32 z) : (Int32.ofInt z).toInt = z := Int32.toInt_ofInt_of_le (by omega) (by omega)
theorem n64 {z : Int} (h : r64 z) : (Int64.ofInt z).toInt = z := Int64.toInt_ofInt_of_le (by omega) (by omega)
theorem e32 {a b : Int} (ha : r32 a) (hb : r32 b) : Int32.ofInt a = Int32.ofInt b ↔ a = b := by
  rw [← Int32.toInt_inj, n32 ha, n32 hb]
theorem l32 {a b : Int} (ha : r32 a) (hb : r32 b) : Int32.ofInt a < Int32.ofInt b ↔ a < b := by
  rw [Int32.lt_iff_toInt_lt, n32 ha, n32 hb]
theorem le32 {a b : Int} (ha : r32 a) (hb : r32 b) : Int32.ofInt a ≤ Int32.ofInt b ↔ a ≤ b := by
  rw [Int32.le_iff_toInt_le, n32 ha, n32 hb]
theorem z32 : (0 : Int32) = Int32.ofInt 0 := by decide
section RULES
variable {K : KT} {nL : Nat} {Q : State → Prop} {cs : Nat × Nat} {pc pc' : Nat} {lv : List (Nat × PV)} {stk : List PV} {hp : PH} {cc : ByteArray} {own : String}
theorem wp_iconst (G : Gd K cc own nL) {n : Int} (hd : Dn cc pc (.iconst n) 1 pc') (k : Wp K nL Q cs pc' lv (zI n :: stk) hp) : Wp K nL Q cs pc lv stk hp := by
  intro H locs ls h1 h2 h3
  obtain ⟨hx, hb, -⟩ := G
  obtain ⟨hd, rfl⟩ := hd
  exact lv_iconst hx hb hd rfl (k H locs ls h1 h2 h3)
theorem wp_bipush (G : Gd K cc own nL) {n : Int} (hd : Dn cc pc (.bipush n) 2 pc') (hv : (Int8.ofInt n).toInt32 = Int32.ofInt n) (k : Wp K nL Q cs pc' lv (zI n :: stk) hp) : Wp K nL Q cs pc lv stk hp := by
  intro H locs ls h1 h2 h3
  obtain ⟨hx, hb, -⟩ := G
  obtain ⟨hd, rfl⟩ := hd
  exact lv_bipush hx hb hd hv (k H locs ls h1 h2 h3)
theorem wp_sipush (G : Gd K cc own nL) {n : Int} (hd : Dn cc pc (.sipush n) 3 pc') (hv : (Int16.ofInt n).toInt32 = Int32.ofInt n) (k : Wp K nL Q cs pc' lv (zI n :: stk) hp) : Wp K nL Q cs pc lv stk hp := by
  intro H locs ls h1 h2 h3
  obtain ⟨hx, hb, -⟩ := G
  obtain ⟨hd, rfl⟩ := hd
  exact lv_sipush hx hb hd hv (k H locs ls h1 h2 h3)
theorem wp_lconst (G : Gd K cc own nL) {n : Fin 2} {z : Int} (hd : Dn cc pc (.lconst n) 1 pc') (hv : z = ((n : Nat) : Int)) (k : Wp K nL Q cs pc' lv (zJ z :: stk) hp) : Wp K nL Q cs pc lv stk hp := by
  intro H locs ls h1 h2 h3
  obtain ⟨hx, hb, -⟩ := G
  obtain ⟨hd, rfl⟩ := hd
  subst hv
  exact lv_lconst hx hb hd rfl (k H locs ls h1 h2 h3)
/-- a listed local, by its place in the list -/
theorem lvm_at {ls : Array Slot} {sz : Nat} {lv : List (Nat × PV)} (h : lv_has ls nL (lvm sz lv)) {j i : Nat} {v : PV} (hj : lv[j]? = some (i, v)) : ls[i]? = some (.val (rv sz v)) := lv_at h j (by rw [List.getElem?_map, hj]; rfl)
theorem wp_iload_n (G : Gd K cc own nL) {i : Fin 4} (j : Nat) {z : Int} (hd : Dn cc pc (.iload_n i) 1 pc') (hj : lv[j]? = some ((i : Nat), zI z)) (k : Wp K nL Q cs pc' lv (zI z :: stk) hp) : Wp K nL Q cs pc lv stk hp := by
  intro H locs ls h1 h2 h3
  obtain ⟨hx, hb, -⟩ := G
  obtain ⟨hd, rfl⟩ := hd
  exact lv_iload_n hx hb hd rfl (lvm_at h3 hj) (k H locs ls h1 h2 h3)
theorem wp_iload (G : Gd K cc own nL) {i : Nat} (j : Nat) {z : Int} (hd : Dn cc pc (.iload i) 2 pc') (hj : lv[j]? = some (i, zI z)) (k : Wp K nL Q cs pc' lv (zI z :: stk) hp) : Wp K nL Q cs pc lv stk hp := by
  intro H locs ls h1 h2 h3
  obtain ⟨hx, hb, -⟩ := G
  obtain ⟨hd, rfl⟩ := hd
  exact lv_iload hx hb hd (lvm_at h3 hj) (k H locs ls h1 h2 h3)
theorem wp_lload_n (G : Gd K cc own nL) {i : Fin 4} (j : Nat) {z : Int} (hd : Dn cc pc (.lload_n i) 1 pc') (hj : lv[j]? = some ((i : Nat), zJ z)) (k : Wp K nL Q cs pc' lv (zJ z :: stk) hp) : Wp K nL Q cs pc lv stk hp := by
  intro H locs ls h1 h2 h3
  obtain ⟨hx, hb, -⟩ := G
  obtain ⟨hd, rfl⟩ := hd
  exact lv_lload_n hx hb hd rfl (lvm_at h3 hj) (k H locs ls h1 h2 h3)
theorem wp_lload (G : Gd K cc own nL) {i : Nat} (j : Nat) {z : Int} (hd : Dn cc pc (.lload i) 2 pc') (hj : lv[j]? = some (i, zJ z)) (k : Wp K nL Q cs pc' lv (zJ z :: stk) hp) : Wp K nL Q cs pc lv stk hp := by
  intro H locs ls h1 h2 h3
  obtain ⟨hx, hb, -⟩ := G
  obtain ⟨hd, rfl⟩ := hd
  exact lv_lload hx hb hd (lvm_at h3 hj) (k H locs ls h1 h2 h3)
theorem wp_aload_n (G : Gd K cc own nL) {i : Fin 4} (j : Nat) {r : Nat} (hd : Dn cc pc (.aload_n i) 1 pc') (hj : lv[j]? = some ((i : Nat), zR r)) (k : Wp K nL Q cs pc' lv (zR r :: stk) hp) : Wp K nL Q cs pc lv stk hp := by
  intro H locs ls h1 h2 h3
  obtain ⟨hx, hb, -⟩ := G
  obtain ⟨hd, rfl⟩ := hd
  exact lv_aload_n hx hb hd rfl (lvm_at h3 hj) (k H locs ls h1 h2 h3)
theorem wp_aload (G : Gd K cc own nL) {i : Nat} (j : Nat) {r : Nat} (hd : Dn cc pc (.aload i) 2 pc') (hj : lv[j]? = some (i, zR r)) (k : Wp K nL Q cs pc' lv (zR r :: stk) hp) : Wp K nL Q cs pc lv stk hp := by
  intro H locs ls h1 h2 h3
  obtain ⟨hx, hb, -⟩ := G
  obtain ⟨hd, rfl⟩ := hd
  exact lv_aload hx hb hd (lvm_at h3 hj) (k H locs ls h1 h2 h3)
theorem wp_aload_nN (G : Gd K cc own nL) {i : Fin 4} (j : Nat) (hd : Dn cc pc (.aload_n i) 1 pc') (hj : lv[j]? = some ((i : Nat), zN)) (k : Wp K nL Q cs pc' lv (zN :: stk) hp) : Wp K nL Q cs pc lv stk hp := by
  intro H locs ls h1 h2 h3
  obtain ⟨hx, hb, -⟩ := G
  obtain ⟨hd, rfl⟩ := hd
  exact lv_aload_nN hx hb hd rfl (lvm_at h3 hj) (k H locs ls h1 h2 h3)
theorem wp_aloadN (G : Gd K cc own nL) {i : Nat} (j : Nat) (hd : Dn cc pc (.aload i) 2 pc') (hj : lv[j]? = some (i, zN)) (k : Wp K nL Q cs pc' lv (zN :: stk) hp) : Wp K nL Q cs pc lv stk hp := by
  intro H locs ls h1 h2 h3
  obtain ⟨hx, hb, -⟩ := G
  obtain ⟨hd, rfl⟩ := hd
  exact lv_aloadN hx hb hd (lvm_at h3 hj) (k H locs ls h1 h2 h3)
/-! stores -/
def isJ : PV → Bool
  | .inr (.inl _) => true
  | _ => false
theorem cat_rv (sz : Nat) (v : PV) : ((rv sz v).category == 2) = isJ v := by
  rcases v with z | z | _ | k <;> rfl
def pst (i : Nat) (v : PV) (lv : List (Nat × PV)) : List (Nat × PV) := (i, v) :: lv.filter (fun q => !(q.1 == i) && !(q.1 + 1 == i && isJ q.2))
def pst2 (i : Nat) (v : PV) (lv : List (Nat × PV)) : List (Nat × PV) := (i, v) :: lv.filter (fun q => !(q.1 == i) && (!(q.1 == i + 1) && !(q.1 + 1 == i && isJ q.2)))
theorem pst_map (sz i : Nat) (v : PV) (lv : List (Nat × PV)) : (i, rv sz v) :: (lvm sz lv).filter (fun q => !(q.1 == i) && !(q.1 + 1 == i && q.2.category == 2)) = lvm sz (pst i v lv) := by
  show _ = (i, rv sz v) :: List.map _ _
  rw [List.filter_map]
  congr 2
  refine congrArg (fun f => List.filter f lv) (funext fun q => ?_)
  simp only [Function.comp_apply, cat_rv]
theorem pst2_map (sz i : Nat) (v : PV) (lv : List (Nat × PV)) : (i, rv sz v) :: (lvm sz lv).filter (fun q => !(q.1 == i) && (!(q.1 == i + 1) && !(q.1 + 1 == i && q.2.category == 2))) = lvm sz (pst2 i v lv) := by
  show _ = (i, rv sz v) :: List.map _ _
  rw [List.filter_map]
  congr 2
  refine congrArg (fun f => List.filter f lv) (funext fun q => ?_)
  simp only [Function.comp_apply, cat_rv]
theorem wp_istore_n (G : Gd K cc own nL) {i : Fin 4} {z : Int} {lv' : List (Nat × PV)} (hd : Dn cc pc (.istore_n i) 1 pc') (hn : (i : Nat) < nL) (hl : pst (i : Nat) (zI z) lv = lv') (k : Wp K nL Q cs pc' lv' stk hp) : Wp K nL Q cs pc lv (zI z :: stk) hp := by
  intro H locs ls h1 h2 h3
  obtain ⟨hx, hb, -⟩ := G
  obtain ⟨hd, rfl⟩ := hd
  subst hl
  exact lv_istore_n hx hb hd rfl h3 hn (pst_map _ _ (zI z) _) (fun ls' h' => k H locs ls' h1 h2 h')
theorem wp_istore (G : Gd K cc own nL) {i : Nat} {z : Int} {lv' : List (Nat × PV)} (hd : Dn cc pc (.istore i) 2 pc') (hn : i < nL) (hl : pst i (zI z) lv = lv') (k : Wp K nL Q cs pc' lv' stk hp) : Wp K nL Q cs pc lv (zI z :: stk) hp := by
  intro H locs ls h1 h2 h3
  obtain ⟨hx, hb, -⟩ := G
  obtain ⟨hd, rfl⟩ := hd
  subst hl
  exact lv_istore hx hb hd h3 hn (pst_map _ _ (zI z) _) (fun ls' h' => k H locs ls' h1 h2 h')
theorem wp_lstore_n (G : Gd K cc own nL) {i : Fin 4} {z : Int} {lv' : List (Nat × PV)} (hd : Dn cc pc (.lstore_n i) 1 pc') (hn : (i : Nat) + 1 < nL) (hl : pst2 (i : Nat) (zJ z) lv = lv') (k : Wp K nL Q cs pc' lv' stk hp) : Wp K nL Q cs pc lv (zJ z :: stk) hp := by
  intro H locs ls h1 h2 h3
  obtain ⟨hx, hb, -⟩ := G
  obtain ⟨hd, rfl⟩ := hd
  subst hl
  exact lv_lstore_n hx hb hd rfl h3 hn (pst2_map _ _ (zJ z) _) (fun ls' h' => k H locs ls' h1 h2 h')
theorem wp_lstore (G : Gd K cc own nL) {i : Nat} {z : Int} {lv' : List (Nat × PV)} (hd : Dn cc pc (.lstore i) 2 pc') (hn : i + 1 < nL) (hl : pst2 i (zJ z) lv = lv') (k : Wp K nL Q cs pc' lv' stk hp) : Wp K nL Q cs pc lv (zJ z :: stk) hp := by
  intro H locs ls h1 h2 h3
  obtain ⟨hx, hb, -⟩ := G
  obtain ⟨hd, rfl⟩ := hd
  subst hl
  exact lv_lstore hx hb hd h3 hn (pst2_map _ _ (zJ z) _) (fun ls' h' => k H locs ls' h1 h2 h')
theorem wp_astore_n (G : Gd K cc own nL) {i : Fin 4} {r : Nat} {lv' : List (Nat × PV)} (hd : Dn cc pc (.astore_n i) 1 pc') (hn : (i : Nat) < nL) (hl : pst (i : Nat) (zR r) lv = lv') (k : Wp K nL Q cs pc' lv' stk hp) : Wp K nL Q cs pc lv (zR r :: stk) hp := by
  intro H locs ls h1 h2 h3
  obtain ⟨hx, hb, -⟩ := G
  obtain ⟨hd, rfl⟩ := hd
  subst hl
  exact lv_astore_n hx hb hd rfl h3 hn (pst_map _ _ (zR r) _) (fun ls' h' => k H locs ls' h1 h2 h')
theorem wp_astore (G : Gd K cc own nL) {i : Nat} {r : Nat} {lv' : List (Nat × PV)} (hd : Dn cc pc (.astore i) 2 pc') (hn : i < nL) (hl : pst i (zR r) lv = lv') (k : Wp K nL Q cs pc' lv' stk hp) : Wp K nL Q cs pc lv (zR r :: stk) hp := by
  intro H locs ls h1 h2 h3
  obtain ⟨hx, hb, -⟩ := G
  obtain ⟨hd, rfl⟩ := hd
  subst hl
  exact lv_astore hx hb hd h3 hn (pst_map _ _ (zR r) _) (fun ls' h' => k H locs ls' h1 h2 h')
theorem wp_astore_nN (G : Gd K cc own nL) {i : Fin 4} {lv' : List (Nat × PV)} (hd : Dn cc pc (.astore_n i) 1 pc') (hn : (i : Nat) < nL) (hl : pst (i : Nat) zN lv = lv') (k : Wp K nL Q cs pc' lv' stk hp) : Wp K nL Q cs pc lv (zN :: stk) hp := by
  intro H locs ls h1 h2 h3
  obtain ⟨hx, hb, -⟩ := G
  obtain ⟨hd, rfl⟩ := hd
  subst hl
  exact lv_astore_nN hx hb hd rfl h3 hn (pst_map _ _ zN _) (fun ls' h' => k H locs ls' h1 h2 h')
theorem wp_astoreN (G : Gd K cc own nL) {i : Nat} {lv' : List (Nat × PV)} (hd : Dn cc pc (.astore i) 2 pc') (hn : i < nL) (hl : pst i zN lv = lv') (k : Wp K nL Q cs pc' lv' stk hp) : Wp K nL Q cs pc lv (zN :: stk) hp := by
  intro H locs ls h1 h2 h3
  obtain ⟨hx, hb, -⟩ := G
  obtain ⟨hd, rfl⟩ := hd
  subst hl
  exact lv_astoreN hx hb hd h3 hn (pst_map _ _ zN _) (fun ls' h' => k H locs ls' h1 h2 h')
theorem wp_iinc (G : Gd K cc own nL) {i : Nat} {n z : Int} (j : Nat) {lv' : List (Nat × PV)} (hd : Dn cc pc (.iinc i n) 3 pc') (hj : lv[j]? = some (i, zI z)) (hn : i < nL) (hl : pst i (zI (z + n)) lv = lv') (k : Wp K nL Q cs pc' lv' stk hp) : Wp K nL Q cs pc lv stk hp := by
  intro H locs ls h1 h2 h3
  obtain ⟨hx, hb, -⟩ := G
  obtain ⟨hd, rfl⟩ := hd
  subst hl
  exact lv_iinc (k := j) hx hb hd h3 (by rw [List.getElem?_map, hj]; rfl) (Int32.ofInt_add z n).symm hn (pst_map _ _ (zI (z + n)) _) (fun ls' h' => k H locs ls' h1 h2 h')
end RULES
end
section
theorem mn32 : Int32.minValue.toInt = -2147483648 := by decide
theorem mx32 : Int32.maxValue.toInt = 2147483647 := by decide
theorem mn64 : Int64.minValue.toInt = -9223372036854775808 := by decide
theorem mx64 : Int64.maxValue.toInt = 9223372036854775807 := by decide
theorem dv32 {a b : Int} (ha : 0 ≤ a) (ra : r32 a) (rb : r32 b) : Int32.ofInt a / Int32.ofInt b = Int32.ofInt (a / b) := by
  rw [← Int.tdiv_eq_ediv_of_nonneg ha]
  exact (Int32.ofInt_tdiv (by rw [mn32]; omega) (by rw [mx32]; omega) (by rw [mn32]; omega) (by rw [mx32]; omega)).symm
theorem dv64 {a b : Int} (ha : 0 ≤ a) (ra : r64 a) (rb : r64 b) : Int64.ofInt a / Int64.ofInt b = Int64.ofInt (a / b) := by
  rw [← Int.tdiv_eq_ediv_of_nonneg ha]
  exact (Int64.ofInt_tdiv (by rw [mn64]; omega) (by rw [mx64]; omega) (by rw [mn64]; omega) (by rw [mx64]; omega)).symm
theorem rm32 {a b : Int} (ra : r32 a) (rb : r32 b) : Int32.ofInt a - Int32.ofInt a / Int32.ofInt b * Int32.ofInt b = Int32.ofInt (Int.tmod a b) := by
  rw [irem_eq_mod]
  exact (Int32.ofInt_tmod (by rw [mn32]; omega) (by rw [mx32]; omega) (by rw [mn32]; omega) (by rw [mx32]; omega)).symm
theorem rm64 {a b : Int} (ra : r64 a) (rb : r64 b) : Int64.ofInt a - Int64.ofInt a / Int64.ofInt b * Int64.ofInt b = Int64.ofInt (Int.tmod a b) := by
  rw [← Int64.ofInt_tdiv (by rw [mn64]; omega) (by rw [mx64]; omega) (by rw [mn64]; omega) (by rw [mx64]; omega), ← Int64.ofInt_mul, ← Int64.ofInt_sub, Int.tmod_def, Int.mul_comm]
section RULES2
variable {K : KT} {nL : Nat} {Q : State → Prop} {cs : Nat × Nat} {pc pc' tgt : Nat} {lv : List (Nat × PV)} {stk : List PV} {hp : PH} {cc : ByteArray} {own : String}

theorem wp_iadd (G : Gd K cc own nL) {a b : Int} (hd : Dn cc pc .iadd 1 pc') (k : Wp K nL Q cs pc' lv (zI (a + b) :: stk) hp) : Wp K nL Q cs pc lv (zI b :: zI a :: stk) hp := by
  intro H locs ls h1 h2 h3
  obtain ⟨hx, hb, -⟩ := G
  obtain ⟨hd, rfl⟩ := hd
  have e : Int32.ofInt a + Int32.ofInt b = Int32.ofInt (a + b) := (Int32.ofInt_add a b).symm
  refine lv_iadd (x := Int32.ofInt a) (y := Int32.ofInt b) hx hb hd ?_
  rw [e]
  exact k H locs ls h1 h2 h3
theorem wp_ladd (G : Gd K cc own nL) {a b : Int} (hd : Dn cc pc .ladd 1 pc') (k : Wp K nL Q cs pc' lv (zJ (a + b) :: stk) hp) : Wp K nL Q cs pc lv (zJ b :: zJ a :: stk) hp := by
  intro H locs ls h1 h2 h3
  obtain ⟨hx, hb, -⟩ := G
  obtain ⟨hd, rfl⟩ := hd
  have e : Int64.ofInt a + Int64.ofInt b = Int64.ofInt (a + b) := (Int64.ofInt_add a b).symm
  refine lv_ladd (x := Int64.ofInt a) (y := Int64.ofInt b) hx hb hd ?_
  rw [e]
  exact k H locs ls h1 h2 h3
theorem wp_isub (G : Gd K cc own nL) {a b : Int} (hd : Dn cc pc .isub 1 pc') (k : Wp K nL Q cs pc' lv (zI (a - b) :: stk) hp) : Wp K nL Q cs pc lv (zI b :: zI a :: stk) hp := by
  intro H locs ls h1 h2 h3
  obtain ⟨hx, hb, -⟩ := G
  obtain ⟨hd, rfl⟩ := hd
  have e : Int32.ofInt a - Int32.ofInt b = Int32.ofInt (a - b) := (Int32.ofInt_sub a b).symm
  refine lv_isub (x := Int32.ofInt a) (y := Int32.ofInt b) hx hb hd ?_
  rw [e]
  exact k H locs ls h1 h2 h3
theorem wp_lsub (G : Gd K cc own nL) {a b : Int} (hd : Dn cc pc .lsub 1 pc') (k : Wp K nL Q cs pc' lv (zJ (a - b) :: stk) hp) : Wp K nL Q cs pc lv (zJ b :: zJ a :: stk) hp := by
  intro H locs ls h1 h2 h3
  obtain ⟨hx, hb, -⟩ := G
  obtain ⟨hd, rfl⟩ := hd
  have e : Int64.ofInt a - Int64.ofInt b = Int64.ofInt (a - b) := (Int64.ofInt_sub a b).symm
  refine lv_lsub (x := Int64.ofInt a) (y := Int64.ofInt b) hx hb hd ?_
  rw [e]
  exact k H locs ls h1 h2 h3
theorem wp_imul (G : Gd K cc own nL) {a b : Int} (hd : Dn cc pc .imul 1 pc') (k : Wp K nL Q cs pc' lv (zI (a * b) :: stk) hp) : Wp K nL Q cs pc lv (zI b :: zI a :: stk) hp := by
  intro H locs ls h1 h2 h3
  obtain ⟨hx, hb, -⟩ := G
  obtain ⟨hd, rfl⟩ := hd
  have e : Int32.ofInt a * Int32.ofInt b = Int32.ofInt (a * b) := (Int32.ofInt_mul a b).symm
  refine lv_imul (x := Int32.ofInt a) (y := Int32.ofInt b) hx hb hd ?_
  rw [e]
  exact k H locs ls h1 h2 h3
theorem wp_lmul (G : Gd K cc own nL) {a b : Int} (hd : Dn cc pc .lmul 1 pc') (k : Wp K nL Q cs pc' lv (zJ (a * b) :: stk) hp) : Wp K nL Q cs pc lv (zJ b :: zJ a :: stk) hp := by
  intro H locs ls h1 h2 h3
  obtain ⟨hx, hb, -⟩ := G
  obtain ⟨hd, rfl⟩ := hd
  have e : Int64.ofInt a * Int64.ofInt b = Int64.ofInt (a * b) := (Int64.ofInt_mul a b).symm
  refine lv_lmul (x := Int64.ofInt a) (y := Int64.ofInt b) hx hb hd ?_
  rw [e]
  exact k H locs ls h1 h2 h3
theorem wp_ineg (G : Gd K cc own nL) {a : Int} (hd : Dn cc pc .ineg 1 pc') (k : Wp K nL Q cs pc' lv (zI (-a) :: stk) hp) : Wp K nL Q cs pc lv (zI a :: stk) hp := by
  intro H locs ls h1 h2 h3
  obtain ⟨hx, hb, -⟩ := G
  obtain ⟨hd, rfl⟩ := hd
  have e : -Int32.ofInt a = Int32.ofInt (-a) := (Int32.ofInt_neg a).symm
  refine lv_ineg (x := Int32.ofInt a) hx hb hd ?_
  first | rw [e] | rw [Int32.zero_sub, e]
  exact k H locs ls h1 h2 h3
theorem wp_lneg (G : Gd K cc own nL) {a : Int} (hd : Dn cc pc .lneg 1 pc') (k : Wp K nL Q cs pc' lv (zJ (-a) :: stk) hp) : Wp K nL Q cs pc lv (zJ a :: stk) hp := by
  intro H locs ls h1 h2 h3
  obtain ⟨hx, hb, -⟩ := G
  obtain ⟨hd, rfl⟩ := hd
  have e : -Int64.ofInt a = Int64.ofInt (-a) := (Int64.ofInt_neg a).symm
  refine lv_lneg (x := Int64.ofInt a) hx hb hd ?_
  first | rw [e] | rw [Int64.zero_sub, e]
  exact k H locs ls h1 h2 h3
theorem wp_idiv (G : Gd K cc own nL) {a b : Int} (ha : 0 ≤ a) (hb0 : 0 < b) (ra : r32 a) (rb : r32 b) (hd : Dn cc pc .idiv 1 pc') (k : Wp K nL Q cs pc' lv (zI (a / b) :: stk) hp) : Wp K nL Q cs pc lv (zI b :: zI a :: stk) hp := by
  intro H locs ls h1 h2 h3
  obtain ⟨hx, hb, -⟩ := G
  obtain ⟨hd, rfl⟩ := hd
  have e0 : ¬ Int32.ofInt b = 0 := fun h => by
    have := congrArg Int32.toInt h
    rw [n32 rb] at this
    have z : (0 : Int32).toInt = 0 := by decide
    omega
  have e := dv32 ha ra rb
  refine lv_idiv (x := Int32.ofInt a) (y := Int32.ofInt b) hx hb hd e0 ?_
  rw [e]
  exact k H locs ls h1 h2 h3
theorem wp_ldiv (G : Gd K cc own nL) {a b : Int} (ha : 0 ≤ a) (hb0 : 0 < b) (ra : r64 a) (rb : r64 b) (hd : Dn cc pc .ldiv 1 pc') (k : Wp K nL Q cs pc' lv (zJ (a / b) :: stk) hp) : Wp K nL Q cs pc lv (zJ b :: zJ a :: stk) hp := by
  intro H locs ls h1 h2 h3
  obtain ⟨hx, hb, -⟩ := G
  obtain ⟨hd, rfl⟩ := hd
  have e0 : ¬ Int64.ofInt b = 0 := fun h => by
    have := congrArg Int64.toInt h
    rw [n64 rb] at this
    have z : (0 : Int64).toInt = 0 := by decide
    omega
  have e := dv64 ha ra rb
  refine lv_ldiv (x := Int64.ofInt a) (y := Int64.ofInt b) hx hb hd e0 ?_
  rw [e]
  exact k H locs ls h1 h2 h3
theorem wp_irem (G : Gd K cc own nL) {a b : Int} (hb0 : b ≠ 0) (ra : r32 a) (rb : r32 b) (hd : Dn cc pc .irem 1 pc') (k : Wp K nL Q cs pc' lv (zI (Int.tmod a b) :: stk) hp) : Wp K nL Q cs pc lv (zI b :: zI a :: stk) hp := by
  intro H locs ls h1 h2 h3
  obtain ⟨hx, hb, -⟩ := G
  obtain ⟨hd, rfl⟩ := hd
  have e0 : ¬ Int32.ofInt b = 0 := fun h => by
    have := congrArg Int32.toInt h
    rw [n32 rb] at this
    have z : (0 : Int32).toInt = 0 := by decide
    omega
  have e := rm32 ra rb
  refine lv_irem (x := Int32.ofInt a) (y := Int32.ofInt b) hx hb hd e0 ?_
  rw [e]
  exact k H locs ls h1 h2 h3
theorem wp_lrem (G : Gd K cc own nL) {a b : Int} (hb0 : b ≠ 0) (ra : r64 a) (rb : r64 b) (hd : Dn cc pc .lrem 1 pc') (k : Wp K nL Q cs pc' lv (zJ (Int.tmod a b) :: stk) hp) : Wp K nL Q cs pc lv (zJ b :: zJ a :: stk) hp := by
  intro H locs ls h1 h2 h3
  obtain ⟨hx, hb, -⟩ := G
  obtain ⟨hd, rfl⟩ := hd
  have e0 : ¬ Int64.ofInt b = 0 := fun h => by
    have := congrArg Int64.toInt h
    rw [n64 rb] at this
    have z : (0 : Int64).toInt = 0 := by decide
    omega
  have e := rm64 ra rb
  refine lv_lrem (x := Int64.ofInt a) (y := Int64.ofInt b) hx hb hd e0 ?_
  rw [e]
  exact k H locs ls h1 h2 h3
theorem wp_i2l (G : Gd K cc own nL) {a : Int} (ra : r32 a) (hd : Dn cc pc .i2l 1 pc') (k : Wp K nL Q cs pc' lv (zJ a :: stk) hp) : Wp K nL Q cs pc lv (zI a :: stk) hp := by
  intro H locs ls h1 h2 h3
  obtain ⟨hx, hb, -⟩ := G
  obtain ⟨hd, rfl⟩ := hd
  have e : (Int32.ofInt a).toInt64 = Int64.ofInt a := Int32.toInt64_ofInt (by rw [mn32]; omega) (by rw [mx32]; omega)
  exact lv_i2l (x := Int32.ofInt a) hx hb hd e (k H locs ls h1 h2 h3)
theorem wp_l2i (G : Gd K cc own nL) {a : Int} (hd : Dn cc pc .l2i 1 pc') (k : Wp K nL Q cs pc' lv (zI a :: stk) hp) : Wp K nL Q cs pc lv (zJ a :: stk) hp := by
  intro H locs ls h1 h2 h3
  obtain ⟨hx, hb, -⟩ := G
  obtain ⟨hd, rfl⟩ := hd
  exact lv_l2i (x := Int64.ofInt a) hx hb hd Int64.toInt32_ofInt (k H locs ls h1 h2 h3)
theorem wp_dup (G : Gd K cc own nL) {v : PV} (hj : isJ v = false) (hd : Dn cc pc .dup 1 pc') (k : Wp K nL Q cs pc' lv (v :: v :: stk) hp) : Wp K nL Q cs pc lv (v :: stk) hp := by
  intro H locs ls h1 h2 h3
  obtain ⟨hx, hb, -⟩ := G
  obtain ⟨hd, rfl⟩ := hd
  exact lv_dup hx hb hd (by rcases v with z | z | _ | r <;> first | rfl | (exact absurd hj (by simp [isJ]))) (k H locs ls h1 h2 h3)
theorem wp_pop (G : Gd K cc own nL) {v : PV} (hj : isJ v = false) (hd : Dn cc pc .pop 1 pc') (k : Wp K nL Q cs pc' lv (stk) hp) : Wp K nL Q cs pc lv (v :: stk) hp := by
  intro H locs ls h1 h2 h3
  obtain ⟨hx, hb, -⟩ := G
  obtain ⟨hd, rfl⟩ := hd
  exact lv_pop hx hb hd (by rcases v with z | z | _ | r <;> first | rfl | (exact absurd hj (by simp [isJ]))) (k H locs ls h1 h2 h3)
theorem wp_dup2 (G : Gd K cc own nL) {v w : PV} (hj : isJ v = false) (hj2 : isJ w = false) (hd : Dn cc pc .dup2 1 pc') (k : Wp K nL Q cs pc' lv (v :: w :: v :: w :: stk) hp) : Wp K nL Q cs pc lv (v :: w :: stk) hp := by
  intro H locs ls h1 h2 h3
  obtain ⟨hx, hb, -⟩ := G
  obtain ⟨hd, rfl⟩ := hd
  exact lv_dup2_11 hx hb hd (by rcases v with z | z | _ | r <;> first | rfl | (exact absurd hj (by simp [isJ]))) (by rcases w with z | z | _ | r <;> first | rfl | (exact absurd hj2 (by simp [isJ]))) (k H locs ls h1 h2 h3)
theorem wp_null (G : Gd K cc own nL)  (hd : Dn cc pc .aconst_null 1 pc') (k : Wp K nL Q cs pc' lv (zN :: stk) hp) : Wp K nL Q cs pc lv (stk) hp := by
  intro H locs ls h1 h2 h3
  obtain ⟨hx, hb, -⟩ := G
  obtain ⟨hd, rfl⟩ := hd
  exact lv_null hx hb hd (k H locs ls h1 h2 h3)
theorem wp_icmp_lt (G : Gd K cc own nL) {a b : Int} {off : Int} (hd : Db cc pc (.if_icmp .lt off) off pc' tgt) (ra : r32 a) (rb : r32 b) (kt : a < b → Wp K nL Q cs tgt lv stk hp) (kf : b ≤ a → Wp K nL Q cs pc' lv stk hp) : Wp K nL Q cs pc lv (zI b :: zI a :: stk) hp := by
  intro H locs ls h1 h2 h3
  obtain ⟨hx, hb, -⟩ := G
  obtain ⟨hd, rfl, ht⟩ := hd
  exact lv_icmp_lt (x := Int32.ofInt a) (y := Int32.ofInt b) hx hb hd ht (fun c => kt ((l32 ra rb).mp c) H locs ls h1 h2 h3) (fun c => kf (Int.not_lt.mp (fun z => c ((l32 ra rb).mpr z))) H locs ls h1 h2 h3)
theorem wp_if_lt (G : Gd K cc own nL) {a : Int} {off : Int} (hd : Db cc pc (.ifCond .lt off) off pc' tgt) (ra : r32 a) (kt : a < 0 → Wp K nL Q cs tgt lv stk hp) (kf : 0 ≤ a → Wp K nL Q cs pc' lv stk hp) : Wp K nL Q cs pc lv (zI a :: stk) hp := by
  intro H locs ls h1 h2 h3
  obtain ⟨hx, hb, -⟩ := G
  obtain ⟨hd, rfl, ht⟩ := hd
  have r0 : r32 0 := by omega
  exact lv_if_lt (x := Int32.ofInt a) hx hb hd ht (fun c => kt (by rw [z32] at c; exact (l32 ra r0).mp c) H locs ls h1 h2 h3) (fun c => kf (by rw [z32] at c; exact Int.not_lt.mp (fun z => c ((l32 ra r0).mpr z))) H locs ls h1 h2 h3)
theorem wp_icmp_ge (G : Gd K cc own nL) {a b : Int} {off : Int} (hd : Db cc pc (.if_icmp .ge off) off pc' tgt) (ra : r32 a) (rb : r32 b) (kt : b ≤ a → Wp K nL Q cs tgt lv stk hp) (kf : a < b → Wp K nL Q cs pc' lv stk hp) : Wp K nL Q cs pc lv (zI b :: zI a :: stk) hp := by
  intro H locs ls h1 h2 h3
  obtain ⟨hx, hb, -⟩ := G
  obtain ⟨hd, rfl, ht⟩ := hd
  exact lv_icmp_ge (x := Int32.ofInt a) (y := Int32.ofInt b) hx hb hd ht (fun c => kt (Int.not_lt.mp (fun z => by first | exact absurd c (Int32.not_le.mpr ((l32 ra rb).mpr z)) | exact c ((l32 ra rb).mpr z))) H locs ls h1 h2 h3) (fun c => kf (Int.not_le.mp (fun z => c (by first | exact (le32 rb ra).mpr z | exact fun y => absurd ((l32 ra rb).mp y) (Int.not_lt.mpr z)))) H locs ls h1 h2 h3)
theorem wp_if_ge (G : Gd K cc own nL) {a : Int} {off : Int} (hd : Db cc pc (.ifCond .ge off) off pc' tgt) (ra : r32 a) (kt : 0 ≤ a → Wp K nL Q cs tgt lv stk hp) (kf : a < 0 → Wp K nL Q cs pc' lv stk hp) : Wp K nL Q cs pc lv (zI a :: stk) hp := by
  intro H locs ls h1 h2 h3
  obtain ⟨hx, hb, -⟩ := G
  obtain ⟨hd, rfl, ht⟩ := hd
  have r0 : r32 0 := by omega
  exact lv_if_ge (x := Int32.ofInt a) hx hb hd ht (fun c => kt (by rw [z32] at c; exact Int.not_lt.mp (fun z => by first | exact absurd c (Int32.not_le.mpr ((l32 ra r0).mpr z)) | exact c ((l32 ra r0).mpr z))) H locs ls h1 h2 h3) (fun c => kf (by rw [z32] at c; exact Int.not_le.mp (fun z => c (by first | exact (le32 r0 ra).mpr z | exact fun y => absurd ((l32 ra r0).mp y) (Int.not_lt.mpr z)))) H locs ls h1 h2 h3)
theorem wp_icmp_gt (G : Gd K cc own nL) {a b : Int} {off : Int} (hd : Db cc pc (.if_icmp .gt off) off pc' tgt) (ra : r32 a) (rb : r32 b) (kt : b < a → Wp K nL Q cs tgt lv stk hp) (kf : a ≤ b → Wp K nL Q cs pc' lv stk hp) : Wp K nL Q cs pc lv (zI b :: zI a :: stk) hp := by
  intro H locs ls h1 h2 h3
  obtain ⟨hx, hb, -⟩ := G
  obtain ⟨hd, rfl, ht⟩ := hd
  exact lv_icmp_gt (x := Int32.ofInt a) (y := Int32.ofInt b) hx hb hd ht (fun c => kt ((l32 rb ra).mp c) H locs ls h1 h2 h3) (fun c => kf (Int.not_lt.mp (fun z => c ((l32 rb ra).mpr z))) H locs ls h1 h2 h3)
theorem wp_if_gt (G : Gd K cc own nL) {a : Int} {off : Int} (hd : Db cc pc (.ifCond .gt off) off pc' tgt) (ra : r32 a) (kt : 0 < a → Wp K nL Q cs tgt lv stk hp) (kf : a ≤ 0 → Wp K nL Q cs pc' lv stk hp) : Wp K nL Q cs pc lv (zI a :: stk) hp := by
  intro H locs ls h1 h2 h3
  obtain ⟨hx, hb, -⟩ := G
  obtain ⟨hd, rfl, ht⟩ := hd
  have r0 : r32 0 := by omega
  exact lv_if_gt (x := Int32.ofInt a) hx hb hd ht (fun c => kt (by rw [z32] at c; exact (l32 r0 ra).mp c) H locs ls h1 h2 h3) (fun c => kf (by rw [z32] at c; exact Int.not_lt.mp (fun z => c ((l32 r0 ra).mpr z))) H locs ls h1 h2 h3)
theorem wp_icmp_le (G : Gd K cc own nL) {a b : Int} {off : Int} (hd : Db cc pc (.if_icmp .le off) off pc' tgt) (ra : r32 a) (rb : r32 b) (kt : a ≤ b → Wp K nL Q cs tgt lv stk hp) (kf : b < a → Wp K nL Q cs pc' lv stk hp) : Wp K nL Q cs pc lv (zI b :: zI a :: stk) hp := by
  intro H locs ls h1 h2 h3
  obtain ⟨hx, hb, -⟩ := G
  obtain ⟨hd, rfl, ht⟩ := hd
  exact lv_icmp_le (x := Int32.ofInt a) (y := Int32.ofInt b) hx hb hd ht (fun c => kt (Int.not_lt.mp (fun z => by first | exact absurd c (Int32.not_le.mpr ((l32 rb ra).mpr z)) | exact c ((l32 rb ra).mpr z))) H locs ls h1 h2 h3) (fun c => kf (Int.not_le.mp (fun z => c (by first | exact (le32 ra rb).mpr z | exact fun y => absurd ((l32 rb ra).mp y) (Int.not_lt.mpr z)))) H locs ls h1 h2 h3)
theorem wp_if_le (G : Gd K cc own nL) {a : Int} {off : Int} (hd : Db cc pc (.ifCond .le off) off pc' tgt) (ra : r32 a) (kt : a ≤ 0 → Wp K nL Q cs tgt lv stk hp) (kf : 0 < a → Wp K nL Q cs pc' lv stk hp) : Wp K nL Q cs pc lv (zI a :: stk) hp := by
  intro H locs ls h1 h2 h3
  obtain ⟨hx, hb, -⟩ := G
  obtain ⟨hd, rfl, ht⟩ := hd
  have r0 : r32 0 := by omega
  exact lv_if_le (x := Int32.ofInt a) hx hb hd ht (fun c => kt (by rw [z32] at c; exact Int.not_lt.mp (fun z => by first | exact absurd c (Int32.not_le.mpr ((l32 r0 ra).mpr z)) | exact c ((l32 r0 ra).mpr z))) H locs ls h1 h2 h3) (fun c => kf (by rw [z32] at c; exact Int.not_le.mp (fun z => c (by first | exact (le32 ra r0).mpr z | exact fun y => absurd ((l32 r0 ra).mp y) (Int.not_lt.mpr z)))) H locs ls h1 h2 h3)
theorem wp_icmp_eq (G : Gd K cc own nL) {a b : Int} {off : Int} (hd : Db cc pc (.if_icmp .eq off) off pc' tgt) (ra : r32 a) (rb : r32 b) (kt : a = b → Wp K nL Q cs tgt lv stk hp) (kf : a ≠ b → Wp K nL Q cs pc' lv stk hp) : Wp K nL Q cs pc lv (zI b :: zI a :: stk) hp := by
  intro H locs ls h1 h2 h3
  obtain ⟨hx, hb, -⟩ := G
  obtain ⟨hd, rfl, ht⟩ := hd
  exact lv_icmp_eq (x := Int32.ofInt a) (y := Int32.ofInt b) hx hb hd ht (fun c => kt ((e32 ra rb).mp c) H locs ls h1 h2 h3) (fun c => kf (fun z => c ((e32 ra rb).mpr z)) H locs ls h1 h2 h3)
theorem wp_if_eq (G : Gd K cc own nL) {a : Int} {off : Int} (hd : Db cc pc (.ifCond .eq off) off pc' tgt) (ra : r32 a) (kt : a = 0 → Wp K nL Q cs tgt lv stk hp) (kf : a ≠ 0 → Wp K nL Q cs pc' lv stk hp) : Wp K nL Q cs pc lv (zI a :: stk) hp := by
  intro H locs ls h1 h2 h3
  obtain ⟨hx, hb, -⟩ := G
  obtain ⟨hd, rfl, ht⟩ := hd
  have r0 : r32 0 := by omega
  exact lv_if_eq (x := Int32.ofInt a) hx hb hd ht (fun c => kt (by rw [z32] at c; exact (e32 ra r0).mp c) H locs ls h1 h2 h3) (fun c => kf (by rw [z32] at c; exact fun z => c ((e32 ra r0).mpr z)) H locs ls h1 h2 h3)
theorem wp_icmp_ne (G : Gd K cc own nL) {a b : Int} {off : Int} (hd : Db cc pc (.if_icmp .ne off) off pc' tgt) (ra : r32 a) (rb : r32 b) (kt : a ≠ b → Wp K nL Q cs tgt lv stk hp) (kf : a = b → Wp K nL Q cs pc' lv stk hp) : Wp K nL Q cs pc lv (zI b :: zI a :: stk) hp := by
  intro H locs ls h1 h2 h3
  obtain ⟨hx, hb, -⟩ := G
  obtain ⟨hd, rfl, ht⟩ := hd
  exact lv_icmp_ne (x := Int32.ofInt a) (y := Int32.ofInt b) hx hb hd ht (fun c => kt (fun z => c ((e32 ra rb).mpr z)) H locs ls h1 h2 h3) (fun c => kf ((e32 ra rb).mp c) H locs ls h1 h2 h3)
theorem wp_if_ne (G : Gd K cc own nL) {a : Int} {off : Int} (hd : Db cc pc (.ifCond .ne off) off pc' tgt) (ra : r32 a) (kt : a ≠ 0 → Wp K nL Q cs tgt lv stk hp) (kf : a = 0 → Wp K nL Q cs pc' lv stk hp) : Wp K nL Q cs pc lv (zI a :: stk) hp := by
  intro H locs ls h1 h2 h3
  obtain ⟨hx, hb, -⟩ := G
  obtain ⟨hd, rfl, ht⟩ := hd
  have r0 : r32 0 := by omega
  exact lv_if_ne (x := Int32.ofInt a) hx hb hd ht (fun c => kt (by rw [z32] at c; exact fun z => c ((e32 ra r0).mpr z)) H locs ls h1 h2 h3) (fun c => kf (by rw [z32] at c; exact (e32 ra r0).mp c) H locs ls h1 h2 h3)
theorem wp_goto (G : Gd K cc own nL) {off : Int} (hd : Db cc pc (.goto off) off pc' tgt) (k : Wp K nL Q cs tgt lv stk hp) : Wp K nL Q cs pc lv stk hp := by
  intro H locs ls h1 h2 h3
  obtain ⟨hx, hb, -⟩ := G
  obtain ⟨hd, -, ht⟩ := hd
  exact lv_goto hx hb hd ht (k H locs ls h1 h2 h3)
theorem wp_ifnull (G : Gd K cc own nL) {off : Int} {r : Option Nat} (hd : Db cc pc (.ifnull off) off pc' tgt) (kt : r = none → Wp K nL Q cs tgt lv stk hp) (kf : ∀ a, r = some a → Wp K nL Q cs pc' lv stk hp) : Wp K nL Q cs pc lv (zQ r :: stk) hp := by
  intro H locs ls h1 h2 h3
  obtain ⟨hx, hb, -⟩ := G
  obtain ⟨hd, rfl, ht⟩ := hd
  cases r with
  | none => exact lv_ifnullN hx hb hd ht (kt rfl H locs ls h1 h2 h3)
  | some a => exact lv_ifnull hx hb hd (kf a rfl H locs ls h1 h2 h3)
theorem wp_ifnonnull (G : Gd K cc own nL) {off : Int} {r : Option Nat} (hd : Db cc pc (.ifnonnull off) off pc' tgt) (kt : ∀ a, r = some a → Wp K nL Q cs tgt lv stk hp) (kf : r = none → Wp K nL Q cs pc' lv stk hp) : Wp K nL Q cs pc lv (zQ r :: stk) hp := by
  intro H locs ls h1 h2 h3
  obtain ⟨hx, hb, -⟩ := G
  obtain ⟨hd, rfl, ht⟩ := hd
  cases r with
  | none => exact lv_ifnonnullN hx hb hd (kf rfl H locs ls h1 h2 h3)
  | some a => exact lv_ifnonnull hx hb hd ht (kt a rfl H locs ls h1 h2 h3)
theorem wp_tableIn (G : Gd K cc own nL) {a dflt lo hi off : Int} {offs : Array Int} {len : Nat} (hd : Dn cc pc (.tableswitch dflt lo hi offs) len pc') (ra : r32 a) (hl : lo ≤ a) (hh : a ≤ hi) (ho : offs[(a - lo).toNat]? = some off) (ht : (pc : Int) + off = (tgt : Int)) (k : Wp K nL Q cs tgt lv stk hp) : Wp K nL Q cs pc lv (zI a :: stk) hp := by
  intro H locs ls h1 h2 h3
  obtain ⟨hx, hb, -⟩ := G
  obtain ⟨hd, -⟩ := hd
  have e := n32 ra
  exact lv_tableIn (x := Int32.ofInt a) hx hb hd (by omega) (by omega) (by rw [e]; exact ho) ht (k H locs ls h1 h2 h3)
theorem wp_tableOut (G : Gd K cc own nL) {a dflt lo hi : Int} {offs : Array Int} {len : Nat} (hd : Dn cc pc (.tableswitch dflt lo hi offs) len pc') (ra : r32 a) (hl : a < lo ∨ hi < a) (ht : (pc : Int) + dflt = (tgt : Int)) (k : Wp K nL Q cs tgt lv stk hp) : Wp K nL Q cs pc lv (zI a :: stk) hp := by
  intro H locs ls h1 h2 h3
  obtain ⟨hx, hb, -⟩ := G
  obtain ⟨hd, -⟩ := hd
  have e := n32 ra
  exact lv_tableOut (x := Int32.ofInt a) hx hb hd (by omega) ht (k H locs ls h1 h2 h3)
theorem wp_ldc (G : Gd K cc own nL) {idx : Nat} {z : Int} (hw : Cond.constant own idx (Int32.ofInt z) ∈ WT) (hd : Dn cc pc (.ldc idx) 2 pc') (k : Wp K nL Q cs pc' lv (zI z :: stk) hp) : Wp K nL Q cs pc lv stk hp := by
  intro H locs ls h1 h2 h3
  obtain ⟨hx, hb, -, ho, hts, -⟩ := G
  obtain ⟨hd, rfl⟩ := hd
  exact lv_ldc hx hb ho (hts _ hw) hd (k H locs ls h1 h2 h3)
theorem wp_ldc2 (G : Gd K cc own nL) {idx : Nat} {z : Int} (hw : Cond.constantLong own idx (Int64.ofInt z) ∈ WT) (hd : Dn cc pc (.ldc2_w idx) 3 pc') (k : Wp K nL Q cs pc' lv (zJ z :: stk) hp) : Wp K nL Q cs pc lv stk hp := by
  intro H locs ls h1 h2 h3
  obtain ⟨hx, hb, -, ho, hts, -⟩ := G
  obtain ⟨hd, rfl⟩ := hd
  exact lv_ldc2 hx hb ho (hts _ hw) hd (k H locs ls h1 h2 h3)
/-- the same heap, written otherwise -/
theorem wp_heap {hq : PH} (e1 : hq.1 = hp.1) (e2 : ∀ k, hget hq k = hget hp k) (k : Wp K nL Q cs pc lv stk hq) : Wp K nL Q cs pc lv stk hp := fun H locs ls h1 h2 h3 => k H locs ls (h1.ext e1 e2) h2 h3
/-- fewer locals -/
theorem wp_locals {lv' : List (Nat × PV)} (h : ∀ q ∈ lv', q ∈ lv) (k : Wp K nL Q cs pc lv' stk hp) : Wp K nL Q cs pc lv stk hp := fun H locs ls h1 h2 h3 => k H locs ls h1 h2 ⟨h3.1, h3.2.1, fun q hq => by
  obtain ⟨x, hx, rfl⟩ := List.mem_map.mp hq
  exact h3.2.2 _ (List.mem_map.mpr ⟨x, h x hx, rfl⟩)⟩
theorem wp_lv (js : List Nat) {lv' : List (Nat × PV)} (h : js.filterMap (fun j => lv[j]?) = lv') (k : Wp K nL Q cs pc lv' stk hp) : Wp K nL Q cs pc lv stk hp := by
  refine wp_locals (lv' := lv') (fun q hq => ?_) k
  subst h
  obtain ⟨j, -, hj⟩ := List.mem_filterMap.mp hq
  exact List.mem_of_getElem? hj
/-! lcmp and the branch behind it, at once -/

def cmpZ (a b : Int) : Int := if b < a then 1 else if a = b then 0 else -1
theorem wp_lcmp (G : Gd K cc own nL) {a b : Int} (ra : r64 a) (rb : r64 b) (hd : Dn cc pc .lcmp 1 pc') (k : Wp K nL Q cs pc' lv (zI (cmpZ a b) :: stk) hp) : Wp K nL Q cs pc lv (zJ b :: zJ a :: stk) hp := by
  intro H locs ls h1 h2 h3
  obtain ⟨hx, hb, -⟩ := G
  obtain ⟨hd, rfl⟩ := hd
  have e : lg_cmp (Int64.ofInt a) (Int64.ofInt b) = Int32.ofInt (cmpZ a b) := by
    have e1 : Int64.ofInt b < Int64.ofInt a ↔ b < a := by rw [Int64.lt_iff_toInt_lt, n64 ra, n64 rb]
    have e2 : Int64.ofInt a = Int64.ofInt b ↔ a = b := by rw [← Int64.toInt_inj, n64 ra, n64 rb]
    unfold lg_cmp cmpZ
    by_cases c1 : b < a
    · rw [if_pos c1, if_pos (e1.mpr c1)]; rfl
    · rw [if_neg c1, if_neg (fun z => c1 (e1.mp z))]
      by_cases c2 : a = b
      · rw [if_pos c2, if_pos (e2.mpr c2)]; rfl
      · rw [if_neg c2, if_neg (fun z => c2 (e2.mp z))]; rfl
  have k2 := k H locs ls h1 h2 h3
  refine W.lcmp (x := Int64.ofInt a) (y := Int64.ofInt b) hx hb hd ?_
  rw [e]
  exact k2
theorem cmpZ_r (a b : Int) : r32 (cmpZ a b) := by unfold cmpZ; split <;> (try split) <;> omega
theorem cmpZ_lt {a b : Int} : cmpZ a b < 0 ↔ a < b := by unfold cmpZ; split <;> (try split) <;> omega
theorem cmpZ_eq {a b : Int} : cmpZ a b = 0 ↔ a = b := by unfold cmpZ; split <;> (try split) <;> omega
theorem cmpZ_gt {a b : Int} : 0 < cmpZ a b ↔ b < a := by unfold cmpZ; split <;> (try split) <;> omega
end RULES2
end
section
section RULES3
variable {K : KT} {nL : Nat} {Q : State → Prop} {cs : Nat × Nat} {pc pc' tgt : Nat} {lv : List (Nat × PV)} {stk : List PV} {hp : PH} {cc : ByteArray} {own : String}
/-! fields -/
def clTy : Nat → Nat → FieldType
  | 0 => tyX0 | 1 => tyX1 | 2 => tyX2 | 3 => tyX3 | 4 => tyX4 | 5 => tyX6 | 6 => tyX7 | 7 => tyX8 | 8 => tyX9 | _ => tyX10
/-- what the rows of the tables say of a class, the ci-th -/
def ClOk (ci : Nat) : Prop := ∃ r : vw_C, vwCl[ci]? = some r ∧ (∀ w ∈ u_ws r.1 r.2.1 r.2.2, w ∈ WT) ∧ (∀ k, k < r.2.2 → parseFieldDescriptor (r.2.1 k).2.2.1 = some (clTy ci k)) ∧ (∀ a, a < r.2.2 → ∀ b, b < r.2.2 → a ≠ b → (r.2.1 a).2.1 ≠ (r.2.1 b).2.1)
/-- the entry idx of own's pool is field k of the ci-th class -/
def Fx (own : String) (idx ci k : Nat) : Prop := ∃ r : vw_C, vwCl[ci]? = some r ∧ k < r.2.2 ∧ ((Cond.fieldLink own idx (r.2.1 k).1 (r.2.1 k).2.1 (r.2.1 k).2.2.1 ∈ lw_tbl ∧ goodWord (Cond.fieldLink own idx (r.2.1 k).1 (r.2.1 k).2.1 (r.2.1 k).2.2.1) = true) ∨ Cond.fieldLinkNest own idx (r.2.1 k).1 (r.2.1 k).2.1 (r.2.1 k).2.2.1 RX9 ∈ lw_tbl)
theorem wp_get (G : Gd K cc own nL) {idx r ci : Nat} (f : Nat) {fs : List PV} {v : PV} (hc : ClOk ci) (hf : Fx own idx ci f) (hd : Dn cc pc (.getfield idx) 3 pc') (ho : hget hp r = some (oO ci fs)) (hv : fs[f]? = some v) (k : Wp K nL Q cs pc' lv (v :: stk) hp) : Wp K nL Q cs pc lv (zR r :: stk) hp := by
  intro H locs ls h1 h2 h3
  obtain ⟨hx, hb, -, hown, hts, hE, -⟩ := G
  obtain ⟨hd, rfl⟩ := hd
  obtain ⟨q, hq, hin, -⟩ := hc
  obtain ⟨q2, hq2, hk, hl⟩ := hf
  cases hq.symm.trans hq2
  have hat := (h1.2 r _ ho).2
  have hP : va_P (kG K).2.1 vwCl [((kG K).1 + r, .inr (ci, fs.map (rv (kG K).1)))] H := fun j x hj => by
    have h0 : j < 1 := (List.getElem?_eq_some_iff.mp hj).1
    rw [show j = 0 by omega] at hj
    cases hj
    exact hat
  have hvv : (fs.map (rv (kG K).1))[f]? = some (rv (kG K).1 v) := by rw [List.getElem?_map, hv]; rfl
  rcases hl with ⟨hl, hg⟩ | hl
  · exact va_get hx hb hts hin hown hE.1 hP 0 rfl hq f hk (hts _ (wt_of hl hg)) (fun _ h => h) hvv hd (k H locs ls h1 h2 h3)
  · exact va_getN (host := RX9) hx hb hts hin hown hE.1 hP 0 rfl hq f hk (va_Nw.use rfl (hE.2.1 _ hl rfl)) (fun _ h => h) hvv hd (k H locs ls h1 h2 h3)
/-- what may stand in a field of that type -/
def fitF (ty : FieldType) (v : PV) : Prop := ∀ sz : Nat, narrow ty (rv sz v) = rv sz v ∧ fits ty (rv sz v) = true
theorem fit_int (z : Int) : fitF .int (zI z) := fun sz => ⟨rfl, rfl⟩
theorem fit_ref (t : FieldType) (r : Nat) : fitF (.array t) (zR r) := fun sz => ⟨rfl, rfl⟩
theorem fit_obj (t : String) (r : Nat) : fitF (.object t) (zR r) := fun sz => ⟨rfl, rfl⟩
theorem wp_put (G : Gd K cc own nL) {idx r ci : Nat} (f : Nat) {fs : List PV} {v : PV} (hc : ClOk ci) (hf : Fx own idx ci f) (hd : Dn cc pc (.putfield idx) 3 pc') (ho : hget hp r = some (oO ci fs)) (hlen : f < fs.length) (hfit : fitF (clTy ci f) v) (hfin : ∀ q, vwCl[ci]? = some q → (q.2.1 f).2.2.2 = false) (k : Wp K nL Q cs pc' lv stk (hset hp r (oO ci (fs.set f v)))) : Wp K nL Q cs pc lv (v :: zR r :: stk) hp := by
  intro H locs ls h1 h2 h3
  obtain ⟨hx, hb, -, hown, hts, hE, -⟩ := G
  obtain ⟨hd, rfl⟩ := hd
  obtain ⟨q, hq, hin, hty, hnm⟩ := hc
  obtain ⟨q2, hq2, hk, hl⟩ := hf
  cases hq.symm.trans hq2
  have hap := va_apart (own := own) hts hin (clTy ci) hty hnm hE.1 hq
  obtain ⟨r0, hr0, cell, q1, q2, q3, q4⟩ := (h1.2 r _ ho).2
  cases hq.symm.trans hr0
  obtain ⟨hS, hfc, kC0, hkC, hkind⟩ := hE.1.1 ci _ hq
  obtain ⟨cf, kf, fi, fd, hi, hsl⟩ := hS f hk
  have hlay := hts _ (hin _ (u_in_lay hk))
  unfold u_lay at hlay
  rw [if_neg (by rw [hfin _ hq]; decide)] at hlay
  have hst := (u_facts hfc hkC (u_lays hts hin hk) hi).1
  have h6 := u_store hfc hkC hkind hlay hi (hty f hk) (hfit (kG K).1).1 (hfit (kG K).1).2
  have fin : ∀ H' : Heap, H'[(kG K).1 + r]? = some (cell.setSlot fd.slot (rv (kG K).1 v)) → H'.size = H.size → (∀ q, q ≠ (kG K).1 + r → H'[q]? = H[q]?) → WK K H' (locs ++ [⟨(kG K).1 + r, fd.slot⟩]) cs Q (F0 (kM K) (pc + 3) ls (stk.map (rv (kG K).1))) := by
    intro H' e1 e2 e3
    rw [hsl] at e1
    refine k H' _ ls (h1.put ho e2 e3 ?_) (h2.put e2 e3 (Nat.le_add_right _ _)) h3
    refine ⟨_, hq, t_OB.to (V := updV (vp_V (fs.map (rv (kG K).1))) f (rv (kG K).1 v)) ⟨_, e1, q2, q3, t_set q4 hap hk _⟩ (fun j _ => ?_)⟩
    rw [vp_updV_set (by rw [List.length_map]; exact hlen), List.map_set]
  rcases hl with ⟨hl, hg⟩ | hl
  · exact W.putK hx hb (f := fd) ⟨hown, hts _ (wt_of hl hg), ⟨_, _, _, hi⟩, hst⟩ (by rw [q2]; exact h6) q1 q3 (by rw [hsl]; exact k2_hasslot (q4 f hk)) rfl rfl hd fin
  · exact va_WputK hx hb (f := fd) hown (va_Nw.use rfl (hE.2.1 _ hl rfl)) hi hst (by rw [q2]; exact h6) q1 q3 (by rw [hsl]; exact k2_hasslot (q4 f hk)) rfl rfl hd fin
theorem wp_putF (G : Gd K cc own nL) {idx r ci : Nat} (f : Nat) {fs : List PV} {v : PV} (hc : ClOk ci) (hf : Fx own idx ci f) (hd : Dn cc pc (.putfield idx) 3 pc') (ho : hget hp r = some (oO ci fs)) (hlen : f < fs.length) (hfit : fitF (clTy ci f) v) (hfin : ∀ q, vwCl[ci]? = some q → (q.2.1 f).2.2.2 = true ∧ (q.2.1 f).1 = own ∧ (Cond.fieldLink own idx (q.2.1 f).1 (q.2.1 f).2.1 (q.2.1 f).2.2.1 ∈ WT)) (hin2 : (kMeth K).name = "<init>") (k : Wp K nL Q cs pc' lv stk (hset hp r (oO ci (fs.set f v)))) : Wp K nL Q cs pc lv (v :: zR r :: stk) hp := by
  intro H locs ls h1 h2 h3
  obtain ⟨hx, hb, -, hown, hts, hE, -⟩ := G
  obtain ⟨hd, rfl⟩ := hd
  obtain ⟨q, hq, hin, hty, hnm⟩ := hc
  obtain ⟨q2, hq2, hk, hl⟩ := hf
  cases hq.symm.trans hq2
  have hap := va_apart (own := own) hts hin (clTy ci) hty hnm hE.1 hq
  obtain ⟨r0, hr0, cell, q1, q2, q3, q4⟩ := (h1.2 r _ ho).2
  cases hq.symm.trans hr0
  obtain ⟨hS, hfc, kC0, hkC, hkind⟩ := hE.1.1 ci _ hq
  obtain ⟨cf, kf, fi, fd, hi, hsl⟩ := hS f hk
  have hlay := hts _ (hin _ (u_in_lay hk))
  unfold u_lay at hlay
  rw [if_pos (hfin _ hq).1] at hlay
  have hst := (u_facts hfc hkC (u_lays hts hin hk) hi).1
  have hcf : (kM K).cls = cf := by
    obtain ⟨_, _, c', _, _, _, -, -, hf', -, -, -, hown2, -⟩ := Cond.laysFinal_spec hlay
    have e1 : c' = cf := by have := hi.symm.trans hf'; simp at this; exact this.1.symm
    rw [(hfin _ hq).2.1] at hown2
    rw [← e1]; exact Option.some.inj (hown.symm.trans hown2)
  have h6 := u_fits hfc hkC hkind (Or.inr hlay) hi (hty f hk) (hfit (kG K).1).1 (hfit (kG K).1).2
  refine W.putFinK hx hb hown (hts _ (hfin _ hq).2.2) hi hst hcf hin2 (by rw [q2]; exact h6) q1 q3 (by rw [hsl]; exact k2_hasslot (q4 f hk)) rfl rfl hd fun H' e1 e2 e3 => ?_
  rw [hsl] at e1
  refine k H' _ ls (h1.put ho e2 e3 ?_) (h2.put e2 e3 (Nat.le_add_right _ _)) h3
  refine ⟨_, hq, t_OB.to (V := updV (vp_V (fs.map (rv (kG K).1))) f (rv (kG K).1 v)) ⟨_, e1, q2, q3, t_set q4 hap hk _⟩ (fun j _ => ?_)⟩
  rw [vp_updV_set (by rw [List.length_map]; exact hlen), List.map_set]
/-! arrays -/
theorem inb {z : Int} {j n : Nat} (hz : z = (j : Int)) (hj : j < n) (hn : n < 2147483648) : vp_in (Int32.ofInt z) n := vp_in_iff.mpr (by rw [n32 (by omega)]; omega)
theorem inbN {z : Int} {j n : Nat} (hz : z = (j : Int)) (hj : j < n) (hn : n < 2147483648) : (Int32.ofInt z).toNatClampNeg = j := by
  rw [Int32.toNatClampNeg_ofInt_of_le (by omega) (by omega), hz]; rfl
theorem ev_arr {g : GT} {U : State} (h : Ev g U) (t : Nat) (ht : t < 6) : ArrOfT U (g.2.2 t) (aTy.getD t .int) ∧ va_RA U (g.2.2 t) (aTy.getD t .int) :=
  h.1.2 t (g.2.2 t, aTy.getD t .int) (by rw [List.getElem?_map, List.getElem?_range ht]; rfl)
theorem wp_iald (G : Gd K cc own nL) {r n j : Nat} {f : Nat → Int} {z : Int} (hd : Dn cc pc .iaload 1 pc') (ho : hget hp r = some (oA 0 n f)) (hz : z = (j : Int)) (hj : j < n) (hn : n < 2147483648) (k : Wp K nL Q cs pc' lv (zI (f j) :: stk) hp) : Wp K nL Q cs pc lv (zI z :: zR r :: stk) hp := by
  intro H locs ls h1 h2 h3
  obtain ⟨hx, hb, -, hown, hts, hE, -⟩ := G
  obtain ⟨hd, rfl⟩ := hd
  have e := inbN hz hj hn
  refine W.iald (a := (kG K).1 + r) (j := Int32.ofInt z) (v := .int (Int32.ofInt (f j))) hx hb (h1.2 r _ ho).2 ((ev_arr hE 0 (by decide)).1 n (fun j => .int (Int32.ofInt (f j)))) (fun q => by cases q) (by show ¬ (_ ∨ (arrV _ _ _).slots.size ≤ _); rw [arrV_size]; exact inb hz hj hn) (by show (arrV _ _ _).slots[_]? = _; rw [e, arrV_read _ _ hj]) rfl rfl hd (k H locs ls h1 h2 h3)
theorem wp_zald (G : Gd K cc own nL) {r n j : Nat} {f : Nat → Int} {z : Int} (hd : Dn cc pc .baload 1 pc') (ho : hget hp r = some (oA 1 n f)) (hz : z = (j : Int)) (hj : j < n) (hn : n < 2147483648) (k : Wp K nL Q cs pc' lv (zI (f j) :: stk) hp) : Wp K nL Q cs pc lv (zI z :: zR r :: stk) hp := by
  intro H locs ls h1 h2 h3
  obtain ⟨hx, hb, -, hown, hts, hE, -⟩ := G
  obtain ⟨hd, rfl⟩ := hd
  have e := inbN hz hj hn
  refine W.zald (a := (kG K).1 + r) (j := Int32.ofInt z) (v := .int (Int32.ofInt (f j))) hx hb (h1.2 r _ ho).2 ((ev_arr hE 1 (by decide)).1 n (fun j => .int (Int32.ofInt (f j)))) (fun q => by cases q) (by show ¬ (_ ∨ (arrV _ _ _).slots.size ≤ _); rw [arrV_size]; exact inb hz hj hn) (by show (arrV _ _ _).slots[_]? = _; rw [e, arrV_read _ _ hj]) rfl rfl hd (k H locs ls h1 h2 h3)
theorem wp_lald (G : Gd K cc own nL) {r n j : Nat} {f : Nat → Int} {z : Int} (hd : Dn cc pc .laload 1 pc') (ho : hget hp r = some (oL 2 n f)) (hz : z = (j : Int)) (hj : j < n) (hn : n < 2147483648) (k : Wp K nL Q cs pc' lv (zJ (f j) :: stk) hp) : Wp K nL Q cs pc lv (zI z :: zR r :: stk) hp := by
  intro H locs ls h1 h2 h3
  obtain ⟨hx, hb, -, hown, hts, hE, -⟩ := G
  obtain ⟨hd, rfl⟩ := hd
  have e := inbN hz hj hn
  refine W.lald (a := (kG K).1 + r) (j := Int32.ofInt z) (v := .long (Int64.ofInt (f j))) hx hb (h1.2 r _ ho).2 ((ev_arr hE 2 (by decide)).1 n (fun j => .long (Int64.ofInt (f j)))) (fun q => by cases q) (by show ¬ (_ ∨ (arrV _ _ _).slots.size ≤ _); rw [arrV_size]; exact inb hz hj hn) (by show (arrV _ _ _).slots[_]? = _; rw [e, arrV_read _ _ hj]) rfl rfl hd (k H locs ls h1 h2 h3)
theorem rf_map (sz : Nat) (r : Option Nat) : va_rf (r.map (fun k => sz + k)) = rv sz (zQ r) := by cases r <;> rfl
theorem wp_aald (G : Gd K cc own nL) {r t n j : Nat} {f : Nat → Option Nat} {z : Int} (ht : 3 ≤ t) (ht2 : t < 6) (hd : Dn cc pc .aaload 1 pc') (ho : hget hp r = some (oP t n f)) (hz : z = (j : Int)) (hj : j < n) (hn : n < 2147483648) (k : Wp K nL Q cs pc' lv (zQ (f j) :: stk) hp) : Wp K nL Q cs pc lv (zI z :: zR r :: stk) hp := by
  intro H locs ls h1 h2 h3
  obtain ⟨hx, hb, -, hown, hts, hE, -⟩ := G
  obtain ⟨hd, rfl⟩ := hd
  have e := inbN hz hj hn
  have hr : (aTy.getD t .int).isReference = true := by
    rcases (show t = 3 ∨ t = 4 ∨ t = 5 by omega) with rfl | rfl | rfl <;> rfl
  refine W.aald (a := (kG K).1 + r) (j := Int32.ofInt z) (v := rv (kG K).1 (zQ (f j))) (ty := aTy.getD t .int) hx hb (h1.2 r _ ho).2 ((ev_arr hE t ht2).1 n (fun j => va_rf ((f j).map (fun k => (kG K).1 + k)))) hr (fun q => by cases q) (by show ¬ (_ ∨ (arrV _ _ _).slots.size ≤ _); rw [arrV_size]; exact inb hz hj hn) (by show (arrV _ _ _).slots[_]? = _; rw [e, arrV_read _ _ hj, rf_map]) rfl rfl hd (k H locs ls h1 h2 h3)
theorem wp_alen (G : Gd K cc own nL) {r t n : Nat} {f : Nat → Int} (ht : t < 2) (hd : Dn cc pc .arraylength 1 pc') (ho : hget hp r = some (oA t n f)) (k : Wp K nL Q cs pc' lv (zI (n : Int) :: stk) hp) : Wp K nL Q cs pc lv (zR r :: stk) hp := by
  intro H locs ls h1 h2 h3
  obtain ⟨hx, hb, -, hown, hts, hE, -⟩ := G
  obtain ⟨hd, rfl⟩ := hd
  refine W.alen (a := (kG K).1 + r) (n := Int32.ofInt (n : Int)) (ty := aTy.getD t .int) hx hb (h1.2 r _ ho).2 ((ev_arr hE t (by omega)).1 n (fun j => .int (Int32.ofInt (f j)))) ?_ rfl rfl hd (k H locs ls h1 h2 h3)
  show (arrV _ _ _).slots.size.toInt32 = _
  rw [arrV_size]
  exact (Int32.ofInt_eq_ofNat).symm
theorem updV_fup (f : Nat → Int) (j : Nat) (x : Int) : updV (fun q => Value.int (Int32.ofInt (f q))) j (.int (Int32.ofInt x)) = fun q => Value.int (Int32.ofInt (fup f j x q)) := by
  funext q
  by_cases h : q = j <;> simp [updV, fup, h]
theorem updV_fupL (f : Nat → Int) (j : Nat) (x : Int) : updV (fun q => Value.long (Int64.ofInt (f q))) j (.long (Int64.ofInt x)) = fun q => Value.long (Int64.ofInt (fup f j x q)) := by
  funext q
  by_cases h : q = j <;> simp [updV, fup, h]
theorem wp_iast (G : Gd K cc own nL) {r n j : Nat} {f : Nat → Int} {z x : Int} (hd : Dn cc pc .iastore 1 pc') (ho : hget hp r = some (oA 0 n f)) (hz : z = (j : Int)) (hj : j < n) (hn : n < 2147483648) (k : Wp K nL Q cs pc' lv stk (hset hp r (oA 0 n (fup f j x)))) : Wp K nL Q cs pc lv (zI x :: zI z :: zR r :: stk) hp := by
  intro H locs ls h1 h2 h3
  obtain ⟨hx, hb, -, hown, hts, hE, -⟩ := G
  obtain ⟨hd, rfl⟩ := hd
  have e := inbN hz hj hn
  refine W.iast (a := (kG K).1 + r) (j := Int32.ofInt z) (x := Int32.ofInt x) hx hb (h1.2 r _ ho).2 ((ev_arr hE 0 (by decide)).1 n (fun j => .int (Int32.ofInt (f j)))) (fun q => by cases q) (by show ¬ (_ ∨ (arrV _ _ _).slots.size ≤ _); rw [arrV_size]; exact inb hz hj hn) rfl rfl hd fun H' e1 e2 e3 => ?_
  refine k H' _ ls (h1.put ho e2 e3 ?_) (h2.put e2 e3 (Nat.le_add_right _ _)) h3
  show H'[_]? = some (vp_cell _ _)
  rw [e1, e]
  dsimp only
  rw [vp_cell_i, vp_cell_i, arrV_store, updV_fup]
theorem wp_last (G : Gd K cc own nL) {r n j : Nat} {f : Nat → Int} {z x : Int} (hd : Dn cc pc .lastore 1 pc') (ho : hget hp r = some (oL 2 n f)) (hz : z = (j : Int)) (hj : j < n) (hn : n < 2147483648) (k : Wp K nL Q cs pc' lv stk (hset hp r (oL 2 n (fup f j x)))) : Wp K nL Q cs pc lv (zJ x :: zI z :: zR r :: stk) hp := by
  intro H locs ls h1 h2 h3
  obtain ⟨hx, hb, -, hown, hts, hE, -⟩ := G
  obtain ⟨hd, rfl⟩ := hd
  have e := inbN hz hj hn
  refine W.last (a := (kG K).1 + r) (j := Int32.ofInt z) (x := Int64.ofInt x) hx hb (h1.2 r _ ho).2 ((ev_arr hE 2 (by decide)).1 n (fun j => .long (Int64.ofInt (f j)))) (fun q => by cases q) (by show ¬ (_ ∨ (arrV _ _ _).slots.size ≤ _); rw [arrV_size]; exact inb hz hj hn) rfl rfl hd fun H' e1 e2 e3 => ?_
  refine k H' _ ls (h1.put ho e2 e3 ?_) (h2.put e2 e3 (Nat.le_add_right _ _)) h3
  show H'[_]? = some (vp_cell _ _)
  rw [e1, e]
  dsimp only
  rw [vp_cell_l, vp_cell_l, arrV_store, updV_fupL]
theorem wp_zast (G : Gd K cc own nL) {r n j : Nat} {f : Nat → Int} {z x : Int} (hx01 : x = 0 ∨ x = 1) (hd : Dn cc pc .bastore 1 pc') (ho : hget hp r = some (oA 1 n f)) (hz : z = (j : Int)) (hj : j < n) (hn : n < 2147483648) (k : Wp K nL Q cs pc' lv stk (hset hp r (oA 1 n (fup f j x)))) : Wp K nL Q cs pc lv (zI x :: zI z :: zR r :: stk) hp := by
  intro H locs ls h1 h2 h3
  obtain ⟨hx, hb, -, hown, hts, hE, -⟩ := G
  obtain ⟨hd, rfl⟩ := hd
  have e := inbN hz hj hn
  have en : narrow .boolean (.int (Int32.ofInt x)) = .int (Int32.ofInt x) := by rcases hx01 with rfl | rfl <;> decide
  refine W.zast (a := (kG K).1 + r) (j := Int32.ofInt z) (x := Int32.ofInt x) hx hb (h1.2 r _ ho).2 ((ev_arr hE 1 (by decide)).1 n (fun j => .int (Int32.ofInt (f j)))) (fun q => by cases q) (by show ¬ (_ ∨ (arrV _ _ _).slots.size ≤ _); rw [arrV_size]; exact inb hz hj hn) rfl rfl hd fun H' e1 e2 e3 => ?_
  refine k H' _ ls (h1.put ho e2 e3 ?_) (h2.put e2 e3 (Nat.le_add_right _ _)) h3
  show H'[_]? = some (vp_cell _ _)
  rw [e1, e, en]
  dsimp only
  rw [vp_cell_i, vp_cell_i, arrV_store, updV_fup]
end RULES3
end
section
/-! contracts, returns, calls -/
def Qx (g : GT) (h : Nat → Option PC) (Qp : Option PV → Nat → List (Nat × PC) → Prop) : Array Value → State → Outcome → State → Prop := fun _ st oc t => (∃ (r : Option PV) (nx : Nat) (l : List (Nat × PC)), oc = .returned (r.map (rv g.1)) ∧ Qp r nx l ∧ Rl g (nx, h, l) t.heap) ∧ va_F (Ag g) st t
def Mx (K : KT) (h : Nat → Option PC) (Qp : Option PV → Nat → List (Nat × PC) → Prop) (mm : Nat × Nat) : State → Prop := MQ K.2.2.2.2.2.2.2.1 (Qx (kG K) h Qp) (kA K) (kS K) mm.1 mm.2 (Ag (kG K))
def rmx (d mc ms : Nat) : Room := { frames := d, cells := mc, slots := ms, locals := 40 * d }
def Px (g : GT) (nx : Nat) (h : Nat → Option PC) (U : State) : Prop := Ev g U ∧ Sv g U U.heap ∧ Rl g (nx, h, []) U.heap ∧ g.1 ≤ U.heap.size
def Cx (d : Nat) (mm : Nat × Nat) (y : MethodName) (cc : ByteArray) (maxL : Nat) (ret : Option FieldType) (as : List PV) (nx : Nat) (h : Nat → Option PC) (Qp : Option PV → Nat → List (Nat × PC) → Prop) : Prop :=
  ∀ (l : Launch) (g : GT), Met l y (Cond.code y cc maxL ret :: WT) (rmx d mm.1 mm.2) (va_Pc (as.map (rv g.1)) (Px g nx h)) (Qx g h Qp) mm.1 mm.2 (Ag g)
def pargs : Nat → List PV → List (Nat × PV)
  | _, [] => []
  | i, v :: vs => (i, v) :: pargs (if isJ v then i + 2 else i + 1) vs
theorem pargs_map (sz : Nat) : ∀ (vs : List PV) (i : Nat), lv_args i (vs.map (rv sz)) = lvm sz (pargs i vs)
  | [], _ => rfl
  | v :: vs, i => by
    show (i, rv sz v) :: lv_args (if (rv sz v).category = 2 then i + 2 else i + 1) (vs.map (rv sz)) = (i, rv sz v) :: lvm sz (pargs (if isJ v then i + 2 else i + 1) vs)
    have e : (if (rv sz v).category = 2 then i + 2 else i + 1) = (if isJ v then i + 2 else i + 1) := by
      rcases v with z | z | _ | k <;> rfl
    rw [e, pargs_map sz vs]
def pwd : List PV → Nat
  | [] => 0
  | v :: vs => (if isJ v then 2 else 1) + pwd vs
theorem pwd_len (sz : Nat) : ∀ vs : List PV, (lg_sl (vs.map (rv sz))).length = pwd vs
  | [] => rfl
  | v :: vs => by
    have h := pwd_len sz vs
    unfold lg_sl at h
    unfold lg_sl pwd
    rw [List.map_cons, List.flatMap_cons, List.length_append, h]
    rcases v with z | z | _ | k <;> rfl
/-- a method's facts: its code among the words -/
def My (y : MethodName) (cc : ByteArray) (maxL : Nat) (ret : Option FieldType) (n : Nat) : Prop := Cond.code y cc maxL ret ∈ WT ∧ Cond.initialized y.cls ∈ WT ∧ (y.cls ≠ "java/lang/invoke/MethodHandle" ∧ y.cls ≠ "java/lang/invoke/VarHandle" ∧ (parseMethodDescriptor y.desc).map (fun d => d.parameters.length) = some n)
theorem cx_of {d : Nat} {mm : Nat × Nat} {y : MethodName} {cc : ByteArray} {maxL : Nat} {ret : Option FieldType} {as : List PV} {nx : Nat} {h : Nat → Option PC} {Qp : Option PV → Nat → List (Nat × PC) → Prop} (hy : plainName y.cls = true) (hw : pwd as ≤ maxL)
    (body : ∀ K : KT, Gd K cc y.cls maxL → (kMeth K).sig.returnType = ret → (kMeth K).name = y.name → kR K = rmx d mm.1 mm.2 → Wp K maxL (Mx K h Qp mm) (0, 0) 0 (pargs 0 as) [] (nx, h, [])) : Cx d mm y cc maxL ret as nx h Qp := by
  intro l g
  refine Met.ofW (cc := cc) (maxL := maxL) (ret := ret) hy rfl ?_
  intro p e s m args below meth c s₁ B hml hv
  obtain ⟨rfl, hE, hSv, hR, hsz⟩ := hv
  have hts := atoms_spec (ws := Cond.code y cc maxL ret :: WT) B.pre
  have hb := body (p, l, e, rmx d mm.1 mm.2, s, m, (as.map (rv g.1)).toArray, below, meth, c, g) ⟨B.exec, B.bytes, hml, findClass_of_methodNamed B.named, fun w hw => hts w (List.mem_cons_of_mem _ hw), hE, hSv, B.notSynchronized, hsz⟩ B.returns (name_of_methodNamed B.named B.method).1 rfl
  have hl := lv_entry (as.map (rv g.1)) (n := maxL) (by rw [pwd_len]; exact hw)
  rw [lg_entry_eq]
  rw [pargs_map] at hl
  exact hb s.heap [] _ hR va_S.rf hl
section RULES4
variable {K : KT} {nL : Nat} {Q : State → Prop} {cs mm : Nat × Nat} {pc pc' tgt : Nat} {lv : List (Nat × PV)} {stk rest : List PV} {hp : PH} {cc : ByteArray} {own : String} {h : Nat → Option PC} {Qp : Option PV → Nat → List (Nat × PC) → Prop} {nx : Nat} {l : List (Nat × PC)}
theorem qx_of {K : KT} {H : Heap} {locs : List Loc} (h1 : Rl (kG K) (nx, h, l) H) (h2 : va_S (Ag (kG K)) (kS K).heap H locs) {r : Option PV} (hq : Qp r nx l) {v : Option Value} (hv : v = r.map (rv (kG K).1)) : ∀ t : State, t.heap = H → (kS K).WarmedH t.vm → Qx (kG K) h Qp (kA K) (kS K) (.returned v) t := fun t ht _ => ⟨⟨r, nx, l, by rw [hv], hq, by rw [ht]; exact h1⟩, h2.F ht⟩
theorem wp_ireturn (G : Gd K cc own nL) {z : Int} (hr : (kMeth K).sig.returnType = some .int) (hd : Dn cc pc .ireturn 1 pc') (hq : Qp (some (zI z)) nx l) : Wp K nL (Mx K h Qp mm) mm pc lv [zI z] (nx, h, l) := by
  intro H locs ls h1 h2 h3
  obtain ⟨hx, hb, -, -, -, -, -, hlk, -⟩ := G
  obtain ⟨hd, -⟩ := hd
  exact W.iret hx hb hr (qx_of h1 h2 hq rfl) h2.2.2 hd hlk
theorem wp_zreturn (G : Gd K cc own nL) {z : Int} (hz : z = 0 ∨ z = 1) (hr : (kMeth K).sig.returnType = some .boolean) (hd : Dn cc pc .ireturn 1 pc') (hq : Qp (some (zI z)) nx l) : Wp K nL (Mx K h Qp mm) mm pc lv [zI z] (nx, h, l) := by
  intro H locs ls h1 h2 h3
  obtain ⟨hx, hb, -, -, -, -, -, hlk, -⟩ := G
  obtain ⟨hd, -⟩ := hd
  exact W.zret hx hb hr (by rcases hz with rfl | rfl <;> decide) (qx_of h1 h2 hq rfl) h2.2.2 hd hlk
theorem wp_lreturn (G : Gd K cc own nL) {z : Int} (hr : (kMeth K).sig.returnType = some .long) (hd : Dn cc pc .lreturn 1 pc') (hq : Qp (some (zJ z)) nx l) : Wp K nL (Mx K h Qp mm) mm pc lv [zJ z] (nx, h, l) := by
  intro H locs ls h1 h2 h3
  obtain ⟨hx, hb, -, -, -, -, -, hlk, -⟩ := G
  obtain ⟨hd, -⟩ := hd
  exact W.lret hx hb hr (qx_of h1 h2 hq rfl) h2.2.2 hd hlk
theorem wp_vreturn (G : Gd K cc own nL) (hr : (kMeth K).sig.returnType = none) (hd : Dn cc pc .return_ 1 pc') (hq : Qp none nx l) : Wp K nL (Mx K h Qp mm) mm pc lv [] (nx, h, l) := by
  intro H locs ls h1 h2 h3
  obtain ⟨hx, hb, -, -, -, -, -, hlk, -⟩ := G
  obtain ⟨hd, -⟩ := hd
  exact W.vret hx hb hr (qx_of h1 h2 hq rfl) h2.2.2 hd hlk
theorem wp_areturn (G : Gd K cc own nL) {r : Option Nat} {rt : FieldType} (hr : (kMeth K).sig.returnType = some rt) (hrt : (∃ n, rt = .object n) ∨ ∃ t, rt = .array t) (hd : Dn cc pc .areturn 1 pc') (hq : Qp (some (zQ r)) nx l) : Wp K nL (Mx K h Qp mm) mm pc lv [zQ r] (nx, h, l) := by
  intro H locs ls h1 h2 h3
  obtain ⟨hx, hb, -, -, -, -, -, hlk, -⟩ := G
  obtain ⟨hd, -⟩ := hd
  exact W.aret (v := rv (kG K).1 (zQ r)) hx hb hr hrt (by cases r with | none => exact Or.inl rfl | some a => exact Or.inr ⟨_, rfl⟩) (qx_of h1 h2 hq rfl) h2.2.2 hd hlk
theorem wp_widen {cs' : Nat × Nat} (e1 : cs.1 ≤ cs'.1) (e2 : cs.2 ≤ cs'.2) (k : Wp K nL Q cs' pc lv stk hp) : Wp K nL Q cs pc lv stk hp := fun H locs ls h1 h2 h3 => W.widen e1 e2 (k H locs ls h1 h2 h3)
theorem px_blind {g : GT} {av : List Value} : FrameBlind (va_Pc av (Px g nx h)) := fun a U f mk hq => ⟨hq.1, hq.2.1.same rfl, hq.2.2.1.moved (Vm.Alike.refl U.vm), hq.2.2.2.1, hq.2.2.2.2⟩
theorem px_at (G : Gd K cc own nL) {H : Heap} {locs : List Loc} (h1 : Rl (kG K) hp H) (h2 : va_S (Ag (kG K)) (kS K).heap H locs) : ∀ U : State, U.heap = H → (kS K).WarmedH U.vm → Px (kG K) hp.1 (hget hp) U := by
  obtain ⟨-, -, -, -, -, hE, hS, -, hz⟩ := G
  intro U hU hW
  refine ⟨hE.moved hW, ?_, by rw [hU]; exact h1.ext rfl (fun _ => rfl), by rw [hU]; exact Nat.le_trans hz h2.1⟩
  rw [hU]
  exact (hS.kept (fun a ha hn => h2.2.1 a ha hn)).moved hW.alike
/-- behind a call -/
theorem wp_back {y : MethodName} {a : Array Value} {H : Heap} {locs : List Loc} {ls : Array Slot} (h1 : Rl (kG K) hp H) (h2 : va_S (Ag (kG K)) (kS K).heap H locs) (h3 : lv_has ls nL (lvm (kG K).1 lv)) {st0 : List Value}
    (hr : va_Run K.1 K.2.1 K.2.2.1 K.2.2.2.1 K.2.2.2.2.1 K.2.2.2.2.2.1 K.2.2.2.2.2.2.1 K.2.2.2.2.2.2.2.1 K.2.2.2.2.2.2.2.2.1 K.2.2.2.2.2.2.2.2.2.1 H locs cs.1 cs.2 mm.1 mm.2 (F0 (kM K) pc ls st0) (rest.map (rv (kG K).1)) (Qx (kG K) (hget hp) Qp a) (Ag (kG K)))
    (k : ∀ r nx' l', Qp r nx' l' → Wp K nL Q (cs.1 + mm.1, cs.2 + mm.2) (pc + 3) lv (r.toList ++ rest) (nx', hp.2.1, asets hp.2.2 l')) : WK K H locs cs Q (F0 (kM K) pc ls st0) := by
  intro T hT X
  obtain ⟨v, st₀, t, T', L, e0, X', hL, e1, e2, ⟨⟨r, nx', l', ho, hq, hR⟩, hF⟩, st⟩ := hr T hT X
  have hv : v = r.map (rv (kG K).1) := by cases ho; rfl
  subst hv
  have hR2 : Rl (kG K) (nx', hp.2.1, asets hp.2.2 l') T'.heap := by
    rw [e1]
    exact hR.ext rfl (fun j => hlk_asets _ _ _ _)
  have hS2 : va_S (Ag (kG K)) (kS K).heap T'.heap (locs ++ L) := by
    have hF1 := hF.1
    have hF2 := hF.2
    rw [e0] at hF1 hF2
    rw [e1]
    refine ⟨Nat.le_trans h2.1 hF1, fun q q1 q2 => ?_, fun q hq2 => ?_⟩
    · rw [hF2 q (Nat.lt_of_lt_of_le q1 h2.1) q2]
      exact h2.2.1 q q1 q2
    · rcases List.mem_append.mp hq2 with w | w
      · exact h2.2.2 q w
      · exact hL q w
  obtain ⟨t2, a1, b1⟩ := k r nx' l' hq T'.heap (locs ++ L) ls hR2 hS2 h3 T' rfl X'
  refine ⟨t2, st t2 ?_, b1⟩
  have es : (r.toList ++ rest).map (rv (kG K).1) = (r.map (rv (kG K).1)).toList ++ rest.map (rv (kG K).1) := by cases r <;> simp
  rw [es] at a1
  exact a1
def Mlk (own : String) (idx : Nat) (y : MethodName) : Prop := Cond.methodLink own idx y ∈ WT ∨ Cond.methodLinkNest own idx y RX9 ∈ lw_tbl
def rwd : List PV → Nat
  | [] => 0
  | v :: vs => (if isJ v then 2 else 1) + rwd vs
theorem rwd_eq (sz : Nat) : ∀ vs : List PV, ((vs.map (rv sz)).map fun v => v.category).sum = rwd vs
  | [] => rfl
  | v :: vs => by
    have h := rwd_eq sz vs
    show (rv sz v).category + _ = _
    rw [h]
    rcases v with z | z | _ | k <;> rfl
theorem wp_callS (G : Gd K cc own nL) {d n idx maxL : Nat} {y : MethodName} {cb : ByteArray} {ret : Option FieldType} {as : List PV} (hm : My y cb maxL ret n) (hl : Mlk own idx y) (hst : Cond.static y ∈ WT) (hd : Dn cc pc (.invokestatic idx) 3 pc') (hs : stk = as.reverse ++ rest) (hn : as.length = n) (hrw : rwd rest ≤ 8) (hR : d + 1 ≤ (kR K).frames ∧ 8 + (maxL + 11) + 40 * d ≤ (kR K).locals ∧ cs.1 + mm.1 ≤ (kR K).cells ∧ cs.2 + mm.2 ≤ (kR K).slots)
    (C : Cx d mm y cb maxL ret as hp.1 (hget hp) Qp) (k : ∀ r nx' l', Qp r nx' l' → Wp K nL Q (cs.1 + mm.1, cs.2 + mm.2) pc' lv (r.toList ++ rest) (nx', hp.2.1, asets hp.2.2 l')) : Wp K nL Q cs pc lv stk hp := by
  intro H locs ls h1 h2 h3
  have hpx := px_at G h1 h2
  obtain ⟨hx, hb, hml, hown, hts, hE, hSv, hlk, hz⟩ := G
  obtain ⟨hd, rfl⟩ := hd
  have hG : GoodIn WT (Cond.code y cb maxL ret :: WT) := by
    intro w hw
    rcases List.mem_cons.mp hw with rfl | e
    · exact ⟨hm.1, wt_good hm.1⟩
    · exact ⟨e, wt_good e⟩
  have hst0 : stk.map (rv (kG K).1) = (as.map (rv (kG K).1)).reverse ++ rest.map (rv (kG K).1) := by rw [hs, List.map_append, List.map_reverse]
  rw [hst0]
  refine wp_back (y := y) h1 h2 h3 (a := (as.map (rv (kG K).1)).toArray) ?_ k
  rcases hl with hl | hl
  · exact va_runS (Ts := WT) ⟨hx, hb, hml, hown, hts⟩ (C _ _) ⟨callB_of n hts hG rfl rfl rfl (hts _ hm.2.1) (hts _ hl) hm.2.2 ⟨hR.1, hR.2.1⟩, hts _ hst⟩ ⟨px_blind, fun U hU hW => ⟨rfl, hpx U hU hW⟩⟩ rfl (by rw [List.length_map]; exact hn) h3.1 rfl (lv_room (by rw [rwd_eq]; exact hrw)) hd ⟨hR.2.2.1, hR.2.2.2⟩
  · exact va_runSN (Ts := WT) (host := RX9) ⟨hx, hb, hml, hown, hts⟩ (C _ _) ⟨va_cnB n hts hG rfl rfl rfl (hE.2.1 _ hl rfl) (hts _ hm.2.1) hm.2.2 ⟨hR.1, hR.2.1⟩, hts _ hst, trivial⟩ ⟨px_blind, fun U hU hW => ⟨rfl, hpx U hU hW⟩⟩ rfl (by rw [List.length_map]; exact hn) h3.1 rfl (lv_room (by rw [rwd_eq]; exact hrw)) hd ⟨hR.2.2.1, hR.2.2.2⟩
theorem wp_callV (G : Gd K cc own nL) {d n idx maxL b ci : Nat} {y : MethodName} {cb : ByteArray} {ret : Option FieldType} {as fs : List PV} (hm : My y cb maxL ret n) (hl : Mlk own idx y) (hin : Cond.instanceMethod y ∈ WT) (hsel : Cond.selects y.cls y y ∈ WT) (hci : ∃ q, vwCl[ci]? = some q ∧ q.1 = y.cls) (hd : Dn cc pc (.invokevirtual idx) 3 pc') (ho : hget hp b = some (oO ci fs)) (hs : stk = as.reverse ++ zR b :: rest) (hn : as.length = n) (hrw : rwd rest ≤ 8) (hR : d + 1 ≤ (kR K).frames ∧ 8 + (maxL + 11) + 40 * d ≤ (kR K).locals ∧ cs.1 + mm.1 ≤ (kR K).cells ∧ cs.2 + mm.2 ≤ (kR K).slots)
    (C : Cx d mm y cb maxL ret (zR b :: as) hp.1 (hget hp) Qp) (k : ∀ r nx' l', Qp r nx' l' → Wp K nL Q (cs.1 + mm.1, cs.2 + mm.2) pc' lv (r.toList ++ rest) (nx', hp.2.1, asets hp.2.2 l')) : Wp K nL Q cs pc lv stk hp := by
  intro H locs ls h1 h2 h3
  have hpx := px_at G h1 h2
  obtain ⟨hx, hb, hml, hown, hts, hE, hSv, hlk, hz⟩ := G
  obtain ⟨hd, rfl⟩ := hd
  have hG : GoodIn WT (Cond.code y cb maxL ret :: WT) := by
    intro w hw
    rcases List.mem_cons.mp hw with rfl | e
    · exact ⟨hm.1, wt_good hm.1⟩
    · exact ⟨e, wt_good e⟩
  obtain ⟨q, hq, hqc⟩ := hci
  have hP : va_P (kG K).2.1 vwCl [((kG K).1 + b, .inr (ci, fs.map (rv (kG K).1)))] H := fun j x hj => by
    have h0 : j < 1 := (List.getElem?_eq_some_iff.mp hj).1
    rw [show j = 0 by omega] at hj
    cases hj
    exact (h1.2 b _ ho).2
  have hrc := va_recv hE.1 hP hq (q0 := 0) rfl
  rw [hqc] at hrc
  have hst0 : stk.map (rv (kG K).1) = (as.map (rv (kG K).1)).reverse ++ .ref ((kG K).1 + b) :: rest.map (rv (kG K).1) := by rw [hs, List.map_append, List.map_reverse]; rfl
  rw [hst0]
  refine wp_back (y := y) h1 h2 h3 (a := (.ref ((kG K).1 + b) :: as.map (rv (kG K).1)).toArray) ?_ k
  rcases hl with hl | hl
  · exact va_runV (Ts := WT) ⟨hx, hb, hml, hown, hts⟩ (C _ _) ⟨callB_of n hts hG rfl rfl rfl (hts _ hm.2.1) (hts _ hl) hm.2.2 ⟨hR.1, hR.2.1⟩, hts _ hin, hts _ hsel⟩ ⟨px_blind, hrc, fun U hU hW => ⟨rfl, hpx U hU hW⟩⟩ rfl (by rw [List.length_map]; exact hn) h3.1 rfl (lv_room (by rw [rwd_eq]; exact hrw)) hd ⟨hR.2.2.1, hR.2.2.2⟩
  · exact va_runVN (Ts := WT) (host := RX9) ⟨hx, hb, hml, hown, hts⟩ (C _ _) ⟨va_cnB n hts hG rfl rfl rfl (hE.2.1 _ hl rfl) (hts _ hm.2.1) hm.2.2 ⟨hR.1, hR.2.1⟩, hts _ hin, hts _ hsel⟩ ⟨px_blind, hrc, fun U hU hW => ⟨rfl, hpx U hU hW⟩⟩ rfl (by rw [List.length_map]; exact hn) h3.1 rfl (lv_room (by rw [rwd_eq]; exact hrw)) hd ⟨hR.2.2.1, hR.2.2.2⟩
theorem wp_callI (G : Gd K cc own nL) {d n idx maxL b : Nat} {y : MethodName} {cb : ByteArray} {as : List PV} (hm : My y cb maxL none n) (hl : Mlk own idx y) (hin : Cond.instanceMethod y ∈ WT) (hini : y.name = "<init>") (hd : Dn cc pc (.invokespecial idx) 3 pc') (hs : stk = as.reverse ++ zR b :: rest) (hn : as.length = n) (hrw : rwd rest ≤ 8) (hR : d + 1 ≤ (kR K).frames ∧ 8 + (maxL + 11) + 40 * d ≤ (kR K).locals ∧ cs.1 + mm.1 ≤ (kR K).cells ∧ cs.2 + mm.2 ≤ (kR K).slots)
    (C : Cx d mm y cb maxL none (zR b :: as) hp.1 (hget hp) Qp) (k : ∀ r nx' l', Qp r nx' l' → Wp K nL Q (cs.1 + mm.1, cs.2 + mm.2) pc' lv (r.toList ++ rest) (nx', hp.2.1, asets hp.2.2 l')) : Wp K nL Q cs pc lv stk hp := by
  intro H locs ls h1 h2 h3
  have hpx := px_at G h1 h2
  obtain ⟨hx, hb, hml, hown, hts, hE, hSv, hlk, hz⟩ := G
  obtain ⟨hd, rfl⟩ := hd
  have hG : GoodIn WT (Cond.code y cb maxL none :: WT) := by
    intro w hw
    rcases List.mem_cons.mp hw with rfl | e
    · exact ⟨hm.1, wt_good hm.1⟩
    · exact ⟨e, wt_good e⟩
  have hst0 : stk.map (rv (kG K).1) = (as.map (rv (kG K).1)).reverse ++ .ref ((kG K).1 + b) :: rest.map (rv (kG K).1) := by rw [hs, List.map_append, List.map_reverse]; rfl
  rw [hst0]
  refine wp_back (y := y) h1 h2 h3 (a := (.ref ((kG K).1 + b) :: as.map (rv (kG K).1)).toArray) ?_ k
  rcases hl with hl | hl
  · exact va_runI (Ts := WT) ⟨hx, hb, hml, hown, hts⟩ (C _ _) ⟨callB_of n hts hG rfl rfl rfl (hts _ hm.2.1) (hts _ hl) hm.2.2 ⟨hR.1, hR.2.1⟩, hini, hts _ hin⟩ ⟨px_blind, fun U hU hW => ⟨rfl, hpx U hU hW⟩⟩ rfl (by rw [List.length_map]; exact hn) h3.1 rfl (lv_room (by rw [rwd_eq]; exact hrw)) hd ⟨hR.2.2.1, hR.2.2.2⟩
  · exact va_runIN (Ts := WT) (host := RX9) ⟨hx, hb, hml, hown, hts⟩ (C _ _) ⟨va_cnB n hts hG rfl rfl rfl (hE.2.1 _ hl rfl) (hts _ hm.2.1) hm.2.2 ⟨hR.1, hR.2.1⟩, hini, hts _ hin⟩ ⟨px_blind, fun U hU hW => ⟨rfl, hpx U hU hW⟩⟩ rfl (by rw [List.length_map]; exact hn) h3.1 rfl (lv_room (by rw [rwd_eq]; exact hrw)) hd ⟨hR.2.2.1, hR.2.2.2⟩
end RULES4
end

theorem wt_at {w : Cond} (i : Nat) (h : lw_tbl[i]? = some w) (hg : goodWord w = true) : w ∈ WT := wt_of (List.mem_of_getElem? h) hg
theorem wt_ps {ws : List Cond} (ps : List Nat) (h : ws = ps.filterMap (fun i => lw_tbl[i]?)) (hg : ws.all goodWord = true) : ∀ w ∈ ws, w ∈ WT := by
  intro w hw
  have h1 := List.all_eq_true.mp hg w hw
  rw [h] at hw
  obtain ⟨i, -, hi⟩ := List.mem_filterMap.mp hw
  exact wt_of (List.mem_of_getElem? hi) h1
theorem inX0 : ∀ w ∈ u_ws RX0 TX0 1, w ∈ WT := wt_ps [242] (by decide +kernel) (by decide +kernel)
theorem cOk0 : ClOk 0 := ⟨_, rfl, inX0, tyX0_ok, nmX0⟩
theorem inX1 : ∀ w ∈ u_ws RX1 TX1 6, w ∈ WT := wt_ps [741, 743, 745, 747, 749, 751] (by decide +kernel) (by decide +kernel)
theorem cOk1 : ClOk 1 := ⟨_, rfl, inX1, tyX1_ok, nmX1⟩
theorem inX2 : ∀ w ∈ u_ws RX2 TX2 13, w ∈ WT := wt_ps [323, 325, 327, 329, 331, 333, 335, 337, 339, 341, 343, 345, 347] (by decide +kernel) (by decide +kernel)
theorem cOk2 : ClOk 2 := ⟨_, rfl, inX2, tyX2_ok, nmX2⟩
theorem inX3 : ∀ w ∈ u_ws RX3 TX3 14, w ∈ WT := wt_ps [205, 207, 209, 211, 213, 215, 217, 219, 221, 223, 225, 227, 229, 231] (by decide +kernel) (by decide +kernel)
theorem cOk3 : ClOk 3 := ⟨_, rfl, inX3, tyX3_ok, nmX3⟩
theorem inX4 : ∀ w ∈ u_ws RX4 TX4 5, w ∈ WT := wt_ps [258, 260, 262, 264, 266] (by decide +kernel) (by decide +kernel)
theorem cOk4 : ClOk 4 := ⟨_, rfl, inX4, tyX4_ok, nmX4⟩
theorem inX6 : ∀ w ∈ u_ws RX6 TX6 9, w ∈ WT := wt_ps [160, 162, 164, 166, 168, 170, 172, 174, 176] (by decide +kernel) (by decide +kernel)
theorem cOk5 : ClOk 5 := ⟨_, rfl, inX6, tyX6_ok, nmX6⟩
theorem inX7 : ∀ w ∈ u_ws RX7 TX7 2, w ∈ WT := wt_ps [294, 296] (by decide +kernel) (by decide +kernel)
theorem cOk6 : ClOk 6 := ⟨_, rfl, inX7, tyX7_ok, nmX7⟩
theorem inX8 : ∀ w ∈ u_ws RX8 TX8 2, w ∈ WT := wt_ps [278, 280] (by decide +kernel) (by decide +kernel)
theorem cOk7 : ClOk 7 := ⟨_, rfl, inX8, tyX8_ok, nmX8⟩
theorem inX9 : ∀ w ∈ u_ws RX9 TX9 10, w ∈ WT := wt_ps [360, 362, 364, 366, 368, 370, 372, 374, 376, 378] (by decide +kernel) (by decide +kernel)
theorem cOk8 : ClOk 8 := ⟨_, rfl, inX9, tyX9_ok, nmX9⟩
theorem inX10 : ∀ w ∈ u_ws RX10 TX10 34, w ∈ WT := wt_ps [971, 973, 975, 977, 979, 981, 983, 985, 987, 989, 991, 993, 995, 997, 999, 1001, 1003, 1005, 1007, 1009, 1011, 1013, 1015, 1017, 1019, 1021, 1023, 1025, 1027, 1029, 1031, 1033, 1035, 1037] (by decide +kernel) (by decide +kernel)
theorem cOk9 : ClOk 9 := ⟨_, rfl, inX10, tyX10_ok, nmX10⟩
theorem fX9_7 : Fx RX9 7 8 0 := ⟨_, rfl, by decide, Or.inl ⟨List.mem_of_getElem? (i := 350) (by decide +kernel), by decide +kernel⟩⟩
theorem fX9_16 : Fx RX9 16 8 1 := ⟨_, rfl, by decide, Or.inl ⟨List.mem_of_getElem? (i := 351) (by decide +kernel), by decide +kernel⟩⟩
theorem fX9_23 : Fx RX9 23 8 2 := ⟨_, rfl, by decide, Or.inl ⟨List.mem_of_getElem? (i := 352) (by decide +kernel), by decide +kernel⟩⟩
theorem fX9_30 : Fx RX9 30 8 3 := ⟨_, rfl, by decide, Or.inl ⟨List.mem_of_getElem? (i := 353) (by decide +kernel), by decide +kernel⟩⟩
theorem fX9_37 : Fx RX9 37 8 4 := ⟨_, rfl, by decide, Or.inl ⟨List.mem_of_getElem? (i := 354) (by decide +kernel), by decide +kernel⟩⟩
theorem fX9_44 : Fx RX9 44 8 5 := ⟨_, rfl, by decide, Or.inl ⟨List.mem_of_getElem? (i := 355) (by decide +kernel), by decide +kernel⟩⟩
theorem fX9_50 : Fx RX9 50 8 6 := ⟨_, rfl, by decide, Or.inl ⟨List.mem_of_getElem? (i := 356) (by decide +kernel), by decide +kernel⟩⟩
theorem fX9_54 : Fx RX9 54 8 7 := ⟨_, rfl, by decide, Or.inl ⟨List.mem_of_getElem? (i := 357) (by decide +kernel), by decide +kernel⟩⟩
theorem fX9_61 : Fx RX9 61 8 8 := ⟨_, rfl, by decide, Or.inl ⟨List.mem_of_getElem? (i := 358) (by decide +kernel), by decide +kernel⟩⟩
theorem fX9_68 : Fx RX9 68 8 9 := ⟨_, rfl, by decide, Or.inl ⟨List.mem_of_getElem? (i := 359) (by decide +kernel), by decide +kernel⟩⟩
theorem fX9_97 : Fx RX9 97 5 7 := ⟨_, rfl, by decide, Or.inr (List.mem_of_getElem? (i := 156) (by decide +kernel))⟩
theorem fX9_105 : Fx RX9 105 5 5 := ⟨_, rfl, by decide, Or.inr (List.mem_of_getElem? (i := 147) (by decide +kernel))⟩
theorem fX9_108 : Fx RX9 108 5 1 := ⟨_, rfl, by decide, Or.inr (List.mem_of_getElem? (i := 128) (by decide +kernel))⟩
theorem fX9_111 : Fx RX9 111 5 2 := ⟨_, rfl, by decide, Or.inr (List.mem_of_getElem? (i := 133) (by decide +kernel))⟩
theorem fX9_114 : Fx RX9 114 5 3 := ⟨_, rfl, by decide, Or.inr (List.mem_of_getElem? (i := 137) (by decide +kernel))⟩
theorem fX9_117 : Fx RX9 117 5 4 := ⟨_, rfl, by decide, Or.inr (List.mem_of_getElem? (i := 142) (by decide +kernel))⟩
theorem fX9_120 : Fx RX9 120 5 6 := ⟨_, rfl, by decide, Or.inr (List.mem_of_getElem? (i := 153) (by decide +kernel))⟩
theorem fX9_144 : Fx RX9 144 3 0 := ⟨_, rfl, by decide, Or.inr (List.mem_of_getElem? (i := 190) (by decide +kernel))⟩
theorem fX9_147 : Fx RX9 147 3 1 := ⟨_, rfl, by decide, Or.inr (List.mem_of_getElem? (i := 192) (by decide +kernel))⟩
theorem fX9_222 : Fx RX9 222 4 3 := ⟨_, rfl, by decide, Or.inr (List.mem_of_getElem? (i := 255) (by decide +kernel))⟩
theorem fX9_232 : Fx RX9 232 4 4 := ⟨_, rfl, by decide, Or.inr (List.mem_of_getElem? (i := 257) (by decide +kernel))⟩
theorem fX9_253 : Fx RX9 253 7 0 := ⟨_, rfl, by decide, Or.inr (List.mem_of_getElem? (i := 276) (by decide +kernel))⟩
theorem fX9_280 : Fx RX9 280 2 0 := ⟨_, rfl, by decide, Or.inr (List.mem_of_getElem? (i := 308) (by decide +kernel))⟩
theorem fX9_287 : Fx RX9 287 2 6 := ⟨_, rfl, by decide, Or.inr (List.mem_of_getElem? (i := 315) (by decide +kernel))⟩
theorem fX9_297 : Fx RX9 297 2 7 := ⟨_, rfl, by decide, Or.inr (List.mem_of_getElem? (i := 317) (by decide +kernel))⟩
theorem fX9_314 : Fx RX9 314 5 0 := ⟨_, rfl, by decide, Or.inr (List.mem_of_getElem? (i := 125) (by decide +kernel))⟩
theorem fX9_333 : Fx RX9 333 6 1 := ⟨_, rfl, by decide, Or.inr (List.mem_of_getElem? (i := 293) (by decide +kernel))⟩
theorem fX0_9 : Fx RX0 9 0 0 := ⟨_, rfl, by decide, Or.inl ⟨List.mem_of_getElem? (i := 241) (by decide +kernel), by decide +kernel⟩⟩
theorem fX0_15 : Fx RX0 15 5 0 := ⟨_, rfl, by decide, Or.inr (List.mem_of_getElem? (i := 119) (by decide +kernel))⟩
theorem fX0_25 : Fx RX0 25 5 5 := ⟨_, rfl, by decide, Or.inr (List.mem_of_getElem? (i := 146) (by decide +kernel))⟩
theorem fX1_7 : Fx RX1 7 1 0 := ⟨_, rfl, by decide, Or.inl ⟨List.mem_of_getElem? (i := 731) (by decide +kernel), by decide +kernel⟩⟩
theorem fX1_13 : Fx RX1 13 1 1 := ⟨_, rfl, by decide, Or.inl ⟨List.mem_of_getElem? (i := 733) (by decide +kernel), by decide +kernel⟩⟩
theorem fX1_16 : Fx RX1 16 1 2 := ⟨_, rfl, by decide, Or.inl ⟨List.mem_of_getElem? (i := 735) (by decide +kernel), by decide +kernel⟩⟩
theorem fX1_20 : Fx RX1 20 1 3 := ⟨_, rfl, by decide, Or.inl ⟨List.mem_of_getElem? (i := 737) (by decide +kernel), by decide +kernel⟩⟩
theorem fX1_23 : Fx RX1 23 1 4 := ⟨_, rfl, by decide, Or.inl ⟨List.mem_of_getElem? (i := 739) (by decide +kernel), by decide +kernel⟩⟩
theorem fX1_26 : Fx RX1 26 1 5 := ⟨_, rfl, by decide, Or.inl ⟨List.mem_of_getElem? (i := 740) (by decide +kernel), by decide +kernel⟩⟩
theorem fX1_39 : Fx RX1 39 5 0 := ⟨_, rfl, by decide, Or.inr (List.mem_of_getElem? (i := 121) (by decide +kernel))⟩
theorem fX1_48 : Fx RX1 48 5 6 := ⟨_, rfl, by decide, Or.inr (List.mem_of_getElem? (i := 152) (by decide +kernel))⟩
theorem fX1_51 : Fx RX1 51 5 2 := ⟨_, rfl, by decide, Or.inr (List.mem_of_getElem? (i := 130) (by decide +kernel))⟩
theorem fX2_9 : Fx RX2 9 2 0 := ⟨_, rfl, by decide, Or.inl ⟨List.mem_of_getElem? (i := 307) (by decide +kernel), by decide +kernel⟩⟩
theorem fX2_15 : Fx RX2 15 2 1 := ⟨_, rfl, by decide, Or.inl ⟨List.mem_of_getElem? (i := 309) (by decide +kernel), by decide +kernel⟩⟩
theorem fX2_19 : Fx RX2 19 2 2 := ⟨_, rfl, by decide, Or.inl ⟨List.mem_of_getElem? (i := 310) (by decide +kernel), by decide +kernel⟩⟩
theorem fX2_22 : Fx RX2 22 2 3 := ⟨_, rfl, by decide, Or.inl ⟨List.mem_of_getElem? (i := 311) (by decide +kernel), by decide +kernel⟩⟩
theorem fX2_25 : Fx RX2 25 2 4 := ⟨_, rfl, by decide, Or.inl ⟨List.mem_of_getElem? (i := 312) (by decide +kernel), by decide +kernel⟩⟩
theorem fX2_28 : Fx RX2 28 2 5 := ⟨_, rfl, by decide, Or.inl ⟨List.mem_of_getElem? (i := 313) (by decide +kernel), by decide +kernel⟩⟩
theorem fX2_33 : Fx RX2 33 2 6 := ⟨_, rfl, by decide, Or.inl ⟨List.mem_of_getElem? (i := 314) (by decide +kernel), by decide +kernel⟩⟩
theorem fX2_36 : Fx RX2 36 2 7 := ⟨_, rfl, by decide, Or.inl ⟨List.mem_of_getElem? (i := 316) (by decide +kernel), by decide +kernel⟩⟩
theorem fX2_39 : Fx RX2 39 2 8 := ⟨_, rfl, by decide, Or.inl ⟨List.mem_of_getElem? (i := 318) (by decide +kernel), by decide +kernel⟩⟩
theorem fX2_42 : Fx RX2 42 2 9 := ⟨_, rfl, by decide, Or.inl ⟨List.mem_of_getElem? (i := 319) (by decide +kernel), by decide +kernel⟩⟩
theorem fX2_45 : Fx RX2 45 2 10 := ⟨_, rfl, by decide, Or.inl ⟨List.mem_of_getElem? (i := 320) (by decide +kernel), by decide +kernel⟩⟩
theorem fX2_48 : Fx RX2 48 2 11 := ⟨_, rfl, by decide, Or.inl ⟨List.mem_of_getElem? (i := 321) (by decide +kernel), by decide +kernel⟩⟩
theorem fX2_51 : Fx RX2 51 2 12 := ⟨_, rfl, by decide, Or.inl ⟨List.mem_of_getElem? (i := 322) (by decide +kernel), by decide +kernel⟩⟩
theorem fX2_69 : Fx RX2 69 5 3 := ⟨_, rfl, by decide, Or.inr (List.mem_of_getElem? (i := 138) (by decide +kernel))⟩
theorem fX2_74 : Fx RX2 74 5 4 := ⟨_, rfl, by decide, Or.inr (List.mem_of_getElem? (i := 143) (by decide +kernel))⟩
theorem fX2_77 : Fx RX2 77 5 5 := ⟨_, rfl, by decide, Or.inr (List.mem_of_getElem? (i := 149) (by decide +kernel))⟩
theorem fX2_84 : Fx RX2 84 5 0 := ⟨_, rfl, by decide, Or.inr (List.mem_of_getElem? (i := 124) (by decide +kernel))⟩
theorem fX2_87 : Fx RX2 87 5 8 := ⟨_, rfl, by decide, Or.inr (List.mem_of_getElem? (i := 159) (by decide +kernel))⟩
theorem fX3_11 : Fx RX3 11 3 0 := ⟨_, rfl, by decide, Or.inl ⟨List.mem_of_getElem? (i := 189) (by decide +kernel), by decide +kernel⟩⟩
theorem fX3_15 : Fx RX3 15 3 1 := ⟨_, rfl, by decide, Or.inl ⟨List.mem_of_getElem? (i := 191) (by decide +kernel), by decide +kernel⟩⟩
theorem fX3_18 : Fx RX3 18 3 2 := ⟨_, rfl, by decide, Or.inl ⟨List.mem_of_getElem? (i := 193) (by decide +kernel), by decide +kernel⟩⟩
theorem fX3_21 : Fx RX3 21 3 3 := ⟨_, rfl, by decide, Or.inl ⟨List.mem_of_getElem? (i := 194) (by decide +kernel), by decide +kernel⟩⟩
theorem fX3_24 : Fx RX3 24 3 4 := ⟨_, rfl, by decide, Or.inl ⟨List.mem_of_getElem? (i := 195) (by decide +kernel), by decide +kernel⟩⟩
theorem fX3_27 : Fx RX3 27 3 5 := ⟨_, rfl, by decide, Or.inl ⟨List.mem_of_getElem? (i := 196) (by decide +kernel), by decide +kernel⟩⟩
theorem fX3_31 : Fx RX3 31 3 6 := ⟨_, rfl, by decide, Or.inl ⟨List.mem_of_getElem? (i := 197) (by decide +kernel), by decide +kernel⟩⟩
theorem fX3_36 : Fx RX3 36 3 7 := ⟨_, rfl, by decide, Or.inl ⟨List.mem_of_getElem? (i := 198) (by decide +kernel), by decide +kernel⟩⟩
theorem fX3_39 : Fx RX3 39 3 8 := ⟨_, rfl, by decide, Or.inl ⟨List.mem_of_getElem? (i := 199) (by decide +kernel), by decide +kernel⟩⟩
theorem fX3_43 : Fx RX3 43 3 9 := ⟨_, rfl, by decide, Or.inl ⟨List.mem_of_getElem? (i := 200) (by decide +kernel), by decide +kernel⟩⟩
theorem fX3_46 : Fx RX3 46 3 10 := ⟨_, rfl, by decide, Or.inl ⟨List.mem_of_getElem? (i := 201) (by decide +kernel), by decide +kernel⟩⟩
theorem fX3_49 : Fx RX3 49 3 11 := ⟨_, rfl, by decide, Or.inl ⟨List.mem_of_getElem? (i := 202) (by decide +kernel), by decide +kernel⟩⟩
theorem fX3_52 : Fx RX3 52 3 12 := ⟨_, rfl, by decide, Or.inl ⟨List.mem_of_getElem? (i := 203) (by decide +kernel), by decide +kernel⟩⟩
theorem fX3_55 : Fx RX3 55 3 13 := ⟨_, rfl, by decide, Or.inl ⟨List.mem_of_getElem? (i := 204) (by decide +kernel), by decide +kernel⟩⟩
theorem fX3_78 : Fx RX3 78 5 0 := ⟨_, rfl, by decide, Or.inr (List.mem_of_getElem? (i := 120) (by decide +kernel))⟩
theorem fX3_83 : Fx RX3 83 5 1 := ⟨_, rfl, by decide, Or.inr (List.mem_of_getElem? (i := 127) (by decide +kernel))⟩
theorem fX3_113 : Fx RX3 113 5 2 := ⟨_, rfl, by decide, Or.inr (List.mem_of_getElem? (i := 134) (by decide +kernel))⟩
theorem fX3_122 : Fx RX3 122 5 3 := ⟨_, rfl, by decide, Or.inr (List.mem_of_getElem? (i := 139) (by decide +kernel))⟩
theorem fX3_125 : Fx RX3 125 5 4 := ⟨_, rfl, by decide, Or.inr (List.mem_of_getElem? (i := 144) (by decide +kernel))⟩
theorem fX3_132 : Fx RX3 132 5 5 := ⟨_, rfl, by decide, Or.inr (List.mem_of_getElem? (i := 150) (by decide +kernel))⟩
theorem fX4_9 : Fx RX4 9 4 0 := ⟨_, rfl, by decide, Or.inl ⟨List.mem_of_getElem? (i := 251) (by decide +kernel), by decide +kernel⟩⟩
theorem fX4_15 : Fx RX4 15 4 1 := ⟨_, rfl, by decide, Or.inl ⟨List.mem_of_getElem? (i := 252) (by decide +kernel), by decide +kernel⟩⟩
theorem fX4_18 : Fx RX4 18 4 2 := ⟨_, rfl, by decide, Or.inl ⟨List.mem_of_getElem? (i := 253) (by decide +kernel), by decide +kernel⟩⟩
theorem fX4_23 : Fx RX4 23 4 3 := ⟨_, rfl, by decide, Or.inl ⟨List.mem_of_getElem? (i := 254) (by decide +kernel), by decide +kernel⟩⟩
theorem fX4_26 : Fx RX4 26 4 4 := ⟨_, rfl, by decide, Or.inl ⟨List.mem_of_getElem? (i := 256) (by decide +kernel), by decide +kernel⟩⟩
theorem fX4_29 : Fx RX4 29 5 3 := ⟨_, rfl, by decide, Or.inr (List.mem_of_getElem? (i := 136) (by decide +kernel))⟩
theorem fX4_32 : Fx RX4 32 5 4 := ⟨_, rfl, by decide, Or.inr (List.mem_of_getElem? (i := 141) (by decide +kernel))⟩
theorem fX4_45 : Fx RX4 45 5 5 := ⟨_, rfl, by decide, Or.inr (List.mem_of_getElem? (i := 148) (by decide +kernel))⟩
theorem fX4_48 : Fx RX4 48 5 2 := ⟨_, rfl, by decide, Or.inr (List.mem_of_getElem? (i := 131) (by decide +kernel))⟩
theorem fX4_70 : Fx RX4 70 5 8 := ⟨_, rfl, by decide, Or.inr (List.mem_of_getElem? (i := 158) (by decide +kernel))⟩
theorem fX4_73 : Fx RX4 73 5 0 := ⟨_, rfl, by decide, Or.inr (List.mem_of_getElem? (i := 123) (by decide +kernel))⟩
theorem fX6_9 : Fx RX6 9 5 0 := ⟨_, rfl, by decide, Or.inl ⟨List.mem_of_getElem? (i := 118) (by decide +kernel), by decide +kernel⟩⟩
theorem fX6_15 : Fx RX6 15 5 1 := ⟨_, rfl, by decide, Or.inl ⟨List.mem_of_getElem? (i := 126) (by decide +kernel), by decide +kernel⟩⟩
theorem fX6_19 : Fx RX6 19 5 2 := ⟨_, rfl, by decide, Or.inl ⟨List.mem_of_getElem? (i := 129) (by decide +kernel), by decide +kernel⟩⟩
theorem fX6_22 : Fx RX6 22 5 3 := ⟨_, rfl, by decide, Or.inl ⟨List.mem_of_getElem? (i := 135) (by decide +kernel), by decide +kernel⟩⟩
theorem fX6_25 : Fx RX6 25 5 4 := ⟨_, rfl, by decide, Or.inl ⟨List.mem_of_getElem? (i := 140) (by decide +kernel), by decide +kernel⟩⟩
theorem fX6_28 : Fx RX6 28 5 5 := ⟨_, rfl, by decide, Or.inl ⟨List.mem_of_getElem? (i := 145) (by decide +kernel), by decide +kernel⟩⟩
theorem fX6_31 : Fx RX6 31 5 6 := ⟨_, rfl, by decide, Or.inl ⟨List.mem_of_getElem? (i := 151) (by decide +kernel), by decide +kernel⟩⟩
theorem fX6_34 : Fx RX6 34 5 7 := ⟨_, rfl, by decide, Or.inl ⟨List.mem_of_getElem? (i := 155) (by decide +kernel), by decide +kernel⟩⟩
theorem fX6_38 : Fx RX6 38 5 8 := ⟨_, rfl, by decide, Or.inl ⟨List.mem_of_getElem? (i := 157) (by decide +kernel), by decide +kernel⟩⟩
theorem fX7_9 : Fx RX7 9 6 0 := ⟨_, rfl, by decide, Or.inl ⟨List.mem_of_getElem? (i := 291) (by decide +kernel), by decide +kernel⟩⟩
theorem fX7_15 : Fx RX7 15 6 1 := ⟨_, rfl, by decide, Or.inl ⟨List.mem_of_getElem? (i := 292) (by decide +kernel), by decide +kernel⟩⟩
theorem fX7_31 : Fx RX7 31 5 0 := ⟨_, rfl, by decide, Or.inr (List.mem_of_getElem? (i := 122) (by decide +kernel))⟩
theorem fX7_41 : Fx RX7 41 5 2 := ⟨_, rfl, by decide, Or.inr (List.mem_of_getElem? (i := 132) (by decide +kernel))⟩
theorem fX7_49 : Fx RX7 49 1 0 := ⟨_, rfl, by decide, Or.inr (List.mem_of_getElem? (i := 732) (by decide +kernel))⟩
theorem fX7_54 : Fx RX7 54 1 3 := ⟨_, rfl, by decide, Or.inr (List.mem_of_getElem? (i := 738) (by decide +kernel))⟩
theorem fX7_57 : Fx RX7 57 5 6 := ⟨_, rfl, by decide, Or.inr (List.mem_of_getElem? (i := 154) (by decide +kernel))⟩
theorem fX7_60 : Fx RX7 60 1 2 := ⟨_, rfl, by decide, Or.inr (List.mem_of_getElem? (i := 736) (by decide +kernel))⟩
theorem fX8_9 : Fx RX8 9 7 0 := ⟨_, rfl, by decide, Or.inl ⟨List.mem_of_getElem? (i := 275) (by decide +kernel), by decide +kernel⟩⟩
theorem fX8_15 : Fx RX8 15 7 1 := ⟨_, rfl, by decide, Or.inl ⟨List.mem_of_getElem? (i := 277) (by decide +kernel), by decide +kernel⟩⟩
theorem fX8_34 : Fx RX8 34 1 1 := ⟨_, rfl, by decide, Or.inr (List.mem_of_getElem? (i := 734) (by decide +kernel))⟩
theorem fX10_7 : Fx RX10 7 9 0 := ⟨_, rfl, by decide, Or.inl ⟨List.mem_of_getElem? (i := 937) (by decide +kernel), by decide +kernel⟩⟩
theorem fX10_13 : Fx RX10 13 9 1 := ⟨_, rfl, by decide, Or.inl ⟨List.mem_of_getElem? (i := 938) (by decide +kernel), by decide +kernel⟩⟩
theorem fX10_16 : Fx RX10 16 9 2 := ⟨_, rfl, by decide, Or.inl ⟨List.mem_of_getElem? (i := 939) (by decide +kernel), by decide +kernel⟩⟩
theorem fX10_19 : Fx RX10 19 9 3 := ⟨_, rfl, by decide, Or.inl ⟨List.mem_of_getElem? (i := 940) (by decide +kernel), by decide +kernel⟩⟩
theorem fX10_22 : Fx RX10 22 9 4 := ⟨_, rfl, by decide, Or.inl ⟨List.mem_of_getElem? (i := 941) (by decide +kernel), by decide +kernel⟩⟩
theorem fX10_25 : Fx RX10 25 9 5 := ⟨_, rfl, by decide, Or.inl ⟨List.mem_of_getElem? (i := 942) (by decide +kernel), by decide +kernel⟩⟩
theorem fX10_28 : Fx RX10 28 9 6 := ⟨_, rfl, by decide, Or.inl ⟨List.mem_of_getElem? (i := 943) (by decide +kernel), by decide +kernel⟩⟩
theorem fX10_32 : Fx RX10 32 9 8 := ⟨_, rfl, by decide, Or.inl ⟨List.mem_of_getElem? (i := 945) (by decide +kernel), by decide +kernel⟩⟩
theorem fX10_35 : Fx RX10 35 9 9 := ⟨_, rfl, by decide, Or.inl ⟨List.mem_of_getElem? (i := 946) (by decide +kernel), by decide +kernel⟩⟩
theorem fX10_38 : Fx RX10 38 9 10 := ⟨_, rfl, by decide, Or.inl ⟨List.mem_of_getElem? (i := 947) (by decide +kernel), by decide +kernel⟩⟩
theorem fX10_41 : Fx RX10 41 9 11 := ⟨_, rfl, by decide, Or.inl ⟨List.mem_of_getElem? (i := 948) (by decide +kernel), by decide +kernel⟩⟩
theorem fX10_45 : Fx RX10 45 9 14 := ⟨_, rfl, by decide, Or.inl ⟨List.mem_of_getElem? (i := 951) (by decide +kernel), by decide +kernel⟩⟩
theorem fX10_48 : Fx RX10 48 9 15 := ⟨_, rfl, by decide, Or.inl ⟨List.mem_of_getElem? (i := 952) (by decide +kernel), by decide +kernel⟩⟩
theorem fX10_51 : Fx RX10 51 9 16 := ⟨_, rfl, by decide, Or.inl ⟨List.mem_of_getElem? (i := 953) (by decide +kernel), by decide +kernel⟩⟩
theorem fX10_54 : Fx RX10 54 9 17 := ⟨_, rfl, by decide, Or.inl ⟨List.mem_of_getElem? (i := 954) (by decide +kernel), by decide +kernel⟩⟩
theorem fX10_57 : Fx RX10 57 9 18 := ⟨_, rfl, by decide, Or.inl ⟨List.mem_of_getElem? (i := 955) (by decide +kernel), by decide +kernel⟩⟩
theorem fX10_60 : Fx RX10 60 9 19 := ⟨_, rfl, by decide, Or.inl ⟨List.mem_of_getElem? (i := 956) (by decide +kernel), by decide +kernel⟩⟩
theorem fX10_63 : Fx RX10 63 9 21 := ⟨_, rfl, by decide, Or.inl ⟨List.mem_of_getElem? (i := 958) (by decide +kernel), by decide +kernel⟩⟩
theorem fX10_66 : Fx RX10 66 9 22 := ⟨_, rfl, by decide, Or.inl ⟨List.mem_of_getElem? (i := 959) (by decide +kernel), by decide +kernel⟩⟩
theorem fX10_69 : Fx RX10 69 9 23 := ⟨_, rfl, by decide, Or.inl ⟨List.mem_of_getElem? (i := 960) (by decide +kernel), by decide +kernel⟩⟩
theorem fX10_72 : Fx RX10 72 9 24 := ⟨_, rfl, by decide, Or.inl ⟨List.mem_of_getElem? (i := 961) (by decide +kernel), by decide +kernel⟩⟩
theorem fX10_75 : Fx RX10 75 9 25 := ⟨_, rfl, by decide, Or.inl ⟨List.mem_of_getElem? (i := 962) (by decide +kernel), by decide +kernel⟩⟩
theorem fX10_78 : Fx RX10 78 9 26 := ⟨_, rfl, by decide, Or.inl ⟨List.mem_of_getElem? (i := 963) (by decide +kernel), by decide +kernel⟩⟩
theorem fX10_81 : Fx RX10 81 9 28 := ⟨_, rfl, by decide, Or.inl ⟨List.mem_of_getElem? (i := 965) (by decide +kernel), by decide +kernel⟩⟩
theorem fX10_84 : Fx RX10 84 9 29 := ⟨_, rfl, by decide, Or.inl ⟨List.mem_of_getElem? (i := 966) (by decide +kernel), by decide +kernel⟩⟩
theorem fX10_87 : Fx RX10 87 9 30 := ⟨_, rfl, by decide, Or.inl ⟨List.mem_of_getElem? (i := 967) (by decide +kernel), by decide +kernel⟩⟩
theorem fX10_90 : Fx RX10 90 9 31 := ⟨_, rfl, by decide, Or.inl ⟨List.mem_of_getElem? (i := 968) (by decide +kernel), by decide +kernel⟩⟩
theorem fX10_93 : Fx RX10 93 9 32 := ⟨_, rfl, by decide, Or.inl ⟨List.mem_of_getElem? (i := 969) (by decide +kernel), by decide +kernel⟩⟩
theorem fX10_96 : Fx RX10 96 9 7 := ⟨_, rfl, by decide, Or.inl ⟨List.mem_of_getElem? (i := 944) (by decide +kernel), by decide +kernel⟩⟩
theorem fX10_150 : Fx RX10 150 9 13 := ⟨_, rfl, by decide, Or.inl ⟨List.mem_of_getElem? (i := 950) (by decide +kernel), by decide +kernel⟩⟩
theorem fX10_153 : Fx RX10 153 9 12 := ⟨_, rfl, by decide, Or.inl ⟨List.mem_of_getElem? (i := 949) (by decide +kernel), by decide +kernel⟩⟩
theorem fX10_264 : Fx RX10 264 9 20 := ⟨_, rfl, by decide, Or.inl ⟨List.mem_of_getElem? (i := 957) (by decide +kernel), by decide +kernel⟩⟩
theorem fX10_296 : Fx RX10 296 9 27 := ⟨_, rfl, by decide, Or.inl ⟨List.mem_of_getElem? (i := 964) (by decide +kernel), by decide +kernel⟩⟩
theorem fX10_305 : Fx RX10 305 9 33 := ⟨_, rfl, by decide, Or.inl ⟨List.mem_of_getElem? (i := 970) (by decide +kernel), by decide +kernel⟩⟩
theorem mJ9_abs_0f7a4 : My yJ9_abs_0f7a4 cJ9_abs_0f7a4 1 (some .int) 1 := ⟨wt_at 474 (by decide +kernel) (by decide +kernel), wt_at 101 (by decide +kernel) (by decide +kernel), by decide, by decide, by decide +kernel⟩
theorem sJ9_abs_0f7a4 : Cond.static yJ9_abs_0f7a4 ∈ WT := wt_at 473 (by decide +kernel) (by decide +kernel)
theorem mJ9_floorMod_f86c9 : My yJ9_floorMod_f86c9 cJ9_floorMod_f86c9 6 (some .long) 2 := ⟨wt_at 921 (by decide +kernel) (by decide +kernel), wt_at 101 (by decide +kernel) (by decide +kernel), by decide, by decide, by decide +kernel⟩
theorem sJ9_floorMod_f86c9 : Cond.static yJ9_floorMod_f86c9 ∈ WT := wt_at 920 (by decide +kernel) (by decide +kernel)
theorem mJ9_max_7cf53 : My yJ9_max_7cf53 cJ9_max_7cf53 2 (some .int) 2 := ⟨wt_at 484 (by decide +kernel) (by decide +kernel), wt_at 101 (by decide +kernel) (by decide +kernel), by decide, by decide, by decide +kernel⟩
theorem sJ9_max_7cf53 : Cond.static yJ9_max_7cf53 ∈ WT := wt_at 483 (by decide +kernel) (by decide +kernel)
theorem mJ9_max_f86c9 : My yJ9_max_f86c9 cJ9_max_f86c9 4 (some .long) 2 := ⟨wt_at 918 (by decide +kernel) (by decide +kernel), wt_at 101 (by decide +kernel) (by decide +kernel), by decide, by decide, by decide +kernel⟩
theorem sJ9_max_f86c9 : Cond.static yJ9_max_f86c9 ∈ WT := wt_at 917 (by decide +kernel) (by decide +kernel)
theorem mJ9_min_7cf53 : My yJ9_min_7cf53 cJ9_min_7cf53 2 (some .int) 2 := ⟨wt_at 617 (by decide +kernel) (by decide +kernel), wt_at 101 (by decide +kernel) (by decide +kernel), by decide, by decide, by decide +kernel⟩
theorem sJ9_min_7cf53 : Cond.static yJ9_min_7cf53 ∈ WT := wt_at 616 (by decide +kernel) (by decide +kernel)
theorem mX0_commonest : My yX0_commonest cX0_commonest 7 (some .int) 3 := ⟨wt_at 543 (by decide +kernel) (by decide +kernel), wt_at 95 (by decide +kernel) (by decide +kernel), by decide, by decide, by decide +kernel⟩
theorem pnX0_commonest : plainName yX0_commonest.cls = true := by decide +kernel
theorem iX0_commonest : Cond.instanceMethod yX0_commonest ∈ WT := wt_at 542 (by decide +kernel) (by decide +kernel)
theorem eX0_commonest : Cond.selects yX0_commonest.cls yX0_commonest yX0_commonest ∈ WT := wt_at 17 (by decide +kernel) (by decide +kernel)
theorem mX0_howMany : My yX0_howMany cX0_howMany 7 (some .int) 4 := ⟨wt_at 531 (by decide +kernel) (by decide +kernel), wt_at 95 (by decide +kernel) (by decide +kernel), by decide, by decide, by decide +kernel⟩
theorem pnX0_howMany : plainName yX0_howMany.cls = true := by decide +kernel
theorem iX0_howMany : Cond.instanceMethod yX0_howMany ∈ WT := wt_at 530 (by decide +kernel) (by decide +kernel)
theorem eX0_howMany : Cond.selects yX0_howMany.cls yX0_howMany yX0_howMany ∈ WT := wt_at 15 (by decide +kernel) (by decide +kernel)
theorem mX0_init : My yX0_init cX0_init 1 none 0 := ⟨wt_at 239 (by decide +kernel) (by decide +kernel), wt_at 95 (by decide +kernel) (by decide +kernel), by decide, by decide, by decide +kernel⟩
theorem pnX0_init : plainName yX0_init.cls = true := by decide +kernel
theorem iX0_init : Cond.instanceMethod yX0_init ∈ WT := wt_at 238 (by decide +kernel) (by decide +kernel)
theorem mX0_sumAbove : My yX0_sumAbove cX0_sumAbove 7 (some .int) 4 := ⟨wt_at 557 (by decide +kernel) (by decide +kernel), wt_at 95 (by decide +kernel) (by decide +kernel), by decide, by decide, by decide +kernel⟩
theorem pnX0_sumAbove : plainName yX0_sumAbove.cls = true := by decide +kernel
theorem iX0_sumAbove : Cond.instanceMethod yX0_sumAbove ∈ WT := wt_at 556 (by decide +kernel) (by decide +kernel)
theorem eX0_sumAbove : Cond.selects yX0_sumAbove.cls yX0_sumAbove yX0_sumAbove ∈ WT := wt_at 18 (by decide +kernel) (by decide +kernel)
theorem mX10_about : My yX10_about cX10_about 3 (some .int) 2 := ⟨wt_at 1078 (by decide +kernel) (by decide +kernel), wt_at 100 (by decide +kernel) (by decide +kernel), by decide, by decide, by decide +kernel⟩
theorem pnX10_about : plainName yX10_about.cls = true := by decide +kernel
theorem iX10_about : Cond.instanceMethod yX10_about ∈ WT := wt_at 1076 (by decide +kernel) (by decide +kernel)
theorem eX10_about : Cond.selects yX10_about.cls yX10_about yX10_about ∈ WT := wt_at 1077 (by decide +kernel) (by decide +kernel)
theorem mX10_alike : My yX10_alike cX10_alike 12 (some .long) 4 := ⟨wt_at 1154 (by decide +kernel) (by decide +kernel), wt_at 100 (by decide +kernel) (by decide +kernel), by decide, by decide, by decide +kernel⟩
theorem pnX10_alike : plainName yX10_alike.cls = true := by decide +kernel
theorem iX10_alike : Cond.instanceMethod yX10_alike ∈ WT := wt_at 1152 (by decide +kernel) (by decide +kernel)
theorem eX10_alike : Cond.selects yX10_alike.cls yX10_alike yX10_alike ∈ WT := wt_at 1153 (by decide +kernel) (by decide +kernel)
theorem mX10_allWeights : My yX10_allWeights cX10_allWeights 6 (some .long) 2 := ⟨wt_at 1199 (by decide +kernel) (by decide +kernel), wt_at 100 (by decide +kernel) (by decide +kernel), by decide, by decide, by decide +kernel⟩
theorem pnX10_allWeights : plainName yX10_allWeights.cls = true := by decide +kernel
theorem iX10_allWeights : Cond.instanceMethod yX10_allWeights ∈ WT := wt_at 1198 (by decide +kernel) (by decide +kernel)
theorem eX10_allWeights : Cond.selects yX10_allWeights.cls yX10_allWeights yX10_allWeights ∈ WT := wt_at 75 (by decide +kernel) (by decide +kernel)
theorem mX10_areDays : My yX10_areDays cX10_areDays 3 (some .boolean) 3 := ⟨wt_at 1293 (by decide +kernel) (by decide +kernel), wt_at 100 (by decide +kernel) (by decide +kernel), by decide, by decide, by decide +kernel⟩
theorem pnX10_areDays : plainName yX10_areDays.cls = true := by decide +kernel
theorem sX10_areDays : Cond.static yX10_areDays ∈ WT := wt_at 1292 (by decide +kernel) (by decide +kernel)
theorem mX10_best : My yX10_best cX10_best 12 (some .int) 5 := ⟨wt_at 1311 (by decide +kernel) (by decide +kernel), wt_at 100 (by decide +kernel) (by decide +kernel), by decide, by decide, by decide +kernel⟩
theorem pnX10_best : plainName yX10_best.cls = true := by decide +kernel
theorem iX10_best : Cond.instanceMethod yX10_best ∈ WT := wt_at 1309 (by decide +kernel) (by decide +kernel)
theorem eX10_best : Cond.selects yX10_best.cls yX10_best yX10_best ∈ WT := wt_at 1310 (by decide +kernel) (by decide +kernel)
theorem mX10_blast : My yX10_blast cX10_blast 4 (some .int) 2 := ⟨wt_at 1066 (by decide +kernel) (by decide +kernel), wt_at 100 (by decide +kernel) (by decide +kernel), by decide, by decide, by decide +kernel⟩
theorem pnX10_blast : plainName yX10_blast.cls = true := by decide +kernel
theorem iX10_blast : Cond.instanceMethod yX10_blast ∈ WT := wt_at 1064 (by decide +kernel) (by decide +kernel)
theorem eX10_blast : Cond.selects yX10_blast.cls yX10_blast yX10_blast ∈ WT := wt_at 1065 (by decide +kernel) (by decide +kernel)
theorem mX10_choose : My yX10_choose cX10_choose 5 (some .long) 2 := ⟨wt_at 1157 (by decide +kernel) (by decide +kernel), wt_at 100 (by decide +kernel) (by decide +kernel), by decide, by decide, by decide +kernel⟩
theorem pnX10_choose : plainName yX10_choose.cls = true := by decide +kernel
theorem sX10_choose : Cond.static yX10_choose ∈ WT := wt_at 1156 (by decide +kernel) (by decide +kernel)
theorem mX10_countOf : My yX10_countOf cX10_countOf 6 (some .int) 3 := ⟨wt_at 1129 (by decide +kernel) (by decide +kernel), wt_at 100 (by decide +kernel) (by decide +kernel), by decide, by decide, by decide +kernel⟩
theorem pnX10_countOf : plainName yX10_countOf.cls = true := by decide +kernel
theorem iX10_countOf : Cond.instanceMethod yX10_countOf ∈ WT := wt_at 1128 (by decide +kernel) (by decide +kernel)
theorem eX10_countOf : Cond.selects yX10_countOf.cls yX10_countOf yX10_countOf ∈ WT := wt_at 69 (by decide +kernel) (by decide +kernel)
theorem mX10_curve : My yX10_curve cX10_curve 4 (some .int) 1 := ⟨wt_at 1344 (by decide +kernel) (by decide +kernel), wt_at 100 (by decide +kernel) (by decide +kernel), by decide, by decide, by decide +kernel⟩
theorem pnX10_curve : plainName yX10_curve.cls = true := by decide +kernel
theorem iX10_curve : Cond.instanceMethod yX10_curve ∈ WT := wt_at 1342 (by decide +kernel) (by decide +kernel)
theorem eX10_curve : Cond.selects yX10_curve.cls yX10_curve yX10_curve ∈ WT := wt_at 1343 (by decide +kernel) (by decide +kernel)
theorem mX10_damage : My yX10_damage cX10_damage 5 (some .int) 3 := ⟨wt_at 1320 (by decide +kernel) (by decide +kernel), wt_at 100 (by decide +kernel) (by decide +kernel), by decide, by decide, by decide +kernel⟩
theorem pnX10_damage : plainName yX10_damage.cls = true := by decide +kernel
theorem iX10_damage : Cond.instanceMethod yX10_damage ∈ WT := wt_at 1318 (by decide +kernel) (by decide +kernel)
theorem eX10_damage : Cond.selects yX10_damage.cls yX10_damage yX10_damage ∈ WT := wt_at 1319 (by decide +kernel) (by decide +kernel)
theorem mX10_dayStep : My yX10_dayStep cX10_dayStep 3 (some .int) 1 := ⟨wt_at 1195 (by decide +kernel) (by decide +kernel), wt_at 100 (by decide +kernel) (by decide +kernel), by decide, by decide, by decide +kernel⟩
theorem pnX10_dayStep : plainName yX10_dayStep.cls = true := by decide +kernel
theorem sX10_dayStep : Cond.static yX10_dayStep ∈ WT := wt_at 1194 (by decide +kernel) (by decide +kernel)
theorem mX10_depthOf : My yX10_depthOf cX10_depthOf 5 (some .int) 2 := ⟨wt_at 1224 (by decide +kernel) (by decide +kernel), wt_at 100 (by decide +kernel) (by decide +kernel), by decide, by decide, by decide +kernel⟩
theorem pnX10_depthOf : plainName yX10_depthOf.cls = true := by decide +kernel
theorem iX10_depthOf : Cond.instanceMethod yX10_depthOf ∈ WT := wt_at 1223 (by decide +kernel) (by decide +kernel)
theorem eX10_depthOf : Cond.selects yX10_depthOf.cls yX10_depthOf yX10_depthOf ∈ WT := wt_at 79 (by decide +kernel) (by decide +kernel)
theorem mX10_draw : My yX10_draw cX10_draw 7 (some .int) 3 := ⟨wt_at 1232 (by decide +kernel) (by decide +kernel), wt_at 100 (by decide +kernel) (by decide +kernel), by decide, by decide, by decide +kernel⟩
theorem pnX10_draw : plainName yX10_draw.cls = true := by decide +kernel
theorem iX10_draw : Cond.instanceMethod yX10_draw ∈ WT := wt_at 1230 (by decide +kernel) (by decide +kernel)
theorem eX10_draw : Cond.selects yX10_draw.cls yX10_draw yX10_draw ∈ WT := wt_at 1231 (by decide +kernel) (by decide +kernel)
theorem mX10_drawnFor : My yX10_drawnFor cX10_drawnFor 9 (some .int) 3 := ⟨wt_at 1239 (by decide +kernel) (by decide +kernel), wt_at 100 (by decide +kernel) (by decide +kernel), by decide, by decide, by decide +kernel⟩
theorem pnX10_drawnFor : plainName yX10_drawnFor.cls = true := by decide +kernel
theorem iX10_drawnFor : Cond.instanceMethod yX10_drawnFor ∈ WT := wt_at 1238 (by decide +kernel) (by decide +kernel)
theorem eX10_drawnFor : Cond.selects yX10_drawnFor.cls yX10_drawnFor yX10_drawnFor ∈ WT := wt_at 80 (by decide +kernel) (by decide +kernel)
theorem mX10_families : My yX10_families cX10_families 5 (some .int) 2 := ⟨wt_at 1228 (by decide +kernel) (by decide +kernel), wt_at 100 (by decide +kernel) (by decide +kernel), by decide, by decide, by decide +kernel⟩
theorem pnX10_families : plainName yX10_families.cls = true := by decide +kernel
theorem iX10_families : Cond.instanceMethod yX10_families ∈ WT := wt_at 1226 (by decide +kernel) (by decide +kernel)
theorem eX10_families : Cond.selects yX10_families.cls yX10_families yX10_families ∈ WT := wt_at 1227 (by decide +kernel) (by decide +kernel)
theorem mX10_family : My yX10_family cX10_family 9 (some .int) 3 := ⟨wt_at 1215 (by decide +kernel) (by decide +kernel), wt_at 100 (by decide +kernel) (by decide +kernel), by decide, by decide, by decide +kernel⟩
theorem pnX10_family : plainName yX10_family.cls = true := by decide +kernel
theorem iX10_family : Cond.instanceMethod yX10_family ∈ WT := wt_at 1213 (by decide +kernel) (by decide +kernel)
theorem eX10_family : Cond.selects yX10_family.cls yX10_family yX10_family ∈ WT := wt_at 1214 (by decide +kernel) (by decide +kernel)
theorem mX10_far : My yX10_far cX10_far 6 (some .int) 4 := ⟨wt_at 1117 (by decide +kernel) (by decide +kernel), wt_at 100 (by decide +kernel) (by decide +kernel), by decide, by decide, by decide +kernel⟩
theorem pnX10_far : plainName yX10_far.cls = true := by decide +kernel
theorem sX10_far : Cond.static yX10_far ∈ WT := wt_at 1116 (by decide +kernel) (by decide +kernel)
theorem mX10_fault : My yX10_fault cX10_fault 5 (some .int) 0 := ⟨wt_at 1257 (by decide +kernel) (by decide +kernel), wt_at 100 (by decide +kernel) (by decide +kernel), by decide, by decide, by decide +kernel⟩
theorem pnX10_fault : plainName yX10_fault.cls = true := by decide +kernel
theorem iX10_fault : Cond.instanceMethod yX10_fault ∈ WT := wt_at 1255 (by decide +kernel) (by decide +kernel)
theorem eX10_fault : Cond.selects yX10_fault.cls yX10_fault yX10_fault ∈ WT := wt_at 1256 (by decide +kernel) (by decide +kernel)
theorem mX10_few : My yX10_few cX10_few 9 (some .long) 5 := ⟨wt_at 1161 (by decide +kernel) (by decide +kernel), wt_at 100 (by decide +kernel) (by decide +kernel), by decide, by decide, by decide +kernel⟩
theorem pnX10_few : plainName yX10_few.cls = true := by decide +kernel
theorem iX10_few : Cond.instanceMethod yX10_few ∈ WT := wt_at 1159 (by decide +kernel) (by decide +kernel)
theorem eX10_few : Cond.selects yX10_few.cls yX10_few yX10_few ∈ WT := wt_at 1160 (by decide +kernel) (by decide +kernel)
theorem mX10_findJoins : My yX10_findJoins cX10_findJoins 6 none 0 := ⟨wt_at 1103 (by decide +kernel) (by decide +kernel), wt_at 100 (by decide +kernel) (by decide +kernel), by decide, by decide, by decide +kernel⟩
theorem pnX10_findJoins : plainName yX10_findJoins.cls = true := by decide +kernel
theorem iX10_findJoins : Cond.instanceMethod yX10_findJoins ∈ WT := wt_at 1102 (by decide +kernel) (by decide +kernel)
theorem eX10_findJoins : Cond.selects yX10_findJoins.cls yX10_findJoins yX10_findJoins ∈ WT := wt_at 66 (by decide +kernel) (by decide +kernel)
theorem mX10_firstOf : My yX10_firstOf cX10_firstOf 5 (some .int) 2 := ⟨wt_at 1220 (by decide +kernel) (by decide +kernel), wt_at 100 (by decide +kernel) (by decide +kernel), by decide, by decide, by decide +kernel⟩
theorem pnX10_firstOf : plainName yX10_firstOf.cls = true := by decide +kernel
theorem iX10_firstOf : Cond.instanceMethod yX10_firstOf ∈ WT := wt_at 1219 (by decide +kernel) (by decide +kernel)
theorem eX10_firstOf : Cond.selects yX10_firstOf.cls yX10_firstOf yX10_firstOf ∈ WT := wt_at 78 (by decide +kernel) (by decide +kernel)
theorem mX10_forecast : My yX10_forecast cX10_forecast 2 (some .int) 0 := ⟨wt_at 1269 (by decide +kernel) (by decide +kernel), wt_at 100 (by decide +kernel) (by decide +kernel), by decide, by decide, by decide +kernel⟩
theorem pnX10_forecast : plainName yX10_forecast.cls = true := by decide +kernel
theorem iX10_forecast : Cond.instanceMethod yX10_forecast ∈ WT := wt_at 1267 (by decide +kernel) (by decide +kernel)
theorem eX10_forecast : Cond.selects yX10_forecast.cls yX10_forecast yX10_forecast ∈ WT := wt_at 1268 (by decide +kernel) (by decide +kernel)
theorem mX10_hasQuake : My yX10_hasQuake cX10_hasQuake 5 (some .boolean) 2 := ⟨wt_at 1301 (by decide +kernel) (by decide +kernel), wt_at 100 (by decide +kernel) (by decide +kernel), by decide, by decide, by decide +kernel⟩
theorem pnX10_hasQuake : plainName yX10_hasQuake.cls = true := by decide +kernel
theorem iX10_hasQuake : Cond.instanceMethod yX10_hasQuake ∈ WT := wt_at 1300 (by decide +kernel) (by decide +kernel)
theorem eX10_hasQuake : Cond.selects yX10_hasQuake.cls yX10_hasQuake yX10_hasQuake ∈ WT := wt_at 85 (by decide +kernel) (by decide +kernel)
theorem mX10_house : My yX10_house cX10_house 6 (some .int) 5 := ⟨wt_at 1315 (by decide +kernel) (by decide +kernel), wt_at 100 (by decide +kernel) (by decide +kernel), by decide, by decide, by decide +kernel⟩
theorem pnX10_house : plainName yX10_house.cls = true := by decide +kernel
theorem iX10_house : Cond.instanceMethod yX10_house ∈ WT := wt_at 1313 (by decide +kernel) (by decide +kernel)
theorem eX10_house : Cond.selects yX10_house.cls yX10_house yX10_house ∈ WT := wt_at 1314 (by decide +kernel) (by decide +kernel)
theorem mX10_in : My yX10_in cX10_in 6 (some .boolean) 3 := ⟨wt_at 1050 (by decide +kernel) (by decide +kernel), wt_at 100 (by decide +kernel) (by decide +kernel), by decide, by decide, by decide +kernel⟩
theorem pnX10_in : plainName yX10_in.cls = true := by decide +kernel
theorem sX10_in : Cond.static yX10_in ∈ WT := wt_at 1049 (by decide +kernel) (by decide +kernel)
theorem mX10_init : My yX10_init cX10_init 1 none 0 := ⟨wt_at 934 (by decide +kernel) (by decide +kernel), wt_at 100 (by decide +kernel) (by decide +kernel), by decide, by decide, by decide +kernel⟩
theorem pnX10_init : plainName yX10_init.cls = true := by decide +kernel
theorem iX10_init : Cond.instanceMethod yX10_init ∈ WT := wt_at 933 (by decide +kernel) (by decide +kernel)
theorem mX10_isAhead : My yX10_isAhead cX10_isAhead 3 (some .boolean) 2 := ⟨wt_at 1184 (by decide +kernel) (by decide +kernel), wt_at 100 (by decide +kernel) (by decide +kernel), by decide, by decide, by decide +kernel⟩
theorem pnX10_isAhead : plainName yX10_isAhead.cls = true := by decide +kernel
theorem iX10_isAhead : Cond.instanceMethod yX10_isAhead ∈ WT := wt_at 1183 (by decide +kernel) (by decide +kernel)
theorem eX10_isAhead : Cond.selects yX10_isAhead.cls yX10_isAhead yX10_isAhead ∈ WT := wt_at 72 (by decide +kernel) (by decide +kernel)
theorem mX10_isCell : My yX10_isCell cX10_isCell 2 (some .boolean) 2 := ⟨wt_at 1053 (by decide +kernel) (by decide +kernel), wt_at 100 (by decide +kernel) (by decide +kernel), by decide, by decide, by decide +kernel⟩
theorem pnX10_isCell : plainName yX10_isCell.cls = true := by decide +kernel
theorem sX10_isCell : Cond.static yX10_isCell ∈ WT := wt_at 1052 (by decide +kernel) (by decide +kernel)
theorem mX10_isCounted : My yX10_isCounted cX10_isCounted 4 (some .boolean) 3 := ⟨wt_at 1133 (by decide +kernel) (by decide +kernel), wt_at 100 (by decide +kernel) (by decide +kernel), by decide, by decide, by decide +kernel⟩
theorem pnX10_isCounted : plainName yX10_isCounted.cls = true := by decide +kernel
theorem iX10_isCounted : Cond.instanceMethod yX10_isCounted ∈ WT := wt_at 1132 (by decide +kernel) (by decide +kernel)
theorem eX10_isCounted : Cond.selects yX10_isCounted.cls yX10_isCounted yX10_isCounted ∈ WT := wt_at 70 (by decide +kernel) (by decide +kernel)
theorem mX10_isDay : My yX10_isDay cX10_isDay 1 (some .boolean) 1 := ⟨wt_at 1057 (by decide +kernel) (by decide +kernel), wt_at 100 (by decide +kernel) (by decide +kernel), by decide, by decide, by decide +kernel⟩
theorem pnX10_isDay : plainName yX10_isDay.cls = true := by decide +kernel
theorem sX10_isDay : Cond.static yX10_isDay ∈ WT := wt_at 1056 (by decide +kernel) (by decide +kernel)
theorem mX10_isDigit : My yX10_isDigit cX10_isDigit 1 (some .boolean) 1 := ⟨wt_at 1260 (by decide +kernel) (by decide +kernel), wt_at 100 (by decide +kernel) (by decide +kernel), by decide, by decide, by decide +kernel⟩
theorem pnX10_isDigit : plainName yX10_isDigit.cls = true := by decide +kernel
theorem sX10_isDigit : Cond.static yX10_isDigit ∈ WT := wt_at 1259 (by decide +kernel) (by decide +kernel)
theorem mX10_isForecast : My yX10_isForecast cX10_isForecast 2 (some .boolean) 1 := ⟨wt_at 1278 (by decide +kernel) (by decide +kernel), wt_at 100 (by decide +kernel) (by decide +kernel), by decide, by decide, by decide +kernel⟩
theorem pnX10_isForecast : plainName yX10_isForecast.cls = true := by decide +kernel
theorem iX10_isForecast : Cond.instanceMethod yX10_isForecast ∈ WT := wt_at 1277 (by decide +kernel) (by decide +kernel)
theorem eX10_isForecast : Cond.selects yX10_isForecast.cls yX10_isForecast yX10_isForecast ∈ WT := wt_at 81 (by decide +kernel) (by decide +kernel)
theorem mX10_isGreat : My yX10_isGreat cX10_isGreat 1 (some .boolean) 1 := ⟨wt_at 1061 (by decide +kernel) (by decide +kernel), wt_at 100 (by decide +kernel) (by decide +kernel), by decide, by decide, by decide +kernel⟩
theorem pnX10_isGreat : plainName yX10_isGreat.cls = true := by decide +kernel
theorem sX10_isGreat : Cond.static yX10_isGreat ∈ WT := wt_at 1060 (by decide +kernel) (by decide +kernel)
theorem mX10_isList : My yX10_isList cX10_isList 1 (some .boolean) 1 := ⟨wt_at 1046 (by decide +kernel) (by decide +kernel), wt_at 100 (by decide +kernel) (by decide +kernel), by decide, by decide, by decide +kernel⟩
theorem pnX10_isList : plainName yX10_isList.cls = true := by decide +kernel
theorem sX10_isList : Cond.static yX10_isList ∈ WT := wt_at 1045 (by decide +kernel) (by decide +kernel)
theorem mX10_isPart : My yX10_isPart cX10_isPart 1 (some .boolean) 1 := ⟨wt_at 1145 (by decide +kernel) (by decide +kernel), wt_at 100 (by decide +kernel) (by decide +kernel), by decide, by decide, by decide +kernel⟩
theorem pnX10_isPart : plainName yX10_isPart.cls = true := by decide +kernel
theorem sX10_isPart : Cond.static yX10_isPart ∈ WT := wt_at 1144 (by decide +kernel) (by decide +kernel)
theorem mX10_isQuake : My yX10_isQuake cX10_isQuake 2 (some .boolean) 1 := ⟨wt_at 1070 (by decide +kernel) (by decide +kernel), wt_at 100 (by decide +kernel) (by decide +kernel), by decide, by decide, by decide +kernel⟩
theorem pnX10_isQuake : plainName yX10_isQuake.cls = true := by decide +kernel
theorem iX10_isQuake : Cond.instanceMethod yX10_isQuake ∈ WT := wt_at 1069 (by decide +kernel) (by decide +kernel)
theorem eX10_isQuake : Cond.selects yX10_isQuake.cls yX10_isQuake yX10_isQuake ∈ WT := wt_at 63 (by decide +kernel) (by decide +kernel)
theorem mX10_join : My yX10_join cX10_join 11 (some .int) 3 := ⟨wt_at 1095 (by decide +kernel) (by decide +kernel), wt_at 100 (by decide +kernel) (by decide +kernel), by decide, by decide, by decide +kernel⟩
theorem pnX10_join : plainName yX10_join.cls = true := by decide +kernel
theorem iX10_join : Cond.instanceMethod yX10_join ∈ WT := wt_at 1093 (by decide +kernel) (by decide +kernel)
theorem eX10_join : Cond.selects yX10_join.cls yX10_join yX10_join ∈ WT := wt_at 1094 (by decide +kernel) (by decide +kernel)
theorem mX10_joinBy : My yX10_joinBy cX10_joinBy 5 (some .int) 3 := ⟨wt_at 1107 (by decide +kernel) (by decide +kernel), wt_at 100 (by decide +kernel) (by decide +kernel), by decide, by decide, by decide +kernel⟩
theorem pnX10_joinBy : plainName yX10_joinBy.cls = true := by decide +kernel
theorem iX10_joinBy : Cond.instanceMethod yX10_joinBy ∈ WT := wt_at 1106 (by decide +kernel) (by decide +kernel)
theorem eX10_joinBy : Cond.selects yX10_joinBy.cls yX10_joinBy yX10_joinBy ∈ WT := wt_at 67 (by decide +kernel) (by decide +kernel)
theorem mX10_law : My yX10_law cX10_law 5 (some .int) 4 := ⟨wt_at 1340 (by decide +kernel) (by decide +kernel), wt_at 100 (by decide +kernel) (by decide +kernel), by decide, by decide, by decide +kernel⟩
theorem pnX10_law : plainName yX10_law.cls = true := by decide +kernel
theorem iX10_law : Cond.instanceMethod yX10_law ∈ WT := wt_at 1338 (by decide +kernel) (by decide +kernel)
theorem eX10_law : Cond.selects yX10_law.cls yX10_law yX10_law ∈ WT := wt_at 1339 (by decide +kernel) (by decide +kernel)
theorem mX10_lawLoss : My yX10_lawLoss cX10_lawLoss 3 (some .int) 2 := ⟨wt_at 1348 (by decide +kernel) (by decide +kernel), wt_at 100 (by decide +kernel) (by decide +kernel), by decide, by decide, by decide +kernel⟩
theorem pnX10_lawLoss : plainName yX10_lawLoss.cls = true := by decide +kernel
theorem iX10_lawLoss : Cond.instanceMethod yX10_lawLoss ∈ WT := wt_at 1347 (by decide +kernel) (by decide +kernel)
theorem eX10_lawLoss : Cond.selects yX10_lawLoss.cls yX10_lawLoss yX10_lawLoss ∈ WT := wt_at 88 (by decide +kernel) (by decide +kernel)
theorem mX10_listed : My yX10_listed cX10_listed 5 (some .int) 2 := ⟨wt_at 1099 (by decide +kernel) (by decide +kernel), wt_at 100 (by decide +kernel) (by decide +kernel), by decide, by decide, by decide +kernel⟩
theorem pnX10_listed : plainName yX10_listed.cls = true := by decide +kernel
theorem iX10_listed : Cond.instanceMethod yX10_listed ∈ WT := wt_at 1098 (by decide +kernel) (by decide +kernel)
theorem eX10_listed : Cond.selects yX10_listed.cls yX10_listed yX10_listed ∈ WT := wt_at 65 (by decide +kernel) (by decide +kernel)
theorem mX10_loss : My yX10_loss cX10_loss 2 (some .int) 1 := ⟨wt_at 1324 (by decide +kernel) (by decide +kernel), wt_at 100 (by decide +kernel) (by decide +kernel), by decide, by decide, by decide +kernel⟩
theorem pnX10_loss : plainName yX10_loss.cls = true := by decide +kernel
theorem iX10_loss : Cond.instanceMethod yX10_loss ∈ WT := wt_at 1322 (by decide +kernel) (by decide +kernel)
theorem eX10_loss : Cond.selects yX10_loss.cls yX10_loss yX10_loss ∈ WT := wt_at 1323 (by decide +kernel) (by decide +kernel)
theorem mX10_lossBy : My yX10_lossBy cX10_lossBy 9 (some .int) 4 := ⟨wt_at 1332 (by decide +kernel) (by decide +kernel), wt_at 100 (by decide +kernel) (by decide +kernel), by decide, by decide, by decide +kernel⟩
theorem pnX10_lossBy : plainName yX10_lossBy.cls = true := by decide +kernel
theorem iX10_lossBy : Cond.instanceMethod yX10_lossBy ∈ WT := wt_at 1331 (by decide +kernel) (by decide +kernel)
theorem eX10_lossBy : Cond.selects yX10_lossBy.cls yX10_lossBy yX10_lossBy ∈ WT := wt_at 87 (by decide +kernel) (by decide +kernel)
theorem mX10_lossOf : My yX10_lossOf cX10_lossOf 2 (some .int) 1 := ⟨wt_at 1328 (by decide +kernel) (by decide +kernel), wt_at 100 (by decide +kernel) (by decide +kernel), by decide, by decide, by decide +kernel⟩
theorem pnX10_lossOf : plainName yX10_lossOf.cls = true := by decide +kernel
theorem iX10_lossOf : Cond.instanceMethod yX10_lossOf ∈ WT := wt_at 1327 (by decide +kernel) (by decide +kernel)
theorem eX10_lossOf : Cond.selects yX10_lossOf.cls yX10_lossOf yX10_lossOf ∈ WT := wt_at 86 (by decide +kernel) (by decide +kernel)
theorem mX10_lowest : My yX10_lowest cX10_lowest 11 (some .long) 3 := ⟨wt_at 1150 (by decide +kernel) (by decide +kernel), wt_at 100 (by decide +kernel) (by decide +kernel), by decide, by decide, by decide +kernel⟩
theorem pnX10_lowest : plainName yX10_lowest.cls = true := by decide +kernel
theorem sX10_lowest : Cond.static yX10_lowest ∈ WT := wt_at 1149 (by decide +kernel) (by decide +kernel)
theorem mX10_manyAhead : My yX10_manyAhead cX10_manyAhead 7 (some .int) 3 := ⟨wt_at 1286 (by decide +kernel) (by decide +kernel), wt_at 100 (by decide +kernel) (by decide +kernel), by decide, by decide, by decide +kernel⟩
theorem pnX10_manyAhead : plainName yX10_manyAhead.cls = true := by decide +kernel
theorem iX10_manyAhead : Cond.instanceMethod yX10_manyAhead ∈ WT := wt_at 1285 (by decide +kernel) (by decide +kernel)
theorem eX10_manyAhead : Cond.selects yX10_manyAhead.cls yX10_manyAhead yX10_manyAhead ∈ WT := wt_at 83 (by decide +kernel) (by decide +kernel)
theorem mX10_markOf : My yX10_markOf cX10_markOf 1 (some .int) 1 := ⟨wt_at 1265 (by decide +kernel) (by decide +kernel), wt_at 100 (by decide +kernel) (by decide +kernel), by decide, by decide, by decide +kernel⟩
theorem pnX10_markOf : plainName yX10_markOf.cls = true := by decide +kernel
theorem sX10_markOf : Cond.static yX10_markOf ∈ WT := wt_at 1264 (by decide +kernel) (by decide +kernel)
theorem mX10_mayBear : My yX10_mayBear cX10_mayBear 4 (some .boolean) 3 := ⟨wt_at 1180 (by decide +kernel) (by decide +kernel), wt_at 100 (by decide +kernel) (by decide +kernel), by decide, by decide, by decide +kernel⟩
theorem pnX10_mayBear : plainName yX10_mayBear.cls = true := by decide +kernel
theorem iX10_mayBear : Cond.instanceMethod yX10_mayBear ∈ WT := wt_at 1179 (by decide +kernel) (by decide +kernel)
theorem eX10_mayBear : Cond.selects yX10_mayBear.cls yX10_mayBear yX10_mayBear ∈ WT := wt_at 71 (by decide +kernel) (by decide +kernel)
theorem mX10_mayList : My yX10_mayList cX10_mayList 1 (some .boolean) 1 := ⟨wt_at 1124 (by decide +kernel) (by decide +kernel), wt_at 100 (by decide +kernel) (by decide +kernel), by decide, by decide, by decide +kernel⟩
theorem pnX10_mayList : plainName yX10_mayList.cls = true := by decide +kernel
theorem sX10_mayList : Cond.static yX10_mayList ∈ WT := wt_at 1123 (by decide +kernel) (by decide +kernel)
theorem mX10_mean : My yX10_mean cX10_mean 2 (some .long) 1 := ⟨wt_at 1352 (by decide +kernel) (by decide +kernel), wt_at 100 (by decide +kernel) (by decide +kernel), by decide, by decide, by decide +kernel⟩
theorem pnX10_mean : plainName yX10_mean.cls = true := by decide +kernel
theorem iX10_mean : Cond.instanceMethod yX10_mean ∈ WT := wt_at 1350 (by decide +kernel) (by decide +kernel)
theorem eX10_mean : Cond.selects yX10_mean.cls yX10_mean yX10_mean ∈ WT := wt_at 1351 (by decide +kernel) (by decide +kernel)
theorem mX10_meanOf : My yX10_meanOf cX10_meanOf 5 (some .long) 1 := ⟨wt_at 1356 (by decide +kernel) (by decide +kernel), wt_at 100 (by decide +kernel) (by decide +kernel), by decide, by decide, by decide +kernel⟩
theorem pnX10_meanOf : plainName yX10_meanOf.cls = true := by decide +kernel
theorem iX10_meanOf : Cond.instanceMethod yX10_meanOf ∈ WT := wt_at 1355 (by decide +kernel) (by decide +kernel)
theorem eX10_meanOf : Cond.selects yX10_meanOf.cls yX10_meanOf yX10_meanOf ∈ WT := wt_at 89 (by decide +kernel) (by decide +kernel)
theorem mX10_mend : My yX10_mend cX10_mend 4 (some .int) 2 := ⟨wt_at 1074 (by decide +kernel) (by decide +kernel), wt_at 100 (by decide +kernel) (by decide +kernel), by decide, by decide, by decide +kernel⟩
theorem pnX10_mend : plainName yX10_mend.cls = true := by decide +kernel
theorem iX10_mend : Cond.instanceMethod yX10_mend ∈ WT := wt_at 1072 (by decide +kernel) (by decide +kernel)
theorem eX10_mend : Cond.selects yX10_mend.cls yX10_mend yX10_mend ∈ WT := wt_at 1073 (by decide +kernel) (by decide +kernel)
theorem mX10_missOf : My yX10_missOf cX10_missOf 6 (some .int) 2 := ⟨wt_at 1111 (by decide +kernel) (by decide +kernel), wt_at 100 (by decide +kernel) (by decide +kernel), by decide, by decide, by decide +kernel⟩
theorem pnX10_missOf : plainName yX10_missOf.cls = true := by decide +kernel
theorem iX10_missOf : Cond.instanceMethod yX10_missOf ∈ WT := wt_at 1110 (by decide +kernel) (by decide +kernel)
theorem eX10_missOf : Cond.selects yX10_missOf.cls yX10_missOf yX10_missOf ∈ WT := wt_at 68 (by decide +kernel) (by decide +kernel)
theorem mX10_mixed : My yX10_mixed cX10_mixed 7 (some .long) 6 := ⟨wt_at 1306 (by decide +kernel) (by decide +kernel), wt_at 100 (by decide +kernel) (by decide +kernel), by decide, by decide, by decide +kernel⟩
theorem pnX10_mixed : plainName yX10_mixed.cls = true := by decide +kernel
theorem iX10_mixed : Cond.instanceMethod yX10_mixed ∈ WT := wt_at 1304 (by decide +kernel) (by decide +kernel)
theorem eX10_mixed : Cond.selects yX10_mixed.cls yX10_mixed yX10_mixed ∈ WT := wt_at 1305 (by decide +kernel) (by decide +kernel)
theorem mX10_mostOf : My yX10_mostOf cX10_mostOf 1 (some .int) 1 := ⟨wt_at 1090 (by decide +kernel) (by decide +kernel), wt_at 100 (by decide +kernel) (by decide +kernel), by decide, by decide, by decide +kernel⟩
theorem pnX10_mostOf : plainName yX10_mostOf.cls = true := by decide +kernel
theorem sX10_mostOf : Cond.static yX10_mostOf ∈ WT := wt_at 1089 (by decide +kernel) (by decide +kernel)
theorem mX10_mother : My yX10_mother cX10_mother 4 (some .int) 2 := ⟨wt_at 1203 (by decide +kernel) (by decide +kernel), wt_at 100 (by decide +kernel) (by decide +kernel), by decide, by decide, by decide +kernel⟩
theorem pnX10_mother : plainName yX10_mother.cls = true := by decide +kernel
theorem iX10_mother : Cond.instanceMethod yX10_mother ∈ WT := wt_at 1201 (by decide +kernel) (by decide +kernel)
theorem eX10_mother : Cond.selects yX10_mother.cls yX10_mother yX10_mother ∈ WT := wt_at 1202 (by decide +kernel) (by decide +kernel)
theorem mX10_motherOf : My yX10_motherOf cX10_motherOf 7 (some .int) 2 := ⟨wt_at 1211 (by decide +kernel) (by decide +kernel), wt_at 100 (by decide +kernel) (by decide +kernel), by decide, by decide, by decide +kernel⟩
theorem pnX10_motherOf : plainName yX10_motherOf.cls = true := by decide +kernel
theorem iX10_motherOf : Cond.instanceMethod yX10_motherOf ∈ WT := wt_at 1210 (by decide +kernel) (by decide +kernel)
theorem eX10_motherOf : Cond.selects yX10_motherOf.cls yX10_motherOf yX10_motherOf ∈ WT := wt_at 77 (by decide +kernel) (by decide +kernel)
theorem mX10_often : My yX10_often cX10_often 4 (some .int) 3 := ⟨wt_at 1121 (by decide +kernel) (by decide +kernel), wt_at 100 (by decide +kernel) (by decide +kernel), by decide, by decide, by decide +kernel⟩
theorem pnX10_often : plainName yX10_often.cls = true := by decide +kernel
theorem iX10_often : Cond.instanceMethod yX10_often ∈ WT := wt_at 1119 (by decide +kernel) (by decide +kernel)
theorem eX10_often : Cond.selects yX10_often.cls yX10_often yX10_often ∈ WT := wt_at 1120 (by decide +kernel) (by decide +kernel)
theorem mX10_placeOf : My yX10_placeOf cX10_placeOf 3 (some .int) 1 := ⟨wt_at 1082 (by decide +kernel) (by decide +kernel), wt_at 100 (by decide +kernel) (by decide +kernel), by decide, by decide, by decide +kernel⟩
theorem pnX10_placeOf : plainName yX10_placeOf.cls = true := by decide +kernel
theorem iX10_placeOf : Cond.instanceMethod yX10_placeOf ∈ WT := wt_at 1081 (by decide +kernel) (by decide +kernel)
theorem eX10_placeOf : Cond.selects yX10_placeOf.cls yX10_placeOf yX10_placeOf ∈ WT := wt_at 64 (by decide +kernel) (by decide +kernel)
theorem mX10_power : My yX10_power cX10_power 6 (some .long) 2 := ⟨wt_at 1166 (by decide +kernel) (by decide +kernel), wt_at 100 (by decide +kernel) (by decide +kernel), by decide, by decide, by decide +kernel⟩
theorem pnX10_power : plainName yX10_power.cls = true := by decide +kernel
theorem sX10_power : Cond.static yX10_power ∈ WT := wt_at 1165 (by decide +kernel) (by decide +kernel)
theorem mX10_priceOf : My yX10_priceOf cX10_priceOf 4 (some .int) 1 := ⟨wt_at 1365 (by decide +kernel) (by decide +kernel), wt_at 100 (by decide +kernel) (by decide +kernel), by decide, by decide, by decide +kernel⟩
theorem pnX10_priceOf : plainName yX10_priceOf.cls = true := by decide +kernel
theorem iX10_priceOf : Cond.instanceMethod yX10_priceOf ∈ WT := wt_at 1364 (by decide +kernel) (by decide +kernel)
theorem eX10_priceOf : Cond.selects yX10_priceOf.cls yX10_priceOf yX10_priceOf ∈ WT := wt_at 90 (by decide +kernel) (by decide +kernel)
theorem mX10_quake : My yX10_quake cX10_quake 8 (some .int) 6 := ⟨wt_at 1043 (by decide +kernel) (by decide +kernel), wt_at 100 (by decide +kernel) (by decide +kernel), by decide, by decide, by decide +kernel⟩
theorem pnX10_quake : plainName yX10_quake.cls = true := by decide +kernel
theorem iX10_quake : Cond.instanceMethod yX10_quake ∈ WT := wt_at 1041 (by decide +kernel) (by decide +kernel)
theorem eX10_quake : Cond.selects yX10_quake.cls yX10_quake yX10_quake ∈ WT := wt_at 1042 (by decide +kernel) (by decide +kernel)
theorem mX10_rate : My yX10_rate cX10_rate 7 (some .int) 4 := ⟨wt_at 1243 (by decide +kernel) (by decide +kernel), wt_at 100 (by decide +kernel) (by decide +kernel), by decide, by decide, by decide +kernel⟩
theorem pnX10_rate : plainName yX10_rate.cls = true := by decide +kernel
theorem iX10_rate : Cond.instanceMethod yX10_rate ∈ WT := wt_at 1241 (by decide +kernel) (by decide +kernel)
theorem eX10_rate : Cond.selects yX10_rate.cls yX10_rate yX10_rate ∈ WT := wt_at 1242 (by decide +kernel) (by decide +kernel)
theorem mX10_say : My yX10_say cX10_say 2 (some .int) 1 := ⟨wt_at 1247 (by decide +kernel) (by decide +kernel), wt_at 100 (by decide +kernel) (by decide +kernel), by decide, by decide, by decide +kernel⟩
theorem pnX10_say : plainName yX10_say.cls = true := by decide +kernel
theorem iX10_say : Cond.instanceMethod yX10_say ∈ WT := wt_at 1245 (by decide +kernel) (by decide +kernel)
theorem eX10_say : Cond.selects yX10_say.cls yX10_say yX10_say ∈ WT := wt_at 1246 (by decide +kernel) (by decide +kernel)
theorem mX10_score : My yX10_score cX10_score 5 (some .long) 4 := ⟨wt_at 1290 (by decide +kernel) (by decide +kernel), wt_at 100 (by decide +kernel) (by decide +kernel), by decide, by decide, by decide +kernel⟩
theorem pnX10_score : plainName yX10_score.cls = true := by decide +kernel
theorem iX10_score : Cond.instanceMethod yX10_score ∈ WT := wt_at 1288 (by decide +kernel) (by decide +kernel)
theorem eX10_score : Cond.selects yX10_score.cls yX10_score yX10_score ∈ WT := wt_at 1289 (by decide +kernel) (by decide +kernel)
theorem mX10_scoreOf : My yX10_scoreOf cX10_scoreOf 14 (some .long) 6 := ⟨wt_at 1297 (by decide +kernel) (by decide +kernel), wt_at 100 (by decide +kernel) (by decide +kernel), by decide, by decide, by decide +kernel⟩
theorem pnX10_scoreOf : plainName yX10_scoreOf.cls = true := by decide +kernel
theorem iX10_scoreOf : Cond.instanceMethod yX10_scoreOf ∈ WT := wt_at 1296 (by decide +kernel) (by decide +kernel)
theorem eX10_scoreOf : Cond.selects yX10_scoreOf.cls yX10_scoreOf yX10_scoreOf ∈ WT := wt_at 84 (by decide +kernel) (by decide +kernel)
theorem mX10_set : My yX10_set cX10_set 4 (some .int) 2 := ⟨wt_at 1086 (by decide +kernel) (by decide +kernel), wt_at 100 (by decide +kernel) (by decide +kernel), by decide, by decide, by decide +kernel⟩
theorem pnX10_set : plainName yX10_set.cls = true := by decide +kernel
theorem iX10_set : Cond.instanceMethod yX10_set ∈ WT := wt_at 1084 (by decide +kernel) (by decide +kernel)
theorem eX10_set : Cond.selects yX10_set.cls yX10_set yX10_set ∈ WT := wt_at 1085 (by decide +kernel) (by decide +kernel)
theorem mX10_share : My yX10_share cX10_share 7 (some .long) 4 := ⟨wt_at 1176 (by decide +kernel) (by decide +kernel), wt_at 100 (by decide +kernel) (by decide +kernel), by decide, by decide, by decide +kernel⟩
theorem pnX10_share : plainName yX10_share.cls = true := by decide +kernel
theorem iX10_share : Cond.instanceMethod yX10_share ∈ WT := wt_at 1174 (by decide +kernel) (by decide +kernel)
theorem eX10_share : Cond.selects yX10_share.cls yX10_share yX10_share ∈ WT := wt_at 1175 (by decide +kernel) (by decide +kernel)
theorem mX10_size : My yX10_size cX10_size 1 (some .int) 1 := ⟨wt_at 1114 (by decide +kernel) (by decide +kernel), wt_at 100 (by decide +kernel) (by decide +kernel), by decide, by decide, by decide +kernel⟩
theorem pnX10_size : plainName yX10_size.cls = true := by decide +kernel
theorem sX10_size : Cond.static yX10_size ∈ WT := wt_at 1113 (by decide +kernel) (by decide +kernel)
theorem mX10_slope : My yX10_slope cX10_slope 10 (some .long) 4 := ⟨wt_at 1141 (by decide +kernel) (by decide +kernel), wt_at 100 (by decide +kernel) (by decide +kernel), by decide, by decide, by decide +kernel⟩
theorem pnX10_slope : plainName yX10_slope.cls = true := by decide +kernel
theorem iX10_slope : Cond.instanceMethod yX10_slope ∈ WT := wt_at 1139 (by decide +kernel) (by decide +kernel)
theorem eX10_slope : Cond.selects yX10_slope.cls yX10_slope yX10_slope ∈ WT := wt_at 1140 (by decide +kernel) (by decide +kernel)
theorem mX10_step : My yX10_step cX10_step 5 (some .int) 3 := ⟨wt_at 1170 (by decide +kernel) (by decide +kernel), wt_at 100 (by decide +kernel) (by decide +kernel), by decide, by decide, by decide +kernel⟩
theorem pnX10_step : plainName yX10_step.cls = true := by decide +kernel
theorem iX10_step : Cond.instanceMethod yX10_step ∈ WT := wt_at 1168 (by decide +kernel) (by decide +kernel)
theorem eX10_step : Cond.selects yX10_step.cls yX10_step yX10_step ∈ WT := wt_at 1169 (by decide +kernel) (by decide +kernel)
theorem mX10_strengthen : My yX10_strengthen cX10_strengthen 6 (some .int) 1 := ⟨wt_at 1360 (by decide +kernel) (by decide +kernel), wt_at 100 (by decide +kernel) (by decide +kernel), by decide, by decide, by decide +kernel⟩
theorem pnX10_strengthen : plainName yX10_strengthen.cls = true := by decide +kernel
theorem iX10_strengthen : Cond.instanceMethod yX10_strengthen ∈ WT := wt_at 1358 (by decide +kernel) (by decide +kernel)
theorem eX10_strengthen : Cond.selects yX10_strengthen.cls yX10_strengthen yX10_strengthen ∈ WT := wt_at 1359 (by decide +kernel) (by decide +kernel)
theorem mX10_tells : My yX10_tells cX10_tells 3 (some .int) 2 := ⟨wt_at 1274 (by decide +kernel) (by decide +kernel), wt_at 100 (by decide +kernel) (by decide +kernel), by decide, by decide, by decide +kernel⟩
theorem pnX10_tells : plainName yX10_tells.cls = true := by decide +kernel
theorem iX10_tells : Cond.instanceMethod yX10_tells ∈ WT := wt_at 1272 (by decide +kernel) (by decide +kernel)
theorem eX10_tells : Cond.selects yX10_tells.cls yX10_tells yX10_tells ∈ WT := wt_at 1273 (by decide +kernel) (by decide +kernel)
theorem mX10_told : My yX10_told cX10_told 4 (some .int) 1 := ⟨wt_at 1369 (by decide +kernel) (by decide +kernel), wt_at 100 (by decide +kernel) (by decide +kernel), by decide, by decide, by decide +kernel⟩
theorem pnX10_told : plainName yX10_told.cls = true := by decide +kernel
theorem iX10_told : Cond.instanceMethod yX10_told ∈ WT := wt_at 1367 (by decide +kernel) (by decide +kernel)
theorem eX10_told : Cond.selects yX10_told.cls yX10_told yX10_told ∈ WT := wt_at 1368 (by decide +kernel) (by decide +kernel)
theorem mX10_toldFor : My yX10_toldFor cX10_toldFor 6 (some .int) 2 := ⟨wt_at 1282 (by decide +kernel) (by decide +kernel), wt_at 100 (by decide +kernel) (by decide +kernel), by decide, by decide, by decide +kernel⟩
theorem pnX10_toldFor : plainName yX10_toldFor.cls = true := by decide +kernel
theorem iX10_toldFor : Cond.instanceMethod yX10_toldFor ∈ WT := wt_at 1281 (by decide +kernel) (by decide +kernel)
theorem eX10_toldFor : Cond.selects yX10_toldFor.cls yX10_toldFor yX10_toldFor ∈ WT := wt_at 82 (by decide +kernel) (by decide +kernel)
theorem mX10_weigh : My yX10_weigh cX10_weigh 6 (some .int) 4 := ⟨wt_at 1192 (by decide +kernel) (by decide +kernel), wt_at 100 (by decide +kernel) (by decide +kernel), by decide, by decide, by decide +kernel⟩
theorem pnX10_weigh : plainName yX10_weigh.cls = true := by decide +kernel
theorem iX10_weigh : Cond.instanceMethod yX10_weigh ∈ WT := wt_at 1191 (by decide +kernel) (by decide +kernel)
theorem eX10_weigh : Cond.selects yX10_weigh.cls yX10_weigh yX10_weigh ∈ WT := wt_at 74 (by decide +kernel) (by decide +kernel)
theorem mX10_weightOf : My yX10_weightOf cX10_weightOf 3 (some .int) 2 := ⟨wt_at 1188 (by decide +kernel) (by decide +kernel), wt_at 100 (by decide +kernel) (by decide +kernel), by decide, by decide, by decide +kernel⟩
theorem pnX10_weightOf : plainName yX10_weightOf.cls = true := by decide +kernel
theorem iX10_weightOf : Cond.instanceMethod yX10_weightOf ∈ WT := wt_at 1187 (by decide +kernel) (by decide +kernel)
theorem eX10_weightOf : Cond.selects yX10_weightOf.cls yX10_weightOf yX10_weightOf ∈ WT := wt_at 73 (by decide +kernel) (by decide +kernel)
theorem mX10_whole : My yX10_whole cX10_whole 7 (some .int) 2 := ⟨wt_at 1137 (by decide +kernel) (by decide +kernel), wt_at 100 (by decide +kernel) (by decide +kernel), by decide, by decide, by decide +kernel⟩
theorem pnX10_whole : plainName yX10_whole.cls = true := by decide +kernel
theorem iX10_whole : Cond.instanceMethod yX10_whole ∈ WT := wt_at 1135 (by decide +kernel) (by decide +kernel)
theorem eX10_whole : Cond.selects yX10_whole.cls yX10_whole yX10_whole ∈ WT := wt_at 1136 (by decide +kernel) (by decide +kernel)
theorem mX10_whyNot : My yX10_whyNot cX10_whyNot 3 (some .int) 2 := ⟨wt_at 1207 (by decide +kernel) (by decide +kernel), wt_at 100 (by decide +kernel) (by decide +kernel), by decide, by decide, by decide +kernel⟩
theorem pnX10_whyNot : plainName yX10_whyNot.cls = true := by decide +kernel
theorem iX10_whyNot : Cond.instanceMethod yX10_whyNot ∈ WT := wt_at 1206 (by decide +kernel) (by decide +kernel)
theorem eX10_whyNot : Cond.selects yX10_whyNot.cls yX10_whyNot yX10_whyNot ∈ WT := wt_at 76 (by decide +kernel) (by decide +kernel)
theorem mX10_wipe : My yX10_wipe cX10_wipe 2 (some .int) 0 := ⟨wt_at 1253 (by decide +kernel) (by decide +kernel), wt_at 100 (by decide +kernel) (by decide +kernel), by decide, by decide, by decide +kernel⟩
theorem pnX10_wipe : plainName yX10_wipe.cls = true := by decide +kernel
theorem iX10_wipe : Cond.instanceMethod yX10_wipe ∈ WT := wt_at 1251 (by decide +kernel) (by decide +kernel)
theorem eX10_wipe : Cond.selects yX10_wipe.cls yX10_wipe yX10_wipe ∈ WT := wt_at 1252 (by decide +kernel) (by decide +kernel)
theorem mX10_worst : My yX10_worst cX10_worst 6 (some .int) 2 := ⟨wt_at 1336 (by decide +kernel) (by decide +kernel), wt_at 100 (by decide +kernel) (by decide +kernel), by decide, by decide, by decide +kernel⟩
theorem pnX10_worst : plainName yX10_worst.cls = true := by decide +kernel
theorem iX10_worst : Cond.instanceMethod yX10_worst ∈ WT := wt_at 1334 (by decide +kernel) (by decide +kernel)
theorem eX10_worst : Cond.selects yX10_worst.cls yX10_worst yX10_worst ∈ WT := wt_at 1335 (by decide +kernel) (by decide +kernel)
theorem mX1_howManyAhead : My yX1_howManyAhead cX1_howManyAhead 6 (some .int) 3 := ⟨wt_at 773 (by decide +kernel) (by decide +kernel), wt_at 103 (by decide +kernel) (by decide +kernel), by decide, by decide, by decide +kernel⟩
theorem pnX1_howManyAhead : plainName yX1_howManyAhead.cls = true := by decide +kernel
theorem iX1_howManyAhead : Cond.instanceMethod yX1_howManyAhead ∈ WT := wt_at 772 (by decide +kernel) (by decide +kernel)
theorem eX1_howManyAhead : Cond.selects yX1_howManyAhead.cls yX1_howManyAhead yX1_howManyAhead ∈ WT := wt_at 40 (by decide +kernel) (by decide +kernel)
theorem mX1_init : My yX1_init cX1_init 1 none 0 := ⟨wt_at 729 (by decide +kernel) (by decide +kernel), wt_at 103 (by decide +kernel) (by decide +kernel), by decide, by decide, by decide +kernel⟩
theorem pnX1_init : plainName yX1_init.cls = true := by decide +kernel
theorem iX1_init : Cond.instanceMethod yX1_init ∈ WT := wt_at 728 (by decide +kernel) (by decide +kernel)
theorem mX1_take : My yX1_take cX1_take 3 none 2 := ⟨wt_at 757 (by decide +kernel) (by decide +kernel), wt_at 103 (by decide +kernel) (by decide +kernel), by decide, by decide, by decide +kernel⟩
theorem pnX1_take : plainName yX1_take.cls = true := by decide +kernel
theorem iX1_take : Cond.instanceMethod yX1_take ∈ WT := wt_at 756 (by decide +kernel) (by decide +kernel)
theorem eX1_take : Cond.selects yX1_take.cls yX1_take yX1_take ∈ WT := wt_at 37 (by decide +kernel) (by decide +kernel)
theorem mX1_toldFor : My yX1_toldFor cX1_toldFor 4 (some .int) 2 := ⟨wt_at 769 (by decide +kernel) (by decide +kernel), wt_at 103 (by decide +kernel) (by decide +kernel), by decide, by decide, by decide +kernel⟩
theorem pnX1_toldFor : plainName yX1_toldFor.cls = true := by decide +kernel
theorem iX1_toldFor : Cond.instanceMethod yX1_toldFor ∈ WT := wt_at 768 (by decide +kernel) (by decide +kernel)
theorem eX1_toldFor : Cond.selects yX1_toldFor.cls yX1_toldFor yX1_toldFor ∈ WT := wt_at 39 (by decide +kernel) (by decide +kernel)
theorem mX2_bestHouses : My yX2_bestHouses cX2_bestHouses 8 (some .int) 2 := ⟨wt_at 905 (by decide +kernel) (by decide +kernel), wt_at 99 (by decide +kernel) (by decide +kernel), by decide, by decide, by decide +kernel⟩
theorem pnX2_bestHouses : plainName yX2_bestHouses.cls = true := by decide +kernel
theorem iX2_bestHouses : Cond.instanceMethod yX2_bestHouses ∈ WT := wt_at 904 (by decide +kernel) (by decide +kernel)
theorem eX2_bestHouses : Cond.selects yX2_bestHouses.cls yX2_bestHouses yX2_bestHouses ∈ WT := wt_at 59 (by decide +kernel) (by decide +kernel)
theorem mX2_build : My yX2_build cX2_build 6 (some .int) 5 := ⟨wt_at 837 (by decide +kernel) (by decide +kernel), wt_at 99 (by decide +kernel) (by decide +kernel), by decide, by decide, by decide +kernel⟩
theorem pnX2_build : plainName yX2_build.cls = true := by decide +kernel
theorem iX2_build : Cond.instanceMethod yX2_build ∈ WT := wt_at 836 (by decide +kernel) (by decide +kernel)
theorem eX2_build : Cond.selects yX2_build.cls yX2_build yX2_build ∈ WT := wt_at 50 (by decide +kernel) (by decide +kernel)
theorem mX2_enact : My yX2_enact cX2_enact 5 (some .int) 4 := ⟨wt_at 877 (by decide +kernel) (by decide +kernel), wt_at 99 (by decide +kernel) (by decide +kernel), by decide, by decide, by decide +kernel⟩
theorem pnX2_enact : plainName yX2_enact.cls = true := by decide +kernel
theorem iX2_enact : Cond.instanceMethod yX2_enact ∈ WT := wt_at 876 (by decide +kernel) (by decide +kernel)
theorem eX2_enact : Cond.selects yX2_enact.cls yX2_enact yX2_enact ∈ WT := wt_at 55 (by decide +kernel) (by decide +kernel)
theorem mX2_gainOf : My yX2_gainOf cX2_gainOf 8 (some .long) 2 := ⟨wt_at 910 (by decide +kernel) (by decide +kernel), wt_at 99 (by decide +kernel) (by decide +kernel), by decide, by decide, by decide +kernel⟩
theorem pnX2_gainOf : plainName yX2_gainOf.cls = true := by decide +kernel
theorem iX2_gainOf : Cond.instanceMethod yX2_gainOf ∈ WT := wt_at 909 (by decide +kernel) (by decide +kernel)
theorem eX2_gainOf : Cond.selects yX2_gainOf.cls yX2_gainOf yX2_gainOf ∈ WT := wt_at 60 (by decide +kernel) (by decide +kernel)
theorem mX2_howOftenAbove : My yX2_howOftenAbove cX2_howOftenAbove 5 (some .int) 2 := ⟨wt_at 885 (by decide +kernel) (by decide +kernel), wt_at 99 (by decide +kernel) (by decide +kernel), by decide, by decide, by decide +kernel⟩
theorem pnX2_howOftenAbove : plainName yX2_howOftenAbove.cls = true := by decide +kernel
theorem iX2_howOftenAbove : Cond.instanceMethod yX2_howOftenAbove ∈ WT := wt_at 884 (by decide +kernel) (by decide +kernel)
theorem eX2_howOftenAbove : Cond.selects yX2_howOftenAbove.cls yX2_howOftenAbove yX2_howOftenAbove ∈ WT := wt_at 56 (by decide +kernel) (by decide +kernel)
theorem mX2_init : My yX2_init cX2_init 1 none 0 := ⟨wt_at 303 (by decide +kernel) (by decide +kernel), wt_at 99 (by decide +kernel) (by decide +kernel), by decide, by decide, by decide +kernel⟩
theorem pnX2_init : plainName yX2_init.cls = true := by decide +kernel
theorem iX2_init : Cond.instanceMethod yX2_init ∈ WT := wt_at 302 (by decide +kernel) (by decide +kernel)
theorem mX2_lossByLaw : My yX2_lossByLaw cX2_lossByLaw 4 (some .int) 3 := ⟨wt_at 889 (by decide +kernel) (by decide +kernel), wt_at 99 (by decide +kernel) (by decide +kernel), by decide, by decide, by decide +kernel⟩
theorem pnX2_lossByLaw : plainName yX2_lossByLaw.cls = true := by decide +kernel
theorem iX2_lossByLaw : Cond.instanceMethod yX2_lossByLaw ∈ WT := wt_at 888 (by decide +kernel) (by decide +kernel)
theorem eX2_lossByLaw : Cond.selects yX2_lossByLaw.cls yX2_lossByLaw yX2_lossByLaw ∈ WT := wt_at 57 (by decide +kernel) (by decide +kernel)
theorem mX2_lossByQuake : My yX2_lossByQuake cX2_lossByQuake 4 (some .int) 3 := ⟨wt_at 849 (by decide +kernel) (by decide +kernel), wt_at 99 (by decide +kernel) (by decide +kernel), by decide, by decide, by decide +kernel⟩
theorem pnX2_lossByQuake : plainName yX2_lossByQuake.cls = true := by decide +kernel
theorem iX2_lossByQuake : Cond.instanceMethod yX2_lossByQuake ∈ WT := wt_at 848 (by decide +kernel) (by decide +kernel)
theorem eX2_lossByQuake : Cond.selects yX2_lossByQuake.cls yX2_lossByQuake yX2_lossByQuake ∈ WT := wt_at 51 (by decide +kernel) (by decide +kernel)
theorem mX2_lossInAll : My yX2_lossInAll cX2_lossInAll 9 (some .int) 5 := ⟨wt_at 853 (by decide +kernel) (by decide +kernel), wt_at 99 (by decide +kernel) (by decide +kernel), by decide, by decide, by decide +kernel⟩
theorem pnX2_lossInAll : plainName yX2_lossInAll.cls = true := by decide +kernel
theorem iX2_lossInAll : Cond.instanceMethod yX2_lossInAll ∈ WT := wt_at 852 (by decide +kernel) (by decide +kernel)
theorem eX2_lossInAll : Cond.selects yX2_lossInAll.cls yX2_lossInAll yX2_lossInAll ∈ WT := wt_at 52 (by decide +kernel) (by decide +kernel)
theorem mX2_lossOfHouse : My yX2_lossOfHouse cX2_lossOfHouse 8 (some .int) 6 := ⟨wt_at 857 (by decide +kernel) (by decide +kernel), wt_at 99 (by decide +kernel) (by decide +kernel), by decide, by decide, by decide +kernel⟩
theorem pnX2_lossOfHouse : plainName yX2_lossOfHouse.cls = true := by decide +kernel
theorem iX2_lossOfHouse : Cond.instanceMethod yX2_lossOfHouse ∈ WT := wt_at 856 (by decide +kernel) (by decide +kernel)
theorem eX2_lossOfHouse : Cond.selects yX2_lossOfHouse.cls yX2_lossOfHouse yX2_lossOfHouse ∈ WT := wt_at 53 (by decide +kernel) (by decide +kernel)
theorem mX2_meanLoss : My yX2_meanLoss cX2_meanLoss 6 (some .long) 2 := ⟨wt_at 897 (by decide +kernel) (by decide +kernel), wt_at 99 (by decide +kernel) (by decide +kernel), by decide, by decide, by decide +kernel⟩
theorem pnX2_meanLoss : plainName yX2_meanLoss.cls = true := by decide +kernel
theorem iX2_meanLoss : Cond.instanceMethod yX2_meanLoss ∈ WT := wt_at 896 (by decide +kernel) (by decide +kernel)
theorem eX2_meanLoss : Cond.selects yX2_meanLoss.cls yX2_meanLoss yX2_meanLoss ∈ WT := wt_at 58 (by decide +kernel) (by decide +kernel)
theorem mX2_offer : My yX2_offer cX2_offer 6 none 3 := ⟨wt_at 915 (by decide +kernel) (by decide +kernel), wt_at 99 (by decide +kernel) (by decide +kernel), by decide, by decide, by decide +kernel⟩
theorem pnX2_offer : plainName yX2_offer.cls = true := by decide +kernel
theorem iX2_offer : Cond.instanceMethod yX2_offer ∈ WT := wt_at 914 (by decide +kernel) (by decide +kernel)
theorem eX2_offer : Cond.selects yX2_offer.cls yX2_offer yX2_offer ∈ WT := wt_at 61 (by decide +kernel) (by decide +kernel)
theorem mX2_worstQuake : My yX2_worstQuake cX2_worstQuake 9 (some .int) 3 := ⟨wt_at 867 (by decide +kernel) (by decide +kernel), wt_at 99 (by decide +kernel) (by decide +kernel), by decide, by decide, by decide +kernel⟩
theorem pnX2_worstQuake : plainName yX2_worstQuake.cls = true := by decide +kernel
theorem iX2_worstQuake : Cond.instanceMethod yX2_worstQuake ∈ WT := wt_at 866 (by decide +kernel) (by decide +kernel)
theorem eX2_worstQuake : Cond.selects yX2_worstQuake.cls yX2_worstQuake yX2_worstQuake ∈ WT := wt_at 54 (by decide +kernel) (by decide +kernel)
theorem mX3_cellsApart : My yX3_cellsApart cX3_cellsApart 3 (some .int) 3 := ⟨wt_at 477 (by decide +kernel) (by decide +kernel), wt_at 94 (by decide +kernel) (by decide +kernel), by decide, by decide, by decide +kernel⟩
theorem pnX3_cellsApart : plainName yX3_cellsApart.cls = true := by decide +kernel
theorem sX3_cellsApart : Cond.static yX3_cellsApart ∈ WT := wt_at 476 (by decide +kernel) (by decide +kernel)
theorem mX3_clearPrices : My yX3_clearPrices cX3_clearPrices 2 none 0 := ⟨wt_at 495 (by decide +kernel) (by decide +kernel), wt_at 94 (by decide +kernel) (by decide +kernel), by decide, by decide, by decide +kernel⟩
theorem pnX3_clearPrices : plainName yX3_clearPrices.cls = true := by decide +kernel
theorem iX3_clearPrices : Cond.instanceMethod yX3_clearPrices ∈ WT := wt_at 494 (by decide +kernel) (by decide +kernel)
theorem eX3_clearPrices : Cond.selects yX3_clearPrices.cls yX3_clearPrices yX3_clearPrices ∈ WT := wt_at 8 (by decide +kernel) (by decide +kernel)
theorem mX3_daysApart : My yX3_daysApart cX3_daysApart 3 (some .int) 3 := ⟨wt_at 471 (by decide +kernel) (by decide +kernel), wt_at 94 (by decide +kernel) (by decide +kernel), by decide, by decide, by decide +kernel⟩
theorem pnX3_daysApart : plainName yX3_daysApart.cls = true := by decide +kernel
theorem sX3_daysApart : Cond.static yX3_daysApart ∈ WT := wt_at 470 (by decide +kernel) (by decide +kernel)
theorem mX3_fillCosts : My yX3_fillCosts cX3_fillCosts 14 none 4 := ⟨wt_at 461 (by decide +kernel) (by decide +kernel), wt_at 94 (by decide +kernel) (by decide +kernel), by decide, by decide, by decide +kernel⟩
theorem pnX3_fillCosts : plainName yX3_fillCosts.cls = true := by decide +kernel
theorem iX3_fillCosts : Cond.instanceMethod yX3_fillCosts ∈ WT := wt_at 460 (by decide +kernel) (by decide +kernel)
theorem eX3_fillCosts : Cond.selects yX3_fillCosts.cls yX3_fillCosts yX3_fillCosts ∈ WT := wt_at 7 (by decide +kernel) (by decide +kernel)
theorem mX3_gather : My yX3_gather cX3_gather 5 (some .int) 3 := ⟨wt_at 457 (by decide +kernel) (by decide +kernel), wt_at 94 (by decide +kernel) (by decide +kernel), by decide, by decide, by decide +kernel⟩
theorem pnX3_gather : plainName yX3_gather.cls = true := by decide +kernel
theorem sX3_gather : Cond.static yX3_gather ∈ WT := wt_at 456 (by decide +kernel) (by decide +kernel)
theorem mX3_init : My yX3_init cX3_init 1 none 0 := ⟨wt_at 185 (by decide +kernel) (by decide +kernel), wt_at 94 (by decide +kernel) (by decide +kernel), by decide, by decide, by decide +kernel⟩
theorem pnX3_init : plainName yX3_init.cls = true := by decide +kernel
theorem iX3_init : Cond.instanceMethod yX3_init ∈ WT := wt_at 184 (by decide +kernel) (by decide +kernel)
theorem mX3_loosen : My yX3_loosen cX3_loosen 6 none 1 := ⟨wt_at 504 (by decide +kernel) (by decide +kernel), wt_at 94 (by decide +kernel) (by decide +kernel), by decide, by decide, by decide +kernel⟩
theorem pnX3_loosen : plainName yX3_loosen.cls = true := by decide +kernel
theorem iX3_loosen : Cond.instanceMethod yX3_loosen ∈ WT := wt_at 503 (by decide +kernel) (by decide +kernel)
theorem eX3_loosen : Cond.selects yX3_loosen.cls yX3_loosen yX3_loosen ∈ WT := wt_at 10 (by decide +kernel) (by decide +kernel)
theorem mX3_maySame : My yX3_maySame cX3_maySame 6 (some .boolean) 6 := ⟨wt_at 468 (by decide +kernel) (by decide +kernel), wt_at 94 (by decide +kernel) (by decide +kernel), by decide, by decide, by decide +kernel⟩
theorem pnX3_maySame : plainName yX3_maySame.cls = true := by decide +kernel
theorem sX3_maySame : Cond.static yX3_maySame ∈ WT := wt_at 467 (by decide +kernel) (by decide +kernel)
theorem mX3_missOf : My yX3_missOf cX3_missOf 3 (some .int) 3 := ⟨wt_at 490 (by decide +kernel) (by decide +kernel), wt_at 94 (by decide +kernel) (by decide +kernel), by decide, by decide, by decide +kernel⟩
theorem pnX3_missOf : plainName yX3_missOf.cls = true := by decide +kernel
theorem sX3_missOf : Cond.static yX3_missOf ∈ WT := wt_at 489 (by decide +kernel) (by decide +kernel)
theorem mX3_nearest : My yX3_nearest cX3_nearest 3 (some .int) 0 := ⟨wt_at 508 (by decide +kernel) (by decide +kernel), wt_at 94 (by decide +kernel) (by decide +kernel), by decide, by decide, by decide +kernel⟩
theorem pnX3_nearest : plainName yX3_nearest.cls = true := by decide +kernel
theorem iX3_nearest : Cond.instanceMethod yX3_nearest ∈ WT := wt_at 507 (by decide +kernel) (by decide +kernel)
theorem eX3_nearest : Cond.selects yX3_nearest.cls yX3_nearest yX3_nearest ∈ WT := wt_at 11 (by decide +kernel) (by decide +kernel)
theorem mX3_pairUp : My yX3_pairUp cX3_pairUp 8 none 6 := ⟨wt_at 454 (by decide +kernel) (by decide +kernel), wt_at 94 (by decide +kernel) (by decide +kernel), by decide, by decide, by decide +kernel⟩
theorem pnX3_pairUp : plainName yX3_pairUp.cls = true := by decide +kernel
theorem iX3_pairUp : Cond.instanceMethod yX3_pairUp ∈ WT := wt_at 453 (by decide +kernel) (by decide +kernel)
theorem eX3_pairUp : Cond.selects yX3_pairUp.cls yX3_pairUp yX3_pairUp ∈ WT := wt_at 6 (by decide +kernel) (by decide +kernel)
theorem mX3_partnerOf : My yX3_partnerOf cX3_partnerOf 4 (some .int) 1 := ⟨wt_at 520 (by decide +kernel) (by decide +kernel), wt_at 94 (by decide +kernel) (by decide +kernel), by decide, by decide, by decide +kernel⟩
theorem pnX3_partnerOf : plainName yX3_partnerOf.cls = true := by decide +kernel
theorem iX3_partnerOf : Cond.instanceMethod yX3_partnerOf ∈ WT := wt_at 519 (by decide +kernel) (by decide +kernel)
theorem eX3_partnerOf : Cond.selects yX3_partnerOf.cls yX3_partnerOf yX3_partnerOf ∈ WT := wt_at 14 (by decide +kernel) (by decide +kernel)
theorem mX3_placeRow : My yX3_placeRow cX3_placeRow 5 none 1 := ⟨wt_at 499 (by decide +kernel) (by decide +kernel), wt_at 94 (by decide +kernel) (by decide +kernel), by decide, by decide, by decide +kernel⟩
theorem pnX3_placeRow : plainName yX3_placeRow.cls = true := by decide +kernel
theorem iX3_placeRow : Cond.instanceMethod yX3_placeRow ∈ WT := wt_at 498 (by decide +kernel) (by decide +kernel)
theorem eX3_placeRow : Cond.selects yX3_placeRow.cls yX3_placeRow yX3_placeRow ∈ WT := wt_at 9 (by decide +kernel) (by decide +kernel)
theorem mX3_reprice : My yX3_reprice cX3_reprice 4 none 1 := ⟨wt_at 512 (by decide +kernel) (by decide +kernel), wt_at 94 (by decide +kernel) (by decide +kernel), by decide, by decide, by decide +kernel⟩
theorem pnX3_reprice : plainName yX3_reprice.cls = true := by decide +kernel
theorem iX3_reprice : Cond.instanceMethod yX3_reprice ∈ WT := wt_at 511 (by decide +kernel) (by decide +kernel)
theorem eX3_reprice : Cond.selects yX3_reprice.cls yX3_reprice yX3_reprice ∈ WT := wt_at 12 (by decide +kernel) (by decide +kernel)
theorem mX3_sumUp : My yX3_sumUp cX3_sumUp 4 none 1 := ⟨wt_at 516 (by decide +kernel) (by decide +kernel), wt_at 94 (by decide +kernel) (by decide +kernel), by decide, by decide, by decide +kernel⟩
theorem pnX3_sumUp : plainName yX3_sumUp.cls = true := by decide +kernel
theorem iX3_sumUp : Cond.instanceMethod yX3_sumUp ∈ WT := wt_at 515 (by decide +kernel) (by decide +kernel)
theorem eX3_sumUp : Cond.selects yX3_sumUp.cls yX3_sumUp yX3_sumUp ∈ WT := wt_at 13 (by decide +kernel) (by decide +kernel)
theorem mX3_tenthsApart : My yX3_tenthsApart cX3_tenthsApart 3 (some .int) 3 := ⟨wt_at 487 (by decide +kernel) (by decide +kernel), wt_at 94 (by decide +kernel) (by decide +kernel), by decide, by decide, by decide +kernel⟩
theorem pnX3_tenthsApart : plainName yX3_tenthsApart.cls = true := by decide +kernel
theorem sX3_tenthsApart : Cond.static yX3_tenthsApart ∈ WT := wt_at 486 (by decide +kernel) (by decide +kernel)
theorem mX4_allWeights : My yX4_allWeights cX4_allWeights 9 (some .int) 4 := ⟨wt_at 624 (by decide +kernel) (by decide +kernel), wt_at 96 (by decide +kernel) (by decide +kernel), by decide, by decide, by decide +kernel⟩
theorem pnX4_allWeights : plainName yX4_allWeights.cls = true := by decide +kernel
theorem iX4_allWeights : Cond.instanceMethod yX4_allWeights ∈ WT := wt_at 623 (by decide +kernel) (by decide +kernel)
theorem eX4_allWeights : Cond.selects yX4_allWeights.cls yX4_allWeights yX4_allWeights ∈ WT := wt_at 23 (by decide +kernel) (by decide +kernel)
theorem mX4_deepestOfFamily : My yX4_deepestOfFamily cX4_deepestOfFamily 5 (some .int) 2 := ⟨wt_at 653 (by decide +kernel) (by decide +kernel), wt_at 96 (by decide +kernel) (by decide +kernel), by decide, by decide, by decide +kernel⟩
theorem pnX4_deepestOfFamily : plainName yX4_deepestOfFamily.cls = true := by decide +kernel
theorem iX4_deepestOfFamily : Cond.instanceMethod yX4_deepestOfFamily ∈ WT := wt_at 652 (by decide +kernel) (by decide +kernel)
theorem eX4_deepestOfFamily : Cond.selects yX4_deepestOfFamily.cls yX4_deepestOfFamily yX4_deepestOfFamily ∈ WT := wt_at 28 (by decide +kernel) (by decide +kernel)
theorem mX4_drawn : My yX4_drawn cX4_drawn 14 (some .int) 5 := ⟨wt_at 675 (by decide +kernel) (by decide +kernel), wt_at 96 (by decide +kernel) (by decide +kernel), by decide, by decide, by decide +kernel⟩
theorem pnX4_drawn : plainName yX4_drawn.cls = true := by decide +kernel
theorem iX4_drawn : Cond.instanceMethod yX4_drawn ∈ WT := wt_at 674 (by decide +kernel) (by decide +kernel)
theorem eX4_drawn : Cond.selects yX4_drawn.cls yX4_drawn yX4_drawn ∈ WT := wt_at 31 (by decide +kernel) (by decide +kernel)
theorem mX4_fadeStep : My yX4_fadeStep cX4_fadeStep 3 (some .int) 1 := ⟨wt_at 620 (by decide +kernel) (by decide +kernel), wt_at 96 (by decide +kernel) (by decide +kernel), by decide, by decide, by decide +kernel⟩
theorem pnX4_fadeStep : plainName yX4_fadeStep.cls = true := by decide +kernel
theorem sX4_fadeStep : Cond.static yX4_fadeStep ∈ WT := wt_at 619 (by decide +kernel) (by decide +kernel)
theorem mX4_firstAt : My yX4_firstAt cX4_firstAt 6 (some .int) 2 := ⟨wt_at 666 (by decide +kernel) (by decide +kernel), wt_at 96 (by decide +kernel) (by decide +kernel), by decide, by decide, by decide +kernel⟩
theorem pnX4_firstAt : plainName yX4_firstAt.cls = true := by decide +kernel
theorem iX4_firstAt : Cond.instanceMethod yX4_firstAt ∈ WT := wt_at 665 (by decide +kernel) (by decide +kernel)
theorem eX4_firstAt : Cond.selects yX4_firstAt.cls yX4_firstAt yX4_firstAt ∈ WT := wt_at 30 (by decide +kernel) (by decide +kernel)
theorem mX4_howManyFirst : My yX4_howManyFirst cX4_howManyFirst 4 (some .int) 1 := ⟨wt_at 662 (by decide +kernel) (by decide +kernel), wt_at 96 (by decide +kernel) (by decide +kernel), by decide, by decide, by decide +kernel⟩
theorem pnX4_howManyFirst : plainName yX4_howManyFirst.cls = true := by decide +kernel
theorem iX4_howManyFirst : Cond.instanceMethod yX4_howManyFirst ∈ WT := wt_at 661 (by decide +kernel) (by decide +kernel)
theorem eX4_howManyFirst : Cond.selects yX4_howManyFirst.cls yX4_howManyFirst yX4_howManyFirst ∈ WT := wt_at 29 (by decide +kernel) (by decide +kernel)
theorem mX4_init : My yX4_init cX4_init 1 none 0 := ⟨wt_at 249 (by decide +kernel) (by decide +kernel), wt_at 96 (by decide +kernel) (by decide +kernel), by decide, by decide, by decide +kernel⟩
theorem pnX4_init : plainName yX4_init.cls = true := by decide +kernel
theorem iX4_init : Cond.instanceMethod yX4_init ∈ WT := wt_at 248 (by decide +kernel) (by decide +kernel)
theorem mX4_likeliest : My yX4_likeliest cX4_likeliest 11 (some .int) 4 := ⟨wt_at 636 (by decide +kernel) (by decide +kernel), wt_at 96 (by decide +kernel) (by decide +kernel), by decide, by decide, by decide +kernel⟩
theorem pnX4_likeliest : plainName yX4_likeliest.cls = true := by decide +kernel
theorem iX4_likeliest : Cond.instanceMethod yX4_likeliest ∈ WT := wt_at 635 (by decide +kernel) (by decide +kernel)
theorem eX4_likeliest : Cond.selects yX4_likeliest.cls yX4_likeliest yX4_likeliest ∈ WT := wt_at 25 (by decide +kernel) (by decide +kernel)
theorem mX4_sizeOfFamily : My yX4_sizeOfFamily cX4_sizeOfFamily 5 (some .int) 2 := ⟨wt_at 649 (by decide +kernel) (by decide +kernel), wt_at 96 (by decide +kernel) (by decide +kernel), by decide, by decide, by decide +kernel⟩
theorem pnX4_sizeOfFamily : plainName yX4_sizeOfFamily.cls = true := by decide +kernel
theorem iX4_sizeOfFamily : Cond.instanceMethod yX4_sizeOfFamily ∈ WT := wt_at 648 (by decide +kernel) (by decide +kernel)
theorem eX4_sizeOfFamily : Cond.selects yX4_sizeOfFamily.cls yX4_sizeOfFamily yX4_sizeOfFamily ∈ WT := wt_at 27 (by decide +kernel) (by decide +kernel)
theorem mX4_stepsOf : My yX4_stepsOf cX4_stepsOf 2 (some (.array .int)) 1 := ⟨wt_at 594 (by decide +kernel) (by decide +kernel), wt_at 96 (by decide +kernel) (by decide +kernel), by decide, by decide, by decide +kernel⟩
theorem pnX4_stepsOf : plainName yX4_stepsOf.cls = true := by decide +kernel
theorem iX4_stepsOf : Cond.instanceMethod yX4_stepsOf ∈ WT := wt_at 593 (by decide +kernel) (by decide +kernel)
theorem eX4_stepsOf : Cond.selects yX4_stepsOf.cls yX4_stepsOf yX4_stepsOf ∈ WT := wt_at 19 (by decide +kernel) (by decide +kernel)
theorem mX4_trace : My yX4_trace cX4_trace 7 none 3 := ⟨wt_at 644 (by decide +kernel) (by decide +kernel), wt_at 96 (by decide +kernel) (by decide +kernel), by decide, by decide, by decide +kernel⟩
theorem pnX4_trace : plainName yX4_trace.cls = true := by decide +kernel
theorem iX4_trace : Cond.instanceMethod yX4_trace ∈ WT := wt_at 643 (by decide +kernel) (by decide +kernel)
theorem eX4_trace : Cond.selects yX4_trace.cls yX4_trace yX4_trace ∈ WT := wt_at 26 (by decide +kernel) (by decide +kernel)
theorem mX4_weight : My yX4_weight cX4_weight 4 (some .int) 3 := ⟨wt_at 609 (by decide +kernel) (by decide +kernel), wt_at 96 (by decide +kernel) (by decide +kernel), by decide, by decide, by decide +kernel⟩
theorem pnX4_weight : plainName yX4_weight.cls = true := by decide +kernel
theorem iX4_weight : Cond.instanceMethod yX4_weight ∈ WT := wt_at 608 (by decide +kernel) (by decide +kernel)
theorem eX4_weight : Cond.selects yX4_weight.cls yX4_weight yX4_weight ∈ WT := wt_at 21 (by decide +kernel) (by decide +kernel)
theorem mX4_weightAt : My yX4_weightAt cX4_weightAt 7 (some .int) 5 := ⟨wt_at 613 (by decide +kernel) (by decide +kernel), wt_at 96 (by decide +kernel) (by decide +kernel), by decide, by decide, by decide +kernel⟩
theorem pnX4_weightAt : plainName yX4_weightAt.cls = true := by decide +kernel
theorem iX4_weightAt : Cond.instanceMethod yX4_weightAt ∈ WT := wt_at 612 (by decide +kernel) (by decide +kernel)
theorem eX4_weightAt : Cond.selects yX4_weightAt.cls yX4_weightAt yX4_weightAt ∈ WT := wt_at 22 (by decide +kernel) (by decide +kernel)
theorem mX4_weightIfAhead : My yX4_weightIfAhead cX4_weightIfAhead 6 (some .int) 4 := ⟨wt_at 603 (by decide +kernel) (by decide +kernel), wt_at 96 (by decide +kernel) (by decide +kernel), by decide, by decide, by decide +kernel⟩
theorem pnX4_weightIfAhead : plainName yX4_weightIfAhead.cls = true := by decide +kernel
theorem iX4_weightIfAhead : Cond.instanceMethod yX4_weightIfAhead ∈ WT := wt_at 602 (by decide +kernel) (by decide +kernel)
theorem eX4_weightIfAhead : Cond.selects yX4_weightIfAhead.cls yX4_weightIfAhead yX4_weightIfAhead ∈ WT := wt_at 20 (by decide +kernel) (by decide +kernel)
theorem mX4_weightOn : My yX4_weightOn cX4_weightOn 8 (some .int) 5 := ⟨wt_at 687 (by decide +kernel) (by decide +kernel), wt_at 96 (by decide +kernel) (by decide +kernel), by decide, by decide, by decide +kernel⟩
theorem pnX4_weightOn : plainName yX4_weightOn.cls = true := by decide +kernel
theorem iX4_weightOn : Cond.instanceMethod yX4_weightOn ∈ WT := wt_at 686 (by decide +kernel) (by decide +kernel)
theorem eX4_weightOn : Cond.selects yX4_weightOn.cls yX4_weightOn yX4_weightOn ∈ WT := wt_at 32 (by decide +kernel) (by decide +kernel)
theorem mX5_choose : My yX5_choose cX5_choose 5 (some .long) 2 := ⟨wt_at 574 (by decide +kernel) (by decide +kernel), wt_at 102 (by decide +kernel) (by decide +kernel), by decide, by decide, by decide +kernel⟩
theorem pnX5_choose : plainName yX5_choose.cls = true := by decide +kernel
theorem sX5_choose : Cond.static yX5_choose ∈ WT := wt_at 573 (by decide +kernel) (by decide +kernel)
theorem mX5_greatestDivisor : My yX5_greatestDivisor cX5_greatestDivisor 11 (some .long) 2 := ⟨wt_at 564 (by decide +kernel) (by decide +kernel), wt_at 102 (by decide +kernel) (by decide +kernel), by decide, by decide, by decide +kernel⟩
theorem pnX5_greatestDivisor : plainName yX5_greatestDivisor.cls = true := by decide +kernel
theorem sX5_greatestDivisor : Cond.static yX5_greatestDivisor ∈ WT := wt_at 563 (by decide +kernel) (by decide +kernel)
theorem mX5_partOf : My yX5_partOf cX5_partOf 7 (some .long) 3 := ⟨wt_at 561 (by decide +kernel) (by decide +kernel), wt_at 102 (by decide +kernel) (by decide +kernel), by decide, by decide, by decide +kernel⟩
theorem pnX5_partOf : plainName yX5_partOf.cls = true := by decide +kernel
theorem sX5_partOf : Cond.static yX5_partOf ∈ WT := wt_at 560 (by decide +kernel) (by decide +kernel)
theorem mX5_power : My yX5_power cX5_power 5 (some .long) 2 := ⟨wt_at 585 (by decide +kernel) (by decide +kernel), wt_at 102 (by decide +kernel) (by decide +kernel), by decide, by decide, by decide +kernel⟩
theorem pnX5_power : plainName yX5_power.cls = true := by decide +kernel
theorem sX5_power : Cond.static yX5_power ∈ WT := wt_at 584 (by decide +kernel) (by decide +kernel)
theorem mX5_waysForFew : My yX5_waysForFew cX5_waysForFew 7 (some .long) 4 := ⟨wt_at 582 (by decide +kernel) (by decide +kernel), wt_at 102 (by decide +kernel) (by decide +kernel), by decide, by decide, by decide +kernel⟩
theorem pnX5_waysForFew : plainName yX5_waysForFew.cls = true := by decide +kernel
theorem sX5_waysForFew : Cond.static yX5_waysForFew ∈ WT := wt_at 581 (by decide +kernel) (by decide +kernel)
theorem mX5_waysToDeal : My yX5_waysToDeal cX5_waysToDeal 8 (some .long) 4 := ⟨wt_at 571 (by decide +kernel) (by decide +kernel), wt_at 102 (by decide +kernel) (by decide +kernel), by decide, by decide, by decide +kernel⟩
theorem pnX5_waysToDeal : plainName yX5_waysToDeal.cls = true := by decide +kernel
theorem sX5_waysToDeal : Cond.static yX5_waysToDeal ∈ WT := wt_at 570 (by decide +kernel) (by decide +kernel)
theorem mX6_add : My yX6_add cX6_add 8 (some .int) 6 := ⟨wt_at 407 (by decide +kernel) (by decide +kernel), wt_at 93 (by decide +kernel) (by decide +kernel), by decide, by decide, by decide +kernel⟩
theorem pnX6_add : plainName yX6_add.cls = true := by decide +kernel
theorem iX6_add : Cond.instanceMethod yX6_add ∈ WT := wt_at 406 (by decide +kernel) (by decide +kernel)
theorem eX6_add : Cond.selects yX6_add.cls yX6_add yX6_add ∈ WT := wt_at 1 (by decide +kernel) (by decide +kernel)
theorem mX6_has : My yX6_has cX6_has 2 (some .boolean) 1 := ⟨wt_at 419 (by decide +kernel) (by decide +kernel), wt_at 93 (by decide +kernel) (by decide +kernel), by decide, by decide, by decide +kernel⟩
theorem pnX6_has : plainName yX6_has.cls = true := by decide +kernel
theorem iX6_has : Cond.instanceMethod yX6_has ∈ WT := wt_at 418 (by decide +kernel) (by decide +kernel)
theorem eX6_has : Cond.selects yX6_has.cls yX6_has yX6_has ∈ WT := wt_at 3 (by decide +kernel) (by decide +kernel)
theorem mX6_howManyBlasts : My yX6_howManyBlasts cX6_howManyBlasts 3 (some .int) 0 := ⟨wt_at 929 (by decide +kernel) (by decide +kernel), wt_at 93 (by decide +kernel) (by decide +kernel), by decide, by decide, by decide +kernel⟩
theorem pnX6_howManyBlasts : plainName yX6_howManyBlasts.cls = true := by decide +kernel
theorem iX6_howManyBlasts : Cond.instanceMethod yX6_howManyBlasts ∈ WT := wt_at 928 (by decide +kernel) (by decide +kernel)
theorem eX6_howManyBlasts : Cond.selects yX6_howManyBlasts.cls yX6_howManyBlasts yX6_howManyBlasts ∈ WT := wt_at 62 (by decide +kernel) (by decide +kernel)
theorem mX6_howManyIn : My yX6_howManyIn cX6_howManyIn 4 (some .int) 1 := ⟨wt_at 450 (by decide +kernel) (by decide +kernel), wt_at 93 (by decide +kernel) (by decide +kernel), by decide, by decide, by decide +kernel⟩
theorem pnX6_howManyIn : plainName yX6_howManyIn.cls = true := by decide +kernel
theorem iX6_howManyIn : Cond.instanceMethod yX6_howManyIn ∈ WT := wt_at 449 (by decide +kernel) (by decide +kernel)
theorem eX6_howManyIn : Cond.selects yX6_howManyIn.cls yX6_howManyIn yX6_howManyIn ∈ WT := wt_at 5 (by decide +kernel) (by decide +kernel)
theorem mX6_init : My yX6_init cX6_init 1 none 0 := ⟨wt_at 116 (by decide +kernel) (by decide +kernel), wt_at 93 (by decide +kernel) (by decide +kernel), by decide, by decide, by decide +kernel⟩
theorem pnX6_init : plainName yX6_init.cls = true := by decide +kernel
theorem iX6_init : Cond.instanceMethod yX6_init ∈ WT := wt_at 115 (by decide +kernel) (by decide +kernel)
theorem mX6_isCounted : My yX6_isCounted cX6_isCounted 4 (some .boolean) 3 := ⟨wt_at 535 (by decide +kernel) (by decide +kernel), wt_at 93 (by decide +kernel) (by decide +kernel), by decide, by decide, by decide +kernel⟩
theorem pnX6_isCounted : plainName yX6_isCounted.cls = true := by decide +kernel
theorem iX6_isCounted : Cond.instanceMethod yX6_isCounted ∈ WT := wt_at 534 (by decide +kernel) (by decide +kernel)
theorem eX6_isCounted : Cond.selects yX6_isCounted.cls yX6_isCounted yX6_isCounted ∈ WT := wt_at 16 (by decide +kernel) (by decide +kernel)
theorem mX6_isFull : My yX6_isFull cX6_isFull 1 (some .boolean) 0 := ⟨wt_at 403 (by decide +kernel) (by decide +kernel), wt_at 93 (by decide +kernel) (by decide +kernel), by decide, by decide, by decide +kernel⟩
theorem pnX6_isFull : plainName yX6_isFull.cls = true := by decide +kernel
theorem iX6_isFull : Cond.instanceMethod yX6_isFull ∈ WT := wt_at 402 (by decide +kernel) (by decide +kernel)
theorem eX6_isFull : Cond.selects yX6_isFull.cls yX6_isFull yX6_isFull ∈ WT := wt_at 0 (by decide +kernel) (by decide +kernel)
theorem mX6_isGreat : My yX6_isGreat cX6_isGreat 3 (some .boolean) 2 := ⟨wt_at 777 (by decide +kernel) (by decide +kernel), wt_at 93 (by decide +kernel) (by decide +kernel), by decide, by decide, by decide +kernel⟩
theorem pnX6_isGreat : plainName yX6_isGreat.cls = true := by decide +kernel
theorem iX6_isGreat : Cond.instanceMethod yX6_isGreat ∈ WT := wt_at 776 (by decide +kernel) (by decide +kernel)
theorem eX6_isGreat : Cond.selects yX6_isGreat.cls yX6_isGreat yX6_isGreat ∈ WT := wt_at 41 (by decide +kernel) (by decide +kernel)
theorem mX6_placeOf : My yX6_placeOf cX6_placeOf 3 (some .int) 1 := ⟨wt_at 434 (by decide +kernel) (by decide +kernel), wt_at 93 (by decide +kernel) (by decide +kernel), by decide, by decide, by decide +kernel⟩
theorem pnX6_placeOf : plainName yX6_placeOf.cls = true := by decide +kernel
theorem iX6_placeOf : Cond.instanceMethod yX6_placeOf ∈ WT := wt_at 433 (by decide +kernel) (by decide +kernel)
theorem eX6_placeOf : Cond.selects yX6_placeOf.cls yX6_placeOf yX6_placeOf ∈ WT := wt_at 4 (by decide +kernel) (by decide +kernel)
theorem mX6_putInOrder : My yX6_putInOrder cX6_putInOrder 3 none 1 := ⟨wt_at 411 (by decide +kernel) (by decide +kernel), wt_at 93 (by decide +kernel) (by decide +kernel), by decide, by decide, by decide +kernel⟩
theorem pnX6_putInOrder : plainName yX6_putInOrder.cls = true := by decide +kernel
theorem iX6_putInOrder : Cond.instanceMethod yX6_putInOrder ∈ WT := wt_at 410 (by decide +kernel) (by decide +kernel)
theorem eX6_putInOrder : Cond.selects yX6_putInOrder.cls yX6_putInOrder yX6_putInOrder ∈ WT := wt_at 2 (by decide +kernel) (by decide +kernel)
theorem mX6_strikes : My yX6_strikes cX6_strikes 4 (some .boolean) 2 := ⟨wt_at 815 (by decide +kernel) (by decide +kernel), wt_at 93 (by decide +kernel) (by decide +kernel), by decide, by decide, by decide +kernel⟩
theorem pnX6_strikes : plainName yX6_strikes.cls = true := by decide +kernel
theorem iX6_strikes : Cond.instanceMethod yX6_strikes ∈ WT := wt_at 814 (by decide +kernel) (by decide +kernel)
theorem eX6_strikes : Cond.selects yX6_strikes.cls yX6_strikes yX6_strikes ∈ WT := wt_at 48 (by decide +kernel) (by decide +kernel)
theorem mX7_addStretch : My yX7_addStretch cX7_addStretch 13 none 6 := ⟨wt_at 810 (by decide +kernel) (by decide +kernel), wt_at 98 (by decide +kernel) (by decide +kernel), by decide, by decide, by decide +kernel⟩
theorem pnX7_addStretch : plainName yX7_addStretch.cls = true := by decide +kernel
theorem iX7_addStretch : Cond.instanceMethod yX7_addStretch ∈ WT := wt_at 809 (by decide +kernel) (by decide +kernel)
theorem eX7_addStretch : Cond.selects yX7_addStretch.cls yX7_addStretch yX7_addStretch ∈ WT := wt_at 47 (by decide +kernel) (by decide +kernel)
theorem mX7_init : My yX7_init cX7_init 1 none 0 := ⟨wt_at 289 (by decide +kernel) (by decide +kernel), wt_at 98 (by decide +kernel) (by decide +kernel), by decide, by decide, by decide +kernel⟩
theorem pnX7_init : plainName yX7_init.cls = true := by decide +kernel
theorem iX7_init : Cond.instanceMethod yX7_init ∈ WT := wt_at 288 (by decide +kernel) (by decide +kernel)
theorem mX7_leastMix : My yX7_leastMix cX7_leastMix 3 (some .int) 0 := ⟨wt_at 829 (by decide +kernel) (by decide +kernel), wt_at 98 (by decide +kernel) (by decide +kernel), by decide, by decide, by decide +kernel⟩
theorem pnX7_leastMix : plainName yX7_leastMix.cls = true := by decide +kernel
theorem iX7_leastMix : Cond.instanceMethod yX7_leastMix ∈ WT := wt_at 828 (by decide +kernel) (by decide +kernel)
theorem eX7_leastMix : Cond.selects yX7_leastMix.cls yX7_leastMix yX7_leastMix ∈ WT := wt_at 49 (by decide +kernel) (by decide +kernel)
theorem mX7_mark : My yX7_mark cX7_mark 4 none 3 := ⟨wt_at 802 (by decide +kernel) (by decide +kernel), wt_at 98 (by decide +kernel) (by decide +kernel), by decide, by decide, by decide +kernel⟩
theorem pnX7_mark : plainName yX7_mark.cls = true := by decide +kernel
theorem iX7_mark : Cond.instanceMethod yX7_mark ∈ WT := wt_at 801 (by decide +kernel) (by decide +kernel)
theorem eX7_mark : Cond.selects yX7_mark.cls yX7_mark yX7_mark ∈ WT := wt_at 45 (by decide +kernel) (by decide +kernel)
theorem mX7_markRules : My yX7_markRules cX7_markRules 7 none 4 := ⟨wt_at 806 (by decide +kernel) (by decide +kernel), wt_at 98 (by decide +kernel) (by decide +kernel), by decide, by decide, by decide +kernel⟩
theorem pnX7_markRules : plainName yX7_markRules.cls = true := by decide +kernel
theorem iX7_markRules : Cond.instanceMethod yX7_markRules ∈ WT := wt_at 805 (by decide +kernel) (by decide +kernel)
theorem eX7_markRules : Cond.selects yX7_markRules.cls yX7_markRules yX7_markRules ∈ WT := wt_at 46 (by decide +kernel) (by decide +kernel)
theorem mX7_markStrikes : My yX7_markStrikes cX7_markStrikes 6 none 4 := ⟨wt_at 797 (by decide +kernel) (by decide +kernel), wt_at 98 (by decide +kernel) (by decide +kernel), by decide, by decide, by decide +kernel⟩
theorem pnX7_markStrikes : plainName yX7_markStrikes.cls = true := by decide +kernel
theorem iX7_markStrikes : Cond.instanceMethod yX7_markStrikes ∈ WT := wt_at 796 (by decide +kernel) (by decide +kernel)
theorem eX7_markStrikes : Cond.selects yX7_markStrikes.cls yX7_markStrikes yX7_markStrikes ∈ WT := wt_at 44 (by decide +kernel) (by decide +kernel)
theorem mX7_work : My yX7_work cX7_work 9 none 6 := ⟨wt_at 793 (by decide +kernel) (by decide +kernel), wt_at 98 (by decide +kernel) (by decide +kernel), by decide, by decide, by decide +kernel⟩
theorem pnX7_work : plainName yX7_work.cls = true := by decide +kernel
theorem iX7_work : Cond.instanceMethod yX7_work ∈ WT := wt_at 792 (by decide +kernel) (by decide +kernel)
theorem eX7_work : Cond.selects yX7_work.cls yX7_work yX7_work ∈ WT := wt_at 43 (by decide +kernel) (by decide +kernel)
theorem mX8_add : My yX8_add cX8_add 2 (some .int) 1 := ⟨wt_at 699 (by decide +kernel) (by decide +kernel), wt_at 97 (by decide +kernel) (by decide +kernel), by decide, by decide, by decide +kernel⟩
theorem pnX8_add : plainName yX8_add.cls = true := by decide +kernel
theorem iX8_add : Cond.instanceMethod yX8_add ∈ WT := wt_at 698 (by decide +kernel) (by decide +kernel)
theorem eX8_add : Cond.selects yX8_add.cls yX8_add yX8_add ∈ WT := wt_at 34 (by decide +kernel) (by decide +kernel)
theorem mX8_faultyPlace : My yX8_faultyPlace cX8_faultyPlace 6 (some .int) 0 := ⟨wt_at 711 (by decide +kernel) (by decide +kernel), wt_at 97 (by decide +kernel) (by decide +kernel), by decide, by decide, by decide +kernel⟩
theorem pnX8_faultyPlace : plainName yX8_faultyPlace.cls = true := by decide +kernel
theorem iX8_faultyPlace : Cond.instanceMethod yX8_faultyPlace ∈ WT := wt_at 710 (by decide +kernel) (by decide +kernel)
theorem eX8_faultyPlace : Cond.selects yX8_faultyPlace.cls yX8_faultyPlace yX8_faultyPlace ∈ WT := wt_at 35 (by decide +kernel) (by decide +kernel)
theorem mX8_init : My yX8_init cX8_init 1 none 0 := ⟨wt_at 273 (by decide +kernel) (by decide +kernel), wt_at 97 (by decide +kernel) (by decide +kernel), by decide, by decide, by decide +kernel⟩
theorem pnX8_init : plainName yX8_init.cls = true := by decide +kernel
theorem iX8_init : Cond.instanceMethod yX8_init ∈ WT := wt_at 272 (by decide +kernel) (by decide +kernel)
theorem mX8_isDigit : My yX8_isDigit cX8_isDigit 1 (some .boolean) 1 := ⟨wt_at 714 (by decide +kernel) (by decide +kernel), wt_at 97 (by decide +kernel) (by decide +kernel), by decide, by decide, by decide +kernel⟩
theorem pnX8_isDigit : plainName yX8_isDigit.cls = true := by decide +kernel
theorem sX8_isDigit : Cond.static yX8_isDigit ∈ WT := wt_at 713 (by decide +kernel) (by decide +kernel)
theorem mX8_isFull : My yX8_isFull cX8_isFull 1 (some .boolean) 0 := ⟨wt_at 695 (by decide +kernel) (by decide +kernel), wt_at 97 (by decide +kernel) (by decide +kernel), by decide, by decide, by decide +kernel⟩
theorem pnX8_isFull : plainName yX8_isFull.cls = true := by decide +kernel
theorem iX8_isFull : Cond.instanceMethod yX8_isFull ∈ WT := wt_at 694 (by decide +kernel) (by decide +kernel)
theorem eX8_isFull : Cond.selects yX8_isFull.cls yX8_isFull yX8_isFull ∈ WT := wt_at 33 (by decide +kernel) (by decide +kernel)
theorem mX8_read : My yX8_read cX8_read 5 (some (.object "QuakeLists$Forecast")) 0 := ⟨wt_at 724 (by decide +kernel) (by decide +kernel), wt_at 97 (by decide +kernel) (by decide +kernel), by decide, by decide, by decide +kernel⟩
theorem pnX8_read : plainName yX8_read.cls = true := by decide +kernel
theorem iX8_read : Cond.instanceMethod yX8_read ∈ WT := wt_at 723 (by decide +kernel) (by decide +kernel)
theorem eX8_read : Cond.selects yX8_read.cls yX8_read yX8_read ∈ WT := wt_at 36 (by decide +kernel) (by decide +kernel)
theorem mX9_about : My yX9_about cX9_about 3 (some .int) 2 := ⟨wt_at 430 (by decide +kernel) (by decide +kernel), wt_at 92 (by decide +kernel) (by decide +kernel), by decide, by decide, by decide +kernel⟩
theorem pnX9_about : plainName yX9_about.cls = true := by decide +kernel
theorem iX9_about : Cond.instanceMethod yX9_about ∈ WT := wt_at 428 (by decide +kernel) (by decide +kernel)
theorem eX9_about : Cond.selects yX9_about.cls yX9_about yX9_about ∈ WT := wt_at 429 (by decide +kernel) (by decide +kernel)
theorem mX9_alike : My yX9_alike cX9_alike 11 (some .long) 4 := ⟨wt_at 568 (by decide +kernel) (by decide +kernel), wt_at 92 (by decide +kernel) (by decide +kernel), by decide, by decide, by decide +kernel⟩
theorem pnX9_alike : plainName yX9_alike.cls = true := by decide +kernel
theorem iX9_alike : Cond.instanceMethod yX9_alike ∈ WT := wt_at 566 (by decide +kernel) (by decide +kernel)
theorem eX9_alike : Cond.selects yX9_alike.cls yX9_alike yX9_alike ∈ WT := wt_at 567 (by decide +kernel) (by decide +kernel)
theorem mX9_asNumber : My yX9_asNumber cX9_asNumber 1 (some .int) 1 := ⟨wt_at 422 (by decide +kernel) (by decide +kernel), wt_at 92 (by decide +kernel) (by decide +kernel), by decide, by decide, by decide +kernel⟩
theorem pnX9_asNumber : plainName yX9_asNumber.cls = true := by decide +kernel
theorem sX9_asNumber : Cond.static yX9_asNumber ∈ WT := wt_at 421 (by decide +kernel) (by decide +kernel)
theorem mX9_best : My yX9_best cX9_best 8 (some .int) 5 := ⟨wt_at 824 (by decide +kernel) (by decide +kernel), wt_at 92 (by decide +kernel) (by decide +kernel), by decide, by decide, by decide +kernel⟩
theorem pnX9_best : plainName yX9_best.cls = true := by decide +kernel
theorem iX9_best : Cond.instanceMethod yX9_best ∈ WT := wt_at 822 (by decide +kernel) (by decide +kernel)
theorem eX9_best : Cond.selects yX9_best.cls yX9_best yX9_best ∈ WT := wt_at 823 (by decide +kernel) (by decide +kernel)
theorem mX9_blast : My yX9_blast cX9_blast 4 (some .int) 2 := ⟨wt_at 415 (by decide +kernel) (by decide +kernel), wt_at 92 (by decide +kernel) (by decide +kernel), by decide, by decide, by decide +kernel⟩
theorem pnX9_blast : plainName yX9_blast.cls = true := by decide +kernel
theorem iX9_blast : Cond.instanceMethod yX9_blast ∈ WT := wt_at 413 (by decide +kernel) (by decide +kernel)
theorem eX9_blast : Cond.selects yX9_blast.cls yX9_blast yX9_blast ∈ WT := wt_at 414 (by decide +kernel) (by decide +kernel)
theorem mX9_curve : My yX9_curve cX9_curve 2 (some .int) 1 := ⟨wt_at 881 (by decide +kernel) (by decide +kernel), wt_at 92 (by decide +kernel) (by decide +kernel), by decide, by decide, by decide +kernel⟩
theorem pnX9_curve : plainName yX9_curve.cls = true := by decide +kernel
theorem iX9_curve : Cond.instanceMethod yX9_curve ∈ WT := wt_at 879 (by decide +kernel) (by decide +kernel)
theorem eX9_curve : Cond.selects yX9_curve.cls yX9_curve yX9_curve ∈ WT := wt_at 880 (by decide +kernel) (by decide +kernel)
theorem mX9_damage : My yX9_damage cX9_damage 5 (some .int) 3 := ⟨wt_at 841 (by decide +kernel) (by decide +kernel), wt_at 92 (by decide +kernel) (by decide +kernel), by decide, by decide, by decide +kernel⟩
theorem pnX9_damage : plainName yX9_damage.cls = true := by decide +kernel
theorem iX9_damage : Cond.instanceMethod yX9_damage ∈ WT := wt_at 839 (by decide +kernel) (by decide +kernel)
theorem eX9_damage : Cond.selects yX9_damage.cls yX9_damage yX9_damage ∈ WT := wt_at 840 (by decide +kernel) (by decide +kernel)
theorem mX9_draw : My yX9_draw cX9_draw 5 (some .int) 3 := ⟨wt_at 670 (by decide +kernel) (by decide +kernel), wt_at 92 (by decide +kernel) (by decide +kernel), by decide, by decide, by decide +kernel⟩
theorem pnX9_draw : plainName yX9_draw.cls = true := by decide +kernel
theorem iX9_draw : Cond.instanceMethod yX9_draw ∈ WT := wt_at 668 (by decide +kernel) (by decide +kernel)
theorem eX9_draw : Cond.selects yX9_draw.cls yX9_draw yX9_draw ∈ WT := wt_at 669 (by decide +kernel) (by decide +kernel)
theorem mX9_families : My yX9_families cX9_families 3 (some .int) 2 := ⟨wt_at 658 (by decide +kernel) (by decide +kernel), wt_at 92 (by decide +kernel) (by decide +kernel), by decide, by decide, by decide +kernel⟩
theorem pnX9_families : plainName yX9_families.cls = true := by decide +kernel
theorem iX9_families : Cond.instanceMethod yX9_families ∈ WT := wt_at 656 (by decide +kernel) (by decide +kernel)
theorem eX9_families : Cond.selects yX9_families.cls yX9_families yX9_families ∈ WT := wt_at 657 (by decide +kernel) (by decide +kernel)
theorem mX9_family : My yX9_family cX9_family 6 (some .int) 3 := ⟨wt_at 640 (by decide +kernel) (by decide +kernel), wt_at 92 (by decide +kernel) (by decide +kernel), by decide, by decide, by decide +kernel⟩
theorem pnX9_family : plainName yX9_family.cls = true := by decide +kernel
theorem iX9_family : Cond.instanceMethod yX9_family ∈ WT := wt_at 638 (by decide +kernel) (by decide +kernel)
theorem eX9_family : Cond.selects yX9_family.cls yX9_family yX9_family ∈ WT := wt_at 639 (by decide +kernel) (by decide +kernel)
theorem mX9_fault : My yX9_fault cX9_fault 1 (some .int) 0 := ⟨wt_at 707 (by decide +kernel) (by decide +kernel), wt_at 92 (by decide +kernel) (by decide +kernel), by decide, by decide, by decide +kernel⟩
theorem pnX9_fault : plainName yX9_fault.cls = true := by decide +kernel
theorem iX9_fault : Cond.instanceMethod yX9_fault ∈ WT := wt_at 705 (by decide +kernel) (by decide +kernel)
theorem eX9_fault : Cond.selects yX9_fault.cls yX9_fault yX9_fault ∈ WT := wt_at 706 (by decide +kernel) (by decide +kernel)
theorem mX9_few : My yX9_few cX9_few 6 (some .long) 5 := ⟨wt_at 579 (by decide +kernel) (by decide +kernel), wt_at 92 (by decide +kernel) (by decide +kernel), by decide, by decide, by decide +kernel⟩
theorem pnX9_few : plainName yX9_few.cls = true := by decide +kernel
theorem iX9_few : Cond.instanceMethod yX9_few ∈ WT := wt_at 577 (by decide +kernel) (by decide +kernel)
theorem eX9_few : Cond.selects yX9_few.cls yX9_few yX9_few ∈ WT := wt_at 578 (by decide +kernel) (by decide +kernel)
theorem mX9_forecast : My yX9_forecast cX9_forecast 1 (some .int) 0 := ⟨wt_at 720 (by decide +kernel) (by decide +kernel), wt_at 92 (by decide +kernel) (by decide +kernel), by decide, by decide, by decide +kernel⟩
theorem pnX9_forecast : plainName yX9_forecast.cls = true := by decide +kernel
theorem iX9_forecast : Cond.instanceMethod yX9_forecast ∈ WT := wt_at 718 (by decide +kernel) (by decide +kernel)
theorem eX9_forecast : Cond.selects yX9_forecast.cls yX9_forecast yX9_forecast ∈ WT := wt_at 719 (by decide +kernel) (by decide +kernel)
theorem mX9_forecastOf : My yX9_forecastOf cX9_forecastOf 2 (some (.object "QuakeLists$Forecast")) 1 := ⟨wt_at 765 (by decide +kernel) (by decide +kernel), wt_at 92 (by decide +kernel) (by decide +kernel), by decide, by decide, by decide +kernel⟩
theorem pnX9_forecastOf : plainName yX9_forecastOf.cls = true := by decide +kernel
theorem iX9_forecastOf : Cond.instanceMethod yX9_forecastOf ∈ WT := wt_at 764 (by decide +kernel) (by decide +kernel)
theorem eX9_forecastOf : Cond.selects yX9_forecastOf.cls yX9_forecastOf yX9_forecastOf ∈ WT := wt_at 38 (by decide +kernel) (by decide +kernel)
theorem mX9_house : My yX9_house cX9_house 6 (some .int) 5 := ⟨wt_at 833 (by decide +kernel) (by decide +kernel), wt_at 92 (by decide +kernel) (by decide +kernel), by decide, by decide, by decide +kernel⟩
theorem pnX9_house : plainName yX9_house.cls = true := by decide +kernel
theorem iX9_house : Cond.instanceMethod yX9_house ∈ WT := wt_at 831 (by decide +kernel) (by decide +kernel)
theorem eX9_house : Cond.selects yX9_house.cls yX9_house yX9_house ∈ WT := wt_at 832 (by decide +kernel) (by decide +kernel)
theorem mX9_howFar : My yX9_howFar cX9_howFar 4 (some .int) 4 := ⟨wt_at 480 (by decide +kernel) (by decide +kernel), wt_at 92 (by decide +kernel) (by decide +kernel), by decide, by decide, by decide +kernel⟩
theorem pnX9_howFar : plainName yX9_howFar.cls = true := by decide +kernel
theorem sX9_howFar : Cond.static yX9_howFar ∈ WT := wt_at 479 (by decide +kernel) (by decide +kernel)
theorem mX9_init : My yX9_init cX9_init 1 none 0 := ⟨wt_at 108 (by decide +kernel) (by decide +kernel), wt_at 92 (by decide +kernel) (by decide +kernel), by decide, by decide, by decide +kernel⟩
theorem pnX9_init : plainName yX9_init.cls = true := by decide +kernel
theorem iX9_init : Cond.instanceMethod yX9_init ∈ WT := wt_at 107 (by decide +kernel) (by decide +kernel)
theorem mX9_isCell : My yX9_isCell cX9_isCell 2 (some .boolean) 2 := ⟨wt_at 393 (by decide +kernel) (by decide +kernel), wt_at 92 (by decide +kernel) (by decide +kernel), by decide, by decide, by decide +kernel⟩
theorem pnX9_isCell : plainName yX9_isCell.cls = true := by decide +kernel
theorem sX9_isCell : Cond.static yX9_isCell ∈ WT := wt_at 392 (by decide +kernel) (by decide +kernel)
theorem mX9_isDay : My yX9_isDay cX9_isDay 1 (some .boolean) 1 := ⟨wt_at 396 (by decide +kernel) (by decide +kernel), wt_at 92 (by decide +kernel) (by decide +kernel), by decide, by decide, by decide +kernel⟩
theorem pnX9_isDay : plainName yX9_isDay.cls = true := by decide +kernel
theorem sX9_isDay : Cond.static yX9_isDay ∈ WT := wt_at 395 (by decide +kernel) (by decide +kernel)
theorem mX9_isGreatness : My yX9_isGreatness cX9_isGreatness 1 (some .boolean) 1 := ⟨wt_at 399 (by decide +kernel) (by decide +kernel), wt_at 92 (by decide +kernel) (by decide +kernel), by decide, by decide, by decide +kernel⟩
theorem pnX9_isGreatness : plainName yX9_isGreatness.cls = true := by decide +kernel
theorem sX9_isGreatness : Cond.static yX9_isGreatness ∈ WT := wt_at 398 (by decide +kernel) (by decide +kernel)
theorem mX9_isList : My yX9_isList cX9_isList 1 (some .boolean) 1 := ⟨wt_at 387 (by decide +kernel) (by decide +kernel), wt_at 92 (by decide +kernel) (by decide +kernel), by decide, by decide, by decide +kernel⟩
theorem pnX9_isList : plainName yX9_isList.cls = true := by decide +kernel
theorem sX9_isList : Cond.static yX9_isList ∈ WT := wt_at 386 (by decide +kernel) (by decide +kernel)
theorem mX9_isListOrAll : My yX9_isListOrAll cX9_isListOrAll 1 (some .boolean) 1 := ⟨wt_at 527 (by decide +kernel) (by decide +kernel), wt_at 92 (by decide +kernel) (by decide +kernel), by decide, by decide, by decide +kernel⟩
theorem pnX9_isListOrAll : plainName yX9_isListOrAll.cls = true := by decide +kernel
theorem sX9_isListOrAll : Cond.static yX9_isListOrAll ∈ WT := wt_at 526 (by decide +kernel) (by decide +kernel)
theorem mX9_isPart : My yX9_isPart cX9_isPart 1 (some .boolean) 1 := ⟨wt_at 551 (by decide +kernel) (by decide +kernel), wt_at 92 (by decide +kernel) (by decide +kernel), by decide, by decide, by decide +kernel⟩
theorem pnX9_isPart : plainName yX9_isPart.cls = true := by decide +kernel
theorem sX9_isPart : Cond.static yX9_isPart ∈ WT := wt_at 550 (by decide +kernel) (by decide +kernel)
theorem mX9_isStretch : My yX9_isStretch cX9_isStretch 2 (some .boolean) 2 := ⟨wt_at 789 (by decide +kernel) (by decide +kernel), wt_at 92 (by decide +kernel) (by decide +kernel), by decide, by decide, by decide +kernel⟩
theorem pnX9_isStretch : plainName yX9_isStretch.cls = true := by decide +kernel
theorem sX9_isStretch : Cond.static yX9_isStretch ∈ WT := wt_at 788 (by decide +kernel) (by decide +kernel)
theorem mX9_join : My yX9_join cX9_join 5 (some .int) 3 := ⟨wt_at 446 (by decide +kernel) (by decide +kernel), wt_at 92 (by decide +kernel) (by decide +kernel), by decide, by decide, by decide +kernel⟩
theorem pnX9_join : plainName yX9_join.cls = true := by decide +kernel
theorem iX9_join : Cond.instanceMethod yX9_join ∈ WT := wt_at 444 (by decide +kernel) (by decide +kernel)
theorem eX9_join : Cond.selects yX9_join.cls yX9_join yX9_join ∈ WT := wt_at 445 (by decide +kernel) (by decide +kernel)
theorem mX9_law : My yX9_law cX9_law 5 (some .int) 4 := ⟨wt_at 873 (by decide +kernel) (by decide +kernel), wt_at 92 (by decide +kernel) (by decide +kernel), by decide, by decide, by decide +kernel⟩
theorem pnX9_law : plainName yX9_law.cls = true := by decide +kernel
theorem iX9_law : Cond.instanceMethod yX9_law ∈ WT := wt_at 871 (by decide +kernel) (by decide +kernel)
theorem eX9_law : Cond.selects yX9_law.cls yX9_law yX9_law ∈ WT := wt_at 872 (by decide +kernel) (by decide +kernel)
theorem mX9_loss : My yX9_loss cX9_loss 2 (some .int) 1 := ⟨wt_at 845 (by decide +kernel) (by decide +kernel), wt_at 92 (by decide +kernel) (by decide +kernel), by decide, by decide, by decide +kernel⟩
theorem pnX9_loss : plainName yX9_loss.cls = true := by decide +kernel
theorem iX9_loss : Cond.instanceMethod yX9_loss ∈ WT := wt_at 843 (by decide +kernel) (by decide +kernel)
theorem eX9_loss : Cond.selects yX9_loss.cls yX9_loss yX9_loss ∈ WT := wt_at 844 (by decide +kernel) (by decide +kernel)
theorem mX9_mean : My yX9_mean cX9_mean 2 (some .long) 1 := ⟨wt_at 893 (by decide +kernel) (by decide +kernel), wt_at 92 (by decide +kernel) (by decide +kernel), by decide, by decide, by decide +kernel⟩
theorem pnX9_mean : plainName yX9_mean.cls = true := by decide +kernel
theorem iX9_mean : Cond.instanceMethod yX9_mean ∈ WT := wt_at 891 (by decide +kernel) (by decide +kernel)
theorem eX9_mean : Cond.selects yX9_mean.cls yX9_mean yX9_mean ∈ WT := wt_at 892 (by decide +kernel) (by decide +kernel)
theorem mX9_mend : My yX9_mend cX9_mend 4 (some .int) 2 := ⟨wt_at 426 (by decide +kernel) (by decide +kernel), wt_at 92 (by decide +kernel) (by decide +kernel), by decide, by decide, by decide +kernel⟩
theorem pnX9_mend : plainName yX9_mend.cls = true := by decide +kernel
theorem iX9_mend : Cond.instanceMethod yX9_mend ∈ WT := wt_at 424 (by decide +kernel) (by decide +kernel)
theorem eX9_mend : Cond.selects yX9_mend.cls yX9_mend yX9_mend ∈ WT := wt_at 425 (by decide +kernel) (by decide +kernel)
theorem mX9_mixed : My yX9_mixed cX9_mixed 7 (some .long) 6 := ⟨wt_at 820 (by decide +kernel) (by decide +kernel), wt_at 92 (by decide +kernel) (by decide +kernel), by decide, by decide, by decide +kernel⟩
theorem pnX9_mixed : plainName yX9_mixed.cls = true := by decide +kernel
theorem iX9_mixed : Cond.instanceMethod yX9_mixed ∈ WT := wt_at 818 (by decide +kernel) (by decide +kernel)
theorem eX9_mixed : Cond.selects yX9_mixed.cls yX9_mixed yX9_mixed ∈ WT := wt_at 819 (by decide +kernel) (by decide +kernel)
theorem mX9_mother : My yX9_mother cX9_mother 4 (some .int) 2 := ⟨wt_at 628 (by decide +kernel) (by decide +kernel), wt_at 92 (by decide +kernel) (by decide +kernel), by decide, by decide, by decide +kernel⟩
theorem pnX9_mother : plainName yX9_mother.cls = true := by decide +kernel
theorem iX9_mother : Cond.instanceMethod yX9_mother ∈ WT := wt_at 626 (by decide +kernel) (by decide +kernel)
theorem eX9_mother : Cond.selects yX9_mother.cls yX9_mother yX9_mother ∈ WT := wt_at 627 (by decide +kernel) (by decide +kernel)
theorem mX9_often : My yX9_often cX9_often 4 (some .int) 3 := ⟨wt_at 524 (by decide +kernel) (by decide +kernel), wt_at 92 (by decide +kernel) (by decide +kernel), by decide, by decide, by decide +kernel⟩
theorem pnX9_often : plainName yX9_often.cls = true := by decide +kernel
theorem iX9_often : Cond.instanceMethod yX9_often ∈ WT := wt_at 522 (by decide +kernel) (by decide +kernel)
theorem eX9_often : Cond.selects yX9_often.cls yX9_often yX9_often ∈ WT := wt_at 523 (by decide +kernel) (by decide +kernel)
theorem mX9_quake : My yX9_quake cX9_quake 7 (some .int) 6 := ⟨wt_at 384 (by decide +kernel) (by decide +kernel), wt_at 92 (by decide +kernel) (by decide +kernel), by decide, by decide, by decide +kernel⟩
theorem pnX9_quake : plainName yX9_quake.cls = true := by decide +kernel
theorem iX9_quake : Cond.instanceMethod yX9_quake ∈ WT := wt_at 382 (by decide +kernel) (by decide +kernel)
theorem eX9_quake : Cond.selects yX9_quake.cls yX9_quake yX9_quake ∈ WT := wt_at 383 (by decide +kernel) (by decide +kernel)
theorem mX9_rate : My yX9_rate cX9_rate 5 (some .int) 4 := ⟨wt_at 683 (by decide +kernel) (by decide +kernel), wt_at 92 (by decide +kernel) (by decide +kernel), by decide, by decide, by decide +kernel⟩
theorem pnX9_rate : plainName yX9_rate.cls = true := by decide +kernel
theorem iX9_rate : Cond.instanceMethod yX9_rate ∈ WT := wt_at 681 (by decide +kernel) (by decide +kernel)
theorem eX9_rate : Cond.selects yX9_rate.cls yX9_rate yX9_rate ∈ WT := wt_at 682 (by decide +kernel) (by decide +kernel)
theorem mX9_refusalOfDaughter : My yX9_refusalOfDaughter cX9_refusalOfDaughter 4 (some .int) 3 := ⟨wt_at 632 (by decide +kernel) (by decide +kernel), wt_at 92 (by decide +kernel) (by decide +kernel), by decide, by decide, by decide +kernel⟩
theorem pnX9_refusalOfDaughter : plainName yX9_refusalOfDaughter.cls = true := by decide +kernel
theorem iX9_refusalOfDaughter : Cond.instanceMethod yX9_refusalOfDaughter ∈ WT := wt_at 631 (by decide +kernel) (by decide +kernel)
theorem eX9_refusalOfDaughter : Cond.selects yX9_refusalOfDaughter.cls yX9_refusalOfDaughter yX9_refusalOfDaughter ∈ WT := wt_at 24 (by decide +kernel) (by decide +kernel)
theorem mX9_say : My yX9_say cX9_say 2 (some .int) 1 := ⟨wt_at 691 (by decide +kernel) (by decide +kernel), wt_at 92 (by decide +kernel) (by decide +kernel), by decide, by decide, by decide +kernel⟩
theorem pnX9_say : plainName yX9_say.cls = true := by decide +kernel
theorem iX9_say : Cond.instanceMethod yX9_say ∈ WT := wt_at 689 (by decide +kernel) (by decide +kernel)
theorem eX9_say : Cond.selects yX9_say.cls yX9_say yX9_say ∈ WT := wt_at 690 (by decide +kernel) (by decide +kernel)
theorem mX9_score : My yX9_score cX9_score 5 (some .long) 4 := ⟨wt_at 782 (by decide +kernel) (by decide +kernel), wt_at 92 (by decide +kernel) (by decide +kernel), by decide, by decide, by decide +kernel⟩
theorem pnX9_score : plainName yX9_score.cls = true := by decide +kernel
theorem iX9_score : Cond.instanceMethod yX9_score ∈ WT := wt_at 780 (by decide +kernel) (by decide +kernel)
theorem eX9_score : Cond.selects yX9_score.cls yX9_score yX9_score ∈ WT := wt_at 781 (by decide +kernel) (by decide +kernel)
theorem mX9_scoreOfMix : My yX9_scoreOfMix cX9_scoreOfMix 9 (some .long) 6 := ⟨wt_at 786 (by decide +kernel) (by decide +kernel), wt_at 92 (by decide +kernel) (by decide +kernel), by decide, by decide, by decide +kernel⟩
theorem pnX9_scoreOfMix : plainName yX9_scoreOfMix.cls = true := by decide +kernel
theorem iX9_scoreOfMix : Cond.instanceMethod yX9_scoreOfMix ∈ WT := wt_at 785 (by decide +kernel) (by decide +kernel)
theorem eX9_scoreOfMix : Cond.selects yX9_scoreOfMix.cls yX9_scoreOfMix yX9_scoreOfMix ∈ WT := wt_at 42 (by decide +kernel) (by decide +kernel)
theorem mX9_set : My yX9_set cX9_set 4 (some .int) 2 := ⟨wt_at 438 (by decide +kernel) (by decide +kernel), wt_at 92 (by decide +kernel) (by decide +kernel), by decide, by decide, by decide +kernel⟩
theorem pnX9_set : plainName yX9_set.cls = true := by decide +kernel
theorem iX9_set : Cond.instanceMethod yX9_set ∈ WT := wt_at 436 (by decide +kernel) (by decide +kernel)
theorem eX9_set : Cond.selects yX9_set.cls yX9_set yX9_set ∈ WT := wt_at 437 (by decide +kernel) (by decide +kernel)
theorem mX9_share : My yX9_share cX9_share 7 (some .long) 4 := ⟨wt_at 598 (by decide +kernel) (by decide +kernel), wt_at 92 (by decide +kernel) (by decide +kernel), by decide, by decide, by decide +kernel⟩
theorem pnX9_share : plainName yX9_share.cls = true := by decide +kernel
theorem iX9_share : Cond.instanceMethod yX9_share ∈ WT := wt_at 596 (by decide +kernel) (by decide +kernel)
theorem eX9_share : Cond.selects yX9_share.cls yX9_share yX9_share ∈ WT := wt_at 597 (by decide +kernel) (by decide +kernel)
theorem mX9_slope : My yX9_slope cX9_slope 7 (some .long) 4 := ⟨wt_at 547 (by decide +kernel) (by decide +kernel), wt_at 92 (by decide +kernel) (by decide +kernel), by decide, by decide, by decide +kernel⟩
theorem pnX9_slope : plainName yX9_slope.cls = true := by decide +kernel
theorem iX9_slope : Cond.instanceMethod yX9_slope ∈ WT := wt_at 545 (by decide +kernel) (by decide +kernel)
theorem eX9_slope : Cond.selects yX9_slope.cls yX9_slope yX9_slope ∈ WT := wt_at 546 (by decide +kernel) (by decide +kernel)
theorem mX9_step : My yX9_step cX9_step 6 (some .int) 3 := ⟨wt_at 590 (by decide +kernel) (by decide +kernel), wt_at 92 (by decide +kernel) (by decide +kernel), by decide, by decide, by decide +kernel⟩
theorem pnX9_step : plainName yX9_step.cls = true := by decide +kernel
theorem iX9_step : Cond.instanceMethod yX9_step ∈ WT := wt_at 588 (by decide +kernel) (by decide +kernel)
theorem eX9_step : Cond.selects yX9_step.cls yX9_step yX9_step ∈ WT := wt_at 589 (by decide +kernel) (by decide +kernel)
theorem mX9_strengthen : My yX9_strengthen cX9_strengthen 2 (some .int) 1 := ⟨wt_at 901 (by decide +kernel) (by decide +kernel), wt_at 92 (by decide +kernel) (by decide +kernel), by decide, by decide, by decide +kernel⟩
theorem pnX9_strengthen : plainName yX9_strengthen.cls = true := by decide +kernel
theorem iX9_strengthen : Cond.instanceMethod yX9_strengthen ∈ WT := wt_at 899 (by decide +kernel) (by decide +kernel)
theorem eX9_strengthen : Cond.selects yX9_strengthen.cls yX9_strengthen yX9_strengthen ∈ WT := wt_at 900 (by decide +kernel) (by decide +kernel)
theorem mX9_tells : My yX9_tells cX9_tells 4 (some .int) 2 := ⟨wt_at 761 (by decide +kernel) (by decide +kernel), wt_at 92 (by decide +kernel) (by decide +kernel), by decide, by decide, by decide +kernel⟩
theorem pnX9_tells : plainName yX9_tells.cls = true := by decide +kernel
theorem iX9_tells : Cond.instanceMethod yX9_tells ∈ WT := wt_at 759 (by decide +kernel) (by decide +kernel)
theorem eX9_tells : Cond.selects yX9_tells.cls yX9_tells yX9_tells ∈ WT := wt_at 760 (by decide +kernel) (by decide +kernel)
theorem mX9_told : My yX9_told cX9_told 2 (some .int) 1 := ⟨wt_at 925 (by decide +kernel) (by decide +kernel), wt_at 92 (by decide +kernel) (by decide +kernel), by decide, by decide, by decide +kernel⟩
theorem pnX9_told : plainName yX9_told.cls = true := by decide +kernel
theorem iX9_told : Cond.instanceMethod yX9_told ∈ WT := wt_at 923 (by decide +kernel) (by decide +kernel)
theorem eX9_told : Cond.selects yX9_told.cls yX9_told yX9_told ∈ WT := wt_at 924 (by decide +kernel) (by decide +kernel)
theorem mX9_whole : My yX9_whole cX9_whole 3 (some .int) 2 := ⟨wt_at 539 (by decide +kernel) (by decide +kernel), wt_at 92 (by decide +kernel) (by decide +kernel), by decide, by decide, by decide +kernel⟩
theorem pnX9_whole : plainName yX9_whole.cls = true := by decide +kernel
theorem iX9_whole : Cond.instanceMethod yX9_whole ∈ WT := wt_at 537 (by decide +kernel) (by decide +kernel)
theorem eX9_whole : Cond.selects yX9_whole.cls yX9_whole yX9_whole ∈ WT := wt_at 538 (by decide +kernel) (by decide +kernel)
theorem mX9_wipe : My yX9_wipe cX9_wipe 2 (some .int) 0 := ⟨wt_at 703 (by decide +kernel) (by decide +kernel), wt_at 92 (by decide +kernel) (by decide +kernel), by decide, by decide, by decide +kernel⟩
theorem pnX9_wipe : plainName yX9_wipe.cls = true := by decide +kernel
theorem iX9_wipe : Cond.instanceMethod yX9_wipe ∈ WT := wt_at 701 (by decide +kernel) (by decide +kernel)
theorem eX9_wipe : Cond.selects yX9_wipe.cls yX9_wipe yX9_wipe ∈ WT := wt_at 702 (by decide +kernel) (by decide +kernel)
theorem mX9_within : My yX9_within cX9_within 3 (some .boolean) 3 := ⟨wt_at 390 (by decide +kernel) (by decide +kernel), wt_at 92 (by decide +kernel) (by decide +kernel), by decide, by decide, by decide +kernel⟩
theorem pnX9_within : plainName yX9_within.cls = true := by decide +kernel
theorem sX9_within : Cond.static yX9_within ∈ WT := wt_at 389 (by decide +kernel) (by decide +kernel)
theorem mX9_worst : My yX9_worst cX9_worst 4 (some .int) 2 := ⟨wt_at 863 (by decide +kernel) (by decide +kernel), wt_at 92 (by decide +kernel) (by decide +kernel), by decide, by decide, by decide +kernel⟩
theorem pnX9_worst : plainName yX9_worst.cls = true := by decide +kernel
theorem iX9_worst : Cond.instanceMethod yX9_worst ∈ WT := wt_at 861 (by decide +kernel) (by decide +kernel)
theorem eX9_worst : Cond.selects yX9_worst.cls yX9_worst yX9_worst ∈ WT := wt_at 862 (by decide +kernel) (by decide +kernel)
theorem oiX9 : Cond.methodLink RX9 1 objectInit ∈ WT := wt_at 109 (by decide +kernel) (by decide +kernel)
theorem lX9_15 : Mlk RX9 15 yX6_init := Or.inr (List.mem_of_getElem? (i := 114) (by decide +kernel))
theorem lX9_22 : Mlk RX9 22 yX3_init := Or.inr (List.mem_of_getElem? (i := 183) (by decide +kernel))
theorem lX9_29 : Mlk RX9 29 yX0_init := Or.inr (List.mem_of_getElem? (i := 237) (by decide +kernel))
theorem lX9_36 : Mlk RX9 36 yX4_init := Or.inr (List.mem_of_getElem? (i := 247) (by decide +kernel))
theorem lX9_43 : Mlk RX9 43 yX8_init := Or.inr (List.mem_of_getElem? (i := 271) (by decide +kernel))
theorem lX9_60 : Mlk RX9 60 yX7_init := Or.inr (List.mem_of_getElem? (i := 287) (by decide +kernel))
theorem lX9_67 : Mlk RX9 67 yX2_init := Or.inr (List.mem_of_getElem? (i := 301) (by decide +kernel))
theorem lX9_72 : Mlk RX9 72 yX9_isList := Or.inl (wt_at 385 (by decide +kernel) (by decide +kernel))
theorem lX9_76 : Mlk RX9 76 yX9_isCell := Or.inl (wt_at 391 (by decide +kernel) (by decide +kernel))
theorem lX9_80 : Mlk RX9 80 yX9_isDay := Or.inl (wt_at 394 (by decide +kernel) (by decide +kernel))
theorem lX9_83 : Mlk RX9 83 yX9_isGreatness := Or.inl (wt_at 397 (by decide +kernel) (by decide +kernel))
theorem lX9_86 : Mlk RX9 86 yX6_isFull := Or.inr (List.mem_of_getElem? (i := 400) (by decide +kernel))
theorem lX9_90 : Mlk RX9 90 yX6_add := Or.inr (List.mem_of_getElem? (i := 404) (by decide +kernel))
theorem lX9_94 : Mlk RX9 94 yX6_has := Or.inr (List.mem_of_getElem? (i := 416) (by decide +kernel))
theorem lX9_101 : Mlk RX9 101 yX9_asNumber := Or.inl (wt_at 420 (by decide +kernel) (by decide +kernel))
theorem lX9_123 : Mlk RX9 123 yX6_placeOf := Or.inr (List.mem_of_getElem? (i := 431) (by decide +kernel))
theorem lX9_127 : Mlk RX9 127 yX9_within := Or.inl (wt_at 388 (by decide +kernel) (by decide +kernel))
theorem lX9_137 : Mlk RX9 137 yX6_howManyIn := Or.inr (List.mem_of_getElem? (i := 447) (by decide +kernel))
theorem lX9_140 : Mlk RX9 140 yX3_pairUp := Or.inr (List.mem_of_getElem? (i := 451) (by decide +kernel))
theorem lX9_150 : Mlk RX9 150 yX3_partnerOf := Or.inr (List.mem_of_getElem? (i := 517) (by decide +kernel))
theorem lX9_153 : Mlk RX9 153 yX9_isListOrAll := Or.inl (wt_at 525 (by decide +kernel) (by decide +kernel))
theorem lX9_156 : Mlk RX9 156 yX0_howMany := Or.inr (List.mem_of_getElem? (i := 528) (by decide +kernel))
theorem lX9_160 : Mlk RX9 160 yX0_commonest := Or.inr (List.mem_of_getElem? (i := 540) (by decide +kernel))
theorem lX9_166 : Mlk RX9 166 yX9_isPart := Or.inl (wt_at 549 (by decide +kernel) (by decide +kernel))
theorem lX9_173 : Mlk RX9 173 yX0_sumAbove := Or.inr (List.mem_of_getElem? (i := 554) (by decide +kernel))
theorem lX9_178 : Mlk RX9 178 yX5_partOf := Or.inr (List.mem_of_getElem? (i := 559) (by decide +kernel))
theorem lX9_184 : Mlk RX9 184 yX5_waysToDeal := Or.inr (List.mem_of_getElem? (i := 569) (by decide +kernel))
theorem lX9_188 : Mlk RX9 188 yX5_choose := Or.inr (List.mem_of_getElem? (i := 575) (by decide +kernel))
theorem lX9_192 : Mlk RX9 192 yX5_waysForFew := Or.inr (List.mem_of_getElem? (i := 580) (by decide +kernel))
theorem lX9_195 : Mlk RX9 195 yX5_power := Or.inr (List.mem_of_getElem? (i := 586) (by decide +kernel))
theorem lX9_198 : Mlk RX9 198 yX4_stepsOf := Or.inr (List.mem_of_getElem? (i := 591) (by decide +kernel))
theorem lX9_202 : Mlk RX9 202 yX6_isCounted := Or.inr (List.mem_of_getElem? (i := 599) (by decide +kernel))
theorem lX9_205 : Mlk RX9 205 yX4_weightIfAhead := Or.inr (List.mem_of_getElem? (i := 600) (by decide +kernel))
theorem lX9_208 : Mlk RX9 208 yX4_allWeights := Or.inr (List.mem_of_getElem? (i := 621) (by decide +kernel))
theorem lX9_211 : Mlk RX9 211 yX9_refusalOfDaughter := Or.inl (wt_at 629 (by decide +kernel) (by decide +kernel))
theorem lX9_215 : Mlk RX9 215 yX4_likeliest := Or.inr (List.mem_of_getElem? (i := 633) (by decide +kernel))
theorem lX9_218 : Mlk RX9 218 yX4_trace := Or.inr (List.mem_of_getElem? (i := 641) (by decide +kernel))
theorem lX9_225 : Mlk RX9 225 yX4_sizeOfFamily := Or.inr (List.mem_of_getElem? (i := 646) (by decide +kernel))
theorem lX9_229 : Mlk RX9 229 yX4_deepestOfFamily := Or.inr (List.mem_of_getElem? (i := 650) (by decide +kernel))
theorem lX9_235 : Mlk RX9 235 yX4_howManyFirst := Or.inr (List.mem_of_getElem? (i := 659) (by decide +kernel))
theorem lX9_239 : Mlk RX9 239 yX4_firstAt := Or.inr (List.mem_of_getElem? (i := 663) (by decide +kernel))
theorem lX9_243 : Mlk RX9 243 yX4_drawn := Or.inr (List.mem_of_getElem? (i := 672) (by decide +kernel))
theorem lX9_247 : Mlk RX9 247 yX4_weightOn := Or.inr (List.mem_of_getElem? (i := 684) (by decide +kernel))
theorem lX9_250 : Mlk RX9 250 yX8_isFull := Or.inr (List.mem_of_getElem? (i := 692) (by decide +kernel))
theorem lX9_251 : Mlk RX9 251 yX8_add := Or.inr (List.mem_of_getElem? (i := 696) (by decide +kernel))
theorem lX9_256 : Mlk RX9 256 yX8_faultyPlace := Or.inr (List.mem_of_getElem? (i := 708) (by decide +kernel))
theorem lX9_260 : Mlk RX9 260 yX8_read := Or.inr (List.mem_of_getElem? (i := 721) (by decide +kernel))
theorem lX9_264 : Mlk RX9 264 yX9_forecastOf := Or.inl (wt_at 762 (by decide +kernel) (by decide +kernel))
theorem lX9_268 : Mlk RX9 268 yX1_toldFor := Or.inr (List.mem_of_getElem? (i := 766) (by decide +kernel))
theorem lX9_271 : Mlk RX9 271 yX9_scoreOfMix := Or.inl (wt_at 783 (by decide +kernel) (by decide +kernel))
theorem lX9_277 : Mlk RX9 277 yX7_leastMix := Or.inr (List.mem_of_getElem? (i := 826) (by decide +kernel))
theorem lX9_283 : Mlk RX9 283 yX2_build := Or.inr (List.mem_of_getElem? (i := 834) (by decide +kernel))
theorem lX9_291 : Mlk RX9 291 yX2_lossByQuake := Or.inr (List.mem_of_getElem? (i := 846) (by decide +kernel))
theorem lX9_294 : Mlk RX9 294 yX2_worstQuake := Or.inr (List.mem_of_getElem? (i := 864) (by decide +kernel))
theorem lX9_300 : Mlk RX9 300 yX2_enact := Or.inr (List.mem_of_getElem? (i := 874) (by decide +kernel))
theorem lX9_304 : Mlk RX9 304 yX2_howOftenAbove := Or.inr (List.mem_of_getElem? (i := 882) (by decide +kernel))
theorem lX9_308 : Mlk RX9 308 yX2_meanLoss := Or.inr (List.mem_of_getElem? (i := 894) (by decide +kernel))
theorem lX9_311 : Mlk RX9 311 yX2_bestHouses := Or.inr (List.mem_of_getElem? (i := 902) (by decide +kernel))
theorem lX9_315 : Mlk RX9 315 yX6_howManyBlasts := Or.inr (List.mem_of_getElem? (i := 926) (by decide +kernel))
theorem lX9_318 : Cond.methodLink RX9 318 yJ9_abs_0f7a4 ∈ WT := wt_at 481 (by decide +kernel) (by decide +kernel)
theorem lX9_323 : Cond.methodLink RX9 323 yJ9_max_7cf53 ∈ WT := wt_at 482 (by decide +kernel) (by decide +kernel)
theorem lX9_326 : Mlk RX9 326 yX9_isStretch := Or.inl (wt_at 787 (by decide +kernel) (by decide +kernel))
theorem lX9_329 : Mlk RX9 329 yX7_work := Or.inr (List.mem_of_getElem? (i := 790) (by decide +kernel))
theorem oiX0 : Cond.methodLink RX0 3 objectInit ∈ WT := wt_at 240 (by decide +kernel) (by decide +kernel)
theorem lX0_21 : Mlk RX0 21 yX6_isCounted := Or.inr (List.mem_of_getElem? (i := 532) (by decide +kernel))
theorem oiX1 : Cond.methodLink RX1 1 objectInit ∈ WT := wt_at 730 (by decide +kernel) (by decide +kernel)
theorem lX1_29 : Mlk RX1 29 yX1_howManyAhead := Or.inl (wt_at 770 (by decide +kernel) (by decide +kernel))
theorem lX1_33 : Cond.methodLink RX1 33 yJ9_min_7cf53 ∈ WT := wt_at 778 (by decide +kernel) (by decide +kernel)
theorem lX1_44 : Mlk RX1 44 yX6_isGreat := Or.inr (List.mem_of_getElem? (i := 774) (by decide +kernel))
theorem oiX2 : Cond.methodLink RX2 3 objectInit ∈ WT := wt_at 304 (by decide +kernel) (by decide +kernel)
theorem lX2_55 : Mlk RX2 55 yX9_howFar := Or.inr (List.mem_of_getElem? (i := 858) (by decide +kernel))
theorem lX2_59 : Cond.methodLink RX2 59 yJ9_max_7cf53 ∈ WT := wt_at 859 (by decide +kernel) (by decide +kernel)
theorem lX2_65 : Mlk RX2 65 yX2_lossOfHouse := Or.inl (wt_at 854 (by decide +kernel) (by decide +kernel))
theorem lX2_80 : Mlk RX2 80 yX2_lossInAll := Or.inl (wt_at 850 (by decide +kernel) (by decide +kernel))
theorem lX2_90 : Mlk RX2 90 yX6_isCounted := Or.inr (List.mem_of_getElem? (i := 868) (by decide +kernel))
theorem lX2_94 : Mlk RX2 94 yX2_lossByQuake := Or.inl (wt_at 869 (by decide +kernel) (by decide +kernel))
theorem lX2_98 : Mlk RX2 98 yX2_lossByLaw := Or.inl (wt_at 886 (by decide +kernel) (by decide +kernel))
theorem lX2_104 : Mlk RX2 104 yX2_gainOf := Or.inl (wt_at 907 (by decide +kernel) (by decide +kernel))
theorem lX2_110 : Mlk RX2 110 yX2_offer := Or.inl (wt_at 912 (by decide +kernel) (by decide +kernel))
theorem lX2_114 : Mlk RX2 114 yJ9_floorMod_f86c9 := Or.inl (wt_at 919 (by decide +kernel) (by decide +kernel))
theorem lX2_118 : Cond.methodLink RX2 118 yJ9_max_f86c9 ∈ WT := wt_at 916 (by decide +kernel) (by decide +kernel)
theorem oiX3 : Cond.methodLink RX3 5 objectInit ∈ WT := wt_at 186 (by decide +kernel) (by decide +kernel)
theorem lX3_59 : Mlk RX3 59 yX3_gather := Or.inl (wt_at 455 (by decide +kernel) (by decide +kernel))
theorem lX3_63 : Mlk RX3 63 yX3_fillCosts := Or.inl (wt_at 458 (by decide +kernel) (by decide +kernel))
theorem lX3_67 : Mlk RX3 67 yX3_clearPrices := Or.inl (wt_at 492 (by decide +kernel) (by decide +kernel))
theorem lX3_70 : Mlk RX3 70 yX3_placeRow := Or.inl (wt_at 496 (by decide +kernel) (by decide +kernel))
theorem lX3_74 : Mlk RX3 74 yX3_sumUp := Or.inl (wt_at 513 (by decide +kernel) (by decide +kernel))
theorem lX3_94 : Mlk RX3 94 yX3_maySame := Or.inl (wt_at 466 (by decide +kernel) (by decide +kernel))
theorem lX3_98 : Mlk RX3 98 yX3_missOf := Or.inl (wt_at 488 (by decide +kernel) (by decide +kernel))
theorem lX3_104 : Mlk RX3 104 yX3_daysApart := Or.inl (wt_at 469 (by decide +kernel) (by decide +kernel))
theorem lX3_107 : Mlk RX3 107 yX3_cellsApart := Or.inl (wt_at 475 (by decide +kernel) (by decide +kernel))
theorem lX3_110 : Mlk RX3 110 yX3_tenthsApart := Or.inl (wt_at 485 (by decide +kernel) (by decide +kernel))
theorem lX3_116 : Cond.methodLink RX3 116 yJ9_abs_0f7a4 ∈ WT := wt_at 472 (by decide +kernel) (by decide +kernel)
theorem lX3_128 : Mlk RX3 128 yX9_howFar := Or.inr (List.mem_of_getElem? (i := 478) (by decide +kernel))
theorem lX3_137 : Mlk RX3 137 yX3_loosen := Or.inl (wt_at 501 (by decide +kernel) (by decide +kernel))
theorem lX3_140 : Mlk RX3 140 yX3_nearest := Or.inl (wt_at 505 (by decide +kernel) (by decide +kernel))
theorem lX3_144 : Mlk RX3 144 yX3_reprice := Or.inl (wt_at 509 (by decide +kernel) (by decide +kernel))
theorem oiX4 : Cond.methodLink RX4 3 objectInit ∈ WT := wt_at 250 (by decide +kernel) (by decide +kernel)
theorem lX4_35 : Mlk RX4 35 yX9_howFar := Or.inr (List.mem_of_getElem? (i := 614) (by decide +kernel))
theorem lX4_39 : Cond.methodLink RX4 39 yJ9_min_7cf53 ∈ WT := wt_at 615 (by decide +kernel) (by decide +kernel)
theorem lX4_51 : Mlk RX4 51 yX4_fadeStep := Or.inl (wt_at 618 (by decide +kernel) (by decide +kernel))
theorem lX4_55 : Mlk RX4 55 yX4_weightAt := Or.inl (wt_at 610 (by decide +kernel) (by decide +kernel))
theorem lX4_59 : Mlk RX4 59 yX6_isCounted := Or.inr (List.mem_of_getElem? (i := 604) (by decide +kernel))
theorem lX4_63 : Mlk RX4 63 yX6_placeOf := Or.inr (List.mem_of_getElem? (i := 605) (by decide +kernel))
theorem lX4_66 : Mlk RX4 66 yX4_weight := Or.inl (wt_at 606 (by decide +kernel) (by decide +kernel))
theorem lX4_77 : Mlk RX4 77 yX4_likeliest := Or.inl (wt_at 645 (by decide +kernel) (by decide +kernel))
theorem lX4_81 : Cond.methodLink RX4 81 yJ9_max_7cf53 ∈ WT := wt_at 654 (by decide +kernel) (by decide +kernel)
theorem lX4_88 : Mlk RX4 88 yX4_allWeights := Or.inl (wt_at 678 (by decide +kernel) (by decide +kernel))
theorem lX5_7 : Mlk RX5 7 yX5_greatestDivisor := Or.inl (wt_at 562 (by decide +kernel) (by decide +kernel))
theorem lX5_13 : Mlk RX5 13 yX5_choose := Or.inl (wt_at 572 (by decide +kernel) (by decide +kernel))
theorem lX5_17 : Mlk RX5 17 yX5_power := Or.inl (wt_at 583 (by decide +kernel) (by decide +kernel))
theorem oiX6 : Cond.methodLink RX6 3 objectInit ∈ WT := wt_at 117 (by decide +kernel) (by decide +kernel)
theorem lX6_41 : Mlk RX6 41 yX6_putInOrder := Or.inl (wt_at 408 (by decide +kernel) (by decide +kernel))
theorem lX6_45 : Mlk RX6 45 yX6_isGreat := Or.inl (wt_at 816 (by decide +kernel) (by decide +kernel))
theorem oiX7 : Cond.methodLink RX7 3 objectInit ∈ WT := wt_at 290 (by decide +kernel) (by decide +kernel)
theorem lX7_19 : Mlk RX7 19 yX7_markStrikes := Or.inl (wt_at 794 (by decide +kernel) (by decide +kernel))
theorem lX7_23 : Mlk RX7 23 yX7_markRules := Or.inl (wt_at 803 (by decide +kernel) (by decide +kernel))
theorem lX7_27 : Mlk RX7 27 yX7_addStretch := Or.inl (wt_at 807 (by decide +kernel) (by decide +kernel))
theorem lX7_37 : Mlk RX7 37 yX6_isGreat := Or.inr (List.mem_of_getElem? (i := 798) (by decide +kernel))
theorem lX7_45 : Mlk RX7 45 yX7_mark := Or.inl (wt_at 799 (by decide +kernel) (by decide +kernel))
theorem lX7_63 : Mlk RX7 63 yX1_toldFor := Or.inr (List.mem_of_getElem? (i := 811) (by decide +kernel))
theorem lX7_67 : Mlk RX7 67 yX6_strikes := Or.inr (List.mem_of_getElem? (i := 812) (by decide +kernel))
theorem oiX8 : Cond.methodLink RX8 3 objectInit ∈ WT := wt_at 274 (by decide +kernel) (by decide +kernel)
theorem lX8_19 : Mlk RX8 19 yX8_isDigit := Or.inl (wt_at 712 (by decide +kernel) (by decide +kernel))
theorem lX8_29 : Mlk RX8 29 yX1_init := Or.inr (List.mem_of_getElem? (i := 727) (by decide +kernel))
theorem lX8_30 : Mlk RX8 30 yX1_take := Or.inr (List.mem_of_getElem? (i := 754) (by decide +kernel))
theorem lL_9 : Mlk RL 9 yX9_init := Or.inl (wt_at 106 (by decide +kernel) (by decide +kernel))
theorem lL_12 : Mlk RL 12 yX10_init := Or.inl (wt_at 932 (by decide +kernel) (by decide +kernel))
theorem lL_13 : Mlk RL 13 yX9_quake := Or.inl (wt_at 381 (by decide +kernel) (by decide +kernel))
theorem lL_17 : Mlk RL 17 yX10_quake := Or.inl (wt_at 1040 (by decide +kernel) (by decide +kernel))
theorem lL_18 : Mlk RL 18 yX9_blast := Or.inl (wt_at 412 (by decide +kernel) (by decide +kernel))
theorem lL_22 : Mlk RL 22 yX10_blast := Or.inl (wt_at 1063 (by decide +kernel) (by decide +kernel))
theorem lL_23 : Mlk RL 23 yX9_mend := Or.inl (wt_at 423 (by decide +kernel) (by decide +kernel))
theorem lL_27 : Mlk RL 27 yX10_mend := Or.inl (wt_at 1071 (by decide +kernel) (by decide +kernel))
theorem lL_28 : Mlk RL 28 yX9_about := Or.inl (wt_at 427 (by decide +kernel) (by decide +kernel))
theorem lL_31 : Mlk RL 31 yX10_about := Or.inl (wt_at 1075 (by decide +kernel) (by decide +kernel))
theorem lL_32 : Mlk RL 32 yX9_set := Or.inl (wt_at 435 (by decide +kernel) (by decide +kernel))
theorem lL_35 : Mlk RL 35 yX10_set := Or.inl (wt_at 1083 (by decide +kernel) (by decide +kernel))
theorem lL_36 : Mlk RL 36 yX9_join := Or.inl (wt_at 443 (by decide +kernel) (by decide +kernel))
theorem lL_40 : Mlk RL 40 yX10_join := Or.inl (wt_at 1092 (by decide +kernel) (by decide +kernel))
theorem lL_41 : Mlk RL 41 yX9_often := Or.inl (wt_at 521 (by decide +kernel) (by decide +kernel))
theorem lL_44 : Mlk RL 44 yX10_often := Or.inl (wt_at 1118 (by decide +kernel) (by decide +kernel))
theorem lL_45 : Mlk RL 45 yX9_whole := Or.inl (wt_at 536 (by decide +kernel) (by decide +kernel))
theorem lL_48 : Mlk RL 48 yX10_whole := Or.inl (wt_at 1134 (by decide +kernel) (by decide +kernel))
theorem lL_49 : Mlk RL 49 yX9_slope := Or.inl (wt_at 544 (by decide +kernel) (by decide +kernel))
theorem lL_53 : Mlk RL 53 yX10_slope := Or.inl (wt_at 1138 (by decide +kernel) (by decide +kernel))
theorem lL_54 : Mlk RL 54 yX9_alike := Or.inl (wt_at 565 (by decide +kernel) (by decide +kernel))
theorem lL_57 : Mlk RL 57 yX10_alike := Or.inl (wt_at 1151 (by decide +kernel) (by decide +kernel))
theorem lL_58 : Mlk RL 58 yX9_few := Or.inl (wt_at 576 (by decide +kernel) (by decide +kernel))
theorem lL_62 : Mlk RL 62 yX10_few := Or.inl (wt_at 1158 (by decide +kernel) (by decide +kernel))
theorem lL_63 : Mlk RL 63 yX9_step := Or.inl (wt_at 587 (by decide +kernel) (by decide +kernel))
theorem lL_66 : Mlk RL 66 yX10_step := Or.inl (wt_at 1167 (by decide +kernel) (by decide +kernel))
theorem lL_67 : Mlk RL 67 yX9_share := Or.inl (wt_at 595 (by decide +kernel) (by decide +kernel))
theorem lL_70 : Mlk RL 70 yX10_share := Or.inl (wt_at 1173 (by decide +kernel) (by decide +kernel))
theorem lL_71 : Mlk RL 71 yX9_mother := Or.inl (wt_at 625 (by decide +kernel) (by decide +kernel))
theorem lL_74 : Mlk RL 74 yX10_mother := Or.inl (wt_at 1200 (by decide +kernel) (by decide +kernel))
theorem lL_75 : Mlk RL 75 yX9_family := Or.inl (wt_at 637 (by decide +kernel) (by decide +kernel))
theorem lL_78 : Mlk RL 78 yX10_family := Or.inl (wt_at 1212 (by decide +kernel) (by decide +kernel))
theorem lL_79 : Mlk RL 79 yX9_families := Or.inl (wt_at 655 (by decide +kernel) (by decide +kernel))
theorem lL_82 : Mlk RL 82 yX10_families := Or.inl (wt_at 1225 (by decide +kernel) (by decide +kernel))
theorem lL_83 : Mlk RL 83 yX9_draw := Or.inl (wt_at 667 (by decide +kernel) (by decide +kernel))
theorem lL_86 : Mlk RL 86 yX10_draw := Or.inl (wt_at 1229 (by decide +kernel) (by decide +kernel))
theorem lL_87 : Mlk RL 87 yX9_rate := Or.inl (wt_at 680 (by decide +kernel) (by decide +kernel))
theorem lL_91 : Mlk RL 91 yX10_rate := Or.inl (wt_at 1240 (by decide +kernel) (by decide +kernel))
theorem lL_92 : Mlk RL 92 yX9_say := Or.inl (wt_at 688 (by decide +kernel) (by decide +kernel))
theorem lL_96 : Mlk RL 96 yX10_say := Or.inl (wt_at 1244 (by decide +kernel) (by decide +kernel))
theorem lL_97 : Mlk RL 97 yX9_wipe := Or.inl (wt_at 700 (by decide +kernel) (by decide +kernel))
theorem lL_101 : Mlk RL 101 yX10_wipe := Or.inl (wt_at 1250 (by decide +kernel) (by decide +kernel))
theorem lL_102 : Mlk RL 102 yX9_fault := Or.inl (wt_at 704 (by decide +kernel) (by decide +kernel))
theorem lL_105 : Mlk RL 105 yX10_fault := Or.inl (wt_at 1254 (by decide +kernel) (by decide +kernel))
theorem lL_106 : Mlk RL 106 yX9_forecast := Or.inl (wt_at 717 (by decide +kernel) (by decide +kernel))
theorem lL_109 : Mlk RL 109 yX10_forecast := Or.inl (wt_at 1266 (by decide +kernel) (by decide +kernel))
theorem lL_110 : Mlk RL 110 yX9_tells := Or.inl (wt_at 758 (by decide +kernel) (by decide +kernel))
theorem lL_113 : Mlk RL 113 yX10_tells := Or.inl (wt_at 1271 (by decide +kernel) (by decide +kernel))
theorem lL_114 : Mlk RL 114 yX9_score := Or.inl (wt_at 779 (by decide +kernel) (by decide +kernel))
theorem lL_117 : Mlk RL 117 yX10_score := Or.inl (wt_at 1287 (by decide +kernel) (by decide +kernel))
theorem lL_118 : Mlk RL 118 yX9_mixed := Or.inl (wt_at 817 (by decide +kernel) (by decide +kernel))
theorem lL_122 : Mlk RL 122 yX10_mixed := Or.inl (wt_at 1303 (by decide +kernel) (by decide +kernel))
theorem lL_123 : Mlk RL 123 yX9_best := Or.inl (wt_at 821 (by decide +kernel) (by decide +kernel))
theorem lL_127 : Mlk RL 127 yX10_best := Or.inl (wt_at 1308 (by decide +kernel) (by decide +kernel))
theorem lL_128 : Mlk RL 128 yX9_house := Or.inl (wt_at 830 (by decide +kernel) (by decide +kernel))
theorem lL_131 : Mlk RL 131 yX10_house := Or.inl (wt_at 1312 (by decide +kernel) (by decide +kernel))
theorem lL_132 : Mlk RL 132 yX9_damage := Or.inl (wt_at 838 (by decide +kernel) (by decide +kernel))
theorem lL_135 : Mlk RL 135 yX10_damage := Or.inl (wt_at 1317 (by decide +kernel) (by decide +kernel))
theorem lL_136 : Mlk RL 136 yX9_loss := Or.inl (wt_at 842 (by decide +kernel) (by decide +kernel))
theorem lL_139 : Mlk RL 139 yX10_loss := Or.inl (wt_at 1321 (by decide +kernel) (by decide +kernel))
theorem lL_140 : Mlk RL 140 yX9_worst := Or.inl (wt_at 860 (by decide +kernel) (by decide +kernel))
theorem lL_143 : Mlk RL 143 yX10_worst := Or.inl (wt_at 1333 (by decide +kernel) (by decide +kernel))
theorem lL_144 : Mlk RL 144 yX9_law := Or.inl (wt_at 870 (by decide +kernel) (by decide +kernel))
theorem lL_147 : Mlk RL 147 yX10_law := Or.inl (wt_at 1337 (by decide +kernel) (by decide +kernel))
theorem lL_148 : Mlk RL 148 yX9_curve := Or.inl (wt_at 878 (by decide +kernel) (by decide +kernel))
theorem lL_151 : Mlk RL 151 yX10_curve := Or.inl (wt_at 1341 (by decide +kernel) (by decide +kernel))
theorem lL_152 : Mlk RL 152 yX9_mean := Or.inl (wt_at 890 (by decide +kernel) (by decide +kernel))
theorem lL_156 : Mlk RL 156 yX10_mean := Or.inl (wt_at 1349 (by decide +kernel) (by decide +kernel))
theorem lL_157 : Mlk RL 157 yX9_strengthen := Or.inl (wt_at 898 (by decide +kernel) (by decide +kernel))
theorem lL_160 : Mlk RL 160 yX10_strengthen := Or.inl (wt_at 1357 (by decide +kernel) (by decide +kernel))
theorem lL_161 : Mlk RL 161 yX9_told := Or.inl (wt_at 922 (by decide +kernel) (by decide +kernel))
theorem lL_164 : Mlk RL 164 yX10_told := Or.inl (wt_at 1366 (by decide +kernel) (by decide +kernel))
theorem oiX10 : Cond.methodLink RX10 1 objectInit ∈ WT := wt_at 935 (by decide +kernel) (by decide +kernel)
theorem lX10_100 : Mlk RX10 100 yX10_in := Or.inl (wt_at 1048 (by decide +kernel) (by decide +kernel))
theorem lX10_112 : Mlk RX10 112 yX10_isList := Or.inl (wt_at 1044 (by decide +kernel) (by decide +kernel))
theorem lX10_116 : Mlk RX10 116 yX10_isCell := Or.inl (wt_at 1051 (by decide +kernel) (by decide +kernel))
theorem lX10_120 : Mlk RX10 120 yX10_isDay := Or.inl (wt_at 1055 (by decide +kernel) (by decide +kernel))
theorem lX10_123 : Mlk RX10 123 yX10_isGreat := Or.inl (wt_at 1059 (by decide +kernel) (by decide +kernel))
theorem lX10_126 : Mlk RX10 126 yX10_isQuake := Or.inl (wt_at 1067 (by decide +kernel) (by decide +kernel))
theorem lX10_129 : Mlk RX10 129 yX10_placeOf := Or.inl (wt_at 1079 (by decide +kernel) (by decide +kernel))
theorem lX10_136 : Mlk RX10 136 yX10_mostOf := Or.inl (wt_at 1088 (by decide +kernel) (by decide +kernel))
theorem lX10_139 : Mlk RX10 139 yX10_size := Or.inl (wt_at 1112 (by decide +kernel) (by decide +kernel))
theorem lX10_142 : Mlk RX10 142 yX10_far := Or.inl (wt_at 1115 (by decide +kernel) (by decide +kernel))
theorem lX10_146 : Mlk RX10 146 yX10_missOf := Or.inl (wt_at 1108 (by decide +kernel) (by decide +kernel))
theorem lX10_156 : Mlk RX10 156 yX10_joinBy := Or.inl (wt_at 1104 (by decide +kernel) (by decide +kernel))
theorem lX10_160 : Mlk RX10 160 yX10_listed := Or.inl (wt_at 1096 (by decide +kernel) (by decide +kernel))
theorem lX10_164 : Mlk RX10 164 yX10_findJoins := Or.inl (wt_at 1100 (by decide +kernel) (by decide +kernel))
theorem lX10_167 : Mlk RX10 167 yX10_isCounted := Or.inl (wt_at 1130 (by decide +kernel) (by decide +kernel))
theorem lX10_173 : Mlk RX10 173 yX10_mayList := Or.inl (wt_at 1122 (by decide +kernel) (by decide +kernel))
theorem lX10_176 : Mlk RX10 176 yX10_countOf := Or.inl (wt_at 1126 (by decide +kernel) (by decide +kernel))
theorem lX10_181 : Mlk RX10 181 yX10_isPart := Or.inl (wt_at 1143 (by decide +kernel) (by decide +kernel))
theorem lX10_188 : Mlk RX10 188 yX10_lowest := Or.inl (wt_at 1148 (by decide +kernel) (by decide +kernel))
theorem lX10_192 : Mlk RX10 192 yX10_choose := Or.inl (wt_at 1155 (by decide +kernel) (by decide +kernel))
theorem lX10_200 : Mlk RX10 200 yX10_power := Or.inl (wt_at 1164 (by decide +kernel) (by decide +kernel))
theorem lX10_208 : Mlk RX10 208 yX10_dayStep := Or.inl (wt_at 1193 (by decide +kernel) (by decide +kernel))
theorem lX10_211 : Mlk RX10 211 yX10_weigh := Or.inl (wt_at 1189 (by decide +kernel) (by decide +kernel))
theorem lX10_214 : Mlk RX10 214 yX10_isAhead := Or.inl (wt_at 1181 (by decide +kernel) (by decide +kernel))
theorem lX10_217 : Mlk RX10 217 yX10_mayBear := Or.inl (wt_at 1177 (by decide +kernel) (by decide +kernel))
theorem lX10_220 : Mlk RX10 220 yX10_weightOf := Or.inl (wt_at 1185 (by decide +kernel) (by decide +kernel))
theorem lX10_223 : Mlk RX10 223 yX10_allWeights := Or.inl (wt_at 1196 (by decide +kernel) (by decide +kernel))
theorem lX10_226 : Mlk RX10 226 yX10_whyNot := Or.inl (wt_at 1204 (by decide +kernel) (by decide +kernel))
theorem lX10_229 : Mlk RX10 229 yX10_motherOf := Or.inl (wt_at 1208 (by decide +kernel) (by decide +kernel))
theorem lX10_234 : Mlk RX10 234 yX10_firstOf := Or.inl (wt_at 1217 (by decide +kernel) (by decide +kernel))
theorem lX10_237 : Mlk RX10 237 yX10_depthOf := Or.inl (wt_at 1221 (by decide +kernel) (by decide +kernel))
theorem lX10_246 : Mlk RX10 246 yX10_drawnFor := Or.inl (wt_at 1236 (by decide +kernel) (by decide +kernel))
theorem lX10_258 : Mlk RX10 258 yX10_isDigit := Or.inl (wt_at 1258 (by decide +kernel) (by decide +kernel))
theorem lX10_261 : Mlk RX10 261 yX10_markOf := Or.inl (wt_at 1263 (by decide +kernel) (by decide +kernel))
theorem lX10_267 : Mlk RX10 267 yX10_fault := Or.inl (wt_at 1270 (by decide +kernel) (by decide +kernel))
theorem lX10_271 : Mlk RX10 271 yX10_manyAhead := Or.inl (wt_at 1283 (by decide +kernel) (by decide +kernel))
theorem lX10_274 : Mlk RX10 274 yX10_isForecast := Or.inl (wt_at 1275 (by decide +kernel) (by decide +kernel))
theorem lX10_277 : Mlk RX10 277 yX10_toldFor := Or.inl (wt_at 1279 (by decide +kernel) (by decide +kernel))
theorem lX10_280 : Mlk RX10 280 yX10_hasQuake := Or.inl (wt_at 1298 (by decide +kernel) (by decide +kernel))
theorem lX10_285 : Mlk RX10 285 yX10_areDays := Or.inl (wt_at 1291 (by decide +kernel) (by decide +kernel))
theorem lX10_288 : Mlk RX10 288 yX10_scoreOf := Or.inl (wt_at 1294 (by decide +kernel) (by decide +kernel))
theorem lX10_299 : Mlk RX10 299 yX10_lossBy := Or.inl (wt_at 1329 (by decide +kernel) (by decide +kernel))
theorem lX10_302 : Mlk RX10 302 yX10_lossOf := Or.inl (wt_at 1325 (by decide +kernel) (by decide +kernel))
theorem lX10_308 : Mlk RX10 308 yX10_lawLoss := Or.inl (wt_at 1345 (by decide +kernel) (by decide +kernel))
theorem lX10_311 : Mlk RX10 311 yX10_meanOf := Or.inl (wt_at 1353 (by decide +kernel) (by decide +kernel))
theorem lX10_317 : Mlk RX10 317 yX10_priceOf := Or.inl (wt_at 1362 (by decide +kernel) (by decide +kernel))
theorem oinst : Cond.instanceMethod objectInit ∈ WT := wt_at 110 (by decide +kernel) (by decide +kernel)
theorem ocode : Cond.code objectInit ⟨#[0xb1]⟩ 1 none ∈ WT := wt_at 111 (by decide +kernel) (by decide +kernel)
theorem kX9_164 : Cond.constantLong RX9 164 (Int64.ofInt (-1000000000000000001)) ∈ WT := wt_at 548 (by decide +kernel) (by decide +kernel)
theorem kX9_169 : Cond.constantLong RX9 169 (Int64.ofInt (-1000000000000000002)) ∈ WT := wt_at 552 (by decide +kernel) (by decide +kernel)
theorem kX9_171 : Cond.constantLong RX9 171 (Int64.ofInt (-1000000000000000003)) ∈ WT := wt_at 553 (by decide +kernel) (by decide +kernel)
theorem kX9_176 : Cond.constantLong RX9 176 (Int64.ofInt (2)) ∈ WT := wt_at 558 (by decide +kernel) (by decide +kernel)
theorem kX9_242 : Cond.constant RX9 242 (Int32.ofInt (1000000)) ∈ WT := wt_at 671 (by decide +kernel) (by decide +kernel)
theorem kX9_275 : Cond.constantLong RX9 275 (Int64.ofInt (-1000000000000000000)) ∈ WT := wt_at 825 (by decide +kernel) (by decide +kernel)
theorem kX2_102 : Cond.constantLong RX2 102 (Int64.ofInt (4096)) ∈ WT := wt_at 906 (by decide +kernel) (by decide +kernel)
theorem kX2_108 : Cond.constantLong RX2 108 (Int64.ofInt (8388608)) ∈ WT := wt_at 911 (by decide +kernel) (by decide +kernel)
theorem kX3_86 : Cond.constantLong RX3 86 (Int64.ofInt (23298085122481)) ∈ WT := wt_at 462 (by decide +kernel) (by decide +kernel)
theorem kX3_88 : Cond.constantLong RX3 88 (Int64.ofInt (13)) ∈ WT := wt_at 463 (by decide +kernel) (by decide +kernel)
theorem kX3_90 : Cond.constantLong RX3 90 (Int64.ofInt (23298085122481000)) ∈ WT := wt_at 464 (by decide +kernel) (by decide +kernel)
theorem kX3_92 : Cond.constantLong RX3 92 (Int64.ofInt (12)) ∈ WT := wt_at 465 (by decide +kernel) (by decide +kernel)
theorem kX3_102 : Cond.constantLong RX3 102 (Int64.ofInt (1000000000000000000)) ∈ WT := wt_at 491 (by decide +kernel) (by decide +kernel)
theorem kX3_135 : Cond.constantLong RX3 135 (Int64.ofInt (4000000000000000000)) ∈ WT := wt_at 500 (by decide +kernel) (by decide +kernel)
theorem kX4_84 : Cond.constantLong RX4 84 (Int64.ofInt (16807)) ∈ WT := wt_at 676 (by decide +kernel) (by decide +kernel)
theorem kX4_86 : Cond.constantLong RX4 86 (Int64.ofInt (2147483647)) ∈ WT := wt_at 677 (by decide +kernel) (by decide +kernel)
theorem kX4_91 : Cond.constantLong RX4 91 (Int64.ofInt (-1)) ∈ WT := wt_at 679 (by decide +kernel) (by decide +kernel)
theorem kX10_44 : Cond.constant RX10 44 (Int32.ofInt (53248)) ∈ WT := wt_at 936 (by decide +kernel) (by decide +kernel)
theorem kX10_104 : Cond.constantLong RX10 104 (Int64.ofInt (15)) ∈ WT := wt_at 1054 (by decide +kernel) (by decide +kernel)
theorem kX10_106 : Cond.constantLong RX10 106 (Int64.ofInt (3999)) ∈ WT := wt_at 1058 (by decide +kernel) (by decide +kernel)
theorem kX10_108 : Cond.constantLong RX10 108 (Int64.ofInt (90)) ∈ WT := wt_at 1062 (by decide +kernel) (by decide +kernel)
theorem kX10_110 : Cond.constantLong RX10 110 (Int64.ofInt (2)) ∈ WT := wt_at 1047 (by decide +kernel) (by decide +kernel)
theorem kX10_133 : Cond.constant RX10 133 (Int32.ofInt (100000)) ∈ WT := wt_at 1091 (by decide +kernel) (by decide +kernel)
theorem kX10_134 : Cond.constantLong RX10 134 (Int64.ofInt (4)) ∈ WT := wt_at 1087 (by decide +kernel) (by decide +kernel)
theorem kX10_171 : Cond.constantLong RX10 171 (Int64.ofInt (-1)) ∈ WT := wt_at 1125 (by decide +kernel) (by decide +kernel)
theorem kX10_179 : Cond.constantLong RX10 179 (Int64.ofInt (-1000000000000000001)) ∈ WT := wt_at 1142 (by decide +kernel) (by decide +kernel)
theorem kX10_184 : Cond.constantLong RX10 184 (Int64.ofInt (-1000000000000000002)) ∈ WT := wt_at 1146 (by decide +kernel) (by decide +kernel)
theorem kX10_186 : Cond.constantLong RX10 186 (Int64.ofInt (-1000000000000000003)) ∈ WT := wt_at 1147 (by decide +kernel) (by decide +kernel)
theorem kX10_196 : Cond.constantLong RX10 196 (Int64.ofInt (8)) ∈ WT := wt_at 1162 (by decide +kernel) (by decide +kernel)
theorem kX10_198 : Cond.constantLong RX10 198 (Int64.ofInt (100)) ∈ WT := wt_at 1163 (by decide +kernel) (by decide +kernel)
theorem kX10_204 : Cond.constantLong RX10 204 (Int64.ofInt (9)) ∈ WT := wt_at 1171 (by decide +kernel) (by decide +kernel)
theorem kX10_206 : Cond.constantLong RX10 206 (Int64.ofInt (7)) ∈ WT := wt_at 1172 (by decide +kernel) (by decide +kernel)
theorem kX10_232 : Cond.constantLong RX10 232 (Int64.ofInt (3)) ∈ WT := wt_at 1216 (by decide +kernel) (by decide +kernel)
theorem kX10_240 : Cond.constantLong RX10 240 (Int64.ofInt (1000000)) ∈ WT := wt_at 1233 (by decide +kernel) (by decide +kernel)
theorem kX10_242 : Cond.constantLong RX10 242 (Int64.ofInt (16807)) ∈ WT := wt_at 1234 (by decide +kernel) (by decide +kernel)
theorem kX10_244 : Cond.constantLong RX10 244 (Int64.ofInt (2147483647)) ∈ WT := wt_at 1235 (by decide +kernel) (by decide +kernel)
theorem kX10_250 : Cond.constantLong RX10 250 (Int64.ofInt (33)) ∈ WT := wt_at 1248 (by decide +kernel) (by decide +kernel)
theorem kX10_252 : Cond.constantLong RX10 252 (Int64.ofInt (126)) ∈ WT := wt_at 1249 (by decide +kernel) (by decide +kernel)
theorem kX10_254 : Cond.constantLong RX10 254 (Int64.ofInt (48)) ∈ WT := wt_at 1261 (by decide +kernel) (by decide +kernel)
theorem kX10_256 : Cond.constantLong RX10 256 (Int64.ofInt (57)) ∈ WT := wt_at 1262 (by decide +kernel) (by decide +kernel)
theorem kX10_283 : Cond.constantLong RX10 283 (Int64.ofInt (1000)) ∈ WT := wt_at 1302 (by decide +kernel) (by decide +kernel)
theorem kX10_292 : Cond.constantLong RX10 292 (Int64.ofInt (10)) ∈ WT := wt_at 1307 (by decide +kernel) (by decide +kernel)
theorem kX10_294 : Cond.constantLong RX10 294 (Int64.ofInt (10000)) ∈ WT := wt_at 1316 (by decide +kernel) (by decide +kernel)
theorem kX10_315 : Cond.constantLong RX10 315 (Int64.ofInt (500)) ∈ WT := wt_at 1361 (by decide +kernel) (by decide +kernel)
theorem kX10_320 : Cond.constantLong RX10 320 (Int64.ofInt (14)) ∈ WT := wt_at 1370 (by decide +kernel) (by decide +kernel)
theorem ii8 : Cond.initialized "QuakeLists" ∈ WT := wt_at 92 (by decide +kernel) (by decide +kernel)
theorem ii5 : Cond.initialized "QuakeLists$Quakes" ∈ WT := wt_at 93 (by decide +kernel) (by decide +kernel)
theorem ii3 : Cond.initialized "QuakeLists$Joining" ∈ WT := wt_at 94 (by decide +kernel) (by decide +kernel)
theorem ii0 : Cond.initialized "QuakeLists$Counts" ∈ WT := wt_at 95 (by decide +kernel) (by decide +kernel)
theorem ii4 : Cond.initialized "QuakeLists$Mothers" ∈ WT := wt_at 96 (by decide +kernel) (by decide +kernel)
theorem ii7 : Cond.initialized "QuakeLists$Signs" ∈ WT := wt_at 97 (by decide +kernel) (by decide +kernel)
theorem ii6 : Cond.initialized "QuakeLists$Scores" ∈ WT := wt_at 98 (by decide +kernel) (by decide +kernel)
theorem ii2 : Cond.initialized "QuakeLists$Ground" ∈ WT := wt_at 99 (by decide +kernel) (by decide +kernel)
theorem ii9 : Cond.initialized "QuakeListsModel" ∈ WT := wt_at 100 (by decide +kernel) (by decide +kernel)
theorem ii1 : Cond.initialized "QuakeLists$Forecast" ∈ WT := wt_at 103 (by decide +kernel) (by decide +kernel)
theorem clL_7 : Cond.classLink RL 7 "QuakeLists" ∈ WT := wt_at 104 (by decide +kernel) (by decide +kernel)
theorem ia8 : Cond.instantiable "QuakeLists" 10 ∈ WT := wt_at 105 (by decide +kernel) (by decide +kernel)
theorem clX9_13 : Cond.classLink RX9 13 "QuakeLists$Quakes" ∈ WT := wt_at 112 (by decide +kernel) (by decide +kernel)
theorem ia5 : Cond.instantiable "QuakeLists$Quakes" 9 ∈ WT := wt_at 113 (by decide +kernel) (by decide +kernel)
theorem ac_int : Cond.arrayClass .int ∈ WT := wt_at 179 (by decide +kernel) (by decide +kernel)
theorem ac_boolean : Cond.arrayClass .boolean ∈ WT := wt_at 180 (by decide +kernel) (by decide +kernel)
theorem clX9_20 : Cond.classLink RX9 20 "QuakeLists$Joining" ∈ WT := wt_at 181 (by decide +kernel) (by decide +kernel)
theorem ia3 : Cond.instantiable "QuakeLists$Joining" 14 ∈ WT := wt_at 182 (by decide +kernel) (by decide +kernel)
theorem clX3_34 : Cond.classLink RX3 34 "[[J" ∈ WT := wt_at 187 (by decide +kernel) (by decide +kernel)
theorem ac_long : Cond.arrayClass .long ∈ WT := wt_at 234 (by decide +kernel) (by decide +kernel)
theorem clX9_27 : Cond.classLink RX9 27 "QuakeLists$Counts" ∈ WT := wt_at 235 (by decide +kernel) (by decide +kernel)
theorem ia0 : Cond.instantiable "QuakeLists$Counts" 1 ∈ WT := wt_at 236 (by decide +kernel) (by decide +kernel)
theorem clX9_34 : Cond.classLink RX9 34 "QuakeLists$Mothers" ∈ WT := wt_at 245 (by decide +kernel) (by decide +kernel)
theorem ia4 : Cond.instantiable "QuakeLists$Mothers" 5 ∈ WT := wt_at 246 (by decide +kernel) (by decide +kernel)
theorem clX9_41 : Cond.classLink RX9 41 "QuakeLists$Signs" ∈ WT := wt_at 269 (by decide +kernel) (by decide +kernel)
theorem ia7 : Cond.instantiable "QuakeLists$Signs" 2 ∈ WT := wt_at 270 (by decide +kernel) (by decide +kernel)
theorem clX9_48 : Cond.classLink RX9 48 "QuakeLists$Forecast" ∈ WT := wt_at 283 (by decide +kernel) (by decide +kernel)
theorem clX9_58 : Cond.classLink RX9 58 "QuakeLists$Scores" ∈ WT := wt_at 285 (by decide +kernel) (by decide +kernel)
theorem ia6 : Cond.instantiable "QuakeLists$Scores" 2 ∈ WT := wt_at 286 (by decide +kernel) (by decide +kernel)
theorem clX9_65 : Cond.classLink RX9 65 "QuakeLists$Ground" ∈ WT := wt_at 299 (by decide +kernel) (by decide +kernel)
theorem ia2 : Cond.instantiable "QuakeLists$Ground" 13 ∈ WT := wt_at 300 (by decide +kernel) (by decide +kernel)
theorem clX2_31 : Cond.classLink RX2 31 "[[I" ∈ WT := wt_at 305 (by decide +kernel) (by decide +kernel)
theorem clX8_27 : Cond.classLink RX8 27 "QuakeLists$Forecast" ∈ WT := wt_at 725 (by decide +kernel) (by decide +kernel)
theorem ia1 : Cond.instantiable "QuakeLists$Forecast" 6 ∈ WT := wt_at 726 (by decide +kernel) (by decide +kernel)
theorem clL_10 : Cond.classLink RL 10 "QuakeListsModel" ∈ WT := wt_at 930 (by decide +kernel) (by decide +kernel)
theorem ia9 : Cond.instantiable "QuakeListsModel" 34 ∈ WT := wt_at 931 (by decide +kernel) (by decide +kernel)
theorem ac_char : Cond.arrayClass .char ∈ WT := wt_at 1371 (by decide +kernel) (by decide +kernel)

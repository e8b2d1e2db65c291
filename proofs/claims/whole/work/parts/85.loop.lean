section LAWL
variable {K : KT} {b i L : Nat} {xs : Nat → Int32} {Q : State → Prop} {cs mm : Nat × Nat} {pc pc' tgt p1 p2 p3 p4 p5 p6 p7 p8 : Nat} {stk rest : List PV} {hp : PH}
theorem wb_head (G : GL K b L xs) {o1 : Int} (hi : i ≤ L) (d1 : Dn cL_law pc (.iload_n 3) 1 p1) (d2 : Dn cL_law p1 (.aload_n 0) 1 p2) (d3 : Dn cL_law p2 .arraylength 1 p3) (d4 : Dn cL_law p3 (.bipush 7) 2 p4) (d5 : Dn cL_law p4 .isub 1 p5) (d6 : Db cL_law p5 (.if_icmp .gt o1) o1 p6 p7) (kt : L < i + 7 → WpB K b i Q cs p7 stk hp) (kf : i + 7 ≤ L → WpB K b i Q cs p6 stk hp) : WpB K b i Q cs pc stk hp := by
  intro H locs ls h1 h2 h3
  obtain ⟨⟨hx, hb, -⟩, hX, hbl, hL, -, hz⟩ := G
  have hbA : ¬ Ag (kG K) b := by
    show ¬ (kG K).1 ≤ b
    rw [hz]
    omega
  obtain ⟨d1, rfl⟩ := d1
  obtain ⟨d2, rfl⟩ := d2
  obtain ⟨d3, rfl⟩ := d3
  obtain ⟨d4, rfl⟩ := d4
  obtain ⟨d5, rfl⟩ := d5
  obtain ⟨d6, rfl, t6⟩ := d6
  refine lv_iload_n hx hb d1 rfl (lv_at h3 3 rfl) ?_
  refine lv_aload_n hx hb d2 rfl (lv_at h3 0 rfl) ?_
  refine va_slen hx hb hX hbl hbA h2 d3 ?_
  refine lv_bipush (v := Int32.ofInt 7) hx hb d4 (by decide) ?_
  refine lv_isub hx hb d5 ?_
  have e : Int32.ofNat L - Int32.ofInt 7 = Int32.ofInt (((L : Nat) : Int) - 7) := by
    rw [Int32.ofInt_sub, Int32.ofInt_eq_ofNat]
  rw [e]
  have rr1 : r32 (((L : Nat) : Int) - 7) := by omega
  have rr2 : r32 ((i : Nat) : Int) := by omega
  refine lv_icmp_gt hx hb d6 t6 (fun c => ?_) (fun c => ?_)
  · exact kt (by have := (l32 rr1 rr2).mp c; omega) H locs ls h1 h2 h3
  · exact kf (by have h9 : ¬ (((L : Nat) : Int) - 7 < ((i : Nat) : Int)) := fun z => c ((l32 rr1 rr2).mpr z); omega) H locs ls h1 h2 h3
theorem and63 (x : Int32) : 0 ≤ (x &&& 63).toInt ∧ (x &&& 63).toInt ≤ 63 := by
  have h : (x &&& 63).toBitVec.toNat ≤ 63 := by
    rw [Int32.toBitVec_and, BitVec.toNat_and]
    exact Nat.and_le_right
  have e : (x &&& 63).toInt = (((x &&& 63).toBitVec.toNat : Nat) : Int) := BitVec.toInt_eq_toNat_of_lt (by omega)
  omega
theorem wb_op (G : GL K b L xs) (hi : i < L) (d1 : Dn cL_law pc (.aload_n 0) 1 p1) (d2 : Dn cL_law p1 (.iload_n 3) 1 p2) (d3 : Dn cL_law p2 .iaload 1 p3) (d4 : Dn cL_law p3 (.bipush 63) 2 p4) (d5 : Dn cL_law p4 .iand 1 p5) (k : ∀ z : Int, 0 ≤ z ∧ z ≤ 63 → WpB K b i Q cs p5 (zI z :: stk) hp) : WpB K b i Q cs pc stk hp := by
  intro H locs ls h1 h2 h3
  have G0 := G
  obtain ⟨⟨hx, hb, -⟩, -⟩ := G
  obtain ⟨d1, rfl⟩ := d1
  obtain ⟨d2, rfl⟩ := d2
  obtain ⟨d3, rfl⟩ := d3
  obtain ⟨d4, rfl⟩ := d4
  obtain ⟨d5, rfl⟩ := d5
  refine lv_aload_n hx hb d1 rfl (lv_at h3 0 rfl) ?_
  refine lv_iload_n hx hb d2 rfl (lv_at h3 3 rfl) ?_
  refine wb_ld G0 h2 hi d3 ?_
  refine lv_bipush (v := Int32.ofInt 63) hx hb d4 (by decide) ?_
  refine lv_iand hx hb d5 ?_
  have hk := k _ (and63 (xs i)) H locs ls h1 h2 h3
  have e : Int32.ofInt ((xs i &&& 63).toInt) = Int32.ofInt (xz xs i) &&& Int32.ofInt 63 := by
    rw [Int32.ofInt_toInt, xz_e]
    rfl
  rw [← e]
  exact hk
theorem wb_tabIn (G : GL K b L xs) {a dflt lo hi off : Int} {offs : Array Int} {len : Nat} (hd : Dn cL_law pc (.tableswitch dflt lo hi offs) len pc') (ra : r32 a) (hl : lo ≤ a) (hh : a ≤ hi) (ho : offs[(a - lo).toNat]? = some off) (ht : (pc : Int) + off = (tgt : Int)) (k : WpB K b i Q cs tgt stk hp) : WpB K b i Q cs pc (zI a :: stk) hp := by
  intro H locs ls h1 h2 h3
  obtain ⟨⟨hx, hb, -⟩, -⟩ := G
  obtain ⟨hd, -⟩ := hd
  have e := n32 ra
  exact lv_tableIn (x := Int32.ofInt a) hx hb hd (by omega) (by omega) (by rw [e]; exact ho) ht (k H locs ls h1 h2 h3)
theorem wb_tabOut (G : GL K b L xs) {a dflt lo hi : Int} {offs : Array Int} {len : Nat} (hd : Dn cL_law pc (.tableswitch dflt lo hi offs) len pc') (ra : r32 a) (hl : a < lo ∨ hi < a) (ht : (pc : Int) + dflt = (tgt : Int)) (k : WpB K b i Q cs tgt stk hp) : WpB K b i Q cs pc (zI a :: stk) hp := by
  intro H locs ls h1 h2 h3
  obtain ⟨⟨hx, hb, -⟩, -⟩ := G
  obtain ⟨hd, -⟩ := hd
  have e := n32 ra
  exact lv_tableOut (x := Int32.ofInt a) hx hb hd (by omega) ht (k H locs ls h1 h2 h3)
theorem wb_next (G : GL K b L xs) {o1 : Int} (d1 : Dn cL_law pc (.iinc 3 7) 3 p1) (d2 : Db cL_law p1 (.goto o1) o1 p2 p3) (k : WpB K b (i + 7) Q cs p3 stk hp) : WpB K b i Q cs pc stk hp := by
  intro H locs ls h1 h2 h3
  obtain ⟨⟨hx, hb, -⟩, -⟩ := G
  obtain ⟨d1, rfl⟩ := d1
  obtain ⟨d2, -, t2⟩ := d2
  have e : Int32.ofInt ((i : Nat) : Int) + Int32.ofInt 7 = Int32.ofInt (((i + 7 : Nat)) : Int) := by
    rw [← Int32.ofInt_add]
    congr 1
  refine lv_iinc (k := 3) (lv' := [(3, .int (Int32.ofInt (((i + 7 : Nat)) : Int))), (0, .ref b), (1, .ref ((kG K).1 + 0)), (2, .ref ((kG K).1 + 64))]) hx hb d1 h3 rfl e (by decide) rfl (fun ls' h' => ?_)
  exact lv_goto hx hb d2 t2 (k H locs ls' h1 h2 (lv_sub h' [1, 2, 3, 0] rfl))
end LAWL
theorem law_step {K : KT} {b i L : Nat} {xs : Nat → Int32} {Q : State → Prop} {cs : Nat × Nat} {hp : PH} (G : GL K b L xs) (hi : i + 7 ≤ L) (hc : cs.1 + 5 ≤ room_1.cells ∧ cs.2 + 26 ≤ room_1.slots) (hLI : LI hp.1 (hget hp)) (kk : ∀ hp2 : PH, LI hp2.1 (hget hp2) → WpB K b i Q (cs.1 + 5, cs.2 + 26) 1600 [] hp2) : WpB K b i Q cs 27 [] hp := by
  refine wb_op G (by omega) dL_law_27 dL_law_28 dL_law_29 dL_law_30 dL_law_32 (fun z hz => ?_)
  rcases (show z = 0 ∨ z = 1 ∨ z = 2 ∨ z = 3 ∨ z = 4 ∨ z = 5 ∨ z = 6 ∨ z = 7 ∨ z = 8 ∨ z = 9 ∨ z = 10 ∨ z = 11 ∨ z = 12 ∨ z = 13 ∨ z = 14 ∨ z = 15 ∨ z = 16 ∨ z = 17 ∨ z = 18 ∨ z = 19 ∨ z = 20 ∨ z = 21 ∨ z = 22 ∨ z = 23 ∨ z = 24 ∨ z = 25 ∨ z = 26 ∨ z = 27 ∨ z = 28 ∨ z = 29 ∨ z = 30 ∨ z = 31 ∨ z = 32 ∨ z = 33 ∨ z = 34 ∨ (34 < z) by omega) with rfl | rfl | rfl | rfl | rfl | rfl | rfl | rfl | rfl | rfl | rfl | rfl | rfl | rfl | rfl | rfl | rfl | rfl | rfl | rfl | rfl | rfl | rfl | rfl | rfl | rfl | rfl | rfl | rfl | rfl | rfl | rfl | rfl | rfl | rfl | hz2
  · refine wb_tabIn (off := 155) (tgt := 188) G dL_law_33 (by omega) (by omega) (by omega) rfl (by decide) ?_
    exact case_0 G hi hc hLI kk
  · refine wb_tabIn (off := 230) (tgt := 263) G dL_law_33 (by omega) (by omega) (by omega) rfl (by decide) ?_
    exact case_1 G hi hc hLI kk
  · refine wb_tabIn (off := 279) (tgt := 312) G dL_law_33 (by omega) (by omega) (by omega) rfl (by decide) ?_
    exact case_2 G hi hc hLI kk
  · refine wb_tabIn (off := 312) (tgt := 345) G dL_law_33 (by omega) (by omega) (by omega) rfl (by decide) ?_
    exact case_3 G hi hc hLI kk
  · refine wb_tabIn (off := 345) (tgt := 378) G dL_law_33 (by omega) (by omega) (by omega) rfl (by decide) ?_
    exact case_4 G hi hc hLI kk
  · refine wb_tabIn (off := 378) (tgt := 411) G dL_law_33 (by omega) (by omega) (by omega) rfl (by decide) ?_
    exact case_5 G hi hc hLI kk
  · refine wb_tabIn (off := 421) (tgt := 454) G dL_law_33 (by omega) (by omega) (by omega) rfl (by decide) ?_
    exact case_6 G hi hc hLI kk
  · refine wb_tabIn (off := 464) (tgt := 497) G dL_law_33 (by omega) (by omega) (by omega) rfl (by decide) ?_
    exact case_7 G hi hc hLI kk
  · refine wb_tabIn (off := 497) (tgt := 530) G dL_law_33 (by omega) (by omega) (by omega) rfl (by decide) ?_
    exact case_8 G hi hc hLI kk
  · refine wb_tabIn (off := 551) (tgt := 584) G dL_law_33 (by omega) (by omega) (by omega) rfl (by decide) ?_
    exact case_9 G hi hc hLI kk
  · refine wb_tabIn (off := 605) (tgt := 638) G dL_law_33 (by omega) (by omega) (by omega) rfl (by decide) ?_
    exact case_10 G hi hc hLI kk
  · refine wb_tabIn (off := 669) (tgt := 702) G dL_law_33 (by omega) (by omega) (by omega) rfl (by decide) ?_
    exact case_11 G hi hc hLI kk
  · refine wb_tabIn (off := 712) (tgt := 745) G dL_law_33 (by omega) (by omega) (by omega) rfl (by decide) ?_
    exact case_12 G hi hc hLI kk
  · refine wb_tabIn (off := 766) (tgt := 799) G dL_law_33 (by omega) (by omega) (by omega) rfl (by decide) ?_
    exact case_13 G hi hc hLI kk
  · refine wb_tabIn (off := 799) (tgt := 832) G dL_law_33 (by omega) (by omega) (by omega) rfl (by decide) ?_
    exact case_14 G hi hc hLI kk
  · refine wb_tabIn (off := 842) (tgt := 875) G dL_law_33 (by omega) (by omega) (by omega) rfl (by decide) ?_
    exact case_15 G hi hc hLI kk
  · refine wb_tabIn (off := 875) (tgt := 908) G dL_law_33 (by omega) (by omega) (by omega) rfl (by decide) ?_
    exact case_16 G hi hc hLI kk
  · refine wb_tabIn (off := 918) (tgt := 951) G dL_law_33 (by omega) (by omega) (by omega) rfl (by decide) ?_
    exact case_17 G hi hc hLI kk
  · refine wb_tabIn (off := 971) (tgt := 1004) G dL_law_33 (by omega) (by omega) (by omega) rfl (by decide) ?_
    exact case_18 G hi hc hLI kk
  · refine wb_tabIn (off := 994) (tgt := 1027) G dL_law_33 (by omega) (by omega) (by omega) rfl (by decide) ?_
    exact case_19 G hi hc hLI kk
  · refine wb_tabIn (off := 1007) (tgt := 1040) G dL_law_33 (by omega) (by omega) (by omega) rfl (by decide) ?_
    exact case_20 G hi hc hLI kk
  · refine wb_tabIn (off := 1020) (tgt := 1053) G dL_law_33 (by omega) (by omega) (by omega) rfl (by decide) ?_
    exact case_21 G hi hc hLI kk
  · refine wb_tabIn (off := 1033) (tgt := 1066) G dL_law_33 (by omega) (by omega) (by omega) rfl (by decide) ?_
    exact case_22 G hi hc hLI kk
  · refine wb_tabIn (off := 1066) (tgt := 1099) G dL_law_33 (by omega) (by omega) (by omega) rfl (by decide) ?_
    exact case_23 G hi hc hLI kk
  · refine wb_tabIn (off := 1120) (tgt := 1153) G dL_law_33 (by omega) (by omega) (by omega) rfl (by decide) ?_
    exact case_24 G hi hc hLI kk
  · refine wb_tabIn (off := 1196) (tgt := 1229) G dL_law_33 (by omega) (by omega) (by omega) rfl (by decide) ?_
    exact case_25 G hi hc hLI kk
  · refine wb_tabIn (off := 1259) (tgt := 1292) G dL_law_33 (by omega) (by omega) (by omega) rfl (by decide) ?_
    exact case_26 G hi hc hLI kk
  · refine wb_tabIn (off := 1322) (tgt := 1355) G dL_law_33 (by omega) (by omega) (by omega) rfl (by decide) ?_
    exact case_27 G hi hc hLI kk
  · refine wb_tabIn (off := 1365) (tgt := 1398) G dL_law_33 (by omega) (by omega) (by omega) rfl (by decide) ?_
    exact case_28 G hi hc hLI kk
  · refine wb_tabIn (off := 1388) (tgt := 1421) G dL_law_33 (by omega) (by omega) (by omega) rfl (by decide) ?_
    exact case_29 G hi hc hLI kk
  · refine wb_tabIn (off := 1421) (tgt := 1454) G dL_law_33 (by omega) (by omega) (by omega) rfl (by decide) ?_
    exact case_30 G hi hc hLI kk
  · refine wb_tabIn (off := 1474) (tgt := 1507) G dL_law_33 (by omega) (by omega) (by omega) rfl (by decide) ?_
    exact case_31 G hi hc hLI kk
  · refine wb_tabIn (off := 1497) (tgt := 1530) G dL_law_33 (by omega) (by omega) (by omega) rfl (by decide) ?_
    exact case_32 G hi hc hLI kk
  · refine wb_tabIn (off := 1521) (tgt := 1554) G dL_law_33 (by omega) (by omega) (by omega) rfl (by decide) ?_
    exact case_33 G hi hc hLI kk
  · refine wb_tabIn (off := 1544) (tgt := 1577) G dL_law_33 (by omega) (by omega) (by omega) rfl (by decide) ?_
    exact case_34 G hi hc hLI kk
  · refine wb_tabOut (tgt := 1600) G dL_law_33 (by omega) (by omega) (by decide) ?_
    exact wb_widen (cs' := (cs.1 + 5, cs.2 + 26)) (Nat.le_add_right _ _) (Nat.le_add_right _ _) (kk hp hLI)
theorem law_loop {K : KT} {b L : Nat} {xs : Nat → Int32} {Q : State → Prop} (G : GL K b L xs) (kend : ∀ (i : Nat) (cs : Nat × Nat) (hp : PH), cs.1 ≤ room_1.cells → cs.2 ≤ room_1.slots → WpB K b i Q cs 1606 [] hp) : ∀ (fu i : Nat) (cs : Nat × Nat) (hp : PH), L - i < fu → i ≤ L → cs.1 + 5 * (3600 - i) ≤ room_1.cells → cs.2 + 26 * (3600 - i) ≤ room_1.slots → LI hp.1 (hget hp) → WpB K b i Q cs 18 [] hp := by
  have hL : L ≤ 3584 := G.2.2.2.1
  intro fu
  induction fu with
  | zero => intro i cs hp h; exact absurd h (Nat.not_lt_zero _)
  | succ fu ih =>
    intro i cs hp hm hi h1 h2 hLI
    refine wb_head G hi dL_law_18 dL_law_19 dL_law_20 dL_law_21 dL_law_23 dL_law_24 (fun _ => kend i cs hp (by omega) (by omega)) (fun c => ?_)
    refine law_step G c (by omega) hLI (fun hp2 hLI2 => ?_)
    exact wb_next G dL_law_1600 dL_law_1603 (ih (i + 7) (cs.1 + 5, cs.2 + 26) hp2 (by omega) (by omega) (by show cs.1 + 5 + _ ≤ _; omega) (by show cs.2 + 26 + _ ≤ _; omega) hLI2)

/-! THE LAW'S OWN WALK: its locals stand fast in the body: the script, both objects, the place -/
def LVs (K : KT) (b : Nat) (i : Nat) : List (Nat × Value) := [(0, .ref b), (1, .ref ((kG K).1 + 0)), (2, .ref ((kG K).1 + 64)), (3, .int (Int32.ofInt ((i : Nat) : Int)))]
def WpB (K : KT) (b i : Nat) (Q : State → Prop) (cs : Nat × Nat) (pc : Nat) (stk : List PV) (hp : PH) : Prop :=
  ∀ (H : Heap) (locs : List Loc) (ls : Array Slot), Rl (kG K) hp H → va_S (Ag (kG K)) (kS K).heap H locs → lv_has ls 4 (LVs K b i) → WK K H locs cs Q (F0 (kM K) pc ls (stk.map (rv (kG K).1)))
def GL (K : KT) (b L : Nat) (xs : Nat → Int32) : Prop := Gd K cL_law RL 4 ∧ va_X b L xs (kS K) (kS K).heap ∧ b < (kS K).heap.size ∧ L ≤ 3584 ∧ kR K = room_1 ∧ (kG K).1 = (kS K).heap.size
def xz (xs : Nat → Int32) (j : Nat) : Int := (xs j).toInt
theorem xz_r (xs : Nat → Int32) (j : Nat) : r32 (xz xs j) := ⟨Int32.le_toInt _, by have := Int32.toInt_lt (xs j); unfold xz; omega⟩
theorem xz_e (xs : Nat → Int32) (j : Nat) : Int32.ofInt (xz xs j) = xs j := Int32.ofInt_toInt _
section LAWR
variable {K : KT} {b i L : Nat} {xs : Nat → Int32} {Q : State → Prop} {cs mm : Nat × Nat} {pc pc' tgt p1 p2 p3 p4 p5 p6 p7 p8 : Nat} {stk rest : List PV} {hp : PH}
theorem wb_widen {cs' : Nat × Nat} (e1 : cs.1 ≤ cs'.1) (e2 : cs.2 ≤ cs'.2) (k : WpB K b i Q cs' pc stk hp) : WpB K b i Q cs pc stk hp := fun H locs ls h1 h2 h3 => W.widen e1 e2 (k H locs ls h1 h2 h3)
theorem wb_x (G : GL K b L xs) (hd : Dn cL_law pc (.aload_n 1) 1 pc') (k : WpB K b i Q cs pc' (zR 0 :: stk) hp) : WpB K b i Q cs pc stk hp := by
  intro H locs ls h1 h2 h3
  obtain ⟨⟨hx, hb, -⟩, -⟩ := G
  obtain ⟨hd, rfl⟩ := hd
  exact lv_aload_n hx hb hd rfl (lv_at h3 1 rfl) (k H locs ls h1 h2 h3)
theorem wb_m (G : GL K b L xs) (hd : Dn cL_law pc (.aload_n 2) 1 pc') (k : WpB K b i Q cs pc' (zR 64 :: stk) hp) : WpB K b i Q cs pc stk hp := by
  intro H locs ls h1 h2 h3
  obtain ⟨⟨hx, hb, -⟩, -⟩ := G
  obtain ⟨hd, rfl⟩ := hd
  exact lv_aload_n hx hb hd rfl (lv_at h3 2 rfl) (k H locs ls h1 h2 h3)
/-- a number of the script -/
theorem wb_ld (G : GL K b L xs) {j : Nat} {H : Heap} {locs : List Loc} {ls : Array Slot} {st0 : List Value} (h2 : va_S (Ag (kG K)) (kS K).heap H locs) (hj : j < L) (d5 : decode cL_law pc = .ok (.iaload, 1)) (k : WK K H locs cs Q (F0 (kM K) (pc + 1) ls (.int (Int32.ofInt (xz xs j)) :: st0))) : WK K H locs cs Q (F0 (kM K) pc ls (.int (Int32.ofInt ((j : Nat) : Int)) :: .ref b :: st0)) := by
  obtain ⟨⟨hx, hb, -⟩, hX, hbl, hL, -, hz⟩ := G
  have hbA : ¬ Ag (kG K) b := by
    show ¬ (kG K).1 ≤ b
    rw [hz]
    omega
  have e := inbN (z := ((j : Nat) : Int)) (n := L) rfl hj (by omega)
  refine va_sld hx hb hX hbl hbA h2 (i := Int32.ofInt ((j : Nat) : Int)) (inb rfl hj (by omega)) d5 ?_
  rw [e, ← xz_e xs j]
  exact k
theorem wb_argC (G : GL K b L xs) {kc : Int} (kn : Nat) (hk : kc = ((kn : Nat) : Int)) (d1 : Dn cL_law pc (.aload_n 0) 1 p1) (d2 : Dn cL_law p1 (.iload_n 3) 1 p2) (d3 : Dn cL_law p2 (.iconst kc) 1 p3) (d4 : Dn cL_law p3 .iadd 1 p4) (d5 : Dn cL_law p4 .iaload 1 p5) (hi : i + kn < L) (k : WpB K b i Q cs p5 (zI (xz xs (i + kn)) :: stk) hp) : WpB K b i Q cs pc stk hp := by
  intro H locs ls h1 h2 h3
  have G0 := G
  obtain ⟨⟨hx, hb, -⟩, -⟩ := G
  obtain ⟨d1, rfl⟩ := d1
  obtain ⟨d2, rfl⟩ := d2
  obtain ⟨d3, rfl⟩ := d3
  obtain ⟨d4, rfl⟩ := d4
  obtain ⟨d5, rfl⟩ := d5
  refine lv_aload_n hx hb d1 rfl (lv_at h3 0 rfl) ?_
  refine lv_iload_n hx hb d2 rfl (lv_at h3 3 rfl) ?_
  refine lv_iconst hx hb d3 rfl ?_
  refine lv_iadd hx hb d4 ?_
  have e : Int32.ofInt ((i : Nat) : Int) + Int32.ofInt kc = Int32.ofInt (((i + kn : Nat)) : Int) := by
    rw [← Int32.ofInt_add, hk]
    congr 1
  rw [e]
  exact wb_ld G0 h2 hi d5 (k H locs ls h1 h2 h3)
theorem wb_argP (G : GL K b L xs) {kc : Int} (kn : Nat) (hk : kc = ((kn : Nat) : Int)) (hv : (Int8.ofInt kc).toInt32 = Int32.ofInt kc) (d1 : Dn cL_law pc (.aload_n 0) 1 p1) (d2 : Dn cL_law p1 (.iload_n 3) 1 p2) (d3 : Dn cL_law p2 (.bipush kc) 2 p3) (d4 : Dn cL_law p3 .iadd 1 p4) (d5 : Dn cL_law p4 .iaload 1 p5) (hi : i + kn < L) (k : WpB K b i Q cs p5 (zI (xz xs (i + kn)) :: stk) hp) : WpB K b i Q cs pc stk hp := by
  intro H locs ls h1 h2 h3
  have G0 := G
  obtain ⟨⟨hx, hb, -⟩, -⟩ := G
  obtain ⟨d1, rfl⟩ := d1
  obtain ⟨d2, rfl⟩ := d2
  obtain ⟨d3, rfl⟩ := d3
  obtain ⟨d4, rfl⟩ := d4
  obtain ⟨d5, rfl⟩ := d5
  refine lv_aload_n hx hb d1 rfl (lv_at h3 0 rfl) ?_
  refine lv_iload_n hx hb d2 rfl (lv_at h3 3 rfl) ?_
  refine lv_bipush hx hb d3 hv ?_
  refine lv_iadd hx hb d4 ?_
  have e : Int32.ofInt ((i : Nat) : Int) + Int32.ofInt kc = Int32.ofInt (((i + kn : Nat)) : Int) := by
    rw [← Int32.ofInt_add, hk]
    congr 1
  rw [e]
  exact wb_ld G0 h2 hi d5 (k H locs ls h1 h2 h3)
/-- a number of the script as yes or no -/
def nzB (z : Int) : Int := if z = 0 then 0 else 1
theorem nzB_c (z : Int) : nzB z = 0 ∨ nzB z = 1 := by
  unfold nzB
  split
  · exact Or.inl rfl
  · exact Or.inr rfl
theorem wb_bool (G : GL K b L xs) {z : Int} (rz : r32 z) {o1 o2 : Int} (d1 : Db cL_law pc (.ifCond .eq o1) o1 p1 p3) (d2 : Dn cL_law p1 (.iconst 1) 1 p2) (d3 : Db cL_law p2 (.goto o2) o2 p4 p5) (d4 : Dn cL_law p3 (.iconst 0) 1 p5) (k : WpB K b i Q cs p5 (zI (nzB z) :: stk) hp) : WpB K b i Q cs pc (zI z :: stk) hp := by
  intro H locs ls h1 h2 h3
  obtain ⟨⟨hx, hb, -⟩, -⟩ := G
  obtain ⟨d1, rfl, t1⟩ := d1
  obtain ⟨d2, rfl⟩ := d2
  obtain ⟨d3, -, t3⟩ := d3
  obtain ⟨d4, e4⟩ := d4
  have k0 := k H locs ls h1 h2 h3
  have r0 : r32 0 := by omega
  refine lv_if_eq (x := Int32.ofInt z) hx hb d1 t1 (fun c => ?_) (fun c => ?_)
  · have e : z = 0 := (e32 rz r0).mp c
    rw [nzB, if_pos e] at k0
    refine lv_iconst hx hb d4 rfl ?_
    rw [e4]
    exact k0
  · have e : z ≠ 0 := fun y => c ((e32 rz r0).mpr y)
    rw [nzB, if_neg e] at k0
    refine lv_iconst hx hb d2 rfl ?_
    exact lv_goto hx hb d3 t3 k0
theorem wb_eqI (G : GL K b L xs) {z : Int} {off : Int} (hd : Db cL_law pc (.if_icmp .eq off) off pc' tgt) (k : WpB K b i Q cs tgt stk hp) : WpB K b i Q cs pc (zI z :: zI z :: stk) hp := by
  intro H locs ls h1 h2 h3
  obtain ⟨⟨hx, hb, -⟩, -⟩ := G
  obtain ⟨hd, -, ht⟩ := hd
  exact lv_icmp_eq (x := Int32.ofInt z) (y := Int32.ofInt z) hx hb hd ht (fun _ => k H locs ls h1 h2 h3) (fun c => absurd rfl c)
theorem wb_eqJ (G : GL K b L xs) {z : Int} {off : Int} (d1 : Dn cL_law pc .lcmp 1 p1) (hd : Db cL_law p1 (.ifCond .eq off) off pc' tgt) (k : WpB K b i Q cs tgt stk hp) : WpB K b i Q cs pc (zJ z :: zJ z :: stk) hp := by
  intro H locs ls h1 h2 h3
  obtain ⟨⟨hx, hb, -⟩, -⟩ := G
  obtain ⟨d1, rfl⟩ := d1
  obtain ⟨hd, -, ht⟩ := hd
  refine W.lcmp (x := Int64.ofInt z) (y := Int64.ofInt z) hx hb d1 ?_
  have e : lg_cmp (Int64.ofInt z) (Int64.ofInt z) = 0 := by
    unfold lg_cmp
    rw [if_neg (by show ¬ (Int64.ofInt z < Int64.ofInt z); rw [Int64.lt_iff_toInt_lt]; omega)]
    simp
  rw [e]
  exact lv_if_eq (x := 0) hx hb hd ht (fun _ => k H locs ls h1 h2 h3) (fun c => absurd rfl c)
theorem wb_back {Qp : Option PV → Nat → List (Nat × PC) → Prop} {a : Array Value} {H : Heap} {locs : List Loc} {ls : Array Slot} (h1 : Rl (kG K) hp H) (h2 : va_S (Ag (kG K)) (kS K).heap H locs) (h3 : lv_has ls 4 (LVs K b i)) {st0 : List Value}
    (hr : va_Run K.1 K.2.1 K.2.2.1 K.2.2.2.1 K.2.2.2.2.1 K.2.2.2.2.2.1 K.2.2.2.2.2.2.1 K.2.2.2.2.2.2.2.1 K.2.2.2.2.2.2.2.2.1 K.2.2.2.2.2.2.2.2.2.1 H locs cs.1 cs.2 mm.1 mm.2 (F0 (kM K) pc ls st0) (rest.map (rv (kG K).1)) (Qx (kG K) (hget hp) Qp a) (Ag (kG K)))
    (k : ∀ r nx' l', Qp r nx' l' → WpB K b i Q (cs.1 + mm.1, cs.2 + mm.2) (pc + 3) (r.toList ++ rest) (nx', hp.2.1, asets hp.2.2 l')) : WK K H locs cs Q (F0 (kM K) pc ls st0) := by
  intro T hT X
  obtain ⟨v, st₀, t, T', L, e0, X', hL, e1, e2, ⟨⟨r, nx', l', ho, hq, hR⟩, hF⟩, st⟩ := hr T hT X
  have hv : v = r.map (rv (kG K).1) := by cases ho; rfl
  subst hv
  have hR2 : Rl (kG K) (nx', hp.2.1, asets hp.2.2 l') T'.heap := by
    rw [e1]
    exact hR.ext rfl (fun j => hlk_asets _ _ _ _)
  have hS2 : va_S (Ag (kG K)) (kS K).heap T'.heap (locs ++ L) := by
    have hF1 := hF.1
    have hF2 := hF.2
    rw [e0] at hF1 hF2
    rw [e1]
    refine ⟨Nat.le_trans h2.1 hF1, fun q q1 q2 => ?_, fun q hq2 => ?_⟩
    · rw [hF2 q (Nat.lt_of_lt_of_le q1 h2.1) q2]
      exact h2.2.1 q q1 q2
    · rcases List.mem_append.mp hq2 with w | w
      · exact h2.2.2 q w
      · exact hL q w
  obtain ⟨t2, a1, b1⟩ := k r nx' l' hq T'.heap (locs ++ L) ls hR2 hS2 h3 T' rfl X'
  refine ⟨t2, st t2 ?_, b1⟩
  have es : (r.toList ++ rest).map (rv (kG K).1) = (r.map (rv (kG K).1)).toList ++ rest.map (rv (kG K).1) := by cases r <;> simp
  rw [es] at a1
  exact a1
theorem wb_callV (G : GL K b L xs) {Qp : Option PV → Nat → List (Nat × PC) → Prop} {d n idx maxL b0 ci : Nat} {y : MethodName} {cb : ByteArray} {ret : Option FieldType} {as fs : List PV} (hm : My y cb maxL ret n) (hl : Mlk RL idx y) (hin : Cond.instanceMethod y ∈ WT) (hsel : Cond.selects y.cls y y ∈ WT) (hci : ∃ q, vwCl[ci]? = some q ∧ q.1 = y.cls) (hd : Dn cL_law pc (.invokevirtual idx) 3 pc') (ho : hget hp b0 = some (oO ci fs)) (hs : stk = as.reverse ++ zR b0 :: rest) (hn : as.length = n) (hrw : rwd rest ≤ 8) (hR : d ≤ 8 ∧ maxL ≤ 21 ∧ cs.1 + mm.1 ≤ room_1.cells ∧ cs.2 + mm.2 ≤ room_1.slots)
    (C : Cx d mm y cb maxL ret (zR b0 :: as) hp.1 (hget hp) Qp) (k : ∀ r nx' l', Qp r nx' l' → WpB K b i Q (cs.1 + mm.1, cs.2 + mm.2) pc' (r.toList ++ rest) (nx', hp.2.1, asets hp.2.2 l')) : WpB K b i Q cs pc stk hp := by
  intro H locs ls h1 h2 h3
  obtain ⟨G, -, -, -, hroom, -⟩ := G
  have hpx := px_at G h1 h2
  obtain ⟨hx, hb, hml, hown, hts, hE, hSv, hlk, hz⟩ := G
  obtain ⟨hd, rfl⟩ := hd
  have hR2 : d + 1 ≤ (kR K).frames ∧ 8 + (maxL + 11) + 40 * d ≤ (kR K).locals ∧ cs.1 + mm.1 ≤ (kR K).cells ∧ cs.2 + mm.2 ≤ (kR K).slots := by
    rw [hroom]
    obtain ⟨a1, a2, a3, a4⟩ := hR
    exact ⟨by show d + 1 ≤ 9; omega, by show _ ≤ 376; omega, a3, a4⟩
  have hG : GoodIn WT (Cond.code y cb maxL ret :: WT) := by
    intro w hw
    rcases List.mem_cons.mp hw with rfl | e
    · exact ⟨hm.1, wt_good hm.1⟩
    · exact ⟨e, wt_good e⟩
  obtain ⟨q, hq, hqc⟩ := hci
  have hP : va_P (kG K).2.1 vwCl [((kG K).1 + b0, .inr (ci, fs.map (rv (kG K).1)))] H := fun j x hj => by
    have h0 : j < 1 := (List.getElem?_eq_some_iff.mp hj).1
    rw [show j = 0 by omega] at hj
    cases hj
    exact (h1.2 b0 _ ho).2
  have hrc := va_recv hE.1 hP hq (q0 := 0) rfl
  rw [hqc] at hrc
  have hst0 : stk.map (rv (kG K).1) = (as.map (rv (kG K).1)).reverse ++ .ref ((kG K).1 + b0) :: rest.map (rv (kG K).1) := by rw [hs, List.map_append, List.map_reverse]; rfl
  rw [hst0]
  refine wb_back h1 h2 h3 (a := (.ref ((kG K).1 + b0) :: as.map (rv (kG K).1)).toArray) ?_ k
  rcases hl with hl | hl
  · exact va_runV (Ts := WT) ⟨hx, hb, hml, hown, hts⟩ (C _ _) ⟨callB_of n hts hG rfl rfl rfl (hts _ hm.2.1) (hts _ hl) hm.2.2 ⟨hR2.1, hR2.2.1⟩, hts _ hin, hts _ hsel⟩ ⟨px_blind, hrc, fun U hU hW => ⟨rfl, hpx U hU hW⟩⟩ rfl (by rw [List.length_map]; exact hn) h3.1 rfl (lv_room (by rw [rwd_eq]; exact hrw)) hd ⟨hR2.2.2.1, hR2.2.2.2⟩
  · exact va_runVN (Ts := WT) (host := RX9) ⟨hx, hb, hml, hown, hts⟩ (C _ _) ⟨va_cnB n hts hG rfl rfl rfl (hE.2.1 _ hl rfl) (hts _ hm.2.1) hm.2.2 ⟨hR2.1, hR2.2.1⟩, hts _ hin, hts _ hsel⟩ ⟨px_blind, hrc, fun U hU hW => ⟨rfl, hpx U hU hW⟩⟩ rfl (by rw [List.length_map]; exact hn) h3.1 rfl (lv_room (by rw [rwd_eq]; exact hrw)) hd ⟨hR2.2.2.1, hR2.2.2.2⟩
/-- what is left of a pair behind the class's call -/
def Pz2 (y2 : MethodName) (b2 : ByteArray) (m2 : Nat) (ret : Option FieldType) (mk : Int → PV) (as : List PV) (z : Int) (hp : PH) : Prop := (∃ fs, hget hp 64 = some (oO 9 fs)) ∧ ∃ d2, d2 ≤ 8 ∧ ∃ Q2, Cx d2 (0, 0) y2 b2 m2 ret (zR 64 :: as) hp.1 (hget hp) Q2 ∧ ∀ r2 nx2 l2, Q2 r2 nx2 l2 → r2 = some (mk z) ∧ LI nx2 (hlk l2 (hget hp))
theorem LI_0 {nx : Nat} {h : Nat → Option PC} (H : LI nx h) : ∃ fs, h 0 = some (oO 8 fs) := by
  obtain ⟨n, q, o, st, fc, pr, fa, sp, sc, sg, tx, sm, sl, hn, hs, kd, dm, ln, lw, hC, -⟩ := H
  exact ⟨_, hC.1.1⟩
theorem wb_c1 (G : GL K b L xs) {n idx m1 m2 : Nat} {y1 y2 : MethodName} {b1 b2 : ByteArray} {ret : Option FieldType} {mk : Int → PV} {as : List PV} (P : Pz y1 y2 b1 b2 m1 m2 ret mm mk as hp.1 (hget hp)) (hLI : LI hp.1 (hget hp)) (hm : My y1 b1 m1 ret n) (hl : Mlk RL idx y1) (hin : Cond.instanceMethod y1 ∈ WT) (hsel : Cond.selects y1.cls y1 y1 ∈ WT) (hci : ∃ q, vwCl[8]? = some q ∧ q.1 = y1.cls) (hd : Dn cL_law pc (.invokevirtual idx) 3 pc') (hs : stk = as.reverse ++ zR 0 :: rest) (hn : as.length = n) (hrw : rwd rest ≤ 8) (hm21 : m1 ≤ 21) (hR : cs.1 + mm.1 ≤ room_1.cells ∧ cs.2 + mm.2 ≤ room_1.slots)
    (k : ∀ z hp1, Pz2 y2 b2 m2 ret mk as z hp1 → WpB K b i Q (cs.1 + mm.1, cs.2 + mm.2) pc' (mk z :: rest) hp1) : WpB K b i Q cs pc stk hp := by
  obtain ⟨d1, hd1, Q1, C1, F1⟩ := P
  obtain ⟨fs, h0⟩ := LI_0 hLI
  refine wb_callV G hm hl hin hsel hci hd h0 hs hn hrw ⟨hd1, hm21, hR.1, hR.2⟩ C1 (fun r nx1 l1 hq => ?_)
  obtain ⟨z, rfl, h64, d2, hd2, Q2, C2, F2⟩ := F1 r nx1 l1 hq
  refine k z _ ?_
  have e : hget (nx1, hp.2.1, asets hp.2.2 l1) = hlk l1 (hget hp) := funext fun j => hlk_asets _ _ _ _
  unfold Pz2
  rw [e]
  exact ⟨h64, d2, hd2, Q2, C2, F2⟩
theorem wb_c2 (G : GL K b L xs) {n idx m2 : Nat} {y2 : MethodName} {b2 : ByteArray} {ret : Option FieldType} {mk : Int → PV} {as : List PV} {z : Int} (P : Pz2 y2 b2 m2 ret mk as z hp) (hm : My y2 b2 m2 ret n) (hl : Mlk RL idx y2) (hin : Cond.instanceMethod y2 ∈ WT) (hsel : Cond.selects y2.cls y2 y2 ∈ WT) (hci : ∃ q, vwCl[9]? = some q ∧ q.1 = y2.cls) (hd : Dn cL_law pc (.invokevirtual idx) 3 pc') (hs : stk = as.reverse ++ zR 64 :: rest) (hn : as.length = n) (hrw : rwd rest ≤ 8) (hm21 : m2 ≤ 21) (hR : cs.1 ≤ room_1.cells ∧ cs.2 ≤ room_1.slots)
    (k : ∀ hp2 : PH, LI hp2.1 (hget hp2) → WpB K b i Q cs pc' (mk z :: rest) hp2) : WpB K b i Q cs pc stk hp := by
  obtain ⟨⟨fs, h64⟩, d2, hd2, Q2, C2, F2⟩ := P
  refine wb_callV (mm := (0, 0)) G hm hl hin hsel hci hd h64 hs hn hrw ⟨hd2, hm21, hR.1, hR.2⟩ C2 (fun r nx2 l2 hq => ?_)
  obtain ⟨rfl, hLI⟩ := F2 r nx2 l2 hq
  refine k _ ?_
  have e : hget (nx2, hp.2.1, asets hp.2.2 l2) = hlk l2 (hget hp) := funext fun j => hlk_asets _ _ _ _
  rw [e]
  exact hLI
end LAWR

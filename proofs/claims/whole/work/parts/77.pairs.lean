def Pz (y1 y2 : MethodName) (b1 b2 : ByteArray) (m1 m2 : Nat) (ret : Option FieldType) (mm : Nat × Nat) (mk : Int → PV) (as : List PV) (nx : Nat) (h : Nat → Option PC) : Prop :=
  ∃ d1, d1 ≤ 8 ∧ ∃ Q1, Cx d1 mm y1 b1 m1 ret (zR 0 :: as) nx h Q1 ∧ ∀ r nx1 l1, Q1 r nx1 l1 → ∃ z, r = some (mk z) ∧ (∃ fs, hlk l1 h 64 = some (oO 9 fs)) ∧ ∃ d2, d2 ≤ 8 ∧ ∃ Q2, Cx d2 (0, 0) y2 b2 m2 ret (zR 64 :: as) nx1 (hlk l1 h) Q2 ∧ ∀ r2 nx2 l2, Q2 r2 nx2 l2 → r2 = some (mk z) ∧ LI nx2 (hlk l2 (hlk l1 h))
theorem hlk_in {l : List (Nat × PC)} {h : Nat → Option PC} (hl : l.all (fun x => decide (64 ≤ x.1 ∧ x.1 ≤ 92)) = true) : ∀ k, k < 64 ∨ 92 < k → hlk l h k = h k := by
  intro k h1
  induction l with
  | nil => rfl
  | cons x l ih =>
    rw [List.all_cons, Bool.and_eq_true] at hl
    have hx := of_decide_eq_true hl.1
    show (if x.1 = k then some x.2 else hlk l h k) = h k
    rw [if_neg (by omega)]
    exact ih hl.2
set_option maxRecDepth 100000 in
set_option maxHeartbeats 4000000 in
theorem pr_about {nx : Nat} {h : Nat → Option PC} {v w : Int} (ri_v : r32 v) (ri_w : r32 w) (hL : LI nx h) : Pz yX9_about yX10_about cX9_about cX10_about 3 3 (some .int) (0, 0) (fun z => zI z) [zI v, zI w] nx h := by
  have hL0 := hL
  obtain ⟨n, q, o, st, fc, pr, fa, sp, sc, sg, tx, sm, sl, hn, hs, kd, dm, ln, lw, hC, hM, hK, rfl⟩ := hL
  obtain ⟨hO, hB0, hN, hS, hH, hD, hL, hfc, hsc, hsg, hsl6, hsm, hsl, hX⟩ := id hK
  subst hsl6
  have hXs : ∀ k, k < fc → sl k ≤ 48 ∧ fltZ (tx k) (sl k) = -6 := fun k hk => ⟨hsl k (by omega), (hX k hk).2.1⟩
  obtain ⟨⟨h0, h1⟩, hQ, hcJ, hcT, hcO, ⟨h42, h43⟩, ⟨h44, hFs⟩, hcW, hcG⟩ := id hC
  obtain ⟨pa, mi, rw_, pt, cl, u_, v_, sl_, ro_, be_, re_, C0, A0, B0, hJ, hre, h14, hCC, h12, h13⟩ := id hcJ
  obtain ⟨ta, g34, g35⟩ := id hcT
  obtain ⟨fo, de, hMo⟩ := id hcO
  obtain ⟨tu, su, h45, h46, h47, htu⟩ := id hcW
  obtain ⟨gn, hG⟩ := id hcG
  refine ⟨2, by decide, _, (t_X9_about hQ hO h0 ri_v ri_w), fun r nx1 l1 hq => ?_⟩
  obtain ⟨rfl, rfl, rfl⟩ := hq
  rw [hlk_nil]
  have HM := hM
  have HC := hC
  obtain ⟨⟨ma, mb, hMm⟩, hMs, ⟨ri, hT⟩, hMg, ⟨mA_, mB_, mJ_, hMj⟩⟩ := id HM
  refine ⟨_, rfl, ⟨_, hMm.1⟩, 2, by decide, _, (t_X10_about hMm hO hN ri_v ri_w), fun r2 nx2 l2 hq2 => ?_⟩
  obtain ⟨rfl, rfl, rfl⟩ := hq2
  rw [hlk_nil]
  exact ⟨rfl, n, q, o, st, fc, pr, fa, sp, (sl 6), sg, tx, sm, sl, hn, hs, kd, dm, ln, lw, HC, HM, ⟨hO, hB0, hN, hS, hH, hD, hL, hfc, hsc, hsg, rfl, hsm, hsl, hX⟩, rfl⟩

set_option maxRecDepth 100000 in
set_option maxHeartbeats 4000000 in
theorem pr_often {nx : Nat} {h : Nat → Option PC} {a b m : Int} (ri_a : r32 a) (ri_b : r32 b) (ri_m : r32 m) (hL : LI nx h) : Pz yX9_often yX10_often cX9_often cX10_often 4 4 (some .int) (0, 0) (fun z => zI z) [zI a, zI b, zI m] nx h := by
  have hL0 := hL
  obtain ⟨n, q, o, st, fc, pr, fa, sp, sc, sg, tx, sm, sl, hn, hs, kd, dm, ln, lw, hC, hM, hK, rfl⟩ := hL
  obtain ⟨hO, hB0, hN, hS, hH, hD, hL, hfc, hsc, hsg, hsl6, hsm, hsl, hX⟩ := id hK
  subst hsl6
  have hXs : ∀ k, k < fc → sl k ≤ 48 ∧ fltZ (tx k) (sl k) = -6 := fun k hk => ⟨hsl k (by omega), (hX k hk).2.1⟩
  obtain ⟨⟨h0, h1⟩, hQ, hcJ, hcT, hcO, ⟨h42, h43⟩, ⟨h44, hFs⟩, hcW, hcG⟩ := id hC
  obtain ⟨pa, mi, rw_, pt, cl, u_, v_, sl_, ro_, be_, re_, C0, A0, B0, hJ, hre, h14, hCC, h12, h13⟩ := id hcJ
  obtain ⟨ta, g34, g35⟩ := id hcT
  obtain ⟨fo, de, hMo⟩ := id hcO
  obtain ⟨tu, su, h45, h46, h47, htu⟩ := id hcW
  obtain ⟨gn, hG⟩ := id hcG
  refine ⟨3, by decide, _, (t_X9_often hQ hO g34 g35 h0 ri_a ri_b ri_m), fun r nx1 l1 hq => ?_⟩
  obtain ⟨rfl, rfl, rfl⟩ := hq
  rw [hlk_nil]
  have HM := hM
  have HC := hC
  obtain ⟨⟨ma, mb, hMm⟩, hMs, ⟨ri, hT⟩, hMg, ⟨mA_, mB_, mJ_, hMj⟩⟩ := id HM
  refine ⟨_, rfl, ⟨_, hMm.1⟩, 3, by decide, _, (t_X10_often hMm hO hN ri_a ri_b ri_m), fun r2 nx2 l2 hq2 => ?_⟩
  obtain ⟨rfl, rfl, rfl⟩ := hq2
  rw [hlk_nil]
  exact ⟨rfl, n, q, o, st, fc, pr, fa, sp, (sl 6), sg, tx, sm, sl, hn, hs, kd, dm, ln, lw, HC, HM, ⟨hO, hB0, hN, hS, hH, hD, hL, hfc, hsc, hsg, rfl, hsm, hsl, hX⟩, rfl⟩

set_option maxRecDepth 100000 in
set_option maxHeartbeats 4000000 in
theorem pr_slope {nx : Nat} {h : Nat → Option PC} {a b m p : Int} (ri_a : r32 a) (ri_b : r32 b) (ri_m : r32 m) (ri_p : r32 p) (hL : LI nx h) : Pz yX9_slope yX10_slope cX9_slope cX10_slope 7 10 (some .long) (0, 0) (fun z => zJ z) [zI a, zI b, zI m, zI p] nx h := by
  have hL0 := hL
  obtain ⟨n, q, o, st, fc, pr, fa, sp, sc, sg, tx, sm, sl, hn, hs, kd, dm, ln, lw, hC, hM, hK, rfl⟩ := hL
  obtain ⟨hO, hB0, hN, hS, hH, hD, hL, hfc, hsc, hsg, hsl6, hsm, hsl, hX⟩ := id hK
  subst hsl6
  have hXs : ∀ k, k < fc → sl k ≤ 48 ∧ fltZ (tx k) (sl k) = -6 := fun k hk => ⟨hsl k (by omega), (hX k hk).2.1⟩
  obtain ⟨⟨h0, h1⟩, hQ, hcJ, hcT, hcO, ⟨h42, h43⟩, ⟨h44, hFs⟩, hcW, hcG⟩ := id hC
  obtain ⟨pa, mi, rw_, pt, cl, u_, v_, sl_, ro_, be_, re_, C0, A0, B0, hJ, hre, h14, hCC, h12, h13⟩ := id hcJ
  obtain ⟨ta, g34, g35⟩ := id hcT
  obtain ⟨fo, de, hMo⟩ := id hcO
  obtain ⟨tu, su, h45, h46, h47, htu⟩ := id hcW
  obtain ⟨gn, hG⟩ := id hcG
  refine ⟨3, by decide, _, (t_X9_slope hQ hO g34 g35 h0 ri_a ri_b ri_m ri_p), fun r nx1 l1 hq => ?_⟩
  obtain ⟨rfl, rfl, rfl⟩ := hq
  rw [hlk_nil]
  have HM := hM
  have HC := hC
  obtain ⟨⟨ma, mb, hMm⟩, hMs, ⟨ri, hT⟩, hMg, ⟨mA_, mB_, mJ_, hMj⟩⟩ := id HM
  refine ⟨_, rfl, ⟨_, hMm.1⟩, 3, by decide, _, (t_X10_slope hMm hO hN ri_a ri_b ri_m ri_p), fun r2 nx2 l2 hq2 => ?_⟩
  obtain ⟨rfl, rfl, rfl⟩ := hq2
  rw [hlk_nil]
  exact ⟨rfl, n, q, o, st, fc, pr, fa, sp, (sl 6), sg, tx, sm, sl, hn, hs, kd, dm, ln, lw, HC, HM, ⟨hO, hB0, hN, hS, hH, hD, hL, hfc, hsc, hsg, rfl, hsm, hsl, hX⟩, rfl⟩

set_option maxRecDepth 100000 in
set_option maxHeartbeats 4000000 in
theorem pr_alike {nx : Nat} {h : Nat → Option PC} {a b m p : Int} (ri_a : r32 a) (ri_b : r32 b) (ri_m : r32 m) (ri_p : r32 p) (hL : LI nx h) : Pz yX9_alike yX10_alike cX9_alike cX10_alike 11 12 (some .long) (0, 0) (fun z => zJ z) [zI a, zI b, zI m, zI p] nx h := by
  have hL0 := hL
  obtain ⟨n, q, o, st, fc, pr, fa, sp, sc, sg, tx, sm, sl, hn, hs, kd, dm, ln, lw, hC, hM, hK, rfl⟩ := hL
  obtain ⟨hO, hB0, hN, hS, hH, hD, hL, hfc, hsc, hsg, hsl6, hsm, hsl, hX⟩ := id hK
  subst hsl6
  have hXs : ∀ k, k < fc → sl k ≤ 48 ∧ fltZ (tx k) (sl k) = -6 := fun k hk => ⟨hsl k (by omega), (hX k hk).2.1⟩
  obtain ⟨⟨h0, h1⟩, hQ, hcJ, hcT, hcO, ⟨h42, h43⟩, ⟨h44, hFs⟩, hcW, hcG⟩ := id hC
  obtain ⟨pa, mi, rw_, pt, cl, u_, v_, sl_, ro_, be_, re_, C0, A0, B0, hJ, hre, h14, hCC, h12, h13⟩ := id hcJ
  obtain ⟨ta, g34, g35⟩ := id hcT
  obtain ⟨fo, de, hMo⟩ := id hcO
  obtain ⟨tu, su, h45, h46, h47, htu⟩ := id hcW
  obtain ⟨gn, hG⟩ := id hcG
  refine ⟨3, by decide, _, (t_X9_alike hQ hO g34 g35 h0 ri_a ri_b ri_m ri_p), fun r nx1 l1 hq => ?_⟩
  obtain ⟨rfl, rfl, rfl⟩ := hq
  rw [hlk_nil]
  have HM := hM
  have HC := hC
  obtain ⟨⟨ma, mb, hMm⟩, hMs, ⟨ri, hT⟩, hMg, ⟨mA_, mB_, mJ_, hMj⟩⟩ := id HM
  refine ⟨_, rfl, ⟨_, hMm.1⟩, 3, by decide, _, (t_X10_alike hMm hO hN ri_a ri_b ri_m ri_p), fun r2 nx2 l2 hq2 => ?_⟩
  obtain ⟨rfl, rfl, rfl⟩ := hq2
  rw [hlk_nil]
  exact ⟨rfl, n, q, o, st, fc, pr, fa, sp, (sl 6), sg, tx, sm, sl, hn, hs, kd, dm, ln, lw, HC, HM, ⟨hO, hB0, hN, hS, hH, hD, hL, hfc, hsc, hsg, rfl, hsm, hsl, hX⟩, rfl⟩

set_option maxRecDepth 100000 in
set_option maxHeartbeats 4000000 in
theorem pr_few {nx : Nat} {h : Nat → Option PC} {a m w t p : Int} (ri_a : r32 a) (ri_m : r32 m) (ri_w : r32 w) (ri_t : r32 t) (ri_p : r32 p) (hL : LI nx h) : Pz yX9_few yX10_few cX9_few cX10_few 6 9 (some .long) (0, 0) (fun z => zJ z) [zI a, zI m, zI w, zI t, zI p] nx h := by
  have hL0 := hL
  obtain ⟨n, q, o, st, fc, pr, fa, sp, sc, sg, tx, sm, sl, hn, hs, kd, dm, ln, lw, hC, hM, hK, rfl⟩ := hL
  obtain ⟨hO, hB0, hN, hS, hH, hD, hL, hfc, hsc, hsg, hsl6, hsm, hsl, hX⟩ := id hK
  subst hsl6
  have hXs : ∀ k, k < fc → sl k ≤ 48 ∧ fltZ (tx k) (sl k) = -6 := fun k hk => ⟨hsl k (by omega), (hX k hk).2.1⟩
  obtain ⟨⟨h0, h1⟩, hQ, hcJ, hcT, hcO, ⟨h42, h43⟩, ⟨h44, hFs⟩, hcW, hcG⟩ := id hC
  obtain ⟨pa, mi, rw_, pt, cl, u_, v_, sl_, ro_, be_, re_, C0, A0, B0, hJ, hre, h14, hCC, h12, h13⟩ := id hcJ
  obtain ⟨ta, g34, g35⟩ := id hcT
  obtain ⟨fo, de, hMo⟩ := id hcO
  obtain ⟨tu, su, h45, h46, h47, htu⟩ := id hcW
  obtain ⟨gn, hG⟩ := id hcG
  refine ⟨2, by decide, _, (t_X9_few h0 ri_a ri_m ri_w ri_t ri_p), fun r nx1 l1 hq => ?_⟩
  obtain ⟨rfl, rfl, rfl⟩ := hq
  rw [hlk_nil]
  have HM := hM
  have HC := hC
  obtain ⟨⟨ma, mb, hMm⟩, hMs, ⟨ri, hT⟩, hMg, ⟨mA_, mB_, mJ_, hMj⟩⟩ := id HM
  refine ⟨_, rfl, ⟨_, hMm.1⟩, 2, by decide, _, (t_X10_few (fc := fc) ri_a ri_m ri_w ri_t ri_p), fun r2 nx2 l2 hq2 => ?_⟩
  obtain ⟨rfl, rfl, rfl⟩ := hq2
  rw [hlk_nil]
  exact ⟨rfl, n, q, o, st, fc, pr, fa, sp, (sl 6), sg, tx, sm, sl, hn, hs, kd, dm, ln, lw, HC, HM, ⟨hO, hB0, hN, hS, hH, hD, hL, hfc, hsc, hsg, rfl, hsm, hsl, hX⟩, rfl⟩

set_option maxRecDepth 100000 in
set_option maxHeartbeats 4000000 in
theorem pr_share {nx : Nat} {h : Nat → Option PC} {v w b e : Int} (ri_v : r32 v) (ri_w : r32 w) (ri_b : r32 b) (ri_e : r32 e) (hL : LI nx h) : Pz yX9_share yX10_share cX9_share cX10_share 7 7 (some .long) (0, 0) (fun z => zJ z) [zI v, zI w, zI b, zI e] nx h := by
  have hL0 := hL
  obtain ⟨n, q, o, st, fc, pr, fa, sp, sc, sg, tx, sm, sl, hn, hs, kd, dm, ln, lw, hC, hM, hK, rfl⟩ := hL
  obtain ⟨hO, hB0, hN, hS, hH, hD, hL, hfc, hsc, hsg, hsl6, hsm, hsl, hX⟩ := id hK
  subst hsl6
  have hXs : ∀ k, k < fc → sl k ≤ 48 ∧ fltZ (tx k) (sl k) = -6 := fun k hk => ⟨hsl k (by omega), (hX k hk).2.1⟩
  obtain ⟨⟨h0, h1⟩, hQ, hcJ, hcT, hcO, ⟨h42, h43⟩, ⟨h44, hFs⟩, hcW, hcG⟩ := id hC
  obtain ⟨pa, mi, rw_, pt, cl, u_, v_, sl_, ro_, be_, re_, C0, A0, B0, hJ, hre, h14, hCC, h12, h13⟩ := id hcJ
  obtain ⟨ta, g34, g35⟩ := id hcT
  obtain ⟨fo, de, hMo⟩ := id hcO
  obtain ⟨tu, su, h45, h46, h47, htu⟩ := id hcW
  obtain ⟨gn, hG⟩ := id hcG
  refine ⟨5, by decide, _, (t_X9_share hQ hO hMo hS h0 h1 hN ri_v ri_w ri_b ri_e), fun r nx1 l1 hq => ?_⟩
  obtain ⟨rfl, rfl, rfl⟩ := hq
  rw [hlk_nil]
  have HM := hM
  have HC := hC
  obtain ⟨⟨ma, mb, hMm⟩, hMs, ⟨ri, hT⟩, hMg, ⟨mA_, mB_, mJ_, hMj⟩⟩ := id HM
  refine ⟨_, rfl, ⟨_, hMm.1⟩, 5, by decide, _, (t_X10_share hMm hO hN hMs hS ri_v ri_w ri_b ri_e), fun r2 nx2 l2 hq2 => ?_⟩
  obtain ⟨rfl, rfl, rfl⟩ := hq2
  rw [hlk_nil]
  exact ⟨rfl, n, q, o, st, fc, pr, fa, sp, (sl 6), sg, tx, sm, sl, hn, hs, kd, dm, ln, lw, HC, HM, ⟨hO, hB0, hN, hS, hH, hD, hL, hfc, hsc, hsg, rfl, hsm, hsl, hX⟩, rfl⟩

set_option maxRecDepth 100000 in
set_option maxHeartbeats 4000000 in
theorem pr_mother {nx : Nat} {h : Nat → Option PC} {v b : Int} (ri_v : r32 v) (ri_b : r32 b) (hL : LI nx h) : Pz yX9_mother yX10_mother cX9_mother cX10_mother 4 4 (some .int) (0, 0) (fun z => zI z) [zI v, zI b] nx h := by
  have hL0 := hL
  obtain ⟨n, q, o, st, fc, pr, fa, sp, sc, sg, tx, sm, sl, hn, hs, kd, dm, ln, lw, hC, hM, hK, rfl⟩ := hL
  obtain ⟨hO, hB0, hN, hS, hH, hD, hL, hfc, hsc, hsg, hsl6, hsm, hsl, hX⟩ := id hK
  subst hsl6
  have hXs : ∀ k, k < fc → sl k ≤ 48 ∧ fltZ (tx k) (sl k) = -6 := fun k hk => ⟨hsl k (by omega), (hX k hk).2.1⟩
  obtain ⟨⟨h0, h1⟩, hQ, hcJ, hcT, hcO, ⟨h42, h43⟩, ⟨h44, hFs⟩, hcW, hcG⟩ := id hC
  obtain ⟨pa, mi, rw_, pt, cl, u_, v_, sl_, ro_, be_, re_, C0, A0, B0, hJ, hre, h14, hCC, h12, h13⟩ := id hcJ
  obtain ⟨ta, g34, g35⟩ := id hcT
  obtain ⟨fo, de, hMo⟩ := id hcO
  obtain ⟨tu, su, h45, h46, h47, htu⟩ := id hcW
  obtain ⟨gn, hG⟩ := id hcG
  refine ⟨5, by decide, _, (t_X9_mother hQ hO hMo hS h0 h1 hN ri_v ri_b), fun r nx1 l1 hq => ?_⟩
  obtain ⟨rfl, rfl, rfl⟩ := hq
  rw [hlk_nil]
  have HM := hM
  have HC := hC
  obtain ⟨⟨ma, mb, hMm⟩, hMs, ⟨ri, hT⟩, hMg, ⟨mA_, mB_, mJ_, hMj⟩⟩ := id HM
  refine ⟨_, rfl, ⟨_, hMm.1⟩, 5, by decide, _, (t_X10_mother hMm hO hN hMs hS ri_v ri_b), fun r2 nx2 l2 hq2 => ?_⟩
  obtain ⟨rfl, rfl, rfl⟩ := hq2
  rw [hlk_nil]
  exact ⟨rfl, n, q, o, st, fc, pr, fa, sp, (sl 6), sg, tx, sm, sl, hn, hs, kd, dm, ln, lw, HC, HM, ⟨hO, hB0, hN, hS, hH, hD, hL, hfc, hsc, hsg, rfl, hsm, hsl, hX⟩, rfl⟩

set_option maxRecDepth 100000 in
set_option maxHeartbeats 4000000 in
theorem pr_draw {nx : Nat} {h : Nat → Option PC} {s v b : Int} (ri_s : r32 s) (ri_v : r32 v) (ri_b : r32 b) (hL : LI nx h) : Pz yX9_draw yX10_draw cX9_draw cX10_draw 5 7 (some .int) (0, 0) (fun z => zI z) [zI s, zI v, zI b] nx h := by
  have hL0 := hL
  obtain ⟨n, q, o, st, fc, pr, fa, sp, sc, sg, tx, sm, sl, hn, hs, kd, dm, ln, lw, hC, hM, hK, rfl⟩ := hL
  obtain ⟨hO, hB0, hN, hS, hH, hD, hL, hfc, hsc, hsg, hsl6, hsm, hsl, hX⟩ := id hK
  subst hsl6
  have hXs : ∀ k, k < fc → sl k ≤ 48 ∧ fltZ (tx k) (sl k) = -6 := fun k hk => ⟨hsl k (by omega), (hX k hk).2.1⟩
  obtain ⟨⟨h0, h1⟩, hQ, hcJ, hcT, hcO, ⟨h42, h43⟩, ⟨h44, hFs⟩, hcW, hcG⟩ := id hC
  obtain ⟨pa, mi, rw_, pt, cl, u_, v_, sl_, ro_, be_, re_, C0, A0, B0, hJ, hre, h14, hCC, h12, h13⟩ := id hcJ
  obtain ⟨ta, g34, g35⟩ := id hcT
  obtain ⟨fo, de, hMo⟩ := id hcO
  obtain ⟨tu, su, h45, h46, h47, htu⟩ := id hcW
  obtain ⟨gn, hG⟩ := id hcG
  refine ⟨6, by decide, _, (t_X9_draw hQ hO hMo hS h0 h1 hN ri_s ri_v ri_b), fun r nx1 l1 hq => ?_⟩
  obtain ⟨rfl, rfl, rfl⟩ := hq
  rw [hlk_nil]
  have HM := hM
  have HC := hC
  obtain ⟨⟨ma, mb, hMm⟩, hMs, ⟨ri, hT⟩, hMg, ⟨mA_, mB_, mJ_, hMj⟩⟩ := id HM
  refine ⟨_, rfl, ⟨_, hMm.1⟩, 6, by decide, _, (t_X10_draw hMm hO hN hMs hS ri_s ri_v ri_b), fun r2 nx2 l2 hq2 => ?_⟩
  obtain ⟨rfl, rfl, rfl⟩ := hq2
  rw [hlk_nil]
  exact ⟨rfl, n, q, o, st, fc, pr, fa, sp, (sl 6), sg, tx, sm, sl, hn, hs, kd, dm, ln, lw, HC, HM, ⟨hO, hB0, hN, hS, hH, hD, hL, hfc, hsc, hsg, rfl, hsm, hsl, hX⟩, rfl⟩

set_option maxRecDepth 100000 in
set_option maxHeartbeats 4000000 in
theorem pr_rate {nx : Nat} {h : Nat → Option PC} {x y d b : Int} (ri_x : r32 x) (ri_y : r32 y) (ri_d : r32 d) (ri_b : r32 b) (hL : LI nx h) : Pz yX9_rate yX10_rate cX9_rate cX10_rate 5 7 (some .int) (0, 0) (fun z => zI z) [zI x, zI y, zI d, zI b] nx h := by
  have hL0 := hL
  obtain ⟨n, q, o, st, fc, pr, fa, sp, sc, sg, tx, sm, sl, hn, hs, kd, dm, ln, lw, hC, hM, hK, rfl⟩ := hL
  obtain ⟨hO, hB0, hN, hS, hH, hD, hL, hfc, hsc, hsg, hsl6, hsm, hsl, hX⟩ := id hK
  subst hsl6
  have hXs : ∀ k, k < fc → sl k ≤ 48 ∧ fltZ (tx k) (sl k) = -6 := fun k hk => ⟨hsl k (by omega), (hX k hk).2.1⟩
  obtain ⟨⟨h0, h1⟩, hQ, hcJ, hcT, hcO, ⟨h42, h43⟩, ⟨h44, hFs⟩, hcW, hcG⟩ := id hC
  obtain ⟨pa, mi, rw_, pt, cl, u_, v_, sl_, ro_, be_, re_, C0, A0, B0, hJ, hre, h14, hCC, h12, h13⟩ := id hcJ
  obtain ⟨ta, g34, g35⟩ := id hcT
  obtain ⟨fo, de, hMo⟩ := id hcO
  obtain ⟨tu, su, h45, h46, h47, htu⟩ := id hcW
  obtain ⟨gn, hG⟩ := id hcG
  refine ⟨4, by decide, _, (t_X9_rate hQ hO hMo hS h0 h1 hN ri_x ri_y ri_d ri_b), fun r nx1 l1 hq => ?_⟩
  obtain ⟨rfl, rfl, rfl⟩ := hq
  rw [hlk_nil]
  have HM := hM
  have HC := hC
  obtain ⟨⟨ma, mb, hMm⟩, hMs, ⟨ri, hT⟩, hMg, ⟨mA_, mB_, mJ_, hMj⟩⟩ := id HM
  refine ⟨_, rfl, ⟨_, hMm.1⟩, 3, by decide, _, (t_X10_rate hMm hO hN hMs hS ri_x ri_y ri_d ri_b), fun r2 nx2 l2 hq2 => ?_⟩
  obtain ⟨rfl, rfl, rfl⟩ := hq2
  rw [hlk_nil]
  exact ⟨rfl, n, q, o, st, fc, pr, fa, sp, (sl 6), sg, tx, sm, sl, hn, hs, kd, dm, ln, lw, HC, HM, ⟨hO, hB0, hN, hS, hH, hD, hL, hfc, hsc, hsg, rfl, hsm, hsl, hX⟩, rfl⟩

set_option maxRecDepth 100000 in
set_option maxHeartbeats 4000000 in
theorem pr_fault {nx : Nat} {h : Nat → Option PC}   (hL : LI nx h) : Pz yX9_fault yX10_fault cX9_fault cX10_fault 1 5 (some .int) (0, 0) (fun z => zI z) [] nx h := by
  have hL0 := hL
  obtain ⟨n, q, o, st, fc, pr, fa, sp, sc, sg, tx, sm, sl, hn, hs, kd, dm, ln, lw, hC, hM, hK, rfl⟩ := hL
  obtain ⟨hO, hB0, hN, hS, hH, hD, hL, hfc, hsc, hsg, hsl6, hsm, hsl, hX⟩ := id hK
  subst hsl6
  have hXs : ∀ k, k < fc → sl k ≤ 48 ∧ fltZ (tx k) (sl k) = -6 := fun k hk => ⟨hsl k (by omega), (hX k hk).2.1⟩
  obtain ⟨⟨h0, h1⟩, hQ, hcJ, hcT, hcO, ⟨h42, h43⟩, ⟨h44, hFs⟩, hcW, hcG⟩ := id hC
  obtain ⟨pa, mi, rw_, pt, cl, u_, v_, sl_, ro_, be_, re_, C0, A0, B0, hJ, hre, h14, hCC, h12, h13⟩ := id hcJ
  obtain ⟨ta, g34, g35⟩ := id hcT
  obtain ⟨fo, de, hMo⟩ := id hcO
  obtain ⟨tu, su, h45, h46, h47, htu⟩ := id hcW
  obtain ⟨gn, hG⟩ := id hcG
  refine ⟨2, by decide, _, (t_X9_fault h42 h43 hsc hsg h0), fun r nx1 l1 hq => ?_⟩
  obtain ⟨rfl, rfl, rfl⟩ := hq
  rw [hlk_nil]
  have HM := hM
  have HC := hC
  obtain ⟨⟨ma, mb, hMm⟩, hMs, ⟨ri, hT⟩, hMg, ⟨mA_, mB_, mJ_, hMj⟩⟩ := id HM
  refine ⟨_, rfl, ⟨_, hMm.1⟩, 2, by decide, _, (t_X10_fault hMm hO hN hT hsl hsm hsg), fun r2 nx2 l2 hq2 => ?_⟩
  obtain ⟨rfl, rfl, rfl⟩ := hq2
  rw [hlk_nil]
  exact ⟨rfl, n, q, o, st, fc, pr, fa, sp, (sl 6), sg, tx, sm, sl, hn, hs, kd, dm, ln, lw, HC, HM, ⟨hO, hB0, hN, hS, hH, hD, hL, hfc, hsc, hsg, rfl, hsm, hsl, hX⟩, rfl⟩

set_option maxRecDepth 100000 in
set_option maxHeartbeats 4000000 in
theorem pr_loss {nx : Nat} {h : Nat → Option PC} {v : Int} (ri_v : r32 v) (hL : LI nx h) : Pz yX9_loss yX10_loss cX9_loss cX10_loss 2 2 (some .int) (0, 0) (fun z => zI z) [zI v] nx h := by
  have hL0 := hL
  obtain ⟨n, q, o, st, fc, pr, fa, sp, sc, sg, tx, sm, sl, hn, hs, kd, dm, ln, lw, hC, hM, hK, rfl⟩ := hL
  obtain ⟨hO, hB0, hN, hS, hH, hD, hL, hfc, hsc, hsg, hsl6, hsm, hsl, hX⟩ := id hK
  subst hsl6
  have hXs : ∀ k, k < fc → sl k ≤ 48 ∧ fltZ (tx k) (sl k) = -6 := fun k hk => ⟨hsl k (by omega), (hX k hk).2.1⟩
  obtain ⟨⟨h0, h1⟩, hQ, hcJ, hcT, hcO, ⟨h42, h43⟩, ⟨h44, hFs⟩, hcW, hcG⟩ := id hC
  obtain ⟨pa, mi, rw_, pt, cl, u_, v_, sl_, ro_, be_, re_, C0, A0, B0, hJ, hre, h14, hCC, h12, h13⟩ := id hcJ
  obtain ⟨ta, g34, g35⟩ := id hcT
  obtain ⟨fo, de, hMo⟩ := id hcO
  obtain ⟨tu, su, h45, h46, h47, htu⟩ := id hcW
  obtain ⟨gn, hG⟩ := id hcG
  refine ⟨5, by decide, _, (t_X9_loss hQ hO hG hH hD hL h0 h1 hN ri_v), fun r nx1 l1 hq => ?_⟩
  obtain ⟨rfl, rfl, rfl⟩ := hq
  rw [hlk_nil]
  have HM := hM
  have HC := hC
  obtain ⟨⟨ma, mb, hMm⟩, hMs, ⟨ri, hT⟩, hMg, ⟨mA_, mB_, mJ_, hMj⟩⟩ := id HM
  refine ⟨_, rfl, ⟨_, hMm.1⟩, 5, by decide, _, (t_X10_loss hMm hO hN hMg hH hD hL ri_v), fun r2 nx2 l2 hq2 => ?_⟩
  obtain ⟨rfl, rfl, rfl⟩ := hq2
  rw [hlk_nil]
  exact ⟨rfl, n, q, o, st, fc, pr, fa, sp, (sl 6), sg, tx, sm, sl, hn, hs, kd, dm, ln, lw, HC, HM, ⟨hO, hB0, hN, hS, hH, hD, hL, hfc, hsc, hsg, rfl, hsm, hsl, hX⟩, rfl⟩

set_option maxRecDepth 100000 in
set_option maxHeartbeats 4000000 in
theorem pr_worst {nx : Nat} {h : Nat → Option PC} {b w : Int} (ri_b : r32 b) (ri_w : r32 w) (hL : LI nx h) : Pz yX9_worst yX10_worst cX9_worst cX10_worst 4 6 (some .int) (0, 0) (fun z => zI z) [zI b, zI w] nx h := by
  have hL0 := hL
  obtain ⟨n, q, o, st, fc, pr, fa, sp, sc, sg, tx, sm, sl, hn, hs, kd, dm, ln, lw, hC, hM, hK, rfl⟩ := hL
  obtain ⟨hO, hB0, hN, hS, hH, hD, hL, hfc, hsc, hsg, hsl6, hsm, hsl, hX⟩ := id hK
  subst hsl6
  have hXs : ∀ k, k < fc → sl k ≤ 48 ∧ fltZ (tx k) (sl k) = -6 := fun k hk => ⟨hsl k (by omega), (hX k hk).2.1⟩
  obtain ⟨⟨h0, h1⟩, hQ, hcJ, hcT, hcO, ⟨h42, h43⟩, ⟨h44, hFs⟩, hcW, hcG⟩ := id hC
  obtain ⟨pa, mi, rw_, pt, cl, u_, v_, sl_, ro_, be_, re_, C0, A0, B0, hJ, hre, h14, hCC, h12, h13⟩ := id hcJ
  obtain ⟨ta, g34, g35⟩ := id hcT
  obtain ⟨fo, de, hMo⟩ := id hcO
  obtain ⟨tu, su, h45, h46, h47, htu⟩ := id hcW
  obtain ⟨gn, hG⟩ := id hcG
  refine ⟨6, by decide, _, (t_X9_worst hQ hO hG hH hD hL h0 h1 hN ri_b ri_w), fun r nx1 l1 hq => ?_⟩
  obtain ⟨rfl, rfl, rfl⟩ := hq
  rw [hlk_nil]
  have HM := hM
  have HC := hC
  obtain ⟨⟨ma, mb, hMm⟩, hMs, ⟨ri, hT⟩, hMg, ⟨mA_, mB_, mJ_, hMj⟩⟩ := id HM
  refine ⟨_, rfl, ⟨_, hMm.1⟩, 5, by decide, _, (t_X10_worst hMm hO hN hMg hH hD hL ri_b ri_w), fun r2 nx2 l2 hq2 => ?_⟩
  obtain ⟨rfl, rfl, rfl⟩ := hq2
  rw [hlk_nil]
  exact ⟨rfl, n, q, o, st, fc, pr, fa, sp, (sl 6), sg, tx, sm, sl, hn, hs, kd, dm, ln, lw, HC, HM, ⟨hO, hB0, hN, hS, hH, hD, hL, hfc, hsc, hsg, rfl, hsm, hsl, hX⟩, rfl⟩

set_option maxRecDepth 100000 in
set_option maxHeartbeats 4000000 in
theorem pr_curve {nx : Nat} {h : Nat → Option PC} {l : Int} (ri_l : r32 l) (hL : LI nx h) : Pz yX9_curve yX10_curve cX9_curve cX10_curve 2 4 (some .int) (0, 0) (fun z => zI z) [zI l] nx h := by
  have hL0 := hL
  obtain ⟨n, q, o, st, fc, pr, fa, sp, sc, sg, tx, sm, sl, hn, hs, kd, dm, ln, lw, hC, hM, hK, rfl⟩ := hL
  obtain ⟨hO, hB0, hN, hS, hH, hD, hL, hfc, hsc, hsg, hsl6, hsm, hsl, hX⟩ := id hK
  subst hsl6
  have hXs : ∀ k, k < fc → sl k ≤ 48 ∧ fltZ (tx k) (sl k) = -6 := fun k hk => ⟨hsl k (by omega), (hX k hk).2.1⟩
  obtain ⟨⟨h0, h1⟩, hQ, hcJ, hcT, hcO, ⟨h42, h43⟩, ⟨h44, hFs⟩, hcW, hcG⟩ := id hC
  obtain ⟨pa, mi, rw_, pt, cl, u_, v_, sl_, ro_, be_, re_, C0, A0, B0, hJ, hre, h14, hCC, h12, h13⟩ := id hcJ
  obtain ⟨ta, g34, g35⟩ := id hcT
  obtain ⟨fo, de, hMo⟩ := id hcO
  obtain ⟨tu, su, h45, h46, h47, htu⟩ := id hcW
  obtain ⟨gn, hG⟩ := id hcG
  refine ⟨6, by decide, _, (t_X9_curve hQ hO hG hH hD hL h0 h1 hN ri_l), fun r nx1 l1 hq => ?_⟩
  obtain ⟨rfl, rfl, rfl⟩ := hq
  rw [hlk_nil]
  have HM := hM
  have HC := hC
  obtain ⟨⟨ma, mb, hMm⟩, hMs, ⟨ri, hT⟩, hMg, ⟨mA_, mB_, mJ_, hMj⟩⟩ := id HM
  refine ⟨_, rfl, ⟨_, hMm.1⟩, 4, by decide, _, (t_X10_curve hMm hO hN hMg hH hD hL ri_l), fun r2 nx2 l2 hq2 => ?_⟩
  obtain ⟨rfl, rfl, rfl⟩ := hq2
  rw [hlk_nil]
  exact ⟨rfl, n, q, o, st, fc, pr, fa, sp, (sl 6), sg, tx, sm, sl, hn, hs, kd, dm, ln, lw, HC, HM, ⟨hO, hB0, hN, hS, hH, hD, hL, hfc, hsc, hsg, rfl, hsm, hsl, hX⟩, rfl⟩

set_option maxRecDepth 100000 in
set_option maxHeartbeats 4000000 in
theorem pr_mean {nx : Nat} {h : Nat → Option PC} {v : Int} (ri_v : r32 v) (hL : LI nx h) : Pz yX9_mean yX10_mean cX9_mean cX10_mean 2 2 (some .long) (0, 0) (fun z => zJ z) [zI v] nx h := by
  have hL0 := hL
  obtain ⟨n, q, o, st, fc, pr, fa, sp, sc, sg, tx, sm, sl, hn, hs, kd, dm, ln, lw, hC, hM, hK, rfl⟩ := hL
  obtain ⟨hO, hB0, hN, hS, hH, hD, hL, hfc, hsc, hsg, hsl6, hsm, hsl, hX⟩ := id hK
  subst hsl6
  have hXs : ∀ k, k < fc → sl k ≤ 48 ∧ fltZ (tx k) (sl k) = -6 := fun k hk => ⟨hsl k (by omega), (hX k hk).2.1⟩
  obtain ⟨⟨h0, h1⟩, hQ, hcJ, hcT, hcO, ⟨h42, h43⟩, ⟨h44, hFs⟩, hcW, hcG⟩ := id hC
  obtain ⟨pa, mi, rw_, pt, cl, u_, v_, sl_, ro_, be_, re_, C0, A0, B0, hJ, hre, h14, hCC, h12, h13⟩ := id hcJ
  obtain ⟨ta, g34, g35⟩ := id hcT
  obtain ⟨fo, de, hMo⟩ := id hcO
  obtain ⟨tu, su, h45, h46, h47, htu⟩ := id hcW
  obtain ⟨gn, hG⟩ := id hcG
  refine ⟨6, by decide, _, (t_X9_mean hQ hO hG hH hD hL h0 h1 hN ri_v), fun r nx1 l1 hq => ?_⟩
  obtain ⟨rfl, rfl, rfl⟩ := hq
  rw [hlk_nil]
  have HM := hM
  have HC := hC
  obtain ⟨⟨ma, mb, hMm⟩, hMs, ⟨ri, hT⟩, hMg, ⟨mA_, mB_, mJ_, hMj⟩⟩ := id HM
  refine ⟨_, rfl, ⟨_, hMm.1⟩, 5, by decide, _, (t_X10_mean hMm hO hN hMg hH hD hL ri_v), fun r2 nx2 l2 hq2 => ?_⟩
  obtain ⟨rfl, rfl, rfl⟩ := hq2
  rw [hlk_nil]
  exact ⟨rfl, n, q, o, st, fc, pr, fa, sp, (sl 6), sg, tx, sm, sl, hn, hs, kd, dm, ln, lw, HC, HM, ⟨hO, hB0, hN, hS, hH, hD, hL, hfc, hsc, hsg, rfl, hsm, hsl, hX⟩, rfl⟩

set_option maxRecDepth 100000 in
set_option maxHeartbeats 4000000 in
theorem pr_told {nx : Nat} {h : Nat → Option PC} {v : Int} (ri_v : r32 v) (hL : LI nx h) : Pz yX9_told yX10_told cX9_told cX10_told 2 4 (some .int) (0, 0) (fun z => zI z) [zI v] nx h := by
  have hL0 := hL
  obtain ⟨n, q, o, st, fc, pr, fa, sp, sc, sg, tx, sm, sl, hn, hs, kd, dm, ln, lw, hC, hM, hK, rfl⟩ := hL
  obtain ⟨hO, hB0, hN, hS, hH, hD, hL, hfc, hsc, hsg, hsl6, hsm, hsl, hX⟩ := id hK
  subst hsl6
  have hXs : ∀ k, k < fc → sl k ≤ 48 ∧ fltZ (tx k) (sl k) = -6 := fun k hk => ⟨hsl k (by omega), (hX k hk).2.1⟩
  obtain ⟨⟨h0, h1⟩, hQ, hcJ, hcT, hcO, ⟨h42, h43⟩, ⟨h44, hFs⟩, hcW, hcG⟩ := id hC
  obtain ⟨pa, mi, rw_, pt, cl, u_, v_, sl_, ro_, be_, re_, C0, A0, B0, hJ, hre, h14, hCC, h12, h13⟩ := id hcJ
  obtain ⟨ta, g34, g35⟩ := id hcT
  obtain ⟨fo, de, hMo⟩ := id hcO
  obtain ⟨tu, su, h45, h46, h47, htu⟩ := id hcW
  obtain ⟨gn, hG⟩ := id hcG
  refine ⟨1, by decide, _, (t_X9_told hQ hO hG hH hD hL h0 h1 hN h42 h43 hsc hsg ri_v), fun r nx1 l1 hq => ?_⟩
  obtain ⟨rfl, rfl, rfl⟩ := hq
  rw [hlk_nil]
  have HM := hM
  have HC := hC
  obtain ⟨⟨ma, mb, hMm⟩, hMs, ⟨ri, hT⟩, hMg, ⟨mA_, mB_, mJ_, hMj⟩⟩ := id HM
  refine ⟨_, rfl, ⟨_, hMm.1⟩, 1, by decide, _, (t_X10_told hMm hO hN hMg hH hD hL hT hsl ri_v), fun r2 nx2 l2 hq2 => ?_⟩
  obtain ⟨rfl, rfl, rfl⟩ := hq2
  rw [hlk_nil]
  exact ⟨rfl, n, q, o, st, fc, pr, fa, sp, (sl 6), sg, tx, sm, sl, hn, hs, kd, dm, ln, lw, HC, HM, ⟨hO, hB0, hN, hS, hH, hD, hL, hfc, hsc, hsg, rfl, hsm, hsl, hX⟩, rfl⟩


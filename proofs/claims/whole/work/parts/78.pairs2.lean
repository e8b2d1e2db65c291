set_option maxRecDepth 100000 in
set_option maxHeartbeats 4000000 in
theorem pr_whole {nx : Nat} {h : Nat → Option PC} {a b : Int} (ri_a : r32 a) (ri_b : r32 b) (hL : LI nx h) : Pz yX9_whole yX10_whole cX9_whole cX10_whole 3 7 (some .int) (0, 0) (fun z => zI z) [zI a, zI b] nx h := by
  have hL0 := hL
  obtain ⟨n, q, o, st, fc, pr, fa, sp, sc, sg, tx, sm, sl, hn, hs, kd, dm, ln, lw, hC, hM, hK, rfl⟩ := hL
  obtain ⟨hO, hB0, hN, hS, hH, hD, hL, hfc, hsc, hsg, hsl6, hsm, hsl, hX⟩ := id hK
  subst hsl6
  have hXs : ∀ k, k < fc → sl k ≤ 48 ∧ fltZ (tx k) (sl k) = -6 := fun k hk => ⟨hsl k (by omega), (hX k hk).2.1⟩
  obtain ⟨⟨h0, h1⟩, hQ, hcJ, hcT, hcO, ⟨h42, h43⟩, ⟨h44, hFs⟩, hcW, hcG⟩ := id hC
  obtain ⟨pa, mi, rw_, pt, cl, u_, v_, sl_, ro_, be_, re_, C0, A0, B0, hJ, hre, h14, hCC, h12, h13⟩ := id hcJ
  obtain ⟨ta, g34, g35⟩ := id hcT
  obtain ⟨fo, de, hMo⟩ := id hcO
  obtain ⟨tu, su, h45, h46, h47, htu⟩ := id hcW
  obtain ⟨gn, hG⟩ := id hcG
  refine ⟨3, by decide, _, (t_X9_whole hQ hO g34 g35 h0 ri_a ri_b), fun r nx1 l1 hq => ?_⟩
  obtain ⟨rfl, rfl, hl1⟩ := hq
  rcases hl1 with rfl | ⟨R, rfl⟩
  · skip
    rw [hlk_nil]
    have HM := hM
    have HC := hC
    obtain ⟨⟨ma, mb, hMm⟩, hMs, ⟨ri, hT⟩, hMg, ⟨mA_, mB_, mJ_, hMj⟩⟩ := id HM
    refine ⟨_, rfl, ⟨_, hMm.1⟩, 3, by decide, _, (t_X10_whole hMm hO hN ri_a ri_b), fun r2 nx2 l2 hq2 => ?_⟩
    obtain ⟨rfl, rfl, rfl⟩ := hq2
    rw [hlk_nil]
    exact ⟨rfl, n, q, o, st, fc, pr, fa, sp, (sl 6), sg, tx, sm, sl, hn, hs, kd, dm, ln, lw, HC, HM, ⟨hO, hB0, hN, hS, hH, hD, hL, hfc, hsc, hsg, rfl, hsm, hsl, hX⟩, rfl⟩
  · have HC : LC (hlk [(35, oA 0 91 R)] h) n q o st fc pr fa sp (sl 6) sg tx sl hn hs kd dm ln lw := ⟨cA_fr (hlk_out 0 1 rfl) ⟨h0, h1⟩, isQ_fr (hlk_out 2 10 rfl) hQ, cJ_fr (hlk_out 11 33 rfl) hcJ, ⟨R, g34, rfl⟩, cO_fr (hlk_out 36 41 rfl) hcO, cS_fr (hlk_out 42 43 rfl) ⟨h42, h43⟩, cF_fr (hlk_out 44 44 rfl 44 (by decide) (by decide)) (hlk_up 93 rfl) ⟨h44, hFs⟩, cW_fr (hlk_out 45 47 rfl) hcW, cG_fr (hlk_out 48 63 rfl) hcG⟩
    have HM : LM (hlk [(35, oA 0 91 R)] h) n q o st fc pr fa sp sm sl hn hs kd dm ln lw := LM_fr (hlk_out 64 92 rfl) hM
    obtain ⟨⟨ma, mb, hMm⟩, hMs, ⟨ri, hT⟩, hMg, ⟨mA_, mB_, mJ_, hMj⟩⟩ := id HM
    refine ⟨_, rfl, ⟨_, hMm.1⟩, 3, by decide, _, (t_X10_whole hMm hO hN ri_a ri_b), fun r2 nx2 l2 hq2 => ?_⟩
    obtain ⟨rfl, rfl, rfl⟩ := hq2
    rw [hlk_nil]
    exact ⟨rfl, n, q, o, st, fc, pr, fa, sp, (sl 6), sg, tx, sm, sl, hn, hs, kd, dm, ln, lw, HC, HM, ⟨hO, hB0, hN, hS, hH, hD, hL, hfc, hsc, hsg, rfl, hsm, hsl, hX⟩, rfl⟩

set_option maxRecDepth 100000 in
set_option maxHeartbeats 4000000 in
theorem pr_family {nx : Nat} {h : Nat → Option PC} {v b w : Int} (ri_v : r32 v) (ri_b : r32 b) (ri_w : r32 w) (hL : LI nx h) : Pz yX9_family yX10_family cX9_family cX10_family 6 9 (some .int) (0, 0) (fun z => zI z) [zI v, zI b, zI w] nx h := by
  have hL0 := hL
  obtain ⟨n, q, o, st, fc, pr, fa, sp, sc, sg, tx, sm, sl, hn, hs, kd, dm, ln, lw, hC, hM, hK, rfl⟩ := hL
  obtain ⟨hO, hB0, hN, hS, hH, hD, hL, hfc, hsc, hsg, hsl6, hsm, hsl, hX⟩ := id hK
  subst hsl6
  have hXs : ∀ k, k < fc → sl k ≤ 48 ∧ fltZ (tx k) (sl k) = -6 := fun k hk => ⟨hsl k (by omega), (hX k hk).2.1⟩
  obtain ⟨⟨h0, h1⟩, hQ, hcJ, hcT, hcO, ⟨h42, h43⟩, ⟨h44, hFs⟩, hcW, hcG⟩ := id hC
  obtain ⟨pa, mi, rw_, pt, cl, u_, v_, sl_, ro_, be_, re_, C0, A0, B0, hJ, hre, h14, hCC, h12, h13⟩ := id hcJ
  obtain ⟨ta, g34, g35⟩ := id hcT
  obtain ⟨fo, de, hMo⟩ := id hcO
  obtain ⟨tu, su, h45, h46, h47, htu⟩ := id hcW
  obtain ⟨gn, hG⟩ := id hcG
  refine ⟨6, by decide, _, (t_X9_family hQ hO hMo hS h0 h1 hN ri_v ri_b ri_w), fun r nx1 l1 hq => ?_⟩
  obtain ⟨rfl, rfl, hl1⟩ := hq
  rcases hl1 with rfl | ⟨F, D, rfl⟩
  · skip
    rw [hlk_nil]
    have HM := hM
    have HC := hC
    obtain ⟨⟨ma, mb, hMm⟩, hMs, ⟨ri, hT⟩, hMg, ⟨mA_, mB_, mJ_, hMj⟩⟩ := id HM
    refine ⟨_, rfl, ⟨_, hMm.1⟩, 7, by decide, _, (t_X10_family hMm hO hN hMs hS ri_v ri_b ri_w), fun r2 nx2 l2 hq2 => ?_⟩
    obtain ⟨rfl, rfl, rfl⟩ := hq2
    rw [hlk_nil]
    exact ⟨rfl, n, q, o, st, fc, pr, fa, sp, (sl 6), sg, tx, sm, sl, hn, hs, kd, dm, ln, lw, HC, HM, ⟨hO, hB0, hN, hS, hH, hD, hL, hfc, hsc, hsg, rfl, hsm, hsl, hX⟩, rfl⟩
  · have HC : LC (hlk [(41, oA 0 40 D), (40, oA 0 40 F)] h) n q o st fc pr fa sp (sl 6) sg tx sl hn hs kd dm ln lw := ⟨cA_fr (hlk_out 0 1 rfl) ⟨h0, h1⟩, isQ_fr (hlk_out 2 10 rfl) hQ, cJ_fr (hlk_out 11 33 rfl) hcJ, cT_fr (hlk_out 34 35 rfl) hcT, ⟨F, D, hMo.1, hMo.2.1, hMo.2.2.1, hMo.2.2.2.1, rfl, rfl⟩, cS_fr (hlk_out 42 43 rfl) ⟨h42, h43⟩, cF_fr (hlk_out 44 44 rfl 44 (by decide) (by decide)) (hlk_up 93 rfl) ⟨h44, hFs⟩, cW_fr (hlk_out 45 47 rfl) hcW, cG_fr (hlk_out 48 63 rfl) hcG⟩
    have HM : LM (hlk [(41, oA 0 40 D), (40, oA 0 40 F)] h) n q o st fc pr fa sp sm sl hn hs kd dm ln lw := LM_fr (hlk_out 64 92 rfl) hM
    obtain ⟨⟨ma, mb, hMm⟩, hMs, ⟨ri, hT⟩, hMg, ⟨mA_, mB_, mJ_, hMj⟩⟩ := id HM
    refine ⟨_, rfl, ⟨_, hMm.1⟩, 7, by decide, _, (t_X10_family hMm hO hN hMs hS ri_v ri_b ri_w), fun r2 nx2 l2 hq2 => ?_⟩
    obtain ⟨rfl, rfl, rfl⟩ := hq2
    rw [hlk_nil]
    exact ⟨rfl, n, q, o, st, fc, pr, fa, sp, (sl 6), sg, tx, sm, sl, hn, hs, kd, dm, ln, lw, HC, HM, ⟨hO, hB0, hN, hS, hH, hD, hL, hfc, hsc, hsg, rfl, hsm, hsl, hX⟩, rfl⟩

set_option maxRecDepth 100000 in
set_option maxHeartbeats 4000000 in
theorem pr_families {nx : Nat} {h : Nat → Option PC} {b i : Int} (ri_b : r32 b) (ri_i : r32 i) (hL : LI nx h) : Pz yX9_families yX10_families cX9_families cX10_families 3 5 (some .int) (0, 0) (fun z => zI z) [zI b, zI i] nx h := by
  have hL0 := hL
  obtain ⟨n, q, o, st, fc, pr, fa, sp, sc, sg, tx, sm, sl, hn, hs, kd, dm, ln, lw, hC, hM, hK, rfl⟩ := hL
  obtain ⟨hO, hB0, hN, hS, hH, hD, hL, hfc, hsc, hsg, hsl6, hsm, hsl, hX⟩ := id hK
  subst hsl6
  have hXs : ∀ k, k < fc → sl k ≤ 48 ∧ fltZ (tx k) (sl k) = -6 := fun k hk => ⟨hsl k (by omega), (hX k hk).2.1⟩
  obtain ⟨⟨h0, h1⟩, hQ, hcJ, hcT, hcO, ⟨h42, h43⟩, ⟨h44, hFs⟩, hcW, hcG⟩ := id hC
  obtain ⟨pa, mi, rw_, pt, cl, u_, v_, sl_, ro_, be_, re_, C0, A0, B0, hJ, hre, h14, hCC, h12, h13⟩ := id hcJ
  obtain ⟨ta, g34, g35⟩ := id hcT
  obtain ⟨fo, de, hMo⟩ := id hcO
  obtain ⟨tu, su, h45, h46, h47, htu⟩ := id hcW
  obtain ⟨gn, hG⟩ := id hcG
  refine ⟨6, by decide, _, (t_X9_families hQ hO hMo hS h0 h1 hN ri_b ri_i), fun r nx1 l1 hq => ?_⟩
  obtain ⟨rfl, rfl, hl1⟩ := hq
  rcases hl1 with rfl | ⟨F, D, rfl⟩
  · skip
    rw [hlk_nil]
    have HM := hM
    have HC := hC
    obtain ⟨⟨ma, mb, hMm⟩, hMs, ⟨ri, hT⟩, hMg, ⟨mA_, mB_, mJ_, hMj⟩⟩ := id HM
    refine ⟨_, rfl, ⟨_, hMm.1⟩, 5, by decide, _, (t_X10_families hMm hO hN hMs hS ri_b ri_i), fun r2 nx2 l2 hq2 => ?_⟩
    obtain ⟨rfl, rfl, rfl⟩ := hq2
    rw [hlk_nil]
    exact ⟨rfl, n, q, o, st, fc, pr, fa, sp, (sl 6), sg, tx, sm, sl, hn, hs, kd, dm, ln, lw, HC, HM, ⟨hO, hB0, hN, hS, hH, hD, hL, hfc, hsc, hsg, rfl, hsm, hsl, hX⟩, rfl⟩
  · have HC : LC (hlk [(41, oA 0 40 D), (40, oA 0 40 F)] h) n q o st fc pr fa sp (sl 6) sg tx sl hn hs kd dm ln lw := ⟨cA_fr (hlk_out 0 1 rfl) ⟨h0, h1⟩, isQ_fr (hlk_out 2 10 rfl) hQ, cJ_fr (hlk_out 11 33 rfl) hcJ, cT_fr (hlk_out 34 35 rfl) hcT, ⟨F, D, hMo.1, hMo.2.1, hMo.2.2.1, hMo.2.2.2.1, rfl, rfl⟩, cS_fr (hlk_out 42 43 rfl) ⟨h42, h43⟩, cF_fr (hlk_out 44 44 rfl 44 (by decide) (by decide)) (hlk_up 93 rfl) ⟨h44, hFs⟩, cW_fr (hlk_out 45 47 rfl) hcW, cG_fr (hlk_out 48 63 rfl) hcG⟩
    have HM : LM (hlk [(41, oA 0 40 D), (40, oA 0 40 F)] h) n q o st fc pr fa sp sm sl hn hs kd dm ln lw := LM_fr (hlk_out 64 92 rfl) hM
    obtain ⟨⟨ma, mb, hMm⟩, hMs, ⟨ri, hT⟩, hMg, ⟨mA_, mB_, mJ_, hMj⟩⟩ := id HM
    refine ⟨_, rfl, ⟨_, hMm.1⟩, 5, by decide, _, (t_X10_families hMm hO hN hMs hS ri_b ri_i), fun r2 nx2 l2 hq2 => ?_⟩
    obtain ⟨rfl, rfl, rfl⟩ := hq2
    rw [hlk_nil]
    exact ⟨rfl, n, q, o, st, fc, pr, fa, sp, (sl 6), sg, tx, sm, sl, hn, hs, kd, dm, ln, lw, HC, HM, ⟨hO, hB0, hN, hS, hH, hD, hL, hfc, hsc, hsg, rfl, hsm, hsl, hX⟩, rfl⟩

set_option maxRecDepth 100000 in
set_option maxHeartbeats 4000000 in
theorem pr_tells {nx : Nat} {h : Nat → Option PC} {v d : Int} (ri_v : r32 v) (ri_d : r32 d) (hL : LI nx h) : Pz yX9_tells yX10_tells cX9_tells cX10_tells 4 3 (some .int) (0, 0) (fun z => zI z) [zI v, zI d] nx h := by
  have hL0 := hL
  obtain ⟨n, q, o, st, fc, pr, fa, sp, sc, sg, tx, sm, sl, hn, hs, kd, dm, ln, lw, hC, hM, hK, rfl⟩ := hL
  obtain ⟨hO, hB0, hN, hS, hH, hD, hL, hfc, hsc, hsg, hsl6, hsm, hsl, hX⟩ := id hK
  subst hsl6
  have hXs : ∀ k, k < fc → sl k ≤ 48 ∧ fltZ (tx k) (sl k) = -6 := fun k hk => ⟨hsl k (by omega), (hX k hk).2.1⟩
  obtain ⟨⟨h0, h1⟩, hQ, hcJ, hcT, hcO, ⟨h42, h43⟩, ⟨h44, hFs⟩, hcW, hcG⟩ := id hC
  obtain ⟨pa, mi, rw_, pt, cl, u_, v_, sl_, ro_, be_, re_, C0, A0, B0, hJ, hre, h14, hCC, h12, h13⟩ := id hcJ
  obtain ⟨ta, g34, g35⟩ := id hcT
  obtain ⟨fo, de, hMo⟩ := id hcO
  obtain ⟨tu, su, h45, h46, h47, htu⟩ := id hcW
  obtain ⟨gn, hG⟩ := id hcG
  refine ⟨4, by decide, _, (t_X9_tells hQ hO h0 h44 hfc hFs hXs ri_v ri_d), fun r nx1 l1 hq => ?_⟩
  obtain ⟨rfl, rfl, rfl⟩ := hq
  rw [hlk_nil]
  have HM := hM
  have HC := hC
  obtain ⟨⟨ma, mb, hMm⟩, hMs, ⟨ri, hT⟩, hMg, ⟨mA_, mB_, mJ_, hMj⟩⟩ := id HM
  refine ⟨_, rfl, ⟨_, hMm.1⟩, 3, by decide, _, (t_X10_tells hMm hO hN hT hsl hX hfc ri_v ri_d), fun r2 nx2 l2 hq2 => ?_⟩
  obtain ⟨rfl, rfl, hl2⟩ := hq2
  rcases hl2 with rfl | ⟨R, rfl⟩
  · rw [hlk_nil]
    exact ⟨rfl, n, q, o, st, fc, pr, fa, sp, (sl 6), sg, tx, sm, sl, hn, hs, kd, dm, ln, lw, HC, HM, ⟨hO, hB0, hN, hS, hH, hD, hL, hfc, hsc, hsg, rfl, hsm, hsl, hX⟩, rfl⟩
  · exact ⟨rfl, n, q, o, st, fc, pr, fa, sp, (sl 6), sg, tx, sm, sl, hn, hs, kd, dm, ln, lw, LC_fr (hlk_in rfl) HC, ⟨⟨ma, mb, hMm⟩, hMs, ⟨R, hT.1, hT.2.1, rfl⟩, hMg, ⟨mA_, mB_, mJ_, hMj⟩⟩, ⟨hO, hB0, hN, hS, hH, hD, hL, hfc, hsc, hsg, rfl, hsm, hsl, hX⟩, rfl⟩

set_option maxRecDepth 100000 in
set_option maxHeartbeats 4000000 in
theorem pr_score {nx : Nat} {h : Nat → Option PC} {v m a b : Int} (ri_v : r32 v) (ri_m : r32 m) (ri_a : r32 a) (ri_b : r32 b) (hL : LI nx h) : Pz yX9_score yX10_score cX9_score cX10_score 5 5 (some .long) (0, 0) (fun z => zJ z) [zI v, zI m, zI a, zI b] nx h := by
  have hL0 := hL
  obtain ⟨n, q, o, st, fc, pr, fa, sp, sc, sg, tx, sm, sl, hn, hs, kd, dm, ln, lw, hC, hM, hK, rfl⟩ := hL
  obtain ⟨hO, hB0, hN, hS, hH, hD, hL, hfc, hsc, hsg, hsl6, hsm, hsl, hX⟩ := id hK
  subst hsl6
  have hXs : ∀ k, k < fc → sl k ≤ 48 ∧ fltZ (tx k) (sl k) = -6 := fun k hk => ⟨hsl k (by omega), (hX k hk).2.1⟩
  obtain ⟨⟨h0, h1⟩, hQ, hcJ, hcT, hcO, ⟨h42, h43⟩, ⟨h44, hFs⟩, hcW, hcG⟩ := id hC
  obtain ⟨pa, mi, rw_, pt, cl, u_, v_, sl_, ro_, be_, re_, C0, A0, B0, hJ, hre, h14, hCC, h12, h13⟩ := id hcJ
  obtain ⟨ta, g34, g35⟩ := id hcT
  obtain ⟨fo, de, hMo⟩ := id hcO
  obtain ⟨tu, su, h45, h46, h47, htu⟩ := id hcW
  obtain ⟨gn, hG⟩ := id hcG
  refine ⟨6, by decide, _, (t_X9_score hQ hO h0 h44 hfc hFs hXs h45 h46 h47 htu ri_v ri_m ri_a ri_b), fun r nx1 l1 hq => ?_⟩
  obtain ⟨rfl, rfl, hl1⟩ := hq
  rcases hl1 with rfl | ⟨S, T, hT0, rfl⟩
  · skip
    rw [hlk_nil]
    have HM := hM
    have HC := hC
    obtain ⟨⟨ma, mb, hMm⟩, hMs, ⟨ri, hT⟩, hMg, ⟨mA_, mB_, mJ_, hMj⟩⟩ := id HM
    refine ⟨_, rfl, ⟨_, hMm.1⟩, 4, by decide, _, (t_X10_score hMm hO hN hT hsl hX hfc ri_v ri_m ri_a ri_b), fun r2 nx2 l2 hq2 => ?_⟩
    obtain ⟨rfl, rfl, hl2⟩ := hq2
    rcases hl2 with rfl | ⟨R, rfl⟩
    · rw [hlk_nil]
      exact ⟨rfl, n, q, o, st, fc, pr, fa, sp, (sl 6), sg, tx, sm, sl, hn, hs, kd, dm, ln, lw, HC, HM, ⟨hO, hB0, hN, hS, hH, hD, hL, hfc, hsc, hsg, rfl, hsm, hsl, hX⟩, rfl⟩
    · exact ⟨rfl, n, q, o, st, fc, pr, fa, sp, (sl 6), sg, tx, sm, sl, hn, hs, kd, dm, ln, lw, LC_fr (hlk_in rfl) HC, ⟨⟨ma, mb, hMm⟩, hMs, ⟨R, hT.1, hT.2.1, rfl⟩, hMg, ⟨mA_, mB_, mJ_, hMj⟩⟩, ⟨hO, hB0, hN, hS, hH, hD, hL, hfc, hsc, hsg, rfl, hsm, hsl, hX⟩, rfl⟩
  · have HC : LC (hlk [(47, oL 2 11 S), (46, oA 1 4000 T)] h) n q o st fc pr fa sp (sl 6) sg tx sl hn hs kd dm ln lw := ⟨cA_fr (hlk_out 0 1 rfl) ⟨h0, h1⟩, isQ_fr (hlk_out 2 10 rfl) hQ, cJ_fr (hlk_out 11 33 rfl) hcJ, cT_fr (hlk_out 34 35 rfl) hcT, cO_fr (hlk_out 36 41 rfl) hcO, cS_fr (hlk_out 42 43 rfl) ⟨h42, h43⟩, cF_fr (hlk_out 44 44 rfl 44 (by decide) (by decide)) (hlk_up 93 rfl) ⟨h44, hFs⟩, ⟨T, S, h45, rfl, rfl, hT0⟩, cG_fr (hlk_out 48 63 rfl) hcG⟩
    have HM : LM (hlk [(47, oL 2 11 S), (46, oA 1 4000 T)] h) n q o st fc pr fa sp sm sl hn hs kd dm ln lw := LM_fr (hlk_out 64 92 rfl) hM
    obtain ⟨⟨ma, mb, hMm⟩, hMs, ⟨ri, hT⟩, hMg, ⟨mA_, mB_, mJ_, hMj⟩⟩ := id HM
    refine ⟨_, rfl, ⟨_, hMm.1⟩, 4, by decide, _, (t_X10_score hMm hO hN hT hsl hX hfc ri_v ri_m ri_a ri_b), fun r2 nx2 l2 hq2 => ?_⟩
    obtain ⟨rfl, rfl, hl2⟩ := hq2
    rcases hl2 with rfl | ⟨R, rfl⟩
    · rw [hlk_nil]
      exact ⟨rfl, n, q, o, st, fc, pr, fa, sp, (sl 6), sg, tx, sm, sl, hn, hs, kd, dm, ln, lw, HC, HM, ⟨hO, hB0, hN, hS, hH, hD, hL, hfc, hsc, hsg, rfl, hsm, hsl, hX⟩, rfl⟩
    · exact ⟨rfl, n, q, o, st, fc, pr, fa, sp, (sl 6), sg, tx, sm, sl, hn, hs, kd, dm, ln, lw, LC_fr (hlk_in rfl) HC, ⟨⟨ma, mb, hMm⟩, hMs, ⟨R, hT.1, hT.2.1, rfl⟩, hMg, ⟨mA_, mB_, mJ_, hMj⟩⟩, ⟨hO, hB0, hN, hS, hH, hD, hL, hfc, hsc, hsg, rfl, hsm, hsl, hX⟩, rfl⟩

set_option maxRecDepth 100000 in
set_option maxHeartbeats 4000000 in
theorem pr_mixed {nx : Nat} {h : Nat → Option PC} {v u w m a b : Int} (ri_v : r32 v) (ri_u : r32 u) (ri_w : r32 w) (ri_m : r32 m) (ri_a : r32 a) (ri_b : r32 b) (hL : LI nx h) : Pz yX9_mixed yX10_mixed cX9_mixed cX10_mixed 7 7 (some .long) (0, 0) (fun z => zJ z) [zI v, zI u, zI w, zI m, zI a, zI b] nx h := by
  have hL0 := hL
  obtain ⟨n, q, o, st, fc, pr, fa, sp, sc, sg, tx, sm, sl, hn, hs, kd, dm, ln, lw, hC, hM, hK, rfl⟩ := hL
  obtain ⟨hO, hB0, hN, hS, hH, hD, hL, hfc, hsc, hsg, hsl6, hsm, hsl, hX⟩ := id hK
  subst hsl6
  have hXs : ∀ k, k < fc → sl k ≤ 48 ∧ fltZ (tx k) (sl k) = -6 := fun k hk => ⟨hsl k (by omega), (hX k hk).2.1⟩
  obtain ⟨⟨h0, h1⟩, hQ, hcJ, hcT, hcO, ⟨h42, h43⟩, ⟨h44, hFs⟩, hcW, hcG⟩ := id hC
  obtain ⟨pa, mi, rw_, pt, cl, u_, v_, sl_, ro_, be_, re_, C0, A0, B0, hJ, hre, h14, hCC, h12, h13⟩ := id hcJ
  obtain ⟨ta, g34, g35⟩ := id hcT
  obtain ⟨fo, de, hMo⟩ := id hcO
  obtain ⟨tu, su, h45, h46, h47, htu⟩ := id hcW
  obtain ⟨gn, hG⟩ := id hcG
  refine ⟨6, by decide, _, (t_X9_mixed hQ hO h0 h44 hfc hFs hXs h45 h46 h47 htu ri_v ri_u ri_w ri_m ri_a ri_b), fun r nx1 l1 hq => ?_⟩
  obtain ⟨rfl, rfl, hl1⟩ := hq
  rcases hl1 with rfl | ⟨S, T, hT0, rfl⟩
  · skip
    rw [hlk_nil]
    have HM := hM
    have HC := hC
    obtain ⟨⟨ma, mb, hMm⟩, hMs, ⟨ri, hT⟩, hMg, ⟨mA_, mB_, mJ_, hMj⟩⟩ := id HM
    refine ⟨_, rfl, ⟨_, hMm.1⟩, 4, by decide, _, (t_X10_mixed hMm hO hN hT hsl hX hfc ri_v ri_u ri_w ri_m ri_a ri_b), fun r2 nx2 l2 hq2 => ?_⟩
    obtain ⟨rfl, rfl, hl2⟩ := hq2
    rcases hl2 with rfl | ⟨R, rfl⟩
    · rw [hlk_nil]
      exact ⟨rfl, n, q, o, st, fc, pr, fa, sp, (sl 6), sg, tx, sm, sl, hn, hs, kd, dm, ln, lw, HC, HM, ⟨hO, hB0, hN, hS, hH, hD, hL, hfc, hsc, hsg, rfl, hsm, hsl, hX⟩, rfl⟩
    · exact ⟨rfl, n, q, o, st, fc, pr, fa, sp, (sl 6), sg, tx, sm, sl, hn, hs, kd, dm, ln, lw, LC_fr (hlk_in rfl) HC, ⟨⟨ma, mb, hMm⟩, hMs, ⟨R, hT.1, hT.2.1, rfl⟩, hMg, ⟨mA_, mB_, mJ_, hMj⟩⟩, ⟨hO, hB0, hN, hS, hH, hD, hL, hfc, hsc, hsg, rfl, hsm, hsl, hX⟩, rfl⟩
  · have HC : LC (hlk [(47, oL 2 11 S), (46, oA 1 4000 T)] h) n q o st fc pr fa sp (sl 6) sg tx sl hn hs kd dm ln lw := ⟨cA_fr (hlk_out 0 1 rfl) ⟨h0, h1⟩, isQ_fr (hlk_out 2 10 rfl) hQ, cJ_fr (hlk_out 11 33 rfl) hcJ, cT_fr (hlk_out 34 35 rfl) hcT, cO_fr (hlk_out 36 41 rfl) hcO, cS_fr (hlk_out 42 43 rfl) ⟨h42, h43⟩, cF_fr (hlk_out 44 44 rfl 44 (by decide) (by decide)) (hlk_up 93 rfl) ⟨h44, hFs⟩, ⟨T, S, h45, rfl, rfl, hT0⟩, cG_fr (hlk_out 48 63 rfl) hcG⟩
    have HM : LM (hlk [(47, oL 2 11 S), (46, oA 1 4000 T)] h) n q o st fc pr fa sp sm sl hn hs kd dm ln lw := LM_fr (hlk_out 64 92 rfl) hM
    obtain ⟨⟨ma, mb, hMm⟩, hMs, ⟨ri, hT⟩, hMg, ⟨mA_, mB_, mJ_, hMj⟩⟩ := id HM
    refine ⟨_, rfl, ⟨_, hMm.1⟩, 4, by decide, _, (t_X10_mixed hMm hO hN hT hsl hX hfc ri_v ri_u ri_w ri_m ri_a ri_b), fun r2 nx2 l2 hq2 => ?_⟩
    obtain ⟨rfl, rfl, hl2⟩ := hq2
    rcases hl2 with rfl | ⟨R, rfl⟩
    · rw [hlk_nil]
      exact ⟨rfl, n, q, o, st, fc, pr, fa, sp, (sl 6), sg, tx, sm, sl, hn, hs, kd, dm, ln, lw, HC, HM, ⟨hO, hB0, hN, hS, hH, hD, hL, hfc, hsc, hsg, rfl, hsm, hsl, hX⟩, rfl⟩
    · exact ⟨rfl, n, q, o, st, fc, pr, fa, sp, (sl 6), sg, tx, sm, sl, hn, hs, kd, dm, ln, lw, LC_fr (hlk_in rfl) HC, ⟨⟨ma, mb, hMm⟩, hMs, ⟨R, hT.1, hT.2.1, rfl⟩, hMg, ⟨mA_, mB_, mJ_, hMj⟩⟩, ⟨hO, hB0, hN, hS, hH, hD, hL, hfc, hsc, hsg, rfl, hsm, hsl, hX⟩, rfl⟩

set_option maxRecDepth 100000 in
set_option maxHeartbeats 4000000 in
theorem pr_best {nx : Nat} {h : Nat → Option PC} {v u m a b : Int} (ri_v : r32 v) (ri_u : r32 u) (ri_m : r32 m) (ri_a : r32 a) (ri_b : r32 b) (hL : LI nx h) : Pz yX9_best yX10_best cX9_best cX10_best 8 12 (some .int) (0, 0) (fun z => zI z) [zI v, zI u, zI m, zI a, zI b] nx h := by
  have hL0 := hL
  obtain ⟨n, q, o, st, fc, pr, fa, sp, sc, sg, tx, sm, sl, hn, hs, kd, dm, ln, lw, hC, hM, hK, rfl⟩ := hL
  obtain ⟨hO, hB0, hN, hS, hH, hD, hL, hfc, hsc, hsg, hsl6, hsm, hsl, hX⟩ := id hK
  subst hsl6
  have hXs : ∀ k, k < fc → sl k ≤ 48 ∧ fltZ (tx k) (sl k) = -6 := fun k hk => ⟨hsl k (by omega), (hX k hk).2.1⟩
  obtain ⟨⟨h0, h1⟩, hQ, hcJ, hcT, hcO, ⟨h42, h43⟩, ⟨h44, hFs⟩, hcW, hcG⟩ := id hC
  obtain ⟨pa, mi, rw_, pt, cl, u_, v_, sl_, ro_, be_, re_, C0, A0, B0, hJ, hre, h14, hCC, h12, h13⟩ := id hcJ
  obtain ⟨ta, g34, g35⟩ := id hcT
  obtain ⟨fo, de, hMo⟩ := id hcO
  obtain ⟨tu, su, h45, h46, h47, htu⟩ := id hcW
  obtain ⟨gn, hG⟩ := id hcG
  refine ⟨6, by decide, _, (t_X9_best hQ hO h0 h44 hfc hFs hXs h45 h46 h47 htu ri_v ri_u ri_m ri_a ri_b), fun r nx1 l1 hq => ?_⟩
  obtain ⟨rfl, rfl, hl1⟩ := hq
  rcases hl1 with rfl | ⟨S, T, hT0, rfl⟩
  · skip
    rw [hlk_nil]
    have HM := hM
    have HC := hC
    obtain ⟨⟨ma, mb, hMm⟩, hMs, ⟨ri, hT⟩, hMg, ⟨mA_, mB_, mJ_, hMj⟩⟩ := id HM
    refine ⟨_, rfl, ⟨_, hMm.1⟩, 4, by decide, _, (t_X10_best hMm hO hN hT hsl hX hfc ri_v ri_u ri_m ri_a ri_b), fun r2 nx2 l2 hq2 => ?_⟩
    obtain ⟨rfl, rfl, hl2⟩ := hq2
    rcases hl2 with rfl | ⟨R, rfl⟩
    · rw [hlk_nil]
      exact ⟨rfl, n, q, o, st, fc, pr, fa, sp, (sl 6), sg, tx, sm, sl, hn, hs, kd, dm, ln, lw, HC, HM, ⟨hO, hB0, hN, hS, hH, hD, hL, hfc, hsc, hsg, rfl, hsm, hsl, hX⟩, rfl⟩
    · exact ⟨rfl, n, q, o, st, fc, pr, fa, sp, (sl 6), sg, tx, sm, sl, hn, hs, kd, dm, ln, lw, LC_fr (hlk_in rfl) HC, ⟨⟨ma, mb, hMm⟩, hMs, ⟨R, hT.1, hT.2.1, rfl⟩, hMg, ⟨mA_, mB_, mJ_, hMj⟩⟩, ⟨hO, hB0, hN, hS, hH, hD, hL, hfc, hsc, hsg, rfl, hsm, hsl, hX⟩, rfl⟩
  · have HC : LC (hlk [(47, oL 2 11 S), (46, oA 1 4000 T)] h) n q o st fc pr fa sp (sl 6) sg tx sl hn hs kd dm ln lw := ⟨cA_fr (hlk_out 0 1 rfl) ⟨h0, h1⟩, isQ_fr (hlk_out 2 10 rfl) hQ, cJ_fr (hlk_out 11 33 rfl) hcJ, cT_fr (hlk_out 34 35 rfl) hcT, cO_fr (hlk_out 36 41 rfl) hcO, cS_fr (hlk_out 42 43 rfl) ⟨h42, h43⟩, cF_fr (hlk_out 44 44 rfl 44 (by decide) (by decide)) (hlk_up 93 rfl) ⟨h44, hFs⟩, ⟨T, S, h45, rfl, rfl, hT0⟩, cG_fr (hlk_out 48 63 rfl) hcG⟩
    have HM : LM (hlk [(47, oL 2 11 S), (46, oA 1 4000 T)] h) n q o st fc pr fa sp sm sl hn hs kd dm ln lw := LM_fr (hlk_out 64 92 rfl) hM
    obtain ⟨⟨ma, mb, hMm⟩, hMs, ⟨ri, hT⟩, hMg, ⟨mA_, mB_, mJ_, hMj⟩⟩ := id HM
    refine ⟨_, rfl, ⟨_, hMm.1⟩, 4, by decide, _, (t_X10_best hMm hO hN hT hsl hX hfc ri_v ri_u ri_m ri_a ri_b), fun r2 nx2 l2 hq2 => ?_⟩
    obtain ⟨rfl, rfl, hl2⟩ := hq2
    rcases hl2 with rfl | ⟨R, rfl⟩
    · rw [hlk_nil]
      exact ⟨rfl, n, q, o, st, fc, pr, fa, sp, (sl 6), sg, tx, sm, sl, hn, hs, kd, dm, ln, lw, HC, HM, ⟨hO, hB0, hN, hS, hH, hD, hL, hfc, hsc, hsg, rfl, hsm, hsl, hX⟩, rfl⟩
    · exact ⟨rfl, n, q, o, st, fc, pr, fa, sp, (sl 6), sg, tx, sm, sl, hn, hs, kd, dm, ln, lw, LC_fr (hlk_in rfl) HC, ⟨⟨ma, mb, hMm⟩, hMs, ⟨R, hT.1, hT.2.1, rfl⟩, hMg, ⟨mA_, mB_, mJ_, hMj⟩⟩, ⟨hO, hB0, hN, hS, hH, hD, hL, hfc, hsc, hsg, rfl, hsm, hsl, hX⟩, rfl⟩

set_option maxRecDepth 100000 in
set_option maxHeartbeats 4000000 in
theorem pr_strengthen {nx : Nat} {h : Nat → Option PC} {v : Int} (ri_v : r32 v) (hL : LI nx h) : Pz yX9_strengthen yX10_strengthen cX9_strengthen cX10_strengthen 2 6 (some .int) (0, 0) (fun z => zI z) [zI v] nx h := by
  have hL0 := hL
  obtain ⟨n, q, o, st, fc, pr, fa, sp, sc, sg, tx, sm, sl, hn, hs, kd, dm, ln, lw, hC, hM, hK, rfl⟩ := hL
  obtain ⟨hO, hB0, hN, hS, hH, hD, hL, hfc, hsc, hsg, hsl6, hsm, hsl, hX⟩ := id hK
  subst hsl6
  have hXs : ∀ k, k < fc → sl k ≤ 48 ∧ fltZ (tx k) (sl k) = -6 := fun k hk => ⟨hsl k (by omega), (hX k hk).2.1⟩
  obtain ⟨⟨h0, h1⟩, hQ, hcJ, hcT, hcO, ⟨h42, h43⟩, ⟨h44, hFs⟩, hcW, hcG⟩ := id hC
  obtain ⟨pa, mi, rw_, pt, cl, u_, v_, sl_, ro_, be_, re_, C0, A0, B0, hJ, hre, h14, hCC, h12, h13⟩ := id hcJ
  obtain ⟨ta, g34, g35⟩ := id hcT
  obtain ⟨fo, de, hMo⟩ := id hcO
  obtain ⟨tu, su, h45, h46, h47, htu⟩ := id hcW
  obtain ⟨gn, hG⟩ := id hcG
  refine ⟨5, by decide, _, (t_X9_strengthen hQ hO hG hH hD hL h0 h1 hN ri_v), fun r nx1 l1 hq => ?_⟩
  obtain ⟨rfl, rfl, hl1⟩ := hq
  rcases hl1 with rfl | ⟨R, rfl⟩
  · skip
    rw [hlk_nil]
    have HM := hM
    have HC := hC
    obtain ⟨⟨ma, mb, hMm⟩, hMs, ⟨ri, hT⟩, hMg, ⟨mA_, mB_, mJ_, hMj⟩⟩ := id HM
    refine ⟨_, rfl, ⟨_, hMm.1⟩, 5, by decide, _, (t_X10_strengthen hMm hO hN hMg hH hD hL ri_v), fun r2 nx2 l2 hq2 => ?_⟩
    obtain ⟨rfl, rfl, rfl⟩ := hq2
    rw [hlk_nil]
    exact ⟨rfl, n, q, o, st, fc, pr, fa, sp, (sl 6), sg, tx, sm, sl, hn, hs, kd, dm, ln, lw, HC, HM, ⟨hO, hB0, hN, hS, hH, hD, hL, hfc, hsc, hsg, rfl, hsm, hsl, hX⟩, rfl⟩
  · have HC : LC (hlk [(63, oL 2 501 R)] h) n q o st fc pr fa sp (sl 6) sg tx sl hn hs kd dm ln lw := ⟨cA_fr (hlk_out 0 1 rfl) ⟨h0, h1⟩, isQ_fr (hlk_out 2 10 rfl) hQ, cJ_fr (hlk_out 11 33 rfl) hcJ, cT_fr (hlk_out 34 35 rfl) hcT, cO_fr (hlk_out 36 41 rfl) hcO, cS_fr (hlk_out 42 43 rfl) ⟨h42, h43⟩, cF_fr (hlk_out 44 44 rfl 44 (by decide) (by decide)) (hlk_up 93 rfl) ⟨h44, hFs⟩, cW_fr (hlk_out 45 47 rfl) hcW, ⟨R, hG.1, hG.2.1, hG.2.2.1, hG.2.2.2.1, hG.2.2.2.2.1, hG.2.2.2.2.2.1, hG.2.2.2.2.2.2.1, hG.2.2.2.2.2.2.2.1, hG.2.2.2.2.2.2.2.2.1, hG.2.2.2.2.2.2.2.2.2.1, hG.2.2.2.2.2.2.2.2.2.2.1, hG.2.2.2.2.2.2.2.2.2.2.2.1, hG.2.2.2.2.2.2.2.2.2.2.2.2.1, hG.2.2.2.2.2.2.2.2.2.2.2.2.2.1, hG.2.2.2.2.2.2.2.2.2.2.2.2.2.2.1, rfl⟩⟩
    have HM : LM (hlk [(63, oL 2 501 R)] h) n q o st fc pr fa sp sm sl hn hs kd dm ln lw := LM_fr (hlk_out 64 92 rfl) hM
    obtain ⟨⟨ma, mb, hMm⟩, hMs, ⟨ri, hT⟩, hMg, ⟨mA_, mB_, mJ_, hMj⟩⟩ := id HM
    refine ⟨_, rfl, ⟨_, hMm.1⟩, 5, by decide, _, (t_X10_strengthen hMm hO hN hMg hH hD hL ri_v), fun r2 nx2 l2 hq2 => ?_⟩
    obtain ⟨rfl, rfl, rfl⟩ := hq2
    rw [hlk_nil]
    exact ⟨rfl, n, q, o, st, fc, pr, fa, sp, (sl 6), sg, tx, sm, sl, hn, hs, kd, dm, ln, lw, HC, HM, ⟨hO, hB0, hN, hS, hH, hD, hL, hfc, hsc, hsg, rfl, hsm, hsl, hX⟩, rfl⟩

set_option maxRecDepth 100000 in
set_option maxHeartbeats 4000000 in
theorem pr_join {nx : Nat} {h : Nat → Option PC} {a b x : Int} (ri_a : r32 a) (ri_b : r32 b) (ri_x : r32 x) (hL : LI nx h) : Pz yX9_join yX10_join cX9_join cX10_join 5 11 (some .int) (0, 0) (fun z => zI z) [zI a, zI b, zI x] nx h := by
  have hL0 := hL
  obtain ⟨n, q, o, st, fc, pr, fa, sp, sc, sg, tx, sm, sl, hn, hs, kd, dm, ln, lw, hC, hM, hK, rfl⟩ := hL
  obtain ⟨hO, hB0, hN, hS, hH, hD, hL, hfc, hsc, hsg, hsl6, hsm, hsl, hX⟩ := id hK
  subst hsl6
  have hXs : ∀ k, k < fc → sl k ≤ 48 ∧ fltZ (tx k) (sl k) = -6 := fun k hk => ⟨hsl k (by omega), (hX k hk).2.1⟩
  obtain ⟨⟨h0, h1⟩, hQ, hcJ, hcT, hcO, ⟨h42, h43⟩, ⟨h44, hFs⟩, hcW, hcG⟩ := id hC
  obtain ⟨pa, mi, rw_, pt, cl, u_, v_, sl_, ro_, be_, re_, C0, A0, B0, hJ, hre, h14, hCC, h12, h13⟩ := id hcJ
  obtain ⟨ta, g34, g35⟩ := id hcT
  obtain ⟨fo, de, hMo⟩ := id hcO
  obtain ⟨tu, su, h45, h46, h47, htu⟩ := id hcW
  obtain ⟨gn, hG⟩ := id hcG
  refine ⟨6, by decide, _, (t_X9_join hQ hO hJ hre h14 hCC h12 h13 hN ri_a ri_b h0 h1 ri_x), fun r nx1 l1 hq => ?_⟩
  obtain ⟨rfl, rfl, hl1⟩ := hq
  rcases hl1 with rfl | ⟨A, B, C, m, U, V, M, S, Bf, E, hE, rfl⟩
  · skip
    rw [hlk_nil]
    have HM := hM
    have HC := hC
    obtain ⟨⟨ma, mb, hMm⟩, hMs, ⟨ri, hT⟩, hMg, ⟨mA_, mB_, mJ_, hMj⟩⟩ := id HM
    refine ⟨_, rfl, ⟨_, hMm.1⟩, 5, by decide, _, (t_X10_join hMm hO hN hMj ri_a ri_b ri_x), fun r2 nx2 l2 hq2 => ?_⟩
    obtain ⟨rfl, rfl, hl2⟩ := hq2
    rcases hl2 with rfl | ⟨A2, B2, rfl | ⟨J2, rfl⟩⟩
    · rw [hlk_nil]
      exact ⟨rfl, n, q, o, st, fc, pr, fa, sp, (sl 6), sg, tx, sm, sl, hn, hs, kd, dm, ln, lw, HC, HM, ⟨hO, hB0, hN, hS, hH, hD, hL, hfc, hsc, hsg, rfl, hsm, hsl, hX⟩, rfl⟩
    · exact ⟨rfl, n, q, o, st, fc, pr, fa, sp, (sl 6), sg, tx, sm, sl, hn, hs, kd, dm, ln, lw, LC_fr (hlk_in rfl) HC, ⟨⟨_, _, rfl, hMm.2⟩, hMs, ⟨ri, hT⟩, hMg, ⟨A2, B2, mJ_, rfl, rfl, hMj.2.2⟩⟩, ⟨hO, hB0, hN, hS, hH, hD, hL, hfc, hsc, hsg, rfl, hsm, hsl, hX⟩, rfl⟩
    · exact ⟨rfl, n, q, o, st, fc, pr, fa, sp, (sl 6), sg, tx, sm, sl, hn, hs, kd, dm, ln, lw, LC_fr (hlk_in rfl) HC, ⟨⟨_, _, rfl, hMm.2⟩, hMs, ⟨ri, hT⟩, hMg, ⟨A2, B2, J2, rfl, rfl, rfl⟩⟩, ⟨hO, hB0, hN, hS, hH, hD, hL, hfc, hsc, hsg, rfl, hsm, hsl, hX⟩, rfl⟩
  · have HC : LC (hlk [(33, oA 1 25 E), (32, oA 0 25 Bf), (30, oL 2 25 S), (28, oL 2 13 U), (29, oL 2 25 V), (31, oA 0 25 M), (15, oL 2 25 (C 0)), (16, oL 2 25 (C 1)), (17, oL 2 25 (C 2)), (18, oL 2 25 (C 3)), (19, oL 2 25 (C 4)), (20, oL 2 25 (C 5)), (21, oL 2 25 (C 6)), (22, oL 2 25 (C 7)), (23, oL 2 25 (C 8)), (24, oL 2 25 (C 9)), (25, oL 2 25 (C 10)), (26, oL 2 25 (C 11)), (27, oL 2 25 (C 12)), (13, oA 0 12 B), (11, oO 3 [zI (cntZ (fun c => m (c + 1) ≠ 0) (cN q b n)), zI (sumZ (fun c => ifZ (m (c + 1) ≠ 0) (mQ q ((nthL q a n) (m (c + 1) - 1)) ((nthL q b n) c)) 0) (cN q b n)), zI ((cN q a n : Nat) : Int), zI ((cN q b n : Nat) : Int), zI ((cN q b n + cN q a n : Nat) : Int), zR 12, zR 13, zR 14, zR 28, zR 29, zR 30, zR 31, zR 32, zR 33]), (12, oA 0 12 A)] h) n q o st fc pr fa sp (sl 6) sg tx sl hn hs kd dm ln lw := ⟨cA_fr (hlk_out 0 1 rfl) ⟨h0, h1⟩, isQ_fr (hlk_out 2 10 rfl) hQ, ⟨_, _, _, _, _, U, V, S, M, Bf, E, C, A, B, ⟨rfl, rfl, rfl, rfl, rfl, rfl, rfl⟩, hE, h14, (fun i hi => by rcases (show i = 0 ∨ i = 1 ∨ i = 2 ∨ i = 3 ∨ i = 4 ∨ i = 5 ∨ i = 6 ∨ i = 7 ∨ i = 8 ∨ i = 9 ∨ i = 10 ∨ i = 11 ∨ i = 12 by omega) with rfl | rfl | rfl | rfl | rfl | rfl | rfl | rfl | rfl | rfl | rfl | rfl | rfl <;> rfl), rfl, rfl⟩, cT_fr (hlk_out 34 35 rfl) hcT, cO_fr (hlk_out 36 41 rfl) hcO, cS_fr (hlk_out 42 43 rfl) ⟨h42, h43⟩, cF_fr (hlk_out 44 44 rfl 44 (by decide) (by decide)) (hlk_up 93 rfl) ⟨h44, hFs⟩, cW_fr (hlk_out 45 47 rfl) hcW, cG_fr (hlk_out 48 63 rfl) hcG⟩
    have HM : LM (hlk [(33, oA 1 25 E), (32, oA 0 25 Bf), (30, oL 2 25 S), (28, oL 2 13 U), (29, oL 2 25 V), (31, oA 0 25 M), (15, oL 2 25 (C 0)), (16, oL 2 25 (C 1)), (17, oL 2 25 (C 2)), (18, oL 2 25 (C 3)), (19, oL 2 25 (C 4)), (20, oL 2 25 (C 5)), (21, oL 2 25 (C 6)), (22, oL 2 25 (C 7)), (23, oL 2 25 (C 8)), (24, oL 2 25 (C 9)), (25, oL 2 25 (C 10)), (26, oL 2 25 (C 11)), (27, oL 2 25 (C 12)), (13, oA 0 12 B), (11, oO 3 [zI (cntZ (fun c => m (c + 1) ≠ 0) (cN q b n)), zI (sumZ (fun c => ifZ (m (c + 1) ≠ 0) (mQ q ((nthL q a n) (m (c + 1) - 1)) ((nthL q b n) c)) 0) (cN q b n)), zI ((cN q a n : Nat) : Int), zI ((cN q b n : Nat) : Int), zI ((cN q b n + cN q a n : Nat) : Int), zR 12, zR 13, zR 14, zR 28, zR 29, zR 30, zR 31, zR 32, zR 33]), (12, oA 0 12 A)] h) n q o st fc pr fa sp sm sl hn hs kd dm ln lw := LM_fr (hlk_out 64 92 rfl) hM
    obtain ⟨⟨ma, mb, hMm⟩, hMs, ⟨ri, hT⟩, hMg, ⟨mA_, mB_, mJ_, hMj⟩⟩ := id HM
    refine ⟨_, rfl, ⟨_, hMm.1⟩, 5, by decide, _, (t_X10_join hMm hO hN hMj ri_a ri_b ri_x), fun r2 nx2 l2 hq2 => ?_⟩
    obtain ⟨rfl, rfl, hl2⟩ := hq2
    rcases hl2 with rfl | ⟨A2, B2, rfl | ⟨J2, rfl⟩⟩
    · rw [hlk_nil]
      exact ⟨rfl, n, q, o, st, fc, pr, fa, sp, (sl 6), sg, tx, sm, sl, hn, hs, kd, dm, ln, lw, HC, HM, ⟨hO, hB0, hN, hS, hH, hD, hL, hfc, hsc, hsg, rfl, hsm, hsl, hX⟩, rfl⟩
    · exact ⟨rfl, n, q, o, st, fc, pr, fa, sp, (sl 6), sg, tx, sm, sl, hn, hs, kd, dm, ln, lw, LC_fr (hlk_in rfl) HC, ⟨⟨_, _, rfl, hMm.2⟩, hMs, ⟨ri, hT⟩, hMg, ⟨A2, B2, mJ_, rfl, rfl, hMj.2.2⟩⟩, ⟨hO, hB0, hN, hS, hH, hD, hL, hfc, hsc, hsg, rfl, hsm, hsl, hX⟩, rfl⟩
    · exact ⟨rfl, n, q, o, st, fc, pr, fa, sp, (sl 6), sg, tx, sm, sl, hn, hs, kd, dm, ln, lw, LC_fr (hlk_in rfl) HC, ⟨⟨_, _, rfl, hMm.2⟩, hMs, ⟨ri, hT⟩, hMg, ⟨A2, B2, J2, rfl, rfl, rfl⟩⟩, ⟨hO, hB0, hN, hS, hH, hD, hL, hfc, hsc, hsg, rfl, hsm, hsl, hX⟩, rfl⟩


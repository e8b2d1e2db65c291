set_option maxRecDepth 100000 in
set_option maxHeartbeats 4000000 in
theorem pr_forecast {nx : Nat} {h : Nat → Option PC}   (hL : LI nx h) : Pz yX9_forecast yX10_forecast cX9_forecast cX10_forecast 1 2 (some .int) (5, 26) (fun z => zI z) [] nx h := by
  have hL0 := hL
  obtain ⟨n, q, o, st, fc, pr, fa, sp, sc, sg, tx, sm, sl, hn, hs, kd, dm, ln, lw, hC, hM, hK, rfl⟩ := hL
  obtain ⟨hO, hB0, hN, hS, hH, hD, hL, hfc, hsc, hsg, hsl6, hsm, hsl, hX⟩ := id hK
  subst hsl6
  have hXs : ∀ k, k < fc → sl k ≤ 48 ∧ fltZ (tx k) (sl k) = -6 := fun k hk => ⟨hsl k (by omega), (hX k hk).2.1⟩
  obtain ⟨⟨h0, h1⟩, hQ, hcJ, hcT, hcO, ⟨h42, h43⟩, ⟨h44, hFs⟩, hcW, hcG⟩ := id hC
  obtain ⟨pa, mi, rw_, pt, cl, u_, v_, sl_, ro_, be_, re_, C0, A0, B0, hJ, hre, h14, hCC, h12, h13⟩ := id hcJ
  obtain ⟨ta, g34, g35⟩ := id hcT
  obtain ⟨fo, de, hMo⟩ := id hcO
  obtain ⟨tu, su, h45, h46, h47, htu⟩ := id hcW
  obtain ⟨gn, hG⟩ := id hcG
  rcases (show fc = 0 ∨ fc = 1 ∨ fc = 2 ∨ fc = 3 ∨ fc = 4 ∨ fc = 5 ∨ fc = 6 by omega) with rfl | rfl | rfl | rfl | rfl | rfl | rfl
  · refine ⟨3, by decide, _, (t_X9_forecast_0 h42 h43 hsc hsg h0 h44), fun r nx1 l1 hq => ?_⟩
    rcases hq with ⟨c1, rfl, rfl, rfl⟩ | ⟨c1, rfl, rfl, rfl⟩
    · rw [hlk_nil]
      have HM := hM
      have HC := hC
      obtain ⟨⟨ma, mb, hMm⟩, hMs, ⟨ri, hT⟩, hMg, ⟨mA_, mB_, mJ_, hMj⟩⟩ := id HM
      refine ⟨_, rfl, ⟨_, hMm.1⟩, 3, by decide, _, (t_X10_forecast hMm hO hN hT hsl hsm hsg hfc), fun r2 nx2 l2 hq2 => ?_⟩
      obtain ⟨rfl, hq2⟩ := hq2
      rcases hq2 with ⟨e1, rfl, rfl⟩ | ⟨e1, e2, rfl, rfl⟩ | ⟨e1, e2, rfl, rfl⟩
      · exfalso; omega
      · rw [hlk_nil]
        exact ⟨rfl, n, q, o, st, 0, pr, fa, sp, (sl 6), sg, tx, sm, sl, hn, hs, kd, dm, ln, lw, HC, HM, ⟨hO, hB0, hN, hS, hH, hD, hL, hfc, hsc, hsg, rfl, hsm, hsl, hX⟩, rfl⟩
      · exfalso; omega
    · have HF : cF (hlk [(94, oA 0 5 (rA sg (sl 6) 0)), (95, oA 0 5 (rA sg (sl 6) 1)), (96, oA 0 5 (rA sg (sl 6) 2)), (97, oA 0 5 (rA sg (sl 6) 3)), (93, oO 1 [zI ((tE sg (sl 6) / 4 : Nat) : Int), zI (rV sg (sl 6)), zR 94, zR 95, zR 96, zR 97]), (44, oP 5 6 (fup (fcR 0) 0 (some 93))), (42, oO 7 [zI 0, zR 43]), (0, oO 8 [zR 1, zR 2, zR 11, zR 34, zR 36, zR 42, zR 44, zI (((0 : Nat) : Int) + 1), zR 45, zR 48])] h) (0 + 1) (fup tx 0 sg) (fup (fup sl 0 (sl 6)) 6 0) := ⟨congrArg (fun z => some (oP 5 6 z)) (fcR_up 0), fun k hk => by
        by_cases ek : k = 0
        · subst ek; exact ⟨rfl, rfl, rfl, rfl, rfl⟩
        · exact isFt_sl (isFt_fr (fun j a_ b_ => hlk_out 93 92 rfl j (by omega) (by omega)) (hFs k (by omega))) (fup_ne _ _ ek) ((fup_ne _ _ (by omega)).trans (fup_ne _ _ ek))⟩
      have HC : LC (hlk [(94, oA 0 5 (rA sg (sl 6) 0)), (95, oA 0 5 (rA sg (sl 6) 1)), (96, oA 0 5 (rA sg (sl 6) 2)), (97, oA 0 5 (rA sg (sl 6) 3)), (93, oO 1 [zI ((tE sg (sl 6) / 4 : Nat) : Int), zI (rV sg (sl 6)), zR 94, zR 95, zR 96, zR 97]), (44, oP 5 6 (fup (fcR 0) 0 (some 93))), (42, oO 7 [zI 0, zR 43]), (0, oO 8 [zR 1, zR 2, zR 11, zR 34, zR 36, zR 42, zR 44, zI (((0 : Nat) : Int) + 1), zR 45, zR 48])] h) n q o st (0 + 1) pr fa sp 0 sg (fup tx 0 sg) (fup (fup sl 0 (sl 6)) 6 0) hn hs kd dm ln lw := ⟨⟨rfl, h1⟩, isQ_fr (hlk_out 2 10 rfl) hQ, cJ_fr (hlk_out 11 33 rfl) hcJ, cT_fr (hlk_out 34 35 rfl) hcT, cO_fr (hlk_out 36 41 rfl) hcO, ⟨rfl, h43⟩, HF, cW_fr (hlk_out 45 47 rfl) hcW, cG_fr (hlk_out 48 63 rfl) hcG⟩
      have HM : LM (hlk [(94, oA 0 5 (rA sg (sl 6) 0)), (95, oA 0 5 (rA sg (sl 6) 1)), (96, oA 0 5 (rA sg (sl 6) 2)), (97, oA 0 5 (rA sg (sl 6) 3)), (93, oO 1 [zI ((tE sg (sl 6) / 4 : Nat) : Int), zI (rV sg (sl 6)), zR 94, zR 95, zR 96, zR 97]), (44, oP 5 6 (fup (fcR 0) 0 (some 93))), (42, oO 7 [zI 0, zR 43]), (0, oO 8 [zR 1, zR 2, zR 11, zR 34, zR 36, zR 42, zR 44, zI (((0 : Nat) : Int) + 1), zR 45, zR 48])] h) n q o st 0 pr fa sp sm sl hn hs kd dm ln lw := LM_fr (hlk_out 64 92 rfl) hM
      obtain ⟨⟨ma, mb, hMm⟩, hMs, ⟨ri, hT⟩, hMg, ⟨mA_, mB_, mJ_, hMj⟩⟩ := id HM
      refine ⟨_, rfl, ⟨_, hMm.1⟩, 3, by decide, _, (t_X10_forecast hMm hO hN hT hsl hsm hsg hfc), fun r2 nx2 l2 hq2 => ?_⟩
      obtain ⟨rfl, hq2⟩ := hq2
      rcases hq2 with ⟨e1, rfl, rfl⟩ | ⟨e1, e2, rfl, rfl⟩ | ⟨e1, e2, rfl, rfl⟩
      · exfalso; omega
      · exfalso; omega
      · exact ⟨rfl, n, q, o, st, (0 + 1), pr, fa, sp, 0, sg, (fup tx 0 sg), (cpS sm 0 (sl 6)), (fup (fup sl 0 (sl 6)) 6 0), hn, hs, kd, dm, ln, lw, LC_fr (hlk_in rfl) HC, ⟨⟨ma, mb, rfl, hMm.2⟩, hMs, ⟨ri, rfl, congrArg (fun z => some (oA 0 7 z)) ((congrArg (fun z => fup z 6 0) (sl_up sl 0 (sl 6))).trans (sl_up _ 6 0)), hT.2.2⟩, hMg, ⟨mA_, mB_, mJ_, hMj⟩⟩, ⟨hO, hB0, hN, hS, hH, hD, hL, (by decide), (by decide), (fun i hi => absurd hi (Nat.not_lt_zero _)), fup_self _ _ _, (fun i hi => absurd hi (Nat.not_lt_zero _)), sl_b (sl_b hsl (by omega)) (by decide), okX_fore hX (by decide) hsl hsm hsg c1⟩, rfl⟩
  · refine ⟨3, by decide, _, (t_X9_forecast_1 h42 h43 hsc hsg h0 h44), fun r nx1 l1 hq => ?_⟩
    rcases hq with ⟨c1, rfl, rfl, rfl⟩ | ⟨c1, rfl, rfl, rfl⟩
    · rw [hlk_nil]
      have HM := hM
      have HC := hC
      obtain ⟨⟨ma, mb, hMm⟩, hMs, ⟨ri, hT⟩, hMg, ⟨mA_, mB_, mJ_, hMj⟩⟩ := id HM
      refine ⟨_, rfl, ⟨_, hMm.1⟩, 3, by decide, _, (t_X10_forecast hMm hO hN hT hsl hsm hsg hfc), fun r2 nx2 l2 hq2 => ?_⟩
      obtain ⟨rfl, hq2⟩ := hq2
      rcases hq2 with ⟨e1, rfl, rfl⟩ | ⟨e1, e2, rfl, rfl⟩ | ⟨e1, e2, rfl, rfl⟩
      · exfalso; omega
      · rw [hlk_nil]
        exact ⟨rfl, n, q, o, st, 1, pr, fa, sp, (sl 6), sg, tx, sm, sl, hn, hs, kd, dm, ln, lw, HC, HM, ⟨hO, hB0, hN, hS, hH, hD, hL, hfc, hsc, hsg, rfl, hsm, hsl, hX⟩, rfl⟩
      · exfalso; omega
    · have HF : cF (hlk [(99, oA 0 5 (rA sg (sl 6) 0)), (100, oA 0 5 (rA sg (sl 6) 1)), (101, oA 0 5 (rA sg (sl 6) 2)), (102, oA 0 5 (rA sg (sl 6) 3)), (98, oO 1 [zI ((tE sg (sl 6) / 4 : Nat) : Int), zI (rV sg (sl 6)), zR 99, zR 100, zR 101, zR 102]), (44, oP 5 6 (fup (fcR 1) 1 (some 98))), (42, oO 7 [zI 0, zR 43]), (0, oO 8 [zR 1, zR 2, zR 11, zR 34, zR 36, zR 42, zR 44, zI (((1 : Nat) : Int) + 1), zR 45, zR 48])] h) (1 + 1) (fup tx 1 sg) (fup (fup sl 1 (sl 6)) 6 0) := ⟨congrArg (fun z => some (oP 5 6 z)) (fcR_up 1), fun k hk => by
        by_cases ek : k = 1
        · subst ek; exact ⟨rfl, rfl, rfl, rfl, rfl⟩
        · exact isFt_sl (isFt_fr (fun j a_ b_ => hlk_out 93 97 rfl j (by omega) (by omega)) (hFs k (by omega))) (fup_ne _ _ ek) ((fup_ne _ _ (by omega)).trans (fup_ne _ _ ek))⟩
      have HC : LC (hlk [(99, oA 0 5 (rA sg (sl 6) 0)), (100, oA 0 5 (rA sg (sl 6) 1)), (101, oA 0 5 (rA sg (sl 6) 2)), (102, oA 0 5 (rA sg (sl 6) 3)), (98, oO 1 [zI ((tE sg (sl 6) / 4 : Nat) : Int), zI (rV sg (sl 6)), zR 99, zR 100, zR 101, zR 102]), (44, oP 5 6 (fup (fcR 1) 1 (some 98))), (42, oO 7 [zI 0, zR 43]), (0, oO 8 [zR 1, zR 2, zR 11, zR 34, zR 36, zR 42, zR 44, zI (((1 : Nat) : Int) + 1), zR 45, zR 48])] h) n q o st (1 + 1) pr fa sp 0 sg (fup tx 1 sg) (fup (fup sl 1 (sl 6)) 6 0) hn hs kd dm ln lw := ⟨⟨rfl, h1⟩, isQ_fr (hlk_out 2 10 rfl) hQ, cJ_fr (hlk_out 11 33 rfl) hcJ, cT_fr (hlk_out 34 35 rfl) hcT, cO_fr (hlk_out 36 41 rfl) hcO, ⟨rfl, h43⟩, HF, cW_fr (hlk_out 45 47 rfl) hcW, cG_fr (hlk_out 48 63 rfl) hcG⟩
      have HM : LM (hlk [(99, oA 0 5 (rA sg (sl 6) 0)), (100, oA 0 5 (rA sg (sl 6) 1)), (101, oA 0 5 (rA sg (sl 6) 2)), (102, oA 0 5 (rA sg (sl 6) 3)), (98, oO 1 [zI ((tE sg (sl 6) / 4 : Nat) : Int), zI (rV sg (sl 6)), zR 99, zR 100, zR 101, zR 102]), (44, oP 5 6 (fup (fcR 1) 1 (some 98))), (42, oO 7 [zI 0, zR 43]), (0, oO 8 [zR 1, zR 2, zR 11, zR 34, zR 36, zR 42, zR 44, zI (((1 : Nat) : Int) + 1), zR 45, zR 48])] h) n q o st 1 pr fa sp sm sl hn hs kd dm ln lw := LM_fr (hlk_out 64 92 rfl) hM
      obtain ⟨⟨ma, mb, hMm⟩, hMs, ⟨ri, hT⟩, hMg, ⟨mA_, mB_, mJ_, hMj⟩⟩ := id HM
      refine ⟨_, rfl, ⟨_, hMm.1⟩, 3, by decide, _, (t_X10_forecast hMm hO hN hT hsl hsm hsg hfc), fun r2 nx2 l2 hq2 => ?_⟩
      obtain ⟨rfl, hq2⟩ := hq2
      rcases hq2 with ⟨e1, rfl, rfl⟩ | ⟨e1, e2, rfl, rfl⟩ | ⟨e1, e2, rfl, rfl⟩
      · exfalso; omega
      · exfalso; omega
      · exact ⟨rfl, n, q, o, st, (1 + 1), pr, fa, sp, 0, sg, (fup tx 1 sg), (cpS sm 1 (sl 6)), (fup (fup sl 1 (sl 6)) 6 0), hn, hs, kd, dm, ln, lw, LC_fr (hlk_in rfl) HC, ⟨⟨ma, mb, rfl, hMm.2⟩, hMs, ⟨ri, rfl, congrArg (fun z => some (oA 0 7 z)) ((congrArg (fun z => fup z 6 0) (sl_up sl 1 (sl 6))).trans (sl_up _ 6 0)), hT.2.2⟩, hMg, ⟨mA_, mB_, mJ_, hMj⟩⟩, ⟨hO, hB0, hN, hS, hH, hD, hL, (by decide), (by decide), (fun i hi => absurd hi (Nat.not_lt_zero _)), fup_self _ _ _, (fun i hi => absurd hi (Nat.not_lt_zero _)), sl_b (sl_b hsl (by omega)) (by decide), okX_fore hX (by decide) hsl hsm hsg c1⟩, rfl⟩
  · refine ⟨3, by decide, _, (t_X9_forecast_2 h42 h43 hsc hsg h0 h44), fun r nx1 l1 hq => ?_⟩
    rcases hq with ⟨c1, rfl, rfl, rfl⟩ | ⟨c1, rfl, rfl, rfl⟩
    · rw [hlk_nil]
      have HM := hM
      have HC := hC
      obtain ⟨⟨ma, mb, hMm⟩, hMs, ⟨ri, hT⟩, hMg, ⟨mA_, mB_, mJ_, hMj⟩⟩ := id HM
      refine ⟨_, rfl, ⟨_, hMm.1⟩, 3, by decide, _, (t_X10_forecast hMm hO hN hT hsl hsm hsg hfc), fun r2 nx2 l2 hq2 => ?_⟩
      obtain ⟨rfl, hq2⟩ := hq2
      rcases hq2 with ⟨e1, rfl, rfl⟩ | ⟨e1, e2, rfl, rfl⟩ | ⟨e1, e2, rfl, rfl⟩
      · exfalso; omega
      · rw [hlk_nil]
        exact ⟨rfl, n, q, o, st, 2, pr, fa, sp, (sl 6), sg, tx, sm, sl, hn, hs, kd, dm, ln, lw, HC, HM, ⟨hO, hB0, hN, hS, hH, hD, hL, hfc, hsc, hsg, rfl, hsm, hsl, hX⟩, rfl⟩
      · exfalso; omega
    · have HF : cF (hlk [(104, oA 0 5 (rA sg (sl 6) 0)), (105, oA 0 5 (rA sg (sl 6) 1)), (106, oA 0 5 (rA sg (sl 6) 2)), (107, oA 0 5 (rA sg (sl 6) 3)), (103, oO 1 [zI ((tE sg (sl 6) / 4 : Nat) : Int), zI (rV sg (sl 6)), zR 104, zR 105, zR 106, zR 107]), (44, oP 5 6 (fup (fcR 2) 2 (some 103))), (42, oO 7 [zI 0, zR 43]), (0, oO 8 [zR 1, zR 2, zR 11, zR 34, zR 36, zR 42, zR 44, zI (((2 : Nat) : Int) + 1), zR 45, zR 48])] h) (2 + 1) (fup tx 2 sg) (fup (fup sl 2 (sl 6)) 6 0) := ⟨congrArg (fun z => some (oP 5 6 z)) (fcR_up 2), fun k hk => by
        by_cases ek : k = 2
        · subst ek; exact ⟨rfl, rfl, rfl, rfl, rfl⟩
        · exact isFt_sl (isFt_fr (fun j a_ b_ => hlk_out 93 102 rfl j (by omega) (by omega)) (hFs k (by omega))) (fup_ne _ _ ek) ((fup_ne _ _ (by omega)).trans (fup_ne _ _ ek))⟩
      have HC : LC (hlk [(104, oA 0 5 (rA sg (sl 6) 0)), (105, oA 0 5 (rA sg (sl 6) 1)), (106, oA 0 5 (rA sg (sl 6) 2)), (107, oA 0 5 (rA sg (sl 6) 3)), (103, oO 1 [zI ((tE sg (sl 6) / 4 : Nat) : Int), zI (rV sg (sl 6)), zR 104, zR 105, zR 106, zR 107]), (44, oP 5 6 (fup (fcR 2) 2 (some 103))), (42, oO 7 [zI 0, zR 43]), (0, oO 8 [zR 1, zR 2, zR 11, zR 34, zR 36, zR 42, zR 44, zI (((2 : Nat) : Int) + 1), zR 45, zR 48])] h) n q o st (2 + 1) pr fa sp 0 sg (fup tx 2 sg) (fup (fup sl 2 (sl 6)) 6 0) hn hs kd dm ln lw := ⟨⟨rfl, h1⟩, isQ_fr (hlk_out 2 10 rfl) hQ, cJ_fr (hlk_out 11 33 rfl) hcJ, cT_fr (hlk_out 34 35 rfl) hcT, cO_fr (hlk_out 36 41 rfl) hcO, ⟨rfl, h43⟩, HF, cW_fr (hlk_out 45 47 rfl) hcW, cG_fr (hlk_out 48 63 rfl) hcG⟩
      have HM : LM (hlk [(104, oA 0 5 (rA sg (sl 6) 0)), (105, oA 0 5 (rA sg (sl 6) 1)), (106, oA 0 5 (rA sg (sl 6) 2)), (107, oA 0 5 (rA sg (sl 6) 3)), (103, oO 1 [zI ((tE sg (sl 6) / 4 : Nat) : Int), zI (rV sg (sl 6)), zR 104, zR 105, zR 106, zR 107]), (44, oP 5 6 (fup (fcR 2) 2 (some 103))), (42, oO 7 [zI 0, zR 43]), (0, oO 8 [zR 1, zR 2, zR 11, zR 34, zR 36, zR 42, zR 44, zI (((2 : Nat) : Int) + 1), zR 45, zR 48])] h) n q o st 2 pr fa sp sm sl hn hs kd dm ln lw := LM_fr (hlk_out 64 92 rfl) hM
      obtain ⟨⟨ma, mb, hMm⟩, hMs, ⟨ri, hT⟩, hMg, ⟨mA_, mB_, mJ_, hMj⟩⟩ := id HM
      refine ⟨_, rfl, ⟨_, hMm.1⟩, 3, by decide, _, (t_X10_forecast hMm hO hN hT hsl hsm hsg hfc), fun r2 nx2 l2 hq2 => ?_⟩
      obtain ⟨rfl, hq2⟩ := hq2
      rcases hq2 with ⟨e1, rfl, rfl⟩ | ⟨e1, e2, rfl, rfl⟩ | ⟨e1, e2, rfl, rfl⟩
      · exfalso; omega
      · exfalso; omega
      · exact ⟨rfl, n, q, o, st, (2 + 1), pr, fa, sp, 0, sg, (fup tx 2 sg), (cpS sm 2 (sl 6)), (fup (fup sl 2 (sl 6)) 6 0), hn, hs, kd, dm, ln, lw, LC_fr (hlk_in rfl) HC, ⟨⟨ma, mb, rfl, hMm.2⟩, hMs, ⟨ri, rfl, congrArg (fun z => some (oA 0 7 z)) ((congrArg (fun z => fup z 6 0) (sl_up sl 2 (sl 6))).trans (sl_up _ 6 0)), hT.2.2⟩, hMg, ⟨mA_, mB_, mJ_, hMj⟩⟩, ⟨hO, hB0, hN, hS, hH, hD, hL, (by decide), (by decide), (fun i hi => absurd hi (Nat.not_lt_zero _)), fup_self _ _ _, (fun i hi => absurd hi (Nat.not_lt_zero _)), sl_b (sl_b hsl (by omega)) (by decide), okX_fore hX (by decide) hsl hsm hsg c1⟩, rfl⟩
  · refine ⟨3, by decide, _, (t_X9_forecast_3 h42 h43 hsc hsg h0 h44), fun r nx1 l1 hq => ?_⟩
    rcases hq with ⟨c1, rfl, rfl, rfl⟩ | ⟨c1, rfl, rfl, rfl⟩
    · rw [hlk_nil]
      have HM := hM
      have HC := hC
      obtain ⟨⟨ma, mb, hMm⟩, hMs, ⟨ri, hT⟩, hMg, ⟨mA_, mB_, mJ_, hMj⟩⟩ := id HM
      refine ⟨_, rfl, ⟨_, hMm.1⟩, 3, by decide, _, (t_X10_forecast hMm hO hN hT hsl hsm hsg hfc), fun r2 nx2 l2 hq2 => ?_⟩
      obtain ⟨rfl, hq2⟩ := hq2
      rcases hq2 with ⟨e1, rfl, rfl⟩ | ⟨e1, e2, rfl, rfl⟩ | ⟨e1, e2, rfl, rfl⟩
      · exfalso; omega
      · rw [hlk_nil]
        exact ⟨rfl, n, q, o, st, 3, pr, fa, sp, (sl 6), sg, tx, sm, sl, hn, hs, kd, dm, ln, lw, HC, HM, ⟨hO, hB0, hN, hS, hH, hD, hL, hfc, hsc, hsg, rfl, hsm, hsl, hX⟩, rfl⟩
      · exfalso; omega
    · have HF : cF (hlk [(109, oA 0 5 (rA sg (sl 6) 0)), (110, oA 0 5 (rA sg (sl 6) 1)), (111, oA 0 5 (rA sg (sl 6) 2)), (112, oA 0 5 (rA sg (sl 6) 3)), (108, oO 1 [zI ((tE sg (sl 6) / 4 : Nat) : Int), zI (rV sg (sl 6)), zR 109, zR 110, zR 111, zR 112]), (44, oP 5 6 (fup (fcR 3) 3 (some 108))), (42, oO 7 [zI 0, zR 43]), (0, oO 8 [zR 1, zR 2, zR 11, zR 34, zR 36, zR 42, zR 44, zI (((3 : Nat) : Int) + 1), zR 45, zR 48])] h) (3 + 1) (fup tx 3 sg) (fup (fup sl 3 (sl 6)) 6 0) := ⟨congrArg (fun z => some (oP 5 6 z)) (fcR_up 3), fun k hk => by
        by_cases ek : k = 3
        · subst ek; exact ⟨rfl, rfl, rfl, rfl, rfl⟩
        · exact isFt_sl (isFt_fr (fun j a_ b_ => hlk_out 93 107 rfl j (by omega) (by omega)) (hFs k (by omega))) (fup_ne _ _ ek) ((fup_ne _ _ (by omega)).trans (fup_ne _ _ ek))⟩
      have HC : LC (hlk [(109, oA 0 5 (rA sg (sl 6) 0)), (110, oA 0 5 (rA sg (sl 6) 1)), (111, oA 0 5 (rA sg (sl 6) 2)), (112, oA 0 5 (rA sg (sl 6) 3)), (108, oO 1 [zI ((tE sg (sl 6) / 4 : Nat) : Int), zI (rV sg (sl 6)), zR 109, zR 110, zR 111, zR 112]), (44, oP 5 6 (fup (fcR 3) 3 (some 108))), (42, oO 7 [zI 0, zR 43]), (0, oO 8 [zR 1, zR 2, zR 11, zR 34, zR 36, zR 42, zR 44, zI (((3 : Nat) : Int) + 1), zR 45, zR 48])] h) n q o st (3 + 1) pr fa sp 0 sg (fup tx 3 sg) (fup (fup sl 3 (sl 6)) 6 0) hn hs kd dm ln lw := ⟨⟨rfl, h1⟩, isQ_fr (hlk_out 2 10 rfl) hQ, cJ_fr (hlk_out 11 33 rfl) hcJ, cT_fr (hlk_out 34 35 rfl) hcT, cO_fr (hlk_out 36 41 rfl) hcO, ⟨rfl, h43⟩, HF, cW_fr (hlk_out 45 47 rfl) hcW, cG_fr (hlk_out 48 63 rfl) hcG⟩
      have HM : LM (hlk [(109, oA 0 5 (rA sg (sl 6) 0)), (110, oA 0 5 (rA sg (sl 6) 1)), (111, oA 0 5 (rA sg (sl 6) 2)), (112, oA 0 5 (rA sg (sl 6) 3)), (108, oO 1 [zI ((tE sg (sl 6) / 4 : Nat) : Int), zI (rV sg (sl 6)), zR 109, zR 110, zR 111, zR 112]), (44, oP 5 6 (fup (fcR 3) 3 (some 108))), (42, oO 7 [zI 0, zR 43]), (0, oO 8 [zR 1, zR 2, zR 11, zR 34, zR 36, zR 42, zR 44, zI (((3 : Nat) : Int) + 1), zR 45, zR 48])] h) n q o st 3 pr fa sp sm sl hn hs kd dm ln lw := LM_fr (hlk_out 64 92 rfl) hM
      obtain ⟨⟨ma, mb, hMm⟩, hMs, ⟨ri, hT⟩, hMg, ⟨mA_, mB_, mJ_, hMj⟩⟩ := id HM
      refine ⟨_, rfl, ⟨_, hMm.1⟩, 3, by decide, _, (t_X10_forecast hMm hO hN hT hsl hsm hsg hfc), fun r2 nx2 l2 hq2 => ?_⟩
      obtain ⟨rfl, hq2⟩ := hq2
      rcases hq2 with ⟨e1, rfl, rfl⟩ | ⟨e1, e2, rfl, rfl⟩ | ⟨e1, e2, rfl, rfl⟩
      · exfalso; omega
      · exfalso; omega
      · exact ⟨rfl, n, q, o, st, (3 + 1), pr, fa, sp, 0, sg, (fup tx 3 sg), (cpS sm 3 (sl 6)), (fup (fup sl 3 (sl 6)) 6 0), hn, hs, kd, dm, ln, lw, LC_fr (hlk_in rfl) HC, ⟨⟨ma, mb, rfl, hMm.2⟩, hMs, ⟨ri, rfl, congrArg (fun z => some (oA 0 7 z)) ((congrArg (fun z => fup z 6 0) (sl_up sl 3 (sl 6))).trans (sl_up _ 6 0)), hT.2.2⟩, hMg, ⟨mA_, mB_, mJ_, hMj⟩⟩, ⟨hO, hB0, hN, hS, hH, hD, hL, (by decide), (by decide), (fun i hi => absurd hi (Nat.not_lt_zero _)), fup_self _ _ _, (fun i hi => absurd hi (Nat.not_lt_zero _)), sl_b (sl_b hsl (by omega)) (by decide), okX_fore hX (by decide) hsl hsm hsg c1⟩, rfl⟩
  · refine ⟨3, by decide, _, (t_X9_forecast_4 h42 h43 hsc hsg h0 h44), fun r nx1 l1 hq => ?_⟩
    rcases hq with ⟨c1, rfl, rfl, rfl⟩ | ⟨c1, rfl, rfl, rfl⟩
    · rw [hlk_nil]
      have HM := hM
      have HC := hC
      obtain ⟨⟨ma, mb, hMm⟩, hMs, ⟨ri, hT⟩, hMg, ⟨mA_, mB_, mJ_, hMj⟩⟩ := id HM
      refine ⟨_, rfl, ⟨_, hMm.1⟩, 3, by decide, _, (t_X10_forecast hMm hO hN hT hsl hsm hsg hfc), fun r2 nx2 l2 hq2 => ?_⟩
      obtain ⟨rfl, hq2⟩ := hq2
      rcases hq2 with ⟨e1, rfl, rfl⟩ | ⟨e1, e2, rfl, rfl⟩ | ⟨e1, e2, rfl, rfl⟩
      · exfalso; omega
      · rw [hlk_nil]
        exact ⟨rfl, n, q, o, st, 4, pr, fa, sp, (sl 6), sg, tx, sm, sl, hn, hs, kd, dm, ln, lw, HC, HM, ⟨hO, hB0, hN, hS, hH, hD, hL, hfc, hsc, hsg, rfl, hsm, hsl, hX⟩, rfl⟩
      · exfalso; omega
    · have HF : cF (hlk [(114, oA 0 5 (rA sg (sl 6) 0)), (115, oA 0 5 (rA sg (sl 6) 1)), (116, oA 0 5 (rA sg (sl 6) 2)), (117, oA 0 5 (rA sg (sl 6) 3)), (113, oO 1 [zI ((tE sg (sl 6) / 4 : Nat) : Int), zI (rV sg (sl 6)), zR 114, zR 115, zR 116, zR 117]), (44, oP 5 6 (fup (fcR 4) 4 (some 113))), (42, oO 7 [zI 0, zR 43]), (0, oO 8 [zR 1, zR 2, zR 11, zR 34, zR 36, zR 42, zR 44, zI (((4 : Nat) : Int) + 1), zR 45, zR 48])] h) (4 + 1) (fup tx 4 sg) (fup (fup sl 4 (sl 6)) 6 0) := ⟨congrArg (fun z => some (oP 5 6 z)) (fcR_up 4), fun k hk => by
        by_cases ek : k = 4
        · subst ek; exact ⟨rfl, rfl, rfl, rfl, rfl⟩
        · exact isFt_sl (isFt_fr (fun j a_ b_ => hlk_out 93 112 rfl j (by omega) (by omega)) (hFs k (by omega))) (fup_ne _ _ ek) ((fup_ne _ _ (by omega)).trans (fup_ne _ _ ek))⟩
      have HC : LC (hlk [(114, oA 0 5 (rA sg (sl 6) 0)), (115, oA 0 5 (rA sg (sl 6) 1)), (116, oA 0 5 (rA sg (sl 6) 2)), (117, oA 0 5 (rA sg (sl 6) 3)), (113, oO 1 [zI ((tE sg (sl 6) / 4 : Nat) : Int), zI (rV sg (sl 6)), zR 114, zR 115, zR 116, zR 117]), (44, oP 5 6 (fup (fcR 4) 4 (some 113))), (42, oO 7 [zI 0, zR 43]), (0, oO 8 [zR 1, zR 2, zR 11, zR 34, zR 36, zR 42, zR 44, zI (((4 : Nat) : Int) + 1), zR 45, zR 48])] h) n q o st (4 + 1) pr fa sp 0 sg (fup tx 4 sg) (fup (fup sl 4 (sl 6)) 6 0) hn hs kd dm ln lw := ⟨⟨rfl, h1⟩, isQ_fr (hlk_out 2 10 rfl) hQ, cJ_fr (hlk_out 11 33 rfl) hcJ, cT_fr (hlk_out 34 35 rfl) hcT, cO_fr (hlk_out 36 41 rfl) hcO, ⟨rfl, h43⟩, HF, cW_fr (hlk_out 45 47 rfl) hcW, cG_fr (hlk_out 48 63 rfl) hcG⟩
      have HM : LM (hlk [(114, oA 0 5 (rA sg (sl 6) 0)), (115, oA 0 5 (rA sg (sl 6) 1)), (116, oA 0 5 (rA sg (sl 6) 2)), (117, oA 0 5 (rA sg (sl 6) 3)), (113, oO 1 [zI ((tE sg (sl 6) / 4 : Nat) : Int), zI (rV sg (sl 6)), zR 114, zR 115, zR 116, zR 117]), (44, oP 5 6 (fup (fcR 4) 4 (some 113))), (42, oO 7 [zI 0, zR 43]), (0, oO 8 [zR 1, zR 2, zR 11, zR 34, zR 36, zR 42, zR 44, zI (((4 : Nat) : Int) + 1), zR 45, zR 48])] h) n q o st 4 pr fa sp sm sl hn hs kd dm ln lw := LM_fr (hlk_out 64 92 rfl) hM
      obtain ⟨⟨ma, mb, hMm⟩, hMs, ⟨ri, hT⟩, hMg, ⟨mA_, mB_, mJ_, hMj⟩⟩ := id HM
      refine ⟨_, rfl, ⟨_, hMm.1⟩, 3, by decide, _, (t_X10_forecast hMm hO hN hT hsl hsm hsg hfc), fun r2 nx2 l2 hq2 => ?_⟩
      obtain ⟨rfl, hq2⟩ := hq2
      rcases hq2 with ⟨e1, rfl, rfl⟩ | ⟨e1, e2, rfl, rfl⟩ | ⟨e1, e2, rfl, rfl⟩
      · exfalso; omega
      · exfalso; omega
      · exact ⟨rfl, n, q, o, st, (4 + 1), pr, fa, sp, 0, sg, (fup tx 4 sg), (cpS sm 4 (sl 6)), (fup (fup sl 4 (sl 6)) 6 0), hn, hs, kd, dm, ln, lw, LC_fr (hlk_in rfl) HC, ⟨⟨ma, mb, rfl, hMm.2⟩, hMs, ⟨ri, rfl, congrArg (fun z => some (oA 0 7 z)) ((congrArg (fun z => fup z 6 0) (sl_up sl 4 (sl 6))).trans (sl_up _ 6 0)), hT.2.2⟩, hMg, ⟨mA_, mB_, mJ_, hMj⟩⟩, ⟨hO, hB0, hN, hS, hH, hD, hL, (by decide), (by decide), (fun i hi => absurd hi (Nat.not_lt_zero _)), fup_self _ _ _, (fun i hi => absurd hi (Nat.not_lt_zero _)), sl_b (sl_b hsl (by omega)) (by decide), okX_fore hX (by decide) hsl hsm hsg c1⟩, rfl⟩
  · refine ⟨3, by decide, _, (t_X9_forecast_5 h42 h43 hsc hsg h0 h44), fun r nx1 l1 hq => ?_⟩
    rcases hq with ⟨c1, rfl, rfl, rfl⟩ | ⟨c1, rfl, rfl, rfl⟩
    · rw [hlk_nil]
      have HM := hM
      have HC := hC
      obtain ⟨⟨ma, mb, hMm⟩, hMs, ⟨ri, hT⟩, hMg, ⟨mA_, mB_, mJ_, hMj⟩⟩ := id HM
      refine ⟨_, rfl, ⟨_, hMm.1⟩, 3, by decide, _, (t_X10_forecast hMm hO hN hT hsl hsm hsg hfc), fun r2 nx2 l2 hq2 => ?_⟩
      obtain ⟨rfl, hq2⟩ := hq2
      rcases hq2 with ⟨e1, rfl, rfl⟩ | ⟨e1, e2, rfl, rfl⟩ | ⟨e1, e2, rfl, rfl⟩
      · exfalso; omega
      · rw [hlk_nil]
        exact ⟨rfl, n, q, o, st, 5, pr, fa, sp, (sl 6), sg, tx, sm, sl, hn, hs, kd, dm, ln, lw, HC, HM, ⟨hO, hB0, hN, hS, hH, hD, hL, hfc, hsc, hsg, rfl, hsm, hsl, hX⟩, rfl⟩
      · exfalso; omega
    · have HF : cF (hlk [(119, oA 0 5 (rA sg (sl 6) 0)), (120, oA 0 5 (rA sg (sl 6) 1)), (121, oA 0 5 (rA sg (sl 6) 2)), (122, oA 0 5 (rA sg (sl 6) 3)), (118, oO 1 [zI ((tE sg (sl 6) / 4 : Nat) : Int), zI (rV sg (sl 6)), zR 119, zR 120, zR 121, zR 122]), (44, oP 5 6 (fup (fcR 5) 5 (some 118))), (42, oO 7 [zI 0, zR 43]), (0, oO 8 [zR 1, zR 2, zR 11, zR 34, zR 36, zR 42, zR 44, zI (((5 : Nat) : Int) + 1), zR 45, zR 48])] h) (5 + 1) (fup tx 5 sg) (fup (fup sl 5 (sl 6)) 6 0) := ⟨congrArg (fun z => some (oP 5 6 z)) (fcR_up 5), fun k hk => by
        by_cases ek : k = 5
        · subst ek; exact ⟨rfl, rfl, rfl, rfl, rfl⟩
        · exact isFt_sl (isFt_fr (fun j a_ b_ => hlk_out 93 117 rfl j (by omega) (by omega)) (hFs k (by omega))) (fup_ne _ _ ek) ((fup_ne _ _ (by omega)).trans (fup_ne _ _ ek))⟩
      have HC : LC (hlk [(119, oA 0 5 (rA sg (sl 6) 0)), (120, oA 0 5 (rA sg (sl 6) 1)), (121, oA 0 5 (rA sg (sl 6) 2)), (122, oA 0 5 (rA sg (sl 6) 3)), (118, oO 1 [zI ((tE sg (sl 6) / 4 : Nat) : Int), zI (rV sg (sl 6)), zR 119, zR 120, zR 121, zR 122]), (44, oP 5 6 (fup (fcR 5) 5 (some 118))), (42, oO 7 [zI 0, zR 43]), (0, oO 8 [zR 1, zR 2, zR 11, zR 34, zR 36, zR 42, zR 44, zI (((5 : Nat) : Int) + 1), zR 45, zR 48])] h) n q o st (5 + 1) pr fa sp 0 sg (fup tx 5 sg) (fup (fup sl 5 (sl 6)) 6 0) hn hs kd dm ln lw := ⟨⟨rfl, h1⟩, isQ_fr (hlk_out 2 10 rfl) hQ, cJ_fr (hlk_out 11 33 rfl) hcJ, cT_fr (hlk_out 34 35 rfl) hcT, cO_fr (hlk_out 36 41 rfl) hcO, ⟨rfl, h43⟩, HF, cW_fr (hlk_out 45 47 rfl) hcW, cG_fr (hlk_out 48 63 rfl) hcG⟩
      have HM : LM (hlk [(119, oA 0 5 (rA sg (sl 6) 0)), (120, oA 0 5 (rA sg (sl 6) 1)), (121, oA 0 5 (rA sg (sl 6) 2)), (122, oA 0 5 (rA sg (sl 6) 3)), (118, oO 1 [zI ((tE sg (sl 6) / 4 : Nat) : Int), zI (rV sg (sl 6)), zR 119, zR 120, zR 121, zR 122]), (44, oP 5 6 (fup (fcR 5) 5 (some 118))), (42, oO 7 [zI 0, zR 43]), (0, oO 8 [zR 1, zR 2, zR 11, zR 34, zR 36, zR 42, zR 44, zI (((5 : Nat) : Int) + 1), zR 45, zR 48])] h) n q o st 5 pr fa sp sm sl hn hs kd dm ln lw := LM_fr (hlk_out 64 92 rfl) hM
      obtain ⟨⟨ma, mb, hMm⟩, hMs, ⟨ri, hT⟩, hMg, ⟨mA_, mB_, mJ_, hMj⟩⟩ := id HM
      refine ⟨_, rfl, ⟨_, hMm.1⟩, 3, by decide, _, (t_X10_forecast hMm hO hN hT hsl hsm hsg hfc), fun r2 nx2 l2 hq2 => ?_⟩
      obtain ⟨rfl, hq2⟩ := hq2
      rcases hq2 with ⟨e1, rfl, rfl⟩ | ⟨e1, e2, rfl, rfl⟩ | ⟨e1, e2, rfl, rfl⟩
      · exfalso; omega
      · exfalso; omega
      · exact ⟨rfl, n, q, o, st, (5 + 1), pr, fa, sp, 0, sg, (fup tx 5 sg), (cpS sm 5 (sl 6)), (fup (fup sl 5 (sl 6)) 6 0), hn, hs, kd, dm, ln, lw, LC_fr (hlk_in rfl) HC, ⟨⟨ma, mb, rfl, hMm.2⟩, hMs, ⟨ri, rfl, congrArg (fun z => some (oA 0 7 z)) ((congrArg (fun z => fup z 6 0) (sl_up sl 5 (sl 6))).trans (sl_up _ 6 0)), hT.2.2⟩, hMg, ⟨mA_, mB_, mJ_, hMj⟩⟩, ⟨hO, hB0, hN, hS, hH, hD, hL, (by decide), (by decide), (fun i hi => absurd hi (Nat.not_lt_zero _)), fup_self _ _ _, (fun i hi => absurd hi (Nat.not_lt_zero _)), sl_b (sl_b hsl (by omega)) (by decide), okX_fore hX (by decide) hsl hsm hsg c1⟩, rfl⟩
  · refine ⟨3, by decide, _, (t_X9_forecast_6 h42 h43 hsc hsg h0), fun r nx1 l1 hq => ?_⟩
    obtain ⟨rfl, rfl, rfl⟩ := hq
    rw [hlk_nil]
    have HM := hM
    have HC := hC
    obtain ⟨⟨ma, mb, hMm⟩, hMs, ⟨ri, hT⟩, hMg, ⟨mA_, mB_, mJ_, hMj⟩⟩ := id HM
    refine ⟨_, rfl, ⟨_, hMm.1⟩, 3, by decide, _, (t_X10_forecast hMm hO hN hT hsl hsm hsg hfc), fun r2 nx2 l2 hq2 => ?_⟩
    obtain ⟨rfl, hq2⟩ := hq2
    rcases hq2 with ⟨e1, rfl, rfl⟩ | ⟨e1, e2, rfl, rfl⟩ | ⟨e1, e2, rfl, rfl⟩
    · rw [hlk_nil]
      exact ⟨rfl, n, q, o, st, 6, pr, fa, sp, (sl 6), sg, tx, sm, sl, hn, hs, kd, dm, ln, lw, HC, HM, ⟨hO, hB0, hN, hS, hH, hD, hL, hfc, hsc, hsg, rfl, hsm, hsl, hX⟩, rfl⟩
    · exfalso; omega
    · exfalso; omega


theorem q6_same {q : Nat → Nat → Int} {n : Nat} (h : ∀ j, n ≤ j → q 6 j = 0) : fup (q 6) n 0 = q 6 := by
  funext j
  by_cases e : j = n
  · rw [e, fup_self, h n (Nat.le_refl n)]
  · rw [fup_ne _ _ e]
theorem kd_up {kd : Nat → Nat} {hn : Nat} {k : Int} (hk : 0 ≤ k) : fup (fun u => ((kd u : Nat) : Int)) hn k = fun u => ((fup kd hn k.toNat u : Nat) : Int) := by
  have e : k = ((k.toNat : Nat) : Int) := by omega
  have := sl_up kd hn k.toNat
  rw [← e] at this
  exact this
def hN4 (hs : Nat → Nat → Int) (n : Nat) (x y w p : Int) : Nat → Nat → Int := fup (fup (fup (fup hs 0 (fup (hs 0) n x)) 1 (fup (hs 1) n y)) 2 (fup (hs 2) n w)) 3 (fup (hs 3) n p)
theorem okH_new {hn : Nat} {hs : Nat → Nat → Int} {kd : Nat → Nat} {x y k w p : Int} (h : okH hn hs kd) (h12 : hn < 12) (c1 : (0 ≤ x ∧ x ≤ 15) ∧ (0 ≤ y ∧ y ≤ 15)) (c2 : (0 ≤ k ∧ k ≤ 2) ∧ (0 ≤ w ∧ w ≤ 10000) ∧ (0 ≤ p ∧ p ≤ 100)) : okH (hn + 1) (hN4 hs hn x y w p) (fup kd hn k.toNat) := by
  refine ⟨by omega, fup_n h.2.1 c1.1, fup_n h.2.2.1 c1.2, fup_n h.2.2.2.1 c2.2.1, fup_n h.2.2.2.2.1 c2.2.2, fun u hu => ?_⟩
  by_cases e : u = hn
  · rw [e, fup_self]; omega
  · rw [fup_ne _ _ e]; exact h.2.2.2.2.2 u (by omega)
theorem okL_new {ln : Nat} {lw : Nat → Nat → Int} {x y k w : Int} (h : okL ln lw) (h12 : ln < 12) (c1 : (0 ≤ x ∧ x ≤ 15) ∧ (0 ≤ y ∧ y ≤ 15)) (c2 : (0 ≤ k ∧ k ≤ 90) ∧ (1 ≤ w ∧ w ≤ 1000)) : okL (ln + 1) (hN4 lw ln x y k w) :=
  ⟨by omega, fup_n h.2.1 c1.1, fup_n h.2.2.1 c1.2, fup_n h.2.2.2.1 c2.1, fup_n h.2.2.2.2 c2.2⟩
theorem okX_sl {sm : Nat → Int} {sl : Nat → Nat} {tx : Nat → Nat → Int} {fc v : Nat} (h : okX sm sl tx fc) (hfc : fc ≤ 6) : okX sm (fup sl 6 v) tx fc := by
  intro f hf
  rw [fup_ne _ _ (by omega)]
  exact h f hf
theorem okX_sm {sm : Nat → Int} {sl : Nat → Nat} {tx : Nat → Nat → Int} {fc k : Nat} {v : Int} (h : okX sm sl tx fc) (hfc : fc ≤ 6) (hsl : ∀ f, f < 7 → sl f ≤ 48) : okX (fup sm (288 + k) v) sl tx fc := by
  intro f hf
  have h1 := h f hf
  have h2 := hsl f (by omega)
  exact ⟨fun i hi => by rw [fup_ne _ _ (by omega)]; exact h1.1 i hi, h1.2⟩
theorem sl_b {sl : Nat → Nat} {j v : Nat} (h : ∀ f, f < 7 → sl f ≤ 48) (hv : v ≤ 48) : ∀ f, f < 7 → fup sl j v f ≤ 48 := by
  intro f hf
  by_cases e : f = j
  · rw [e, fup_self]; exact hv
  · rw [fup_ne _ _ e]; exact h f hf
theorem sm_say {sm sg : Nat → Int} {k : Nat} {v : Int} (h : ∀ i, i < k → sm (288 + i) = sg i) : ∀ i, i < k + 1 → fup sm (288 + k) v (288 + i) = fup sg k v i := by
  intro i hi
  by_cases e : i = k
  · rw [e, fup_self, fup_self]
  · rw [fup_ne _ _ (by omega), fup_ne _ _ e]; exact h i (by omega)
theorem okX_fore {sm : Nat → Int} {sl : Nat → Nat} {tx : Nat → Nat → Int} {fc : Nat} {sg : Nat → Int} (h : okX sm sl tx fc) (hfc : fc < 6) (hsl : ∀ f, f < 7 → sl f ≤ 48) (hsm : ∀ i, i < sl 6 → sm (288 + i) = sg i) (hsg : ∀ i, i < sl 6 → 33 ≤ sg i ∧ sg i ≤ 126) (hfl : fltZ sg (sl 6) = -6) : okX (cpS sm fc (sl 6)) (fup (fup sl fc (sl 6)) 6 0) (fup tx fc sg) (fc + 1) := by
  intro f hf
  rw [fup_ne _ _ (show f ≠ 6 by omega)]
  by_cases e : f = fc
  · subst e
    rw [fup_self, fup_self]
    refine ⟨fun i hi => ?_, hfl, hsg⟩
    unfold cpS
    rw [if_pos (by omega), Nat.add_sub_cancel_left]
    exact hsm i hi
  · rw [fup_ne _ _ e, fup_ne _ _ e]
    have h1 := h f (by omega)
    have h2 := hsl f (by omega)
    refine ⟨fun i hi => ?_, h1.2⟩
    unfold cpS
    rw [if_neg (by omega)]
    exact h1.1 i hi
set_option maxRecDepth 100000 in
set_option maxHeartbeats 4000000 in
theorem pr_quake {nx : Nat} {h : Nat → Option PC} {a d x y g t : Int} (ri_a : r32 a) (ri_d : r32 d) (ri_x : r32 x) (ri_y : r32 y) (ri_g : r32 g) (ri_t : r32 t) (hL : LI nx h) : Pz yX9_quake yX10_quake cX9_quake cX10_quake 7 8 (some .int) (0, 0) (fun z => zI z) [zI a, zI d, zI x, zI y, zI g, zI t] nx h := by
  have hL0 := hL
  obtain ⟨n, q, o, st, fc, pr, fa, sp, sc, sg, tx, sm, sl, hn, hs, kd, dm, ln, lw, hC, hM, hK, rfl⟩ := hL
  obtain ⟨hO, hB0, hN, hS, hH, hD, hL, hfc, hsc, hsg, hsl6, hsm, hsl, hX⟩ := id hK
  subst hsl6
  have hXs : ∀ k, k < fc → sl k ≤ 48 ∧ fltZ (tx k) (sl k) = -6 := fun k hk => ⟨hsl k (by omega), (hX k hk).2.1⟩
  obtain ⟨⟨h0, h1⟩, hQ, hcJ, hcT, hcO, ⟨h42, h43⟩, ⟨h44, hFs⟩, hcW, hcG⟩ := id hC
  obtain ⟨pa, mi, rw_, pt, cl, u_, v_, sl_, ro_, be_, re_, C0, A0, B0, hJ, hre, h14, hCC, h12, h13⟩ := id hcJ
  obtain ⟨ta, g34, g35⟩ := id hcT
  obtain ⟨fo, de, hMo⟩ := id hcO
  obtain ⟨tu, su, h45, h46, h47, htu⟩ := id hcW
  obtain ⟨gn, hG⟩ := id hcG
  refine ⟨2, by decide, _, (t_X9_quake hQ hO h0 ri_a ri_d ri_x ri_y ri_g ri_t), fun r nx1 l1 hq => ?_⟩
  obtain ⟨rfl, hq⟩ := hq
  rcases hq with ⟨c1, rfl, rfl⟩ | ⟨c1, c2, rfl, rfl⟩ | ⟨c1, c2, c3, rfl, rfl⟩ | ⟨c1, c2, c3, rfl, rfl⟩
  · skip
    rw [hlk_nil]
    have HM := hM
    have HC := hC
    obtain ⟨⟨ma, mb, hMm⟩, hMs, ⟨ri, hT⟩, hMg, ⟨mA_, mB_, mJ_, hMj⟩⟩ := id HM
    refine ⟨_, rfl, ⟨_, hMm.1⟩, 2, by decide, _, (t_X10_quake hMm hO hN ri_a ri_d ri_x ri_y ri_g ri_t), fun r2 nx2 l2 hq2 => ?_⟩
    obtain ⟨rfl, hq2⟩ := hq2
    rcases hq2 with ⟨e1, rfl, rfl⟩ | ⟨e1, e2, rfl, rfl⟩ | ⟨e1, e2, e3, rfl, rfl⟩ | ⟨e1, e2, e3, rfl, rfl⟩
    · rw [hlk_nil]
      exact ⟨rfl, n, q, o, st, fc, pr, fa, sp, (sl 6), sg, tx, sm, sl, hn, hs, kd, dm, ln, lw, HC, HM, ⟨hO, hB0, hN, hS, hH, hD, hL, hfc, hsc, hsg, rfl, hsm, hsl, hX⟩, rfl⟩
    · exfalso; omega
    · exfalso; omega
    · exfalso; omega
  · skip
    rw [hlk_nil]
    have HM := hM
    have HC := hC
    obtain ⟨⟨ma, mb, hMm⟩, hMs, ⟨ri, hT⟩, hMg, ⟨mA_, mB_, mJ_, hMj⟩⟩ := id HM
    refine ⟨_, rfl, ⟨_, hMm.1⟩, 2, by decide, _, (t_X10_quake hMm hO hN ri_a ri_d ri_x ri_y ri_g ri_t), fun r2 nx2 l2 hq2 => ?_⟩
    obtain ⟨rfl, hq2⟩ := hq2
    rcases hq2 with ⟨e1, rfl, rfl⟩ | ⟨e1, e2, rfl, rfl⟩ | ⟨e1, e2, e3, rfl, rfl⟩ | ⟨e1, e2, e3, rfl, rfl⟩
    · exfalso; omega
    · rw [hlk_nil]
      exact ⟨rfl, n, q, o, st, fc, pr, fa, sp, (sl 6), sg, tx, sm, sl, hn, hs, kd, dm, ln, lw, HC, HM, ⟨hO, hB0, hN, hS, hH, hD, hL, hfc, hsc, hsg, rfl, hsm, hsl, hX⟩, rfl⟩
    · exfalso; omega
    · exfalso; omega
  · skip
    rw [hlk_nil]
    have HM := hM
    have HC := hC
    obtain ⟨⟨ma, mb, hMm⟩, hMs, ⟨ri, hT⟩, hMg, ⟨mA_, mB_, mJ_, hMj⟩⟩ := id HM
    refine ⟨_, rfl, ⟨_, hMm.1⟩, 2, by decide, _, (t_X10_quake hMm hO hN ri_a ri_d ri_x ri_y ri_g ri_t), fun r2 nx2 l2 hq2 => ?_⟩
    obtain ⟨rfl, hq2⟩ := hq2
    rcases hq2 with ⟨e1, rfl, rfl⟩ | ⟨e1, e2, rfl, rfl⟩ | ⟨e1, e2, e3, rfl, rfl⟩ | ⟨e1, e2, e3, rfl, rfl⟩
    · exfalso; omega
    · exfalso; omega
    · rw [hlk_nil]
      exact ⟨rfl, n, q, o, st, fc, pr, fa, sp, (sl 6), sg, tx, sm, sl, hn, hs, kd, dm, ln, lw, HC, HM, ⟨hO, hB0, hN, hS, hH, hD, hL, hfc, hsc, hsg, rfl, hsm, hsl, hX⟩, rfl⟩
    · exfalso; omega
  · skip
    have HC : LC (hlk [(2, oO 5 [zI ((((n : Nat) : Int) + 1)), zR 3, zR 4, zR 5, zR 6, zR 7, zR 8, zR 9, zR 10]), (10, oA 0 40 (fun r => ((insO (fup (q 1) n d) o (fup (q 1) n d n) n r : Nat) : Int))), (9, oA 1 40 (fup (q 6) n 0)), (8, oA 0 40 (fup (q 5) n t)), (7, oA 0 40 (fup (q 4) n g)), (6, oA 0 40 (fup (q 3) n y)), (5, oA 0 40 (fup (q 2) n x)), (4, oA 0 40 (fup (q 1) n d)), (3, oA 0 40 (fup (q 0) n a))] h) (n + 1) (qN q n a d x y g t) (insO (fup (q 1) n d) o (fup (q 1) n d n) n) st fc pr fa sp (sl 6) sg tx sl hn hs kd dm ln lw := ⟨cA_fr (hlk_out 0 1 rfl) ⟨h0, h1⟩, ⟨rfl, rfl, rfl, rfl, rfl, rfl, rfl, rfl, rfl⟩, cJ_fr (hlk_out 11 33 rfl) hcJ, cT_fr (hlk_out 34 35 rfl) hcT, cO_fr (hlk_out 36 41 rfl) hcO, cS_fr (hlk_out 42 43 rfl) ⟨h42, h43⟩, cF_fr (hlk_out 44 44 rfl 44 (by decide) (by decide)) (hlk_up 93 rfl) ⟨h44, hFs⟩, cW_fr (hlk_out 45 47 rfl) hcW, cG_fr (hlk_out 48 63 rfl) hcG⟩
    have HM : LM (hlk [(2, oO 5 [zI ((((n : Nat) : Int) + 1)), zR 3, zR 4, zR 5, zR 6, zR 7, zR 8, zR 9, zR 10]), (10, oA 0 40 (fun r => ((insO (fup (q 1) n d) o (fup (q 1) n d n) n r : Nat) : Int))), (9, oA 1 40 (fup (q 6) n 0)), (8, oA 0 40 (fup (q 5) n t)), (7, oA 0 40 (fup (q 4) n g)), (6, oA 0 40 (fup (q 3) n y)), (5, oA 0 40 (fup (q 2) n x)), (4, oA 0 40 (fup (q 1) n d)), (3, oA 0 40 (fup (q 0) n a))] h) n q o st fc pr fa sp sm sl hn hs kd dm ln lw := LM_fr (hlk_out 64 92 rfl) hM
    obtain ⟨⟨ma, mb, hMm⟩, hMs, ⟨ri, hT⟩, hMg, ⟨mA_, mB_, mJ_, hMj⟩⟩ := id HM
    refine ⟨_, rfl, ⟨_, hMm.1⟩, 2, by decide, _, (t_X10_quake hMm hO hN ri_a ri_d ri_x ri_y ri_g ri_t), fun r2 nx2 l2 hq2 => ?_⟩
    obtain ⟨rfl, hq2⟩ := hq2
    rcases hq2 with ⟨e1, rfl, rfl⟩ | ⟨e1, e2, rfl, rfl⟩ | ⟨e1, e2, e3, rfl, rfl⟩ | ⟨e1, e2, e3, rfl, rfl⟩
    · exfalso; omega
    · exfalso; omega
    · exfalso; omega
    · skip
      exact ⟨rfl, (n + 1), (qN q n a d x y g t), (insO (fup (q 1) n d) o (fup (q 1) n d n) n), st, fc, pr, fa, sp, (sl 6), sg, tx, sm, sl, hn, hs, kd, dm, ln, lw, LC_fr (hlk_in rfl) HC, ⟨⟨ma, mb, rfl, rfl, rfl, rfl, rfl, rfl, rfl, (by show _ = some (oA 1 40 (fup (q 6) n 0)); rw [q6_same hB0]; exact hMm.2.2.2.2.2.2.2.1), hMm.2.2.2.2.2.2.2.2.1, rfl⟩, hMs, ⟨ri, hT⟩, hMg, ⟨mA_, mB_, mJ_, hMj⟩⟩, ⟨okQ_new hO c3 c1 c2, (fun j hj => (fup_ne _ _ (by omega)).trans (hB0 j (by omega))), hN, hS, hH, hD, hL, hfc, hsc, hsg, rfl, hsm, hsl, hX⟩, rfl⟩

set_option maxRecDepth 100000 in
set_option maxHeartbeats 4000000 in
theorem pr_blast {nx : Nat} {h : Nat → Option PC} {v b : Int} (ri_v : r32 v) (hb : b = 0 ∨ b = 1) (hL : LI nx h) : Pz yX9_blast yX10_blast cX9_blast cX10_blast 4 4 (some .int) (0, 0) (fun z => zI z) [zI v, zI b] nx h := by
  have hL0 := hL
  obtain ⟨n, q, o, st, fc, pr, fa, sp, sc, sg, tx, sm, sl, hn, hs, kd, dm, ln, lw, hC, hM, hK, rfl⟩ := hL
  obtain ⟨hO, hB0, hN, hS, hH, hD, hL, hfc, hsc, hsg, hsl6, hsm, hsl, hX⟩ := id hK
  subst hsl6
  have hXs : ∀ k, k < fc → sl k ≤ 48 ∧ fltZ (tx k) (sl k) = -6 := fun k hk => ⟨hsl k (by omega), (hX k hk).2.1⟩
  obtain ⟨⟨h0, h1⟩, hQ, hcJ, hcT, hcO, ⟨h42, h43⟩, ⟨h44, hFs⟩, hcW, hcG⟩ := id hC
  obtain ⟨pa, mi, rw_, pt, cl, u_, v_, sl_, ro_, be_, re_, C0, A0, B0, hJ, hre, h14, hCC, h12, h13⟩ := id hcJ
  obtain ⟨ta, g34, g35⟩ := id hcT
  obtain ⟨fo, de, hMo⟩ := id hcO
  obtain ⟨tu, su, h45, h46, h47, htu⟩ := id hcW
  obtain ⟨gn, hG⟩ := id hcG
  refine ⟨1, by decide, _, (t_X9_blast hQ hO h0 ri_v hb), fun r nx1 l1 hq => ?_⟩
  obtain ⟨rfl, hq⟩ := hq
  rcases hq with ⟨c1, rfl, rfl⟩ | ⟨j, c1, c2, rfl, rfl⟩
  · skip
    rw [hlk_nil]
    have HM := hM
    have HC := hC
    obtain ⟨⟨ma, mb, hMm⟩, hMs, ⟨ri, hT⟩, hMg, ⟨mA_, mB_, mJ_, hMj⟩⟩ := id HM
    refine ⟨_, rfl, ⟨_, hMm.1⟩, 2, by decide, _, (t_X10_blast hMm hO hN ri_v hb), fun r2 nx2 l2 hq2 => ?_⟩
    obtain ⟨rfl, hq2⟩ := hq2
    rcases hq2 with ⟨e1, rfl, rfl⟩ | ⟨j2, e1, e2, rfl, rfl⟩
    · rw [hlk_nil]
      exact ⟨rfl, n, q, o, st, fc, pr, fa, sp, (sl 6), sg, tx, sm, sl, hn, hs, kd, dm, ln, lw, HC, HM, ⟨hO, hB0, hN, hS, hH, hD, hL, hfc, hsc, hsg, rfl, hsm, hsl, hX⟩, rfl⟩
    · exfalso; omega
  · skip
    have HC : LC (hlk [(9, oA 1 40 (fup (q 6) j b))] h) n (fup q 6 (fup (q 6) j b)) o st fc pr fa sp (sl 6) sg tx sl hn hs kd dm ln lw := ⟨cA_fr (hlk_out 0 1 rfl) ⟨h0, h1⟩, ⟨hQ.1, hQ.2.1, hQ.2.2.1, hQ.2.2.2.1, hQ.2.2.2.2.1, hQ.2.2.2.2.2.1, hQ.2.2.2.2.2.2.1, rfl, hQ.2.2.2.2.2.2.2.2⟩, cJ_fr (hlk_out 11 33 rfl) hcJ, cT_fr (hlk_out 34 35 rfl) hcT, cO_fr (hlk_out 36 41 rfl) hcO, cS_fr (hlk_out 42 43 rfl) ⟨h42, h43⟩, cF_fr (hlk_out 44 44 rfl 44 (by decide) (by decide)) (hlk_up 93 rfl) ⟨h44, hFs⟩, cW_fr (hlk_out 45 47 rfl) hcW, cG_fr (hlk_out 48 63 rfl) hcG⟩
    have HM : LM (hlk [(9, oA 1 40 (fup (q 6) j b))] h) n q o st fc pr fa sp sm sl hn hs kd dm ln lw := LM_fr (hlk_out 64 92 rfl) hM
    obtain ⟨⟨ma, mb, hMm⟩, hMs, ⟨ri, hT⟩, hMg, ⟨mA_, mB_, mJ_, hMj⟩⟩ := id HM
    refine ⟨_, rfl, ⟨_, hMm.1⟩, 2, by decide, _, (t_X10_blast hMm hO hN ri_v hb), fun r2 nx2 l2 hq2 => ?_⟩
    obtain ⟨rfl, hq2⟩ := hq2
    rcases hq2 with ⟨e1, rfl, rfl⟩ | ⟨j2, e1, e2, rfl, rfl⟩
    · exfalso; omega
    · skip
      obtain rfl : j = j2 := by omega
      exact ⟨rfl, n, (fup q 6 (fup (q 6) j b)), o, st, fc, pr, fa, sp, (sl 6), sg, tx, sm, sl, hn, hs, kd, dm, ln, lw, LC_fr (hlk_in rfl) HC, ⟨⟨ma, mb, hMm.1, hMm.2.1, hMm.2.2.1, hMm.2.2.2.1, hMm.2.2.2.2.1, hMm.2.2.2.2.2.1, hMm.2.2.2.2.2.2.1, rfl, hMm.2.2.2.2.2.2.2.2.1, hMm.2.2.2.2.2.2.2.2.2⟩, hMs, ⟨ri, hT⟩, hMg, ⟨mA_, mB_, mJ_, hMj⟩⟩, ⟨okQ_bl hO hb, (fun i hi => (fup_ne _ _ (by omega)).trans (hB0 i hi)), hN, hS, hH, hD, hL, hfc, hsc, hsg, rfl, hsm, hsl, hX⟩, rfl⟩

set_option maxRecDepth 100000 in
set_option maxHeartbeats 4000000 in
theorem pr_mend {nx : Nat} {h : Nat → Option PC} {v b : Int} (ri_v : r32 v) (ri_b : r32 b) (hL : LI nx h) : Pz yX9_mend yX10_mend cX9_mend cX10_mend 4 4 (some .int) (0, 0) (fun z => zI z) [zI v, zI b] nx h := by
  have hL0 := hL
  obtain ⟨n, q, o, st, fc, pr, fa, sp, sc, sg, tx, sm, sl, hn, hs, kd, dm, ln, lw, hC, hM, hK, rfl⟩ := hL
  obtain ⟨hO, hB0, hN, hS, hH, hD, hL, hfc, hsc, hsg, hsl6, hsm, hsl, hX⟩ := id hK
  subst hsl6
  have hXs : ∀ k, k < fc → sl k ≤ 48 ∧ fltZ (tx k) (sl k) = -6 := fun k hk => ⟨hsl k (by omega), (hX k hk).2.1⟩
  obtain ⟨⟨h0, h1⟩, hQ, hcJ, hcT, hcO, ⟨h42, h43⟩, ⟨h44, hFs⟩, hcW, hcG⟩ := id hC
  obtain ⟨pa, mi, rw_, pt, cl, u_, v_, sl_, ro_, be_, re_, C0, A0, B0, hJ, hre, h14, hCC, h12, h13⟩ := id hcJ
  obtain ⟨ta, g34, g35⟩ := id hcT
  obtain ⟨fo, de, hMo⟩ := id hcO
  obtain ⟨tu, su, h45, h46, h47, htu⟩ := id hcW
  obtain ⟨gn, hG⟩ := id hcG
  refine ⟨2, by decide, _, (t_X9_mend hQ hO h0 ri_v ri_b), fun r nx1 l1 hq => ?_⟩
  obtain ⟨rfl, hq⟩ := hq
  rcases hq with ⟨c1, rfl, rfl⟩ | ⟨c1, c2, rfl, rfl⟩ | ⟨j, c1, c2, c3, rfl, rfl⟩
  · skip
    rw [hlk_nil]
    have HM := hM
    have HC := hC
    obtain ⟨⟨ma, mb, hMm⟩, hMs, ⟨ri, hT⟩, hMg, ⟨mA_, mB_, mJ_, hMj⟩⟩ := id HM
    refine ⟨_, rfl, ⟨_, hMm.1⟩, 2, by decide, _, (t_X10_mend hMm hO hN ri_v ri_b), fun r2 nx2 l2 hq2 => ?_⟩
    obtain ⟨rfl, hq2⟩ := hq2
    rcases hq2 with ⟨e1, rfl, rfl⟩ | ⟨e1, e2, rfl, rfl⟩ | ⟨j2, e1, e2, e3, rfl, rfl⟩
    · rw [hlk_nil]
      exact ⟨rfl, n, q, o, st, fc, pr, fa, sp, (sl 6), sg, tx, sm, sl, hn, hs, kd, dm, ln, lw, HC, HM, ⟨hO, hB0, hN, hS, hH, hD, hL, hfc, hsc, hsg, rfl, hsm, hsl, hX⟩, rfl⟩
    · exfalso; omega
    · exfalso; omega
  · skip
    rw [hlk_nil]
    have HM := hM
    have HC := hC
    obtain ⟨⟨ma, mb, hMm⟩, hMs, ⟨ri, hT⟩, hMg, ⟨mA_, mB_, mJ_, hMj⟩⟩ := id HM
    refine ⟨_, rfl, ⟨_, hMm.1⟩, 2, by decide, _, (t_X10_mend hMm hO hN ri_v ri_b), fun r2 nx2 l2 hq2 => ?_⟩
    obtain ⟨rfl, hq2⟩ := hq2
    rcases hq2 with ⟨e1, rfl, rfl⟩ | ⟨e1, e2, rfl, rfl⟩ | ⟨j2, e1, e2, e3, rfl, rfl⟩
    · exfalso; omega
    · rw [hlk_nil]
      exact ⟨rfl, n, q, o, st, fc, pr, fa, sp, (sl 6), sg, tx, sm, sl, hn, hs, kd, dm, ln, lw, HC, HM, ⟨hO, hB0, hN, hS, hH, hD, hL, hfc, hsc, hsg, rfl, hsm, hsl, hX⟩, rfl⟩
    · exfalso; omega
  · skip
    have HC : LC (hlk [(7, oA 0 40 (fup (q 4) j b))] h) n (fup q 4 (fup (q 4) j b)) o st fc pr fa sp (sl 6) sg tx sl hn hs kd dm ln lw := ⟨cA_fr (hlk_out 0 1 rfl) ⟨h0, h1⟩, ⟨hQ.1, hQ.2.1, hQ.2.2.1, hQ.2.2.2.1, hQ.2.2.2.2.1, rfl, hQ.2.2.2.2.2.2.1, hQ.2.2.2.2.2.2.2.1, hQ.2.2.2.2.2.2.2.2⟩, cJ_fr (hlk_out 11 33 rfl) hcJ, cT_fr (hlk_out 34 35 rfl) hcT, cO_fr (hlk_out 36 41 rfl) hcO, cS_fr (hlk_out 42 43 rfl) ⟨h42, h43⟩, cF_fr (hlk_out 44 44 rfl 44 (by decide) (by decide)) (hlk_up 93 rfl) ⟨h44, hFs⟩, cW_fr (hlk_out 45 47 rfl) hcW, cG_fr (hlk_out 48 63 rfl) hcG⟩
    have HM : LM (hlk [(7, oA 0 40 (fup (q 4) j b))] h) n q o st fc pr fa sp sm sl hn hs kd dm ln lw := LM_fr (hlk_out 64 92 rfl) hM
    obtain ⟨⟨ma, mb, hMm⟩, hMs, ⟨ri, hT⟩, hMg, ⟨mA_, mB_, mJ_, hMj⟩⟩ := id HM
    refine ⟨_, rfl, ⟨_, hMm.1⟩, 2, by decide, _, (t_X10_mend hMm hO hN ri_v ri_b), fun r2 nx2 l2 hq2 => ?_⟩
    obtain ⟨rfl, hq2⟩ := hq2
    rcases hq2 with ⟨e1, rfl, rfl⟩ | ⟨e1, e2, rfl, rfl⟩ | ⟨j2, e1, e2, e3, rfl, rfl⟩
    · exfalso; omega
    · exfalso; omega
    · skip
      obtain rfl : j = j2 := by omega
      exact ⟨rfl, n, (fup q 4 (fup (q 4) j b)), o, st, fc, pr, fa, sp, (sl 6), sg, tx, sm, sl, hn, hs, kd, dm, ln, lw, LC_fr (hlk_in rfl) HC, ⟨⟨ma, mb, hMm.1, hMm.2.1, hMm.2.2.1, hMm.2.2.2.1, hMm.2.2.2.2.1, rfl, hMm.2.2.2.2.2.2.1, hMm.2.2.2.2.2.2.2.1, hMm.2.2.2.2.2.2.2.2.1, hMm.2.2.2.2.2.2.2.2.2⟩, hMs, ⟨ri, hT⟩, hMg, ⟨mA_, mB_, mJ_, hMj⟩⟩, ⟨okQ_me hO c3, hB0, hN, hS, hH, hD, hL, hfc, hsc, hsg, rfl, hsm, hsl, hX⟩, rfl⟩

set_option maxRecDepth 100000 in
set_option maxHeartbeats 4000000 in
theorem pr_set {nx : Nat} {h : Nat → Option PC} {a b : Int} (ri_a : r32 a) (ri_b : r32 b) (hL : LI nx h) : Pz yX9_set yX10_set cX9_set cX10_set 4 4 (some .int) (0, 0) (fun z => zI z) [zI a, zI b] nx h := by
  have hL0 := hL
  obtain ⟨n, q, o, st, fc, pr, fa, sp, sc, sg, tx, sm, sl, hn, hs, kd, dm, ln, lw, hC, hM, hK, rfl⟩ := hL
  obtain ⟨hO, hB0, hN, hS, hH, hD, hL, hfc, hsc, hsg, hsl6, hsm, hsl, hX⟩ := id hK
  subst hsl6
  have hXs : ∀ k, k < fc → sl k ≤ 48 ∧ fltZ (tx k) (sl k) = -6 := fun k hk => ⟨hsl k (by omega), (hX k hk).2.1⟩
  obtain ⟨⟨h0, h1⟩, hQ, hcJ, hcT, hcO, ⟨h42, h43⟩, ⟨h44, hFs⟩, hcW, hcG⟩ := id hC
  obtain ⟨pa, mi, rw_, pt, cl, u_, v_, sl_, ro_, be_, re_, C0, A0, B0, hJ, hre, h14, hCC, h12, h13⟩ := id hcJ
  obtain ⟨ta, g34, g35⟩ := id hcT
  obtain ⟨fo, de, hMo⟩ := id hcO
  obtain ⟨tu, su, h45, h46, h47, htu⟩ := id hcW
  obtain ⟨gn, hG⟩ := id hcG
  refine ⟨1, by decide, _, (t_X9_set h0 h1 hN ri_a ri_b), fun r nx1 l1 hq => ?_⟩
  obtain ⟨rfl, hq⟩ := hq
  rcases hq with ⟨c1, rfl, rfl⟩ | ⟨j, c1, c2, c3, c4, rfl, rfl⟩
  · skip
    rw [hlk_nil]
    have HM := hM
    have HC := hC
    obtain ⟨⟨ma, mb, hMm⟩, hMs, ⟨ri, hT⟩, hMg, ⟨mA_, mB_, mJ_, hMj⟩⟩ := id HM
    refine ⟨_, rfl, ⟨_, hMm.1⟩, 1, by decide, _, (t_X10_set hMm hO hN ri_a ri_b), fun r2 nx2 l2 hq2 => ?_⟩
    obtain ⟨rfl, hq2⟩ := hq2
    rcases hq2 with ⟨e1, rfl, rfl⟩ | ⟨j2, e1, e2, e3, e4, rfl, rfl⟩
    · rw [hlk_nil]
      exact ⟨rfl, n, q, o, st, fc, pr, fa, sp, (sl 6), sg, tx, sm, sl, hn, hs, kd, dm, ln, lw, HC, HM, ⟨hO, hB0, hN, hS, hH, hD, hL, hfc, hsc, hsg, rfl, hsm, hsl, hX⟩, rfl⟩
    · exfalso; first | exact c1 ⟨j2, e1, e2, e3, e4⟩ | exact e1 ⟨j, c1, c2, c3, c4⟩
  · skip
    have HC : LC (hlk [(1, oA 0 5 (fup st j b))] h) n q o (fup st j b) fc pr fa sp (sl 6) sg tx sl hn hs kd dm ln lw := ⟨⟨h0, rfl⟩, isQ_fr (hlk_out 2 10 rfl) hQ, cJ_fr (hlk_out 11 33 rfl) hcJ, cT_fr (hlk_out 34 35 rfl) hcT, cO_fr (hlk_out 36 41 rfl) hcO, cS_fr (hlk_out 42 43 rfl) ⟨h42, h43⟩, cF_fr (hlk_out 44 44 rfl 44 (by decide) (by decide)) (hlk_up 93 rfl) ⟨h44, hFs⟩, cW_fr (hlk_out 45 47 rfl) hcW, cG_fr (hlk_out 48 63 rfl) hcG⟩
    have HM : LM (hlk [(1, oA 0 5 (fup st j b))] h) n q o st fc pr fa sp sm sl hn hs kd dm ln lw := LM_fr (hlk_out 64 92 rfl) hM
    obtain ⟨⟨ma, mb, hMm⟩, hMs, ⟨ri, hT⟩, hMg, ⟨mA_, mB_, mJ_, hMj⟩⟩ := id HM
    refine ⟨_, rfl, ⟨_, hMm.1⟩, 1, by decide, _, (t_X10_set hMm hO hN ri_a ri_b), fun r2 nx2 l2 hq2 => ?_⟩
    obtain ⟨rfl, hq2⟩ := hq2
    rcases hq2 with ⟨e1, rfl, rfl⟩ | ⟨j2, e1, e2, e3, e4, rfl, rfl⟩
    · exfalso; first | exact c1 ⟨j2, e1, e2, e3, e4⟩ | exact e1 ⟨j, c1, c2, c3, c4⟩
    · skip
      obtain rfl : j = j2 := by omega
      exact ⟨rfl, n, q, o, (fup st j b), fc, pr, fa, sp, (sl 6), sg, tx, sm, sl, hn, hs, kd, dm, ln, lw, LC_fr (hlk_in rfl) HC, ⟨⟨ma, mb, hMm.1, hMm.2.1, hMm.2.2.1, hMm.2.2.2.1, hMm.2.2.2.2.1, hMm.2.2.2.2.2.1, hMm.2.2.2.2.2.2.1, hMm.2.2.2.2.2.2.2.1, rfl, hMm.2.2.2.2.2.2.2.2.2⟩, hMs, ⟨ri, hT⟩, hMg, ⟨mA_, mB_, mJ_, hMj⟩⟩, ⟨hO, hB0, okN_up hN c2 c3 c4, hS, hH, hD, hL, hfc, hsc, hsg, rfl, hsm, hsl, hX⟩, rfl⟩

set_option maxRecDepth 100000 in
set_option maxHeartbeats 4000000 in
theorem pr_step {nx : Nat} {h : Nat → Option PC} {a b v : Int} (ri_a : r32 a) (ri_b : r32 b) (ri_v : r32 v) (hL : LI nx h) : Pz yX9_step yX10_step cX9_step cX10_step 6 5 (some .int) (0, 0) (fun z => zI z) [zI a, zI b, zI v] nx h := by
  have hL0 := hL
  obtain ⟨n, q, o, st, fc, pr, fa, sp, sc, sg, tx, sm, sl, hn, hs, kd, dm, ln, lw, hC, hM, hK, rfl⟩ := hL
  obtain ⟨hO, hB0, hN, hS, hH, hD, hL, hfc, hsc, hsg, hsl6, hsm, hsl, hX⟩ := id hK
  subst hsl6
  have hXs : ∀ k, k < fc → sl k ≤ 48 ∧ fltZ (tx k) (sl k) = -6 := fun k hk => ⟨hsl k (by omega), (hX k hk).2.1⟩
  obtain ⟨⟨h0, h1⟩, hQ, hcJ, hcT, hcO, ⟨h42, h43⟩, ⟨h44, hFs⟩, hcW, hcG⟩ := id hC
  obtain ⟨pa, mi, rw_, pt, cl, u_, v_, sl_, ro_, be_, re_, C0, A0, B0, hJ, hre, h14, hCC, h12, h13⟩ := id hcJ
  obtain ⟨ta, g34, g35⟩ := id hcT
  obtain ⟨fo, de, hMo⟩ := id hcO
  obtain ⟨tu, su, h45, h46, h47, htu⟩ := id hcW
  obtain ⟨gn, hG⟩ := id hcG
  rcases (show a = 0 ∨ a = 1 ∨ a = 2 ∨ (a < 0 ∨ 2 < a) by omega) with rfl | rfl | rfl | ha
  · skip
    refine ⟨1, by decide, _, (t_X9_step0 hQ hO hMo hS h0 ri_b ri_v), fun r nx1 l1 hq => ?_⟩
    obtain ⟨rfl, hq⟩ := hq
    rcases hq with ⟨c1, rfl, rfl⟩ | ⟨j, c1, c2, c3, rfl, rfl⟩
    · skip
      rw [hlk_nil]
      have HM := hM
      have HC := hC
      obtain ⟨⟨ma, mb, hMm⟩, hMs, ⟨ri, hT⟩, hMg, ⟨mA_, mB_, mJ_, hMj⟩⟩ := id HM
      refine ⟨_, rfl, ⟨_, hMm.1⟩, 1, by decide, _, (t_X10_step0 hMm hO hN hMs hS ri_b ri_v), fun r2 nx2 l2 hq2 => ?_⟩
      obtain ⟨rfl, hq2⟩ := hq2
      rcases hq2 with ⟨e1, rfl, rfl⟩ | ⟨j2, e1, e2, e3, rfl, rfl⟩
      · rw [hlk_nil]
        exact ⟨rfl, n, q, o, st, fc, pr, fa, sp, (sl 6), sg, tx, sm, sl, hn, hs, kd, dm, ln, lw, HC, HM, ⟨hO, hB0, hN, hS, hH, hD, hL, hfc, hsc, hsg, rfl, hsm, hsl, hX⟩, rfl⟩
      · exfalso; omega
    · skip
      have HC : LC (hlk [(37, oA 0 10 (fup pr j v))] h) n q o st fc (fup pr j v) fa sp (sl 6) sg tx sl hn hs kd dm ln lw := ⟨cA_fr (hlk_out 0 1 rfl) ⟨h0, h1⟩, isQ_fr (hlk_out 2 10 rfl) hQ, cJ_fr (hlk_out 11 33 rfl) hcJ, cT_fr (hlk_out 34 35 rfl) hcT, ⟨fo, de, hMo.1, rfl, hMo.2.2.1, hMo.2.2.2.1, hMo.2.2.2.2.1, hMo.2.2.2.2.2⟩, cS_fr (hlk_out 42 43 rfl) ⟨h42, h43⟩, cF_fr (hlk_out 44 44 rfl 44 (by decide) (by decide)) (hlk_up 93 rfl) ⟨h44, hFs⟩, cW_fr (hlk_out 45 47 rfl) hcW, cG_fr (hlk_out 48 63 rfl) hcG⟩
      have HM : LM (hlk [(37, oA 0 10 (fup pr j v))] h) n q o st fc pr fa sp sm sl hn hs kd dm ln lw := LM_fr (hlk_out 64 92 rfl) hM
      obtain ⟨⟨ma, mb, hMm⟩, hMs, ⟨ri, hT⟩, hMg, ⟨mA_, mB_, mJ_, hMj⟩⟩ := id HM
      refine ⟨_, rfl, ⟨_, hMm.1⟩, 1, by decide, _, (t_X10_step0 hMm hO hN hMs hS ri_b ri_v), fun r2 nx2 l2 hq2 => ?_⟩
      obtain ⟨rfl, hq2⟩ := hq2
      rcases hq2 with ⟨e1, rfl, rfl⟩ | ⟨j2, e1, e2, e3, rfl, rfl⟩
      · exfalso; omega
      · skip
        obtain rfl : j = j2 := by omega
        exact ⟨rfl, n, q, o, st, fc, (fup pr j v), fa, sp, (sl 6), sg, tx, sm, sl, hn, hs, kd, dm, ln, lw, LC_fr (hlk_in rfl) HC, ⟨⟨ma, mb, hMm⟩, ⟨rfl, hMs.2.1, hMs.2.2⟩, ⟨ri, hT⟩, hMg, ⟨mA_, mB_, mJ_, hMj⟩⟩, ⟨hO, hB0, hN, ⟨fup_b hS.1 c3, hS.2.1, hS.2.2⟩, hH, hD, hL, hfc, hsc, hsg, rfl, hsm, hsl, hX⟩, rfl⟩
  · skip
    refine ⟨1, by decide, _, (t_X9_step1 hQ hO hMo hS h0 ri_b ri_v), fun r nx1 l1 hq => ?_⟩
    obtain ⟨rfl, hq⟩ := hq
    rcases hq with ⟨c1, rfl, rfl⟩ | ⟨j, c1, c2, c3, rfl, rfl⟩
    · skip
      rw [hlk_nil]
      have HM := hM
      have HC := hC
      obtain ⟨⟨ma, mb, hMm⟩, hMs, ⟨ri, hT⟩, hMg, ⟨mA_, mB_, mJ_, hMj⟩⟩ := id HM
      refine ⟨_, rfl, ⟨_, hMm.1⟩, 1, by decide, _, (t_X10_step1 hMm hO hN hMs hS ri_b ri_v), fun r2 nx2 l2 hq2 => ?_⟩
      obtain ⟨rfl, hq2⟩ := hq2
      rcases hq2 with ⟨e1, rfl, rfl⟩ | ⟨j2, e1, e2, e3, rfl, rfl⟩
      · rw [hlk_nil]
        exact ⟨rfl, n, q, o, st, fc, pr, fa, sp, (sl 6), sg, tx, sm, sl, hn, hs, kd, dm, ln, lw, HC, HM, ⟨hO, hB0, hN, hS, hH, hD, hL, hfc, hsc, hsg, rfl, hsm, hsl, hX⟩, rfl⟩
      · exfalso; omega
    · skip
      have HC : LC (hlk [(38, oA 0 8 (fup fa j v))] h) n q o st fc pr (fup fa j v) sp (sl 6) sg tx sl hn hs kd dm ln lw := ⟨cA_fr (hlk_out 0 1 rfl) ⟨h0, h1⟩, isQ_fr (hlk_out 2 10 rfl) hQ, cJ_fr (hlk_out 11 33 rfl) hcJ, cT_fr (hlk_out 34 35 rfl) hcT, ⟨fo, de, hMo.1, hMo.2.1, rfl, hMo.2.2.2.1, hMo.2.2.2.2.1, hMo.2.2.2.2.2⟩, cS_fr (hlk_out 42 43 rfl) ⟨h42, h43⟩, cF_fr (hlk_out 44 44 rfl 44 (by decide) (by decide)) (hlk_up 93 rfl) ⟨h44, hFs⟩, cW_fr (hlk_out 45 47 rfl) hcW, cG_fr (hlk_out 48 63 rfl) hcG⟩
      have HM : LM (hlk [(38, oA 0 8 (fup fa j v))] h) n q o st fc pr fa sp sm sl hn hs kd dm ln lw := LM_fr (hlk_out 64 92 rfl) hM
      obtain ⟨⟨ma, mb, hMm⟩, hMs, ⟨ri, hT⟩, hMg, ⟨mA_, mB_, mJ_, hMj⟩⟩ := id HM
      refine ⟨_, rfl, ⟨_, hMm.1⟩, 1, by decide, _, (t_X10_step1 hMm hO hN hMs hS ri_b ri_v), fun r2 nx2 l2 hq2 => ?_⟩
      obtain ⟨rfl, hq2⟩ := hq2
      rcases hq2 with ⟨e1, rfl, rfl⟩ | ⟨j2, e1, e2, e3, rfl, rfl⟩
      · exfalso; omega
      · skip
        obtain rfl : j = j2 := by omega
        exact ⟨rfl, n, q, o, st, fc, pr, (fup fa j v), sp, (sl 6), sg, tx, sm, sl, hn, hs, kd, dm, ln, lw, LC_fr (hlk_in rfl) HC, ⟨⟨ma, mb, hMm⟩, ⟨hMs.1, rfl, hMs.2.2⟩, ⟨ri, hT⟩, hMg, ⟨mA_, mB_, mJ_, hMj⟩⟩, ⟨hO, hB0, hN, ⟨hS.1, fup_b hS.2.1 c3, hS.2.2⟩, hH, hD, hL, hfc, hsc, hsg, rfl, hsm, hsl, hX⟩, rfl⟩
  · skip
    refine ⟨1, by decide, _, (t_X9_step2 hQ hO hMo hS h0 ri_b ri_v), fun r nx1 l1 hq => ?_⟩
    obtain ⟨rfl, hq⟩ := hq
    rcases hq with ⟨c1, rfl, rfl⟩ | ⟨j, c1, c2, c3, rfl, rfl⟩
    · skip
      rw [hlk_nil]
      have HM := hM
      have HC := hC
      obtain ⟨⟨ma, mb, hMm⟩, hMs, ⟨ri, hT⟩, hMg, ⟨mA_, mB_, mJ_, hMj⟩⟩ := id HM
      refine ⟨_, rfl, ⟨_, hMm.1⟩, 1, by decide, _, (t_X10_step2 hMm hO hN hMs hS ri_b ri_v), fun r2 nx2 l2 hq2 => ?_⟩
      obtain ⟨rfl, hq2⟩ := hq2
      rcases hq2 with ⟨e1, rfl, rfl⟩ | ⟨j2, e1, e2, e3, rfl, rfl⟩
      · rw [hlk_nil]
        exact ⟨rfl, n, q, o, st, fc, pr, fa, sp, (sl 6), sg, tx, sm, sl, hn, hs, kd, dm, ln, lw, HC, HM, ⟨hO, hB0, hN, hS, hH, hD, hL, hfc, hsc, hsg, rfl, hsm, hsl, hX⟩, rfl⟩
      · exfalso; omega
    · skip
      have HC : LC (hlk [(39, oA 0 8 (fup sp j v))] h) n q o st fc pr fa (fup sp j v) (sl 6) sg tx sl hn hs kd dm ln lw := ⟨cA_fr (hlk_out 0 1 rfl) ⟨h0, h1⟩, isQ_fr (hlk_out 2 10 rfl) hQ, cJ_fr (hlk_out 11 33 rfl) hcJ, cT_fr (hlk_out 34 35 rfl) hcT, ⟨fo, de, hMo.1, hMo.2.1, hMo.2.2.1, rfl, hMo.2.2.2.2.1, hMo.2.2.2.2.2⟩, cS_fr (hlk_out 42 43 rfl) ⟨h42, h43⟩, cF_fr (hlk_out 44 44 rfl 44 (by decide) (by decide)) (hlk_up 93 rfl) ⟨h44, hFs⟩, cW_fr (hlk_out 45 47 rfl) hcW, cG_fr (hlk_out 48 63 rfl) hcG⟩
      have HM : LM (hlk [(39, oA 0 8 (fup sp j v))] h) n q o st fc pr fa sp sm sl hn hs kd dm ln lw := LM_fr (hlk_out 64 92 rfl) hM
      obtain ⟨⟨ma, mb, hMm⟩, hMs, ⟨ri, hT⟩, hMg, ⟨mA_, mB_, mJ_, hMj⟩⟩ := id HM
      refine ⟨_, rfl, ⟨_, hMm.1⟩, 1, by decide, _, (t_X10_step2 hMm hO hN hMs hS ri_b ri_v), fun r2 nx2 l2 hq2 => ?_⟩
      obtain ⟨rfl, hq2⟩ := hq2
      rcases hq2 with ⟨e1, rfl, rfl⟩ | ⟨j2, e1, e2, e3, rfl, rfl⟩
      · exfalso; omega
      · skip
        obtain rfl : j = j2 := by omega
        exact ⟨rfl, n, q, o, st, fc, pr, fa, (fup sp j v), (sl 6), sg, tx, sm, sl, hn, hs, kd, dm, ln, lw, LC_fr (hlk_in rfl) HC, ⟨⟨ma, mb, hMm⟩, ⟨hMs.1, hMs.2.1, rfl⟩, ⟨ri, hT⟩, hMg, ⟨mA_, mB_, mJ_, hMj⟩⟩, ⟨hO, hB0, hN, ⟨hS.1, hS.2.1, fup_b hS.2.2 c3⟩, hH, hD, hL, hfc, hsc, hsg, rfl, hsm, hsl, hX⟩, rfl⟩
  · refine ⟨1, by decide, _, (t_X9_step3 hQ hO hMo hS h0 ri_a ri_b ri_v ha), fun r nx1 l1 hq => ?_⟩
    obtain ⟨rfl, rfl, rfl⟩ := hq
    rw [hlk_nil]
    have HM := hM
    have HC := hC
    obtain ⟨⟨ma, mb, hMm⟩, hMs, ⟨ri, hT⟩, hMg, ⟨mA_, mB_, mJ_, hMj⟩⟩ := id HM
    refine ⟨_, rfl, ⟨_, hMm.1⟩, 1, by decide, _, (t_X10_step3 hMm hO hN hMs hS ri_a ri_b ri_v ha), fun r2 nx2 l2 hq2 => ?_⟩
    obtain ⟨rfl, rfl, rfl⟩ := hq2
    rw [hlk_nil]
    exact ⟨rfl, n, q, o, st, fc, pr, fa, sp, (sl 6), sg, tx, sm, sl, hn, hs, kd, dm, ln, lw, HC, HM, ⟨hO, hB0, hN, hS, hH, hD, hL, hfc, hsc, hsg, rfl, hsm, hsl, hX⟩, rfl⟩

set_option maxRecDepth 100000 in
set_option maxHeartbeats 4000000 in
theorem pr_say {nx : Nat} {h : Nat → Option PC} {v : Int} (ri_v : r32 v) (hL : LI nx h) : Pz yX9_say yX10_say cX9_say cX10_say 2 2 (some .int) (0, 0) (fun z => zI z) [zI v] nx h := by
  have hL0 := hL
  obtain ⟨n, q, o, st, fc, pr, fa, sp, sc, sg, tx, sm, sl, hn, hs, kd, dm, ln, lw, hC, hM, hK, rfl⟩ := hL
  obtain ⟨hO, hB0, hN, hS, hH, hD, hL, hfc, hsc, hsg, hsl6, hsm, hsl, hX⟩ := id hK
  subst hsl6
  have hXs : ∀ k, k < fc → sl k ≤ 48 ∧ fltZ (tx k) (sl k) = -6 := fun k hk => ⟨hsl k (by omega), (hX k hk).2.1⟩
  obtain ⟨⟨h0, h1⟩, hQ, hcJ, hcT, hcO, ⟨h42, h43⟩, ⟨h44, hFs⟩, hcW, hcG⟩ := id hC
  obtain ⟨pa, mi, rw_, pt, cl, u_, v_, sl_, ro_, be_, re_, C0, A0, B0, hJ, hre, h14, hCC, h12, h13⟩ := id hcJ
  obtain ⟨ta, g34, g35⟩ := id hcT
  obtain ⟨fo, de, hMo⟩ := id hcO
  obtain ⟨tu, su, h45, h46, h47, htu⟩ := id hcW
  obtain ⟨gn, hG⟩ := id hcG
  refine ⟨1, by decide, _, (t_X9_say h42 h43 hsc hsg h0 ri_v), fun r nx1 l1 hq => ?_⟩
  obtain ⟨rfl, hq⟩ := hq
  rcases hq with ⟨c1, rfl, rfl⟩ | ⟨c1, c2, rfl, rfl⟩ | ⟨c1, c2, rfl, rfl⟩
  · skip
    rw [hlk_nil]
    have HM := hM
    have HC := hC
    obtain ⟨⟨ma, mb, hMm⟩, hMs, ⟨ri, hT⟩, hMg, ⟨mA_, mB_, mJ_, hMj⟩⟩ := id HM
    refine ⟨_, rfl, ⟨_, hMm.1⟩, 1, by decide, _, (t_X10_say hMm hO hN hT hsl ri_v), fun r2 nx2 l2 hq2 => ?_⟩
    obtain ⟨rfl, hq2⟩ := hq2
    rcases hq2 with ⟨e1, rfl, rfl⟩ | ⟨e1, e2, rfl, rfl⟩ | ⟨e1, e2, rfl, rfl⟩
    · rw [hlk_nil]
      exact ⟨rfl, n, q, o, st, fc, pr, fa, sp, (sl 6), sg, tx, sm, sl, hn, hs, kd, dm, ln, lw, HC, HM, ⟨hO, hB0, hN, hS, hH, hD, hL, hfc, hsc, hsg, rfl, hsm, hsl, hX⟩, rfl⟩
    · exfalso; omega
    · exfalso; omega
  · skip
    rw [hlk_nil]
    have HM := hM
    have HC := hC
    obtain ⟨⟨ma, mb, hMm⟩, hMs, ⟨ri, hT⟩, hMg, ⟨mA_, mB_, mJ_, hMj⟩⟩ := id HM
    refine ⟨_, rfl, ⟨_, hMm.1⟩, 1, by decide, _, (t_X10_say hMm hO hN hT hsl ri_v), fun r2 nx2 l2 hq2 => ?_⟩
    obtain ⟨rfl, hq2⟩ := hq2
    rcases hq2 with ⟨e1, rfl, rfl⟩ | ⟨e1, e2, rfl, rfl⟩ | ⟨e1, e2, rfl, rfl⟩
    · exfalso; omega
    · rw [hlk_nil]
      exact ⟨rfl, n, q, o, st, fc, pr, fa, sp, (sl 6), sg, tx, sm, sl, hn, hs, kd, dm, ln, lw, HC, HM, ⟨hO, hB0, hN, hS, hH, hD, hL, hfc, hsc, hsg, rfl, hsm, hsl, hX⟩, rfl⟩
    · exfalso; omega
  · skip
    have HC : LC (hlk [(42, oO 7 [zI (((sl 6 : Nat) : Int) + 1), zR 43]), (43, oA 0 48 (fup sg (sl 6) v))] h) n q o st fc pr fa sp (sl 6 + 1) (fup sg (sl 6) v) tx (fup sl 6 (sl 6 + 1)) hn hs kd dm ln lw := ⟨cA_fr (hlk_out 0 1 rfl) ⟨h0, h1⟩, isQ_fr (hlk_out 2 10 rfl) hQ, cJ_fr (hlk_out 11 33 rfl) hcJ, cT_fr (hlk_out 34 35 rfl) hcT, cO_fr (hlk_out 36 41 rfl) hcO, ⟨rfl, rfl⟩, ⟨h44, fun k hk => isFt_sl (isFt_fr (fun j a_ b_ => hlk_up 93 rfl j (by omega)) (hFs k hk)) rfl (fup_ne _ _ (by omega))⟩, cW_fr (hlk_out 45 47 rfl) hcW, cG_fr (hlk_out 48 63 rfl) hcG⟩
    have HM : LM (hlk [(42, oO 7 [zI (((sl 6 : Nat) : Int) + 1), zR 43]), (43, oA 0 48 (fup sg (sl 6) v))] h) n q o st fc pr fa sp sm sl hn hs kd dm ln lw := LM_fr (hlk_out 64 92 rfl) hM
    obtain ⟨⟨ma, mb, hMm⟩, hMs, ⟨ri, hT⟩, hMg, ⟨mA_, mB_, mJ_, hMj⟩⟩ := id HM
    refine ⟨_, rfl, ⟨_, hMm.1⟩, 1, by decide, _, (t_X10_say hMm hO hN hT hsl ri_v), fun r2 nx2 l2 hq2 => ?_⟩
    obtain ⟨rfl, hq2⟩ := hq2
    rcases hq2 with ⟨e1, rfl, rfl⟩ | ⟨e1, e2, rfl, rfl⟩ | ⟨e1, e2, rfl, rfl⟩
    · exfalso; omega
    · exfalso; omega
    · skip
      exact ⟨rfl, n, q, o, st, fc, pr, fa, sp, (sl 6 + 1), (fup sg (sl 6) v), tx, (fup sm (288 + sl 6) v), (fup sl 6 (sl 6 + 1)), hn, hs, kd, dm, ln, lw, LC_fr (hlk_in rfl) HC, ⟨⟨ma, mb, hMm⟩, hMs, ⟨ri, rfl, congrArg (fun z => some (oA 0 7 z)) (sl_up sl 6 (sl 6 + 1)), hT.2.2⟩, hMg, ⟨mA_, mB_, mJ_, hMj⟩⟩, ⟨hO, hB0, hN, hS, hH, hD, hL, hfc, (by omega), fup_n hsg c1, fup_self _ _ _, sm_say hsm, sl_b hsl (by omega), okX_sl (okX_sm hX hfc hsl) hfc⟩, rfl⟩

set_option maxRecDepth 100000 in
set_option maxHeartbeats 4000000 in
theorem pr_wipe {nx : Nat} {h : Nat → Option PC}   (hL : LI nx h) : Pz yX9_wipe yX10_wipe cX9_wipe cX10_wipe 2 2 (some .int) (0, 0) (fun z => zI z) [] nx h := by
  have hL0 := hL
  obtain ⟨n, q, o, st, fc, pr, fa, sp, sc, sg, tx, sm, sl, hn, hs, kd, dm, ln, lw, hC, hM, hK, rfl⟩ := hL
  obtain ⟨hO, hB0, hN, hS, hH, hD, hL, hfc, hsc, hsg, hsl6, hsm, hsl, hX⟩ := id hK
  subst hsl6
  have hXs : ∀ k, k < fc → sl k ≤ 48 ∧ fltZ (tx k) (sl k) = -6 := fun k hk => ⟨hsl k (by omega), (hX k hk).2.1⟩
  obtain ⟨⟨h0, h1⟩, hQ, hcJ, hcT, hcO, ⟨h42, h43⟩, ⟨h44, hFs⟩, hcW, hcG⟩ := id hC
  obtain ⟨pa, mi, rw_, pt, cl, u_, v_, sl_, ro_, be_, re_, C0, A0, B0, hJ, hre, h14, hCC, h12, h13⟩ := id hcJ
  obtain ⟨ta, g34, g35⟩ := id hcT
  obtain ⟨fo, de, hMo⟩ := id hcO
  obtain ⟨tu, su, h45, h46, h47, htu⟩ := id hcW
  obtain ⟨gn, hG⟩ := id hcG
  refine ⟨0, by decide, _, (t_X9_wipe h42 h43 hsc hsg h0), fun r nx1 l1 hq => ?_⟩
  obtain ⟨rfl, rfl, rfl⟩ := hq
  have HC : LC (hlk [(42, oO 7 [zI 0, zR 43])] h) n q o st fc pr fa sp 0 sg tx (fup sl 6 0) hn hs kd dm ln lw := ⟨cA_fr (hlk_out 0 1 rfl) ⟨h0, h1⟩, isQ_fr (hlk_out 2 10 rfl) hQ, cJ_fr (hlk_out 11 33 rfl) hcJ, cT_fr (hlk_out 34 35 rfl) hcT, cO_fr (hlk_out 36 41 rfl) hcO, ⟨rfl, h43⟩, ⟨h44, fun k hk => isFt_sl (isFt_fr (fun j a_ b_ => hlk_up 93 rfl j (by omega)) (hFs k hk)) rfl (fup_ne _ _ (by omega))⟩, cW_fr (hlk_out 45 47 rfl) hcW, cG_fr (hlk_out 48 63 rfl) hcG⟩
  have HM : LM (hlk [(42, oO 7 [zI 0, zR 43])] h) n q o st fc pr fa sp sm sl hn hs kd dm ln lw := LM_fr (hlk_out 64 92 rfl) hM
  obtain ⟨⟨ma, mb, hMm⟩, hMs, ⟨ri, hT⟩, hMg, ⟨mA_, mB_, mJ_, hMj⟩⟩ := id HM
  refine ⟨_, rfl, ⟨_, hMm.1⟩, 0, by decide, _, (t_X10_wipe hMm hO hN hT hsl), fun r2 nx2 l2 hq2 => ?_⟩
  obtain ⟨rfl, rfl, rfl⟩ := hq2
  exact ⟨rfl, n, q, o, st, fc, pr, fa, sp, 0, sg, tx, sm, (fup sl 6 0), hn, hs, kd, dm, ln, lw, LC_fr (hlk_in rfl) HC, ⟨⟨ma, mb, hMm⟩, hMs, ⟨ri, hT.1, congrArg (fun z => some (oA 0 7 z)) (sl_up sl 6 0), hT.2.2⟩, hMg, ⟨mA_, mB_, mJ_, hMj⟩⟩, ⟨hO, hB0, hN, hS, hH, hD, hL, hfc, (by omega), (fun i hi => absurd hi (Nat.not_lt_zero _)), fup_self _ _ _, (fun i hi => absurd hi (Nat.not_lt_zero _)), sl_b hsl (by omega), okX_sl hX hfc⟩, rfl⟩

set_option maxRecDepth 100000 in
set_option maxHeartbeats 4000000 in
theorem pr_house {nx : Nat} {h : Nat → Option PC} {x y k w p : Int} (ri_x : r32 x) (ri_y : r32 y) (ri_k : r32 k) (ri_w : r32 w) (ri_p : r32 p) (hL : LI nx h) : Pz yX9_house yX10_house cX9_house cX10_house 6 6 (some .int) (0, 0) (fun z => zI z) [zI x, zI y, zI k, zI w, zI p] nx h := by
  have hL0 := hL
  obtain ⟨n, q, o, st, fc, pr, fa, sp, sc, sg, tx, sm, sl, hn, hs, kd, dm, ln, lw, hC, hM, hK, rfl⟩ := hL
  obtain ⟨hO, hB0, hN, hS, hH, hD, hL, hfc, hsc, hsg, hsl6, hsm, hsl, hX⟩ := id hK
  subst hsl6
  have hXs : ∀ k, k < fc → sl k ≤ 48 ∧ fltZ (tx k) (sl k) = -6 := fun k hk => ⟨hsl k (by omega), (hX k hk).2.1⟩
  obtain ⟨⟨h0, h1⟩, hQ, hcJ, hcT, hcO, ⟨h42, h43⟩, ⟨h44, hFs⟩, hcW, hcG⟩ := id hC
  obtain ⟨pa, mi, rw_, pt, cl, u_, v_, sl_, ro_, be_, re_, C0, A0, B0, hJ, hre, h14, hCC, h12, h13⟩ := id hcJ
  obtain ⟨ta, g34, g35⟩ := id hcT
  obtain ⟨fo, de, hMo⟩ := id hcO
  obtain ⟨tu, su, h45, h46, h47, htu⟩ := id hcW
  obtain ⟨gn, hG⟩ := id hcG
  refine ⟨2, by decide, _, (t_X9_house hQ hO hG hH hD hL h0 h1 hN ri_x ri_y ri_k ri_w ri_p), fun r nx1 l1 hq => ?_⟩
  obtain ⟨rfl, hq⟩ := hq
  rcases hq with ⟨c1, rfl, rfl⟩ | ⟨c1, c2, rfl, rfl⟩ | ⟨c1, c2, c3, rfl, rfl⟩ | ⟨c1, c2, c3, rfl, rfl⟩
  · skip
    rw [hlk_nil]
    have HM := hM
    have HC := hC
    obtain ⟨⟨ma, mb, hMm⟩, hMs, ⟨ri, hT⟩, hMg, ⟨mA_, mB_, mJ_, hMj⟩⟩ := id HM
    refine ⟨_, rfl, ⟨_, hMm.1⟩, 2, by decide, _, (t_X10_house hMm hO hN hMg hH hD hL ri_x ri_y ri_k ri_w ri_p), fun r2 nx2 l2 hq2 => ?_⟩
    obtain ⟨rfl, hq2⟩ := hq2
    rcases hq2 with ⟨e1, rfl, rfl⟩ | ⟨e1, e2, rfl, rfl⟩ | ⟨e1, e2, e3, rfl, rfl⟩ | ⟨e1, e2, e3, rfl, rfl⟩
    · rw [hlk_nil]
      exact ⟨rfl, n, q, o, st, fc, pr, fa, sp, (sl 6), sg, tx, sm, sl, hn, hs, kd, dm, ln, lw, HC, HM, ⟨hO, hB0, hN, hS, hH, hD, hL, hfc, hsc, hsg, rfl, hsm, hsl, hX⟩, rfl⟩
    · exfalso; omega
    · exfalso; omega
    · exfalso; omega
  · skip
    rw [hlk_nil]
    have HM := hM
    have HC := hC
    obtain ⟨⟨ma, mb, hMm⟩, hMs, ⟨ri, hT⟩, hMg, ⟨mA_, mB_, mJ_, hMj⟩⟩ := id HM
    refine ⟨_, rfl, ⟨_, hMm.1⟩, 2, by decide, _, (t_X10_house hMm hO hN hMg hH hD hL ri_x ri_y ri_k ri_w ri_p), fun r2 nx2 l2 hq2 => ?_⟩
    obtain ⟨rfl, hq2⟩ := hq2
    rcases hq2 with ⟨e1, rfl, rfl⟩ | ⟨e1, e2, rfl, rfl⟩ | ⟨e1, e2, e3, rfl, rfl⟩ | ⟨e1, e2, e3, rfl, rfl⟩
    · exfalso; omega
    · rw [hlk_nil]
      exact ⟨rfl, n, q, o, st, fc, pr, fa, sp, (sl 6), sg, tx, sm, sl, hn, hs, kd, dm, ln, lw, HC, HM, ⟨hO, hB0, hN, hS, hH, hD, hL, hfc, hsc, hsg, rfl, hsm, hsl, hX⟩, rfl⟩
    · exfalso; omega
    · exfalso; omega
  · skip
    rw [hlk_nil]
    have HM := hM
    have HC := hC
    obtain ⟨⟨ma, mb, hMm⟩, hMs, ⟨ri, hT⟩, hMg, ⟨mA_, mB_, mJ_, hMj⟩⟩ := id HM
    refine ⟨_, rfl, ⟨_, hMm.1⟩, 2, by decide, _, (t_X10_house hMm hO hN hMg hH hD hL ri_x ri_y ri_k ri_w ri_p), fun r2 nx2 l2 hq2 => ?_⟩
    obtain ⟨rfl, hq2⟩ := hq2
    rcases hq2 with ⟨e1, rfl, rfl⟩ | ⟨e1, e2, rfl, rfl⟩ | ⟨e1, e2, e3, rfl, rfl⟩ | ⟨e1, e2, e3, rfl, rfl⟩
    · exfalso; omega
    · exfalso; omega
    · rw [hlk_nil]
      exact ⟨rfl, n, q, o, st, fc, pr, fa, sp, (sl 6), sg, tx, sm, sl, hn, hs, kd, dm, ln, lw, HC, HM, ⟨hO, hB0, hN, hS, hH, hD, hL, hfc, hsc, hsg, rfl, hsm, hsl, hX⟩, rfl⟩
    · exfalso; omega
  · skip
    have HC : LC (hlk [(48, oO 2 [zI (((hn : Nat) : Int) + 1), zR 49, zR 50, zR 51, zR 52, zR 53, zR 54, zI ((ln : Nat) : Int), zR 59, zR 60, zR 61, zR 62, zR 63]), (53, oA 0 12 (fup (hs 3) hn p)), (52, oA 0 12 (fup (hs 2) hn w)), (51, oA 0 12 (fup (fun u => ((kd u : Nat) : Int)) hn k)), (50, oA 0 12 (fup (hs 1) hn y)), (49, oA 0 12 (fup (hs 0) hn x))] h) n q o st fc pr fa sp (sl 6) sg tx sl (hn + 1) (hN4 hs hn x y w p) (fup kd hn k.toNat) dm ln lw := ⟨cA_fr (hlk_out 0 1 rfl) ⟨h0, h1⟩, isQ_fr (hlk_out 2 10 rfl) hQ, cJ_fr (hlk_out 11 33 rfl) hcJ, cT_fr (hlk_out 34 35 rfl) hcT, cO_fr (hlk_out 36 41 rfl) hcO, cS_fr (hlk_out 42 43 rfl) ⟨h42, h43⟩, cF_fr (hlk_out 44 44 rfl 44 (by decide) (by decide)) (hlk_up 93 rfl) ⟨h44, hFs⟩, cW_fr (hlk_out 45 47 rfl) hcW, ⟨gn, rfl, rfl, rfl, congrArg (fun z => some (oA 0 12 z)) (kd_up c2.1.1), rfl, rfl, hG.2.2.2.2.2.2.1, hG.2.2.2.2.2.2.2.1, hG.2.2.2.2.2.2.2.2.1, hG.2.2.2.2.2.2.2.2.2.1, hG.2.2.2.2.2.2.2.2.2.2.1, hG.2.2.2.2.2.2.2.2.2.2.2.1, hG.2.2.2.2.2.2.2.2.2.2.2.2.1, hG.2.2.2.2.2.2.2.2.2.2.2.2.2.1, hG.2.2.2.2.2.2.2.2.2.2.2.2.2.2.1, hG.2.2.2.2.2.2.2.2.2.2.2.2.2.2.2⟩⟩
    have HM : LM (hlk [(48, oO 2 [zI (((hn : Nat) : Int) + 1), zR 49, zR 50, zR 51, zR 52, zR 53, zR 54, zI ((ln : Nat) : Int), zR 59, zR 60, zR 61, zR 62, zR 63]), (53, oA 0 12 (fup (hs 3) hn p)), (52, oA 0 12 (fup (hs 2) hn w)), (51, oA 0 12 (fup (fun u => ((kd u : Nat) : Int)) hn k)), (50, oA 0 12 (fup (hs 1) hn y)), (49, oA 0 12 (fup (hs 0) hn x))] h) n q o st fc pr fa sp sm sl hn hs kd dm ln lw := LM_fr (hlk_out 64 92 rfl) hM
    obtain ⟨⟨ma, mb, hMm⟩, hMs, ⟨ri, hT⟩, hMg, ⟨mA_, mB_, mJ_, hMj⟩⟩ := id HM
    refine ⟨_, rfl, ⟨_, hMm.1⟩, 2, by decide, _, (t_X10_house hMm hO hN hMg hH hD hL ri_x ri_y ri_k ri_w ri_p), fun r2 nx2 l2 hq2 => ?_⟩
    obtain ⟨rfl, hq2⟩ := hq2
    rcases hq2 with ⟨e1, rfl, rfl⟩ | ⟨e1, e2, rfl, rfl⟩ | ⟨e1, e2, e3, rfl, rfl⟩ | ⟨e1, e2, e3, rfl, rfl⟩
    · exfalso; omega
    · exfalso; omega
    · exfalso; omega
    · skip
      exact ⟨rfl, n, q, o, st, fc, pr, fa, sp, (sl 6), sg, tx, sm, sl, (hn + 1), (hN4 hs hn x y w p), (fup kd hn k.toNat), dm, ln, lw, LC_fr (hlk_in rfl) HC, ⟨⟨ma, mb, rfl, hMm.2⟩, hMs, ⟨ri, hT⟩, ⟨rfl, rfl, congrArg (fun z => some (oA 0 12 z)) (kd_up c2.1.1), rfl, rfl, hMg.2.2.2.2.2⟩, ⟨mA_, mB_, mJ_, hMj⟩⟩, ⟨hO, hB0, hN, hS, okH_new hH c3 c1 c2, hD, hL, hfc, hsc, hsg, rfl, hsm, hsl, hX⟩, rfl⟩

set_option maxRecDepth 100000 in
set_option maxHeartbeats 4000000 in
theorem pr_law {nx : Nat} {h : Nat → Option PC} {x y k w : Int} (ri_x : r32 x) (ri_y : r32 y) (ri_k : r32 k) (ri_w : r32 w) (hL : LI nx h) : Pz yX9_law yX10_law cX9_law cX10_law 5 5 (some .int) (0, 0) (fun z => zI z) [zI x, zI y, zI k, zI w] nx h := by
  have hL0 := hL
  obtain ⟨n, q, o, st, fc, pr, fa, sp, sc, sg, tx, sm, sl, hn, hs, kd, dm, ln, lw, hC, hM, hK, rfl⟩ := hL
  obtain ⟨hO, hB0, hN, hS, hH, hD, hL, hfc, hsc, hsg, hsl6, hsm, hsl, hX⟩ := id hK
  subst hsl6
  have hXs : ∀ k, k < fc → sl k ≤ 48 ∧ fltZ (tx k) (sl k) = -6 := fun k hk => ⟨hsl k (by omega), (hX k hk).2.1⟩
  obtain ⟨⟨h0, h1⟩, hQ, hcJ, hcT, hcO, ⟨h42, h43⟩, ⟨h44, hFs⟩, hcW, hcG⟩ := id hC
  obtain ⟨pa, mi, rw_, pt, cl, u_, v_, sl_, ro_, be_, re_, C0, A0, B0, hJ, hre, h14, hCC, h12, h13⟩ := id hcJ
  obtain ⟨ta, g34, g35⟩ := id hcT
  obtain ⟨fo, de, hMo⟩ := id hcO
  obtain ⟨tu, su, h45, h46, h47, htu⟩ := id hcW
  obtain ⟨gn, hG⟩ := id hcG
  refine ⟨2, by decide, _, (t_X9_law hQ hO hG hH hD hL h0 h1 hN ri_x ri_y ri_k ri_w), fun r nx1 l1 hq => ?_⟩
  obtain ⟨rfl, hq⟩ := hq
  rcases hq with ⟨c1, rfl, rfl⟩ | ⟨c1, c2, rfl, rfl⟩ | ⟨c1, c2, c3, rfl, rfl⟩ | ⟨c1, c2, c3, rfl, rfl⟩
  · skip
    rw [hlk_nil]
    have HM := hM
    have HC := hC
    obtain ⟨⟨ma, mb, hMm⟩, hMs, ⟨ri, hT⟩, hMg, ⟨mA_, mB_, mJ_, hMj⟩⟩ := id HM
    refine ⟨_, rfl, ⟨_, hMm.1⟩, 2, by decide, _, (t_X10_law hMm hO hN hMg hH hD hL ri_x ri_y ri_k ri_w), fun r2 nx2 l2 hq2 => ?_⟩
    obtain ⟨rfl, hq2⟩ := hq2
    rcases hq2 with ⟨e1, rfl, rfl⟩ | ⟨e1, e2, rfl, rfl⟩ | ⟨e1, e2, e3, rfl, rfl⟩ | ⟨e1, e2, e3, rfl, rfl⟩
    · rw [hlk_nil]
      exact ⟨rfl, n, q, o, st, fc, pr, fa, sp, (sl 6), sg, tx, sm, sl, hn, hs, kd, dm, ln, lw, HC, HM, ⟨hO, hB0, hN, hS, hH, hD, hL, hfc, hsc, hsg, rfl, hsm, hsl, hX⟩, rfl⟩
    · exfalso; omega
    · exfalso; omega
    · exfalso; omega
  · skip
    rw [hlk_nil]
    have HM := hM
    have HC := hC
    obtain ⟨⟨ma, mb, hMm⟩, hMs, ⟨ri, hT⟩, hMg, ⟨mA_, mB_, mJ_, hMj⟩⟩ := id HM
    refine ⟨_, rfl, ⟨_, hMm.1⟩, 2, by decide, _, (t_X10_law hMm hO hN hMg hH hD hL ri_x ri_y ri_k ri_w), fun r2 nx2 l2 hq2 => ?_⟩
    obtain ⟨rfl, hq2⟩ := hq2
    rcases hq2 with ⟨e1, rfl, rfl⟩ | ⟨e1, e2, rfl, rfl⟩ | ⟨e1, e2, e3, rfl, rfl⟩ | ⟨e1, e2, e3, rfl, rfl⟩
    · exfalso; omega
    · rw [hlk_nil]
      exact ⟨rfl, n, q, o, st, fc, pr, fa, sp, (sl 6), sg, tx, sm, sl, hn, hs, kd, dm, ln, lw, HC, HM, ⟨hO, hB0, hN, hS, hH, hD, hL, hfc, hsc, hsg, rfl, hsm, hsl, hX⟩, rfl⟩
    · exfalso; omega
    · exfalso; omega
  · skip
    rw [hlk_nil]
    have HM := hM
    have HC := hC
    obtain ⟨⟨ma, mb, hMm⟩, hMs, ⟨ri, hT⟩, hMg, ⟨mA_, mB_, mJ_, hMj⟩⟩ := id HM
    refine ⟨_, rfl, ⟨_, hMm.1⟩, 2, by decide, _, (t_X10_law hMm hO hN hMg hH hD hL ri_x ri_y ri_k ri_w), fun r2 nx2 l2 hq2 => ?_⟩
    obtain ⟨rfl, hq2⟩ := hq2
    rcases hq2 with ⟨e1, rfl, rfl⟩ | ⟨e1, e2, rfl, rfl⟩ | ⟨e1, e2, e3, rfl, rfl⟩ | ⟨e1, e2, e3, rfl, rfl⟩
    · exfalso; omega
    · exfalso; omega
    · rw [hlk_nil]
      exact ⟨rfl, n, q, o, st, fc, pr, fa, sp, (sl 6), sg, tx, sm, sl, hn, hs, kd, dm, ln, lw, HC, HM, ⟨hO, hB0, hN, hS, hH, hD, hL, hfc, hsc, hsg, rfl, hsm, hsl, hX⟩, rfl⟩
    · exfalso; omega
  · skip
    have HC : LC (hlk [(48, oO 2 [zI ((hn : Nat) : Int), zR 49, zR 50, zR 51, zR 52, zR 53, zR 54, zI (((ln : Nat) : Int) + 1), zR 59, zR 60, zR 61, zR 62, zR 63]), (62, oA 0 12 (fup (lw 3) ln w)), (61, oA 0 12 (fup (lw 2) ln k)), (60, oA 0 12 (fup (lw 1) ln y)), (59, oA 0 12 (fup (lw 0) ln x))] h) n q o st fc pr fa sp (sl 6) sg tx sl hn hs kd dm (ln + 1) (hN4 lw ln x y k w) := ⟨cA_fr (hlk_out 0 1 rfl) ⟨h0, h1⟩, isQ_fr (hlk_out 2 10 rfl) hQ, cJ_fr (hlk_out 11 33 rfl) hcJ, cT_fr (hlk_out 34 35 rfl) hcT, cO_fr (hlk_out 36 41 rfl) hcO, cS_fr (hlk_out 42 43 rfl) ⟨h42, h43⟩, cF_fr (hlk_out 44 44 rfl 44 (by decide) (by decide)) (hlk_up 93 rfl) ⟨h44, hFs⟩, cW_fr (hlk_out 45 47 rfl) hcW, ⟨gn, rfl, hG.2.1, hG.2.2.1, hG.2.2.2.1, hG.2.2.2.2.1, hG.2.2.2.2.2.1, hG.2.2.2.2.2.2.1, hG.2.2.2.2.2.2.2.1, hG.2.2.2.2.2.2.2.2.1, hG.2.2.2.2.2.2.2.2.2.1, hG.2.2.2.2.2.2.2.2.2.2.1, rfl, rfl, rfl, rfl, hG.2.2.2.2.2.2.2.2.2.2.2.2.2.2.2⟩⟩
    have HM : LM (hlk [(48, oO 2 [zI ((hn : Nat) : Int), zR 49, zR 50, zR 51, zR 52, zR 53, zR 54, zI (((ln : Nat) : Int) + 1), zR 59, zR 60, zR 61, zR 62, zR 63]), (62, oA 0 12 (fup (lw 3) ln w)), (61, oA 0 12 (fup (lw 2) ln k)), (60, oA 0 12 (fup (lw 1) ln y)), (59, oA 0 12 (fup (lw 0) ln x))] h) n q o st fc pr fa sp sm sl hn hs kd dm ln lw := LM_fr (hlk_out 64 92 rfl) hM
    obtain ⟨⟨ma, mb, hMm⟩, hMs, ⟨ri, hT⟩, hMg, ⟨mA_, mB_, mJ_, hMj⟩⟩ := id HM
    refine ⟨_, rfl, ⟨_, hMm.1⟩, 2, by decide, _, (t_X10_law hMm hO hN hMg hH hD hL ri_x ri_y ri_k ri_w), fun r2 nx2 l2 hq2 => ?_⟩
    obtain ⟨rfl, hq2⟩ := hq2
    rcases hq2 with ⟨e1, rfl, rfl⟩ | ⟨e1, e2, rfl, rfl⟩ | ⟨e1, e2, e3, rfl, rfl⟩ | ⟨e1, e2, e3, rfl, rfl⟩
    · exfalso; omega
    · exfalso; omega
    · exfalso; omega
    · skip
      exact ⟨rfl, n, q, o, st, fc, pr, fa, sp, (sl 6), sg, tx, sm, sl, hn, hs, kd, dm, (ln + 1), (hN4 lw ln x y k w), LC_fr (hlk_in rfl) HC, ⟨⟨ma, mb, rfl, hMm.2⟩, hMs, ⟨ri, hT⟩, ⟨hMg.1, hMg.2.1, hMg.2.2.1, hMg.2.2.2.1, hMg.2.2.2.2.1, hMg.2.2.2.2.2.1, rfl, rfl, rfl, rfl⟩, ⟨mA_, mB_, mJ_, hMj⟩⟩, ⟨hO, hB0, hN, hS, hH, hD, okL_new hL c3 c1 c2, hfc, hsc, hsg, rfl, hsm, hsl, hX⟩, rfl⟩

set_option maxRecDepth 100000 in
set_option maxHeartbeats 4000000 in
theorem pr_damage {nx : Nat} {h : Nat → Option PC} {a b v : Int} (ri_a : r32 a) (ri_b : r32 b) (ri_v : r32 v) (hL : LI nx h) : Pz yX9_damage yX10_damage cX9_damage cX10_damage 5 5 (some .int) (0, 0) (fun z => zI z) [zI a, zI b, zI v] nx h := by
  have hL0 := hL
  obtain ⟨n, q, o, st, fc, pr, fa, sp, sc, sg, tx, sm, sl, hn, hs, kd, dm, ln, lw, hC, hM, hK, rfl⟩ := hL
  obtain ⟨hO, hB0, hN, hS, hH, hD, hL, hfc, hsc, hsg, hsl6, hsm, hsl, hX⟩ := id hK
  subst hsl6
  have hXs : ∀ k, k < fc → sl k ≤ 48 ∧ fltZ (tx k) (sl k) = -6 := fun k hk => ⟨hsl k (by omega), (hX k hk).2.1⟩
  obtain ⟨⟨h0, h1⟩, hQ, hcJ, hcT, hcO, ⟨h42, h43⟩, ⟨h44, hFs⟩, hcW, hcG⟩ := id hC
  obtain ⟨pa, mi, rw_, pt, cl, u_, v_, sl_, ro_, be_, re_, C0, A0, B0, hJ, hre, h14, hCC, h12, h13⟩ := id hcJ
  obtain ⟨ta, g34, g35⟩ := id hcT
  obtain ⟨fo, de, hMo⟩ := id hcO
  obtain ⟨tu, su, h45, h46, h47, htu⟩ := id hcW
  obtain ⟨gn, hG⟩ := id hcG
  refine ⟨1, by decide, _, (t_X9_damage hQ hO hG hH hD hL h0 h1 hN ri_a ri_b ri_v), fun r nx1 l1 hq => ?_⟩
  obtain ⟨rfl, hq⟩ := hq
  rcases hq with ⟨c1, rfl, rfl⟩ | ⟨c, s, c1, c2, c3, c4, c5, rfl, rfl⟩
  · rw [hlk_nil]
    have HM := hM
    have HC := hC
    obtain ⟨⟨ma, mb, hMm⟩, hMs, ⟨ri, hT⟩, hMg, ⟨mA_, mB_, mJ_, hMj⟩⟩ := id HM
    refine ⟨_, rfl, ⟨_, hMm.1⟩, 1, by decide, _, (t_X10_damage hMm hO hN hMg hH hD hL ri_a ri_b ri_v), fun r2 nx2 l2 hq2 => ?_⟩
    obtain ⟨rfl, hq2⟩ := hq2
    rcases hq2 with ⟨e1, rfl, rfl⟩ | ⟨c', s', e1, e2, e3, e4, e5, rfl, rfl⟩
    · rw [hlk_nil]
      exact ⟨rfl, n, q, o, st, fc, pr, fa, sp, (sl 6), sg, tx, sm, sl, hn, hs, kd, dm, ln, lw, HC, HM, ⟨hO, hB0, hN, hS, hH, hD, hL, hfc, hsc, hsg, rfl, hsm, hsl, hX⟩, rfl⟩
    · exfalso; omega
  · rcases (show c = 0 ∨ c = 1 ∨ c = 2 ∨ c = 3 by omega) with rfl | rfl | rfl | rfl
    · have HC : LC (hlk [(55 + 0, oA 0 10 (fup (dm 0) s v))] h) n q o st fc pr fa sp (sl 6) sg tx sl hn hs kd (fup dm 0 (fup (dm 0) s v)) ln lw := ⟨cA_fr (hlk_out 0 1 rfl) ⟨h0, h1⟩, isQ_fr (hlk_out 2 10 rfl) hQ, cJ_fr (hlk_out 11 33 rfl) hcJ, cT_fr (hlk_out 34 35 rfl) hcT, cO_fr (hlk_out 36 41 rfl) hcO, cS_fr (hlk_out 42 43 rfl) ⟨h42, h43⟩, cF_fr (hlk_out 44 44 rfl 44 (by decide) (by decide)) (hlk_up 93 rfl) ⟨h44, hFs⟩, cW_fr (hlk_out 45 47 rfl) hcW, ⟨gn, hG.1, hG.2.1, hG.2.2.1, hG.2.2.2.1, hG.2.2.2.2.1, hG.2.2.2.2.2.1, hG.2.2.2.2.2.2.1, rfl, hG.2.2.2.2.2.2.2.2.1, hG.2.2.2.2.2.2.2.2.2.1, hG.2.2.2.2.2.2.2.2.2.2.1, hG.2.2.2.2.2.2.2.2.2.2.2.1, hG.2.2.2.2.2.2.2.2.2.2.2.2.1, hG.2.2.2.2.2.2.2.2.2.2.2.2.2.1, hG.2.2.2.2.2.2.2.2.2.2.2.2.2.2.1, hG.2.2.2.2.2.2.2.2.2.2.2.2.2.2.2⟩⟩
      have HM : LM (hlk [(55 + 0, oA 0 10 (fup (dm 0) s v))] h) n q o st fc pr fa sp sm sl hn hs kd dm ln lw := LM_fr (hlk_out 64 92 rfl) hM
      obtain ⟨⟨ma, mb, hMm⟩, hMs, ⟨ri, hT⟩, hMg, ⟨mA_, mB_, mJ_, hMj⟩⟩ := id HM
      refine ⟨_, rfl, ⟨_, hMm.1⟩, 1, by decide, _, (t_X10_damage hMm hO hN hMg hH hD hL ri_a ri_b ri_v), fun r2 nx2 l2 hq2 => ?_⟩
      obtain ⟨rfl, hq2⟩ := hq2
      rcases hq2 with ⟨e1, rfl, rfl⟩ | ⟨c', s', e1, e2, e3, e4, e5, rfl, rfl⟩
      · exfalso; omega
      · obtain rfl : c' = 0 := by omega
        obtain rfl : s = s' := by omega
        exact ⟨rfl, n, q, o, st, fc, pr, fa, sp, (sl 6), sg, tx, sm, sl, hn, hs, kd, (fup dm 0 (fup (dm 0) s v)), ln, lw, LC_fr (hlk_in rfl) HC, ⟨⟨ma, mb, hMm⟩, hMs, ⟨ri, hT⟩, ⟨hMg.1, hMg.2.1, hMg.2.2.1, hMg.2.2.2.1, hMg.2.2.2.2.1, congrArg (fun z => some (oA 0 40 z)) (dm_up e4), hMg.2.2.2.2.2.2⟩, ⟨mA_, mB_, mJ_, hMj⟩⟩, ⟨hO, hB0, hN, hS, hH, okD_up hD c5, hL, hfc, hsc, hsg, rfl, hsm, hsl, hX⟩, rfl⟩
    · have HC : LC (hlk [(55 + 1, oA 0 10 (fup (dm 1) s v))] h) n q o st fc pr fa sp (sl 6) sg tx sl hn hs kd (fup dm 1 (fup (dm 1) s v)) ln lw := ⟨cA_fr (hlk_out 0 1 rfl) ⟨h0, h1⟩, isQ_fr (hlk_out 2 10 rfl) hQ, cJ_fr (hlk_out 11 33 rfl) hcJ, cT_fr (hlk_out 34 35 rfl) hcT, cO_fr (hlk_out 36 41 rfl) hcO, cS_fr (hlk_out 42 43 rfl) ⟨h42, h43⟩, cF_fr (hlk_out 44 44 rfl 44 (by decide) (by decide)) (hlk_up 93 rfl) ⟨h44, hFs⟩, cW_fr (hlk_out 45 47 rfl) hcW, ⟨gn, hG.1, hG.2.1, hG.2.2.1, hG.2.2.2.1, hG.2.2.2.2.1, hG.2.2.2.2.2.1, hG.2.2.2.2.2.2.1, hG.2.2.2.2.2.2.2.1, rfl, hG.2.2.2.2.2.2.2.2.2.1, hG.2.2.2.2.2.2.2.2.2.2.1, hG.2.2.2.2.2.2.2.2.2.2.2.1, hG.2.2.2.2.2.2.2.2.2.2.2.2.1, hG.2.2.2.2.2.2.2.2.2.2.2.2.2.1, hG.2.2.2.2.2.2.2.2.2.2.2.2.2.2.1, hG.2.2.2.2.2.2.2.2.2.2.2.2.2.2.2⟩⟩
      have HM : LM (hlk [(55 + 1, oA 0 10 (fup (dm 1) s v))] h) n q o st fc pr fa sp sm sl hn hs kd dm ln lw := LM_fr (hlk_out 64 92 rfl) hM
      obtain ⟨⟨ma, mb, hMm⟩, hMs, ⟨ri, hT⟩, hMg, ⟨mA_, mB_, mJ_, hMj⟩⟩ := id HM
      refine ⟨_, rfl, ⟨_, hMm.1⟩, 1, by decide, _, (t_X10_damage hMm hO hN hMg hH hD hL ri_a ri_b ri_v), fun r2 nx2 l2 hq2 => ?_⟩
      obtain ⟨rfl, hq2⟩ := hq2
      rcases hq2 with ⟨e1, rfl, rfl⟩ | ⟨c', s', e1, e2, e3, e4, e5, rfl, rfl⟩
      · exfalso; omega
      · obtain rfl : c' = 1 := by omega
        obtain rfl : s = s' := by omega
        exact ⟨rfl, n, q, o, st, fc, pr, fa, sp, (sl 6), sg, tx, sm, sl, hn, hs, kd, (fup dm 1 (fup (dm 1) s v)), ln, lw, LC_fr (hlk_in rfl) HC, ⟨⟨ma, mb, hMm⟩, hMs, ⟨ri, hT⟩, ⟨hMg.1, hMg.2.1, hMg.2.2.1, hMg.2.2.2.1, hMg.2.2.2.2.1, congrArg (fun z => some (oA 0 40 z)) (dm_up e4), hMg.2.2.2.2.2.2⟩, ⟨mA_, mB_, mJ_, hMj⟩⟩, ⟨hO, hB0, hN, hS, hH, okD_up hD c5, hL, hfc, hsc, hsg, rfl, hsm, hsl, hX⟩, rfl⟩
    · have HC : LC (hlk [(55 + 2, oA 0 10 (fup (dm 2) s v))] h) n q o st fc pr fa sp (sl 6) sg tx sl hn hs kd (fup dm 2 (fup (dm 2) s v)) ln lw := ⟨cA_fr (hlk_out 0 1 rfl) ⟨h0, h1⟩, isQ_fr (hlk_out 2 10 rfl) hQ, cJ_fr (hlk_out 11 33 rfl) hcJ, cT_fr (hlk_out 34 35 rfl) hcT, cO_fr (hlk_out 36 41 rfl) hcO, cS_fr (hlk_out 42 43 rfl) ⟨h42, h43⟩, cF_fr (hlk_out 44 44 rfl 44 (by decide) (by decide)) (hlk_up 93 rfl) ⟨h44, hFs⟩, cW_fr (hlk_out 45 47 rfl) hcW, ⟨gn, hG.1, hG.2.1, hG.2.2.1, hG.2.2.2.1, hG.2.2.2.2.1, hG.2.2.2.2.2.1, hG.2.2.2.2.2.2.1, hG.2.2.2.2.2.2.2.1, hG.2.2.2.2.2.2.2.2.1, rfl, hG.2.2.2.2.2.2.2.2.2.2.1, hG.2.2.2.2.2.2.2.2.2.2.2.1, hG.2.2.2.2.2.2.2.2.2.2.2.2.1, hG.2.2.2.2.2.2.2.2.2.2.2.2.2.1, hG.2.2.2.2.2.2.2.2.2.2.2.2.2.2.1, hG.2.2.2.2.2.2.2.2.2.2.2.2.2.2.2⟩⟩
      have HM : LM (hlk [(55 + 2, oA 0 10 (fup (dm 2) s v))] h) n q o st fc pr fa sp sm sl hn hs kd dm ln lw := LM_fr (hlk_out 64 92 rfl) hM
      obtain ⟨⟨ma, mb, hMm⟩, hMs, ⟨ri, hT⟩, hMg, ⟨mA_, mB_, mJ_, hMj⟩⟩ := id HM
      refine ⟨_, rfl, ⟨_, hMm.1⟩, 1, by decide, _, (t_X10_damage hMm hO hN hMg hH hD hL ri_a ri_b ri_v), fun r2 nx2 l2 hq2 => ?_⟩
      obtain ⟨rfl, hq2⟩ := hq2
      rcases hq2 with ⟨e1, rfl, rfl⟩ | ⟨c', s', e1, e2, e3, e4, e5, rfl, rfl⟩
      · exfalso; omega
      · obtain rfl : c' = 2 := by omega
        obtain rfl : s = s' := by omega
        exact ⟨rfl, n, q, o, st, fc, pr, fa, sp, (sl 6), sg, tx, sm, sl, hn, hs, kd, (fup dm 2 (fup (dm 2) s v)), ln, lw, LC_fr (hlk_in rfl) HC, ⟨⟨ma, mb, hMm⟩, hMs, ⟨ri, hT⟩, ⟨hMg.1, hMg.2.1, hMg.2.2.1, hMg.2.2.2.1, hMg.2.2.2.2.1, congrArg (fun z => some (oA 0 40 z)) (dm_up e4), hMg.2.2.2.2.2.2⟩, ⟨mA_, mB_, mJ_, hMj⟩⟩, ⟨hO, hB0, hN, hS, hH, okD_up hD c5, hL, hfc, hsc, hsg, rfl, hsm, hsl, hX⟩, rfl⟩
    · have HC : LC (hlk [(55 + 3, oA 0 10 (fup (dm 3) s v))] h) n q o st fc pr fa sp (sl 6) sg tx sl hn hs kd (fup dm 3 (fup (dm 3) s v)) ln lw := ⟨cA_fr (hlk_out 0 1 rfl) ⟨h0, h1⟩, isQ_fr (hlk_out 2 10 rfl) hQ, cJ_fr (hlk_out 11 33 rfl) hcJ, cT_fr (hlk_out 34 35 rfl) hcT, cO_fr (hlk_out 36 41 rfl) hcO, cS_fr (hlk_out 42 43 rfl) ⟨h42, h43⟩, cF_fr (hlk_out 44 44 rfl 44 (by decide) (by decide)) (hlk_up 93 rfl) ⟨h44, hFs⟩, cW_fr (hlk_out 45 47 rfl) hcW, ⟨gn, hG.1, hG.2.1, hG.2.2.1, hG.2.2.2.1, hG.2.2.2.2.1, hG.2.2.2.2.2.1, hG.2.2.2.2.2.2.1, hG.2.2.2.2.2.2.2.1, hG.2.2.2.2.2.2.2.2.1, hG.2.2.2.2.2.2.2.2.2.1, rfl, hG.2.2.2.2.2.2.2.2.2.2.2.1, hG.2.2.2.2.2.2.2.2.2.2.2.2.1, hG.2.2.2.2.2.2.2.2.2.2.2.2.2.1, hG.2.2.2.2.2.2.2.2.2.2.2.2.2.2.1, hG.2.2.2.2.2.2.2.2.2.2.2.2.2.2.2⟩⟩
      have HM : LM (hlk [(55 + 3, oA 0 10 (fup (dm 3) s v))] h) n q o st fc pr fa sp sm sl hn hs kd dm ln lw := LM_fr (hlk_out 64 92 rfl) hM
      obtain ⟨⟨ma, mb, hMm⟩, hMs, ⟨ri, hT⟩, hMg, ⟨mA_, mB_, mJ_, hMj⟩⟩ := id HM
      refine ⟨_, rfl, ⟨_, hMm.1⟩, 1, by decide, _, (t_X10_damage hMm hO hN hMg hH hD hL ri_a ri_b ri_v), fun r2 nx2 l2 hq2 => ?_⟩
      obtain ⟨rfl, hq2⟩ := hq2
      rcases hq2 with ⟨e1, rfl, rfl⟩ | ⟨c', s', e1, e2, e3, e4, e5, rfl, rfl⟩
      · exfalso; omega
      · obtain rfl : c' = 3 := by omega
        obtain rfl : s = s' := by omega
        exact ⟨rfl, n, q, o, st, fc, pr, fa, sp, (sl 6), sg, tx, sm, sl, hn, hs, kd, (fup dm 3 (fup (dm 3) s v)), ln, lw, LC_fr (hlk_in rfl) HC, ⟨⟨ma, mb, hMm⟩, hMs, ⟨ri, hT⟩, ⟨hMg.1, hMg.2.1, hMg.2.2.1, hMg.2.2.2.1, hMg.2.2.2.2.1, congrArg (fun z => some (oA 0 40 z)) (dm_up e4), hMg.2.2.2.2.2.2⟩, ⟨mA_, mB_, mJ_, hMj⟩⟩, ⟨hO, hB0, hN, hS, hH, okD_up hD c5, hL, hfc, hsc, hsg, rfl, hsm, hsl, hX⟩, rfl⟩


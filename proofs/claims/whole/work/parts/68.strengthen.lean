abbrev bsum (X : Nat → Int) (s : Nat) (u : Nat) : Int := sumZ (fun i => if s / 2 ^ i % 2 = 1 then X i else 0) u
theorem bit_lo {u i s : Nat} (hi : i < u) : (2 ^ u + s) / 2 ^ i % 2 = s / 2 ^ i % 2 := by
  have e : 2 ^ u = 2 ^ i * (2 * 2 ^ (u - i - 1)) := by
    rw [← Nat.pow_succ', ← Nat.pow_add]
    congr 1
    omega
  rw [e, Nat.mul_add_div (Nat.two_pow_pos i), Nat.mul_add_mod]
theorem bit_top {u s : Nat} (h : s < 2 ^ u) : s / 2 ^ u % 2 = 0 := by rw [Nat.div_eq_of_lt h]
theorem bit_hi {u s : Nat} (h : s < 2 ^ u) : (2 ^ u + s) / 2 ^ u % 2 = 1 := by
  rw [Nat.add_div_left _ (Nat.two_pow_pos u), Nat.div_eq_of_lt h]
theorem bsum_lo {X : Nat → Int} {u s : Nat} (h : s < 2 ^ u) : bsum X s (u + 1) = bsum X s u := by
  show bsum X s u + (if s / 2 ^ u % 2 = 1 then X u else 0) = _
  rw [if_neg (by rw [bit_top h]; decide), Int.add_zero]
theorem bsum_hi {X : Nat → Int} {u s : Nat} (h : s < 2 ^ u) : bsum X (2 ^ u + s) (u + 1) = bsum X s u + X u := by
  have e : bsum X (2 ^ u + s) u = bsum X s u := sumZ_congr u (fun i hi => by rw [bit_lo hi])
  show bsum X (2 ^ u + s) u + (if (2 ^ u + s) / 2 ^ u % 2 = 1 then X u else 0) = _
  rw [e, if_pos (bit_hi h)]
theorem bsum_nn {X : Nat → Int} {s : Nat} : ∀ u, (∀ i, i < u → 0 ≤ X i) → 0 ≤ bsum X s u
  | 0, _ => Int.le_refl _
  | u + 1, h => by
    have ih := bsum_nn (X := X) (s := s) u (fun i hi => h i (by omega))
    have h1 := h u (by omega)
    show 0 ≤ bsum X s u + (if s / 2 ^ u % 2 = 1 then X u else 0)
    split <;> omega
theorem kn_ge {hs : Nat → Nat → Int} {kd : Nat → Nat} {dm lw : Nat → Nat → Int} {ln : Nat} {f : Int} {pu : Nat} {gn : Nat → Int} {hn : Nat} (hp : ∀ i, i < hn → 0 ≤ hs 3 i) : ∀ u, u ≤ hn → ∀ m, m ≤ pu → ∀ s, s < 2 ^ u → bsum (hs 3) s u ≤ ((m : Nat) : Int) → bsum (gnU hs kd dm lw ln f) s u ≤ knF hs kd dm lw ln f pu gn u m
  | 0, _, m, hm, s, _, _ => by
    rw [knF]
    show (0 : Int) ≤ if m < pu + 1 then 0 else gn m
    rw [if_pos (by omega)]
    exact Int.le_refl _
  | u + 1, hu, m, hm, s, h2, hP => by
    have ih := kn_ge (kd := kd) (dm := dm) (lw := lw) (ln := ln) (f := f) (pu := pu) (gn := gn) hp u (by omega)
    have hp0 := hp u (by omega)
    by_cases c : s < 2 ^ u
    · rw [bsum_lo c] at hP ⊢
      have h1 := ih m hm s c hP
      by_cases hg : 0 < gnU hs kd dm lw ln f u
      · rw [knF, if_pos hg]
        unfold ofF
        split <;> omega
      · rw [knF, if_neg hg]
        exact h1
    · obtain ⟨s2, rfl⟩ : ∃ s2, s = 2 ^ u + s2 := ⟨s - 2 ^ u, by omega⟩
      have hs2 : s2 < 2 ^ u := by rw [Nat.pow_succ] at h2; omega
      rw [bsum_hi hs2] at hP ⊢
      have hnn := bsum_nn (X := hs 3) (s := s2) u (fun i hi => hp i (by omega))
      by_cases hg : 0 < gnU hs kd dm lw ln f u
      · have h1 := ih (m - (hs 3 u).toNat) (by omega) s2 hs2 (by omega)
        rw [knF, if_pos hg]
        unfold ofF
        rw [if_pos (by omega)]
        omega
      · have h1 := ih m hm s2 hs2 (by omega)
        rw [knF, if_neg hg]
        omega
theorem kn_ex {hs : Nat → Nat → Int} {kd : Nat → Nat} {dm lw : Nat → Nat → Int} {ln : Nat} {f : Int} {pu : Nat} {gn : Nat → Int} {hn : Nat} (hp : ∀ i, i < hn → 0 ≤ hs 3 i) : ∀ u, u ≤ hn → ∀ m, m ≤ pu → ∃ s, s < 2 ^ u ∧ bsum (hs 3) s u ≤ ((m : Nat) : Int) ∧ knF hs kd dm lw ln f pu gn u m = bsum (gnU hs kd dm lw ln f) s u
  | 0, _, m, hm => ⟨0, by decide, by show (0 : Int) ≤ _; omega, by rw [knF]; exact if_pos (by omega)⟩
  | u + 1, hu, m, hm => by
    have ih := kn_ex (kd := kd) (dm := dm) (lw := lw) (ln := ln) (f := f) (pu := pu) (gn := gn) hp u (by omega)
    have hp0 := hp u (by omega)
    have h2u : 2 ^ (u + 1) = 2 ^ u * 2 := Nat.pow_succ ..
    obtain ⟨s1, a1, b1, c1⟩ := ih m hm
    have keep : knF hs kd dm lw ln f pu gn (u + 1) m = knF hs kd dm lw ln f pu gn u m → ∃ s, s < 2 ^ (u + 1) ∧ bsum (hs 3) s (u + 1) ≤ ((m : Nat) : Int) ∧ knF hs kd dm lw ln f pu gn (u + 1) m = bsum (gnU hs kd dm lw ln f) s (u + 1) := fun e => ⟨s1, by omega, by rw [bsum_lo a1]; exact b1, by rw [e, c1, bsum_lo a1]⟩
    by_cases hg : 0 < gnU hs kd dm lw ln f u
    · by_cases hpm : (hs 3 u).toNat ≤ m
      · have e : knF hs kd dm lw ln f pu gn (u + 1) m = max (knF hs kd dm lw ln f pu gn u m) (knF hs kd dm lw ln f pu gn u (m - (hs 3 u).toNat) + gnU hs kd dm lw ln f u) := by
          rw [knF, if_pos hg]
          exact if_pos ⟨hpm, hm⟩
        by_cases hc : knF hs kd dm lw ln f pu gn u m ≤ knF hs kd dm lw ln f pu gn u (m - (hs 3 u).toNat) + gnU hs kd dm lw ln f u
        · obtain ⟨s2, a2, b2, c2⟩ := ih (m - (hs 3 u).toNat) (by omega)
          exact ⟨2 ^ u + s2, by omega, by rw [bsum_hi a2]; omega, by rw [e, bsum_hi a2, Int.max_eq_right hc, c2]⟩
        · exact keep (by rw [e, Int.max_eq_left (by omega)])
      · exact keep (by rw [knF, if_pos hg]; exact if_neg (fun z => hpm z.1))
    · exact keep (by rw [knF, if_neg hg])
theorem sumZ_add (f g : Nat → Int) : ∀ k, sumZ (fun j => f j + g j) k = sumZ f k + sumZ g k
  | 0 => rfl
  | k + 1 => by
    rw [sumZ_s, sumZ_s, sumZ_s, sumZ_add f g k]
    omega
theorem mean_s {hs : Nat → Nat → Int} {kd : Nat → Nat} {dm lw : Nat → Nat → Int} {ln : Nat} {f : Int} (hn s k : Nat) : meanF (hn + 1) ln hs kd dm lw s f k = meanF hn ln hs kd dm lw s f k + sumZ (fun j => lw 3 j * lsH hs dm hn (asK kd s hn) (lw 0 j) (lw 1 j) (lw 2 j) f) k := by
  unfold meanF
  rw [← sumZ_add]
  exact sumZ_congr k (fun j _ => by rw [← Int.mul_add]; rfl)
theorem mean_g {hs : Nat → Nat → Int} {kd : Nat → Nat} {dm lw : Nat → Nat → Int} {ln : Nat} {f : Int} {s : Nat} : ∀ hn, meanF hn ln hs kd dm lw 0 f ln - meanF hn ln hs kd dm lw s f ln = bsum (fun u => gainF hs kd dm lw u f ln) s hn
  | 0 => by
    have e : ∀ s, meanF 0 ln hs kd dm lw s f ln = sumZ (fun k => lw 3 k * 0) ln := fun s => rfl
    rw [e, e, Int.sub_self]
    rfl
  | hn + 1 => by
    have ih := mean_g (hs := hs) (kd := kd) (dm := dm) (lw := lw) (ln := ln) (f := f) (s := s) hn
    rw [mean_s, mean_s]
    have e0 : asK kd 0 hn = kd hn := by
      unfold asK
      rw [if_neg (by rw [Nat.zero_div]; decide)]
    rw [e0]
    show _ = bsum (fun u => gainF hs kd dm lw u f ln) s hn + (if s / 2 ^ hn % 2 = 1 then gainF hs kd dm lw hn f ln else 0)
    by_cases c : s / 2 ^ hn % 2 = 1
    · have e1 : asK kd s hn = 3 := by unfold asK; rw [if_pos c]
      rw [e1, if_pos c]
      have e2 : gainF hs kd dm lw hn f ln + sumZ (fun j => lw 3 j * lsH hs dm hn 3 (lw 0 j) (lw 1 j) (lw 2 j) f) ln = sumZ (fun j => lw 3 j * lsH hs dm hn (kd hn) (lw 0 j) (lw 1 j) (lw 2 j) f) ln := by
        unfold gainF
        rw [← sumZ_add]
        exact sumZ_congr ln (fun j _ => by rw [← Int.mul_add, Int.sub_add_cancel])
      omega
    · have e1 : asK kd s hn = kd hn := by unfold asK; rw [if_neg c]
      rw [e1, if_neg c]
      omega
theorem val_e {hs : Nat → Nat → Int} {kd : Nat → Nat} {dm lw : Nat → Nat → Int} {ln : Nat} {f : Int} {s : Nat} : ∀ u, bsum (gnU hs kd dm lw ln f) s u = 8388608 * bsum (fun u => gainF hs kd dm lw u f ln) s u - 4096 * bsum (hs 3) s u - ((s % 2 ^ u : Nat) : Int)
  | 0 => by
    rw [Nat.pow_zero, Nat.mod_one]
    rfl
  | u + 1 => by
    have ih := val_e (hs := hs) (kd := kd) (dm := dm) (lw := lw) (ln := ln) (f := f) (s := s) u
    show bsum (gnU hs kd dm lw ln f) s u + (if s / 2 ^ u % 2 = 1 then gnU hs kd dm lw ln f u else 0) = 8388608 * (bsum (fun u => gainF hs kd dm lw u f ln) s u + (if s / 2 ^ u % 2 = 1 then gainF hs kd dm lw u f ln else 0)) - 4096 * (bsum (hs 3) s u + (if s / 2 ^ u % 2 = 1 then hs 3 u else 0)) - ((s % 2 ^ (u + 1) : Nat) : Int)
    rw [Nat.mod_pow_succ]
    by_cases c : s / 2 ^ u % 2 = 1
    · rw [if_pos c, if_pos c, if_pos c, c, ih]
      unfold gnU
      omega
    · have c0 : s / 2 ^ u % 2 = 0 := by omega
      rw [if_neg c, if_neg c, if_neg c, c0, ih]
      omega
theorem mean_b {hn ln : Nat} {hs : Nat → Nat → Int} {kd : Nat → Nat} {dm lw : Nat → Nat → Int} {s : Nat} {f : Int} (hH : okH hn hs kd) (hD : okD dm) (hL : okL ln lw) (hf : 0 ≤ f ∧ f ≤ 20) : 0 ≤ meanF hn ln hs kd dm lw s f ln ∧ meanF hn ln hs kd dm lw s f ln ≤ 1440000000 := by
  have h12 := hL.1
  have := sumZ_b (f := fun k => lw 3 k * lsL hn hs kd dm lw k s f) (lo := 0) (hi := 120000000) ln (fun j hj => by
    have h1 := hL.2.2.2.2 j hj
    have h2 := lsL_b (s := s) hH hD hL hj hf
    have h3 := mul_b (A := 1000) (B := 120000) (show 0 ≤ lw 3 j ∧ lw 3 j ≤ 1000 by omega) h2
    exact ⟨h3.1, Int.le_trans h3.2 (by decide)⟩)
  unfold meanF
  omega
theorem price_b {hn : Nat} {hs : Nat → Nat → Int} {kd : Nat → Nat} (hH : okH hn hs kd) (s : Nat) : 0 ≤ bsum (hs 3) s hn ∧ bsum (hs 3) s hn ≤ 1200 := by
  have h12 := hH.1
  have := sumZ_b (f := fun i => if s / 2 ^ i % 2 = 1 then hs 3 i else 0) (lo := 0) (hi := 100) hn (fun j hj => by
    have h1 := hH.2.2.2.2.1 j hj
    split
    · exact h1
    · decide)
  show 0 ≤ sumZ _ hn ∧ sumZ _ hn ≤ 1200
  omega
/-- the best set so far -/
def BS (hs : Nat → Nat → Int) (kd : Nat → Nat) (dm lw : Nat → Nat → Int) (ln : Nat) (f : Int) (hn : Nat) (v : Int) (t bs : Nat) : Prop := bs < t ∧ bsum (hs 3) bs hn ≤ v ∧ ∀ s, s < t → bsum (hs 3) s hn ≤ v → bsum (gnU hs kd dm lw ln f) s hn ≤ bsum (gnU hs kd dm lw ln f) bs hn
theorem bs_0 {hs : Nat → Nat → Int} {kd : Nat → Nat} {dm lw : Nat → Nat → Int} {ln : Nat} {f : Int} {hn : Nat} {v : Int} (hv : 0 ≤ v) : BS hs kd dm lw ln f hn v 1 0 := by
  have e : ∀ (X : Nat → Int) u, bsum X 0 u = 0 := by
    intro X u
    induction u with
    | zero => rfl
    | succ u ih => rw [bsum_lo (Nat.two_pow_pos u), ih]
  refine ⟨by decide, by rw [e]; exact hv, fun s hs1 _ => ?_⟩
  rw [show s = 0 by omega]
  exact Int.le_refl _
theorem bs_no {hs : Nat → Nat → Int} {kd : Nat → Nat} {dm lw : Nat → Nat → Int} {ln : Nat} {f : Int} {hn : Nat} {v : Int} {t bs : Nat} (h : BS hs kd dm lw ln f hn v t bs) (hc : bsum (hs 3) t hn ≤ v → bsum (gnU hs kd dm lw ln f) t hn ≤ bsum (gnU hs kd dm lw ln f) bs hn) : BS hs kd dm lw ln f hn v (t + 1) bs := by
  refine ⟨by have := h.1; omega, h.2.1, fun s h1 h2 => ?_⟩
  by_cases e : s = t
  · subst e; exact hc h2
  · exact h.2.2 s (by omega) h2
theorem bs_y {hs : Nat → Nat → Int} {kd : Nat → Nat} {dm lw : Nat → Nat → Int} {ln : Nat} {f : Int} {hn : Nat} {v : Int} {t bs : Nat} (h : BS hs kd dm lw ln f hn v t bs) (h0 : bsum (hs 3) t hn ≤ v) (hc : bsum (gnU hs kd dm lw ln f) bs hn ≤ bsum (gnU hs kd dm lw ln f) t hn) : BS hs kd dm lw ln f hn v (t + 1) t := by
  refine ⟨by omega, h0, fun s h1 h2 => ?_⟩
  by_cases e : s = t
  · subst e; exact Int.le_refl _
  · exact Int.le_trans (h.2.2 s (by omega) h2) hc
theorem val_m {hs : Nat → Nat → Int} {kd : Nat → Nat} {dm lw : Nat → Nat → Int} {ln : Nat} {f : Int} {hn s : Nat} (h : s < 2 ^ hn) : bsum (gnU hs kd dm lw ln f) s hn = 8388608 * (meanF hn ln hs kd dm lw 0 f ln - meanF hn ln hs kd dm lw s f ln) - 4096 * bsum (hs 3) s hn - ((s : Nat) : Int) := by
  rw [val_e, mean_g, Nat.mod_eq_of_lt h]
theorem price_r {hn : Nat} {hs : Nat → Nat → Int} {kd : Nat → Nat} (hH : okH hn hs kd) (s : Nat) : 0 ≤ sumZ (fun u => if s / 2 ^ u % 2 = 1 then hs 3 u else 0) hn ∧ sumZ (fun u => if s / 2 ^ u % 2 = 1 then hs 3 u else 0) hn ≤ 1200 := price_b hH s
theorem val_r {hs : Nat → Nat → Int} {kd : Nat → Nat} {dm lw : Nat → Nat → Int} {ln : Nat} {f : Int} {hn s : Nat} (h : s < 2 ^ hn) : bsum (gnU hs kd dm lw ln f) s hn = 8388608 * (meanF hn ln hs kd dm lw 0 f ln - meanF hn ln hs kd dm lw s f ln) - 4096 * sumZ (fun u => if s / 2 ^ u % 2 = 1 then hs 3 u else 0) hn - ((s : Nat) : Int) := val_m h
theorem bs_no2 {hs : Nat → Nat → Int} {kd : Nat → Nat} {dm lw : Nat → Nat → Int} {ln : Nat} {f : Int} {hn : Nat} {v : Int} {t bs : Nat} (h : BS hs kd dm lw ln f hn v t bs) (hc : sumZ (fun u => if t / 2 ^ u % 2 = 1 then hs 3 u else 0) hn ≤ v → bsum (gnU hs kd dm lw ln f) t hn ≤ bsum (gnU hs kd dm lw ln f) bs hn) : BS hs kd dm lw ln f hn v (t + 1) bs := bs_no h hc
theorem bs_y2 {hs : Nat → Nat → Int} {kd : Nat → Nat} {dm lw : Nat → Nat → Int} {ln : Nat} {f : Int} {hn : Nat} {v : Int} {t bs : Nat} (h : BS hs kd dm lw ln f hn v t bs) (h0 : sumZ (fun u => if t / 2 ^ u % 2 = 1 then hs 3 u else 0) hn ≤ v) (hc : bsum (gnU hs kd dm lw ln f) bs hn ≤ bsum (gnU hs kd dm lw ln f) t hn) : BS hs kd dm lw ln f hn v (t + 1) t := bs_y h h0 hc
theorem bs_end {hs : Nat → Nat → Int} {kd : Nat → Nat} {dm lw : Nat → Nat → Int} {ln : Nat} {f : Int} {pu : Nat} {gn : Nat → Int} {hn : Nat} {bs : Nat} (hH : okH hn hs kd) (h : BS hs kd dm lw ln f hn ((pu : Nat) : Int) (2 ^ hn) bs) : (-(knF hs kd dm lw ln f pu gn hn pu)) % 4096 = ((bs : Nat) : Int) := by
  have hp : ∀ i, i < hn → 0 ≤ hs 3 i := fun i hi => (hH.2.2.2.2.1 i hi).1
  have h1 := kn_ge (kd := kd) (dm := dm) (lw := lw) (ln := ln) (f := f) (pu := pu) (gn := gn) hp hn (Nat.le_refl _) pu (Nat.le_refl _) bs h.1 h.2.1
  obtain ⟨s, a, b, c⟩ := kn_ex (kd := kd) (dm := dm) (lw := lw) (ln := ln) (f := f) (pu := pu) (gn := gn) hp hn (Nat.le_refl _) pu (Nat.le_refl _)
  have h2 := h.2.2 s a b
  have e : knF hs kd dm lw ln f pu gn hn pu = bsum (gnU hs kd dm lw ln f) bs hn := by omega
  have hv := val_m (hs := hs) (kd := kd) (dm := dm) (lw := lw) (ln := ln) (f := f) h.1
  have h4 : 2 ^ hn ≤ 2 ^ 12 := Nat.pow_le_pow_right (by decide) hH.1
  have h5 := h.1
  rw [e, hv]
  omega
theorem kn_gn {hs : Nat → Nat → Int} {kd : Nat → Nat} {dm lw : Nat → Nat → Int} {ln : Nat} {f : Int} {pu : Nat} {gn gm : Nat → Int} {hn : Nat} (hH : okH hn hs kd) : knF hs kd dm lw ln f pu gn hn pu = knF hs kd dm lw ln f pu gm hn pu := by
  have hp : ∀ i, i < hn → 0 ≤ hs 3 i := fun i hi => (hH.2.2.2.2.1 i hi).1
  obtain ⟨s, a, b, c⟩ := kn_ex (kd := kd) (dm := dm) (lw := lw) (ln := ln) (f := f) (pu := pu) (gn := gn) hp hn (Nat.le_refl _) pu (Nat.le_refl _)
  obtain ⟨s2, a2, b2, c2⟩ := kn_ex (kd := kd) (dm := dm) (lw := lw) (ln := ln) (f := f) (pu := pu) (gn := gm) hp hn (Nat.le_refl _) pu (Nat.le_refl _)
  have h1 := kn_ge (kd := kd) (dm := dm) (lw := lw) (ln := ln) (f := f) (pu := pu) (gn := gm) hp hn (Nat.le_refl _) pu (Nat.le_refl _) s a b
  have h2 := kn_ge (kd := kd) (dm := dm) (lw := lw) (ln := ln) (f := f) (pu := pu) (gn := gn) hp hn (Nat.le_refl _) pu (Nat.le_refl _) s2 a2 b2
  omega
def ansV (hn : Nat) (hs : Nat → Nat → Int) (kd : Nat → Nat) (dm lw : Nat → Nat → Int) (ln : Nat) (st : Nat → Int) (v : Int) : Int := if ¬ (0 ≤ v ∧ v ≤ 500) then -2 else (-(knF hs kd dm lw ln (st 4) v.toNat (fun _ => 0) hn v.toNat)) % 4096

set_option maxRecDepth 100000 in
set_option maxHeartbeats 4000000 in
theorem t_X9_strengthen {nx : Nat} {h : Nat → Option PC} {n : Nat} {q : Nat → Nat → Int} {o : Nat → Nat} {hn : Nat} {hs : Nat → Nat → Int} {kd : Nat → Nat} {dm : Nat → Nat → Int} {ln : Nat} {lw : Nat → Nat → Int} {gn : Nat → Int} {fc : Nat} {st : Nat → Int} {v : Int} (hQ : isQ h n q o) (hO : okQ n q o) (hG : isG h hn hs kd dm ln lw gn) (hH : okH hn hs kd) (hD : okD dm) (hL : okL ln lw) (h0 : h 0 = some (oO 8 [zR 1, zR 2, zR 11, zR 34, zR 36, zR 42, zR 44, zI ((fc : Nat) : Int), zR 45, zR 48])) (h1 : h 1 = some (oA 0 5 st)) (hN : okN st) (ri_v : r32 v) : Cx 5 (0, 0) yX9_strengthen cX9_strengthen 2 (some .int) [zR 0, zI v] nx h (fun rr nx' l' => nx' = nx ∧ rr = some (zI (ansV hn hs kd dm lw ln st v)) ∧ (l' = [] ∨ ∃ R, l' = [(63, oL 2 501 R)])) := by
  refine cx_of pnX9_strengthen (Nat.le_of_ble_eq_true rfl) ?_
  intro K G hr hnm hR
  obtain ⟨h2, h3, h4, h5, h6, h7, h8, h9, h10⟩ := id hQ
  have hn40 := hO.1
  obtain ⟨h48, h49, h50, h51, h52, h53, h54, h55, h56, h57, h58, h59, h60, h61, h62, h63⟩ := id hG
  have hn12 := hH.1
  have ln12 := hL.1
  obtain ⟨hN0, hN1, hN2, hN3, hN4⟩ := id hN
  show Wp K 2 (Mx K h (fun rr nx' l' => nx' = nx ∧ rr = some (zI (ansV hn hs kd dm lw ln st v)) ∧ (l' = [] ∨ ∃ R, l' = [(63, oL 2 501 R)])) (0, 0)) (0, 0) 0 [(0, zR 0), (1, zI v)] [] (nx, h, [])
  refine wp_iload_n G 1 dX9_strengthen_0 rfl ?_
  refine wp_iconst G dX9_strengthen_1 ?_
  refine wp_sipush G dX9_strengthen_2 (by decide) ?_
  refine wp_cSE (as := [zI v, zI 0, zI 500]) (rest := []) (hp2 := (nx, h, [])) G mX9_within lX9_127 sX9_within dX9_strengthen_5 rfl rfl (Nat.le_of_ble_eq_true rfl) (rmx_ok hR (by decide) (by decide) (by decide) (by decide)) (t_X9_within (nx := nx) (v := v) (lo := 0) (hi := 500) ri_v (by omega) (by omega)) rfl ?_
  refine wp_ifne_bt G dX9_strengthen_8 (fun kq1 => ?_) (fun kq1 => ?_)
  · skip
    obtain ⟨vv, e_vv⟩ := Int.eq_ofNat_of_zero_le (show 0 ≤ v from (by omega))
    subst e_vv
    refine wp_aload_n G 0 dX9_strengthen_14 rfl ?_
    refine wp_get G 9 cOk8 fX9_68 dX9_strengthen_15 h0 rfl ?_
    refine wp_iload_n G 1 dX9_strengthen_18 rfl ?_
    refine wp_aload_n G 0 dX9_strengthen_19 rfl ?_
    refine wp_get G 0 cOk8 fX9_7 dX9_strengthen_20 h0 rfl ?_
    refine wp_iconst G dX9_strengthen_23 ?_
    refine wp_iald (j := 4) G dX9_strengthen_24 h1 rfl (by decide) (by decide) ?_
    have rrq1 := hN.r 4 (by decide)
    refine wp_cVE (b := 48) (ci := 2) (as := [zI ((vv : Nat) : Int), zI (st 4)]) (rest := []) (hp2 := (nx, h, [(63, oL 2 501 (knF hs kd dm lw ln (st 4) vv gn hn))])) G mX2_bestHouses lX9_311 iX2_bestHouses eX2_bestHouses ⟨_, rfl, rfl⟩ dX9_strengthen_25 h48 rfl rfl (Nat.le_of_ble_eq_true rfl) (rmx_ok hR (by decide) (by decide) (by decide) (by decide)) (t_X2_bestHouses (nx := nx) (pu := vv) (f := (st 4)) hG hH hD hL (by omega) hN4) rfl ?_
    exact wp_ireturn G hr dX9_strengthen_28 (by exact ⟨rfl, by rw [ansV, if_neg (by omega)]; simp only [Int.toNat_natCast]; rw [kn_gn (gm := fun _ => 0) hH], Or.inr ⟨_, rfl⟩⟩)
  · skip
    refine wp_bipush G dX9_strengthen_11 (by decide) ?_
    exact wp_ireturn G hr dX9_strengthen_13 (by exact ⟨rfl, by rw [ansV, if_pos (by omega)], Or.inl rfl⟩)

set_option maxRecDepth 100000 in
set_option maxHeartbeats 4000000 in
theorem t_X10_strengthen {nx : Nat} {h : Nat → Option PC} {n : Nat} {q : Nat → Nat → Int} {o : Nat → Nat} {fc : Nat} {hn : Nat} {ln : Nat} {ma : Int} {mb : Int} {st : Nat → Int} {hs : Nat → Nat → Int} {kd : Nat → Nat} {dm : Nat → Nat → Int} {lw : Nat → Nat → Int} {v : Int} (hQ : isM h n q o fc hn ln ma mb st) (hO : okQ n q o) (hN : okN st) (hG : isMg h hs kd dm lw) (hH : okH hn hs kd) (hD : okD dm) (hL : okL ln lw) (ri_v : r32 v) : Cx 5 (0, 0) yX10_strengthen cX10_strengthen 6 (some .int) [zR 64, zI v] nx h (Rt (zI (ansV hn hs kd dm lw ln st v)) nx []) := by
  refine cx_of pnX10_strengthen (Nat.le_of_ble_eq_true rfl) ?_
  intro K G hr hnm hR
  obtain ⟨h64, h65, h66, h67, h68, h69, h70, h71, h72, h73⟩ := id hQ
  have hn40 := hO.1
  obtain ⟨hN0, hN1, hN2, hN3, hN4⟩ := id hN
  obtain ⟨h83, h84, h85, h86, h87, h88, h89, h90, h91, h92⟩ := id hG
  have hn12 := hH.1
  have ln12 := hL.1
  have h2p : 2 ^ hn ≤ 2 ^ 12 := Nat.pow_le_pow_right (by decide) hn12
  have h2q : 0 < 2 ^ hn := Nat.two_pow_pos hn
  show Wp K 6 (Mx K h (Rt (zI (ansV hn hs kd dm lw ln st v)) nx []) (0, 0)) (0, 0) 0 [(0, zR 64), (1, zI v)] [] (nx, h, [])
  refine wp_iload_n G 1 dX10_strengthen_0 rfl ?_
  refine wp_i2l G (by omega) dX10_strengthen_1 ?_
  refine wp_lconst (z := 0) G dX10_strengthen_2 (by decide) ?_
  refine wp_ldc2 (z := 500) G kX10_315 dX10_strengthen_3 ?_
  refine wp_cSE (as := [zJ v, zJ 0, zJ 500]) (rest := []) (hp2 := (nx, h, [])) G mX10_in lX10_100 sX10_in dX10_strengthen_6 rfl rfl (Nat.le_of_ble_eq_true rfl) (rmx_ok hR (by decide) (by decide) (by decide) (by decide)) (t_X10_in (nx := nx) (v := v) (lo := 0) (hi := 500) (by omega) (by omega) (by omega)) rfl ?_
  refine wp_ifne_bt G dX10_strengthen_9 (fun kq1 => ?_) (fun kq1 => ?_)
  · skip
    obtain ⟨vv, e_vv⟩ := Int.eq_ofNat_of_zero_le (show 0 ≤ v from (by omega))
    subst e_vv
    refine wp_iconst G dX10_strengthen_15 ?_
    refine wp_istore_n (lv' := [(2, zI 0), (0, zR 64), (1, zI ((vv : Nat) : Int))]) G dX10_strengthen_16 (by decide) rfl ?_
    refine wp_iconst G dX10_strengthen_17 ?_
    refine wp_istore_n (lv' := [(3, zI 1), (2, zI 0), (0, zR 64), (1, zI ((vv : Nat) : Int))]) G dX10_strengthen_18 (by decide) rfl ?_
    refine wp_lv [2, 3, 1, 0] rfl ?_
    suffices lp19 : ∀ (fu : Nat) (t : Nat) (bs : Nat) (v2 : Int) (v3 : Int), 2 ^ hn - t < fu → (v2 = ((bs : Nat) : Int)) → (v3 = ((t : Nat) : Int)) → (1 ≤ t) → (t ≤ 2 ^ hn) → (BS hs kd dm lw ln (st 4) hn ((vv : Nat) : Int) (t) bs) → Wp K 6 (Mx K h (Rt (zI (ansV hn hs kd dm lw ln st ((vv : Nat) : Int))) nx []) (0, 0)) (0, 0) 19 [(0, zR 64), (1, zI ((vv : Nat) : Int)), (2, zI v2), (3, zI v3)] [] (nx, h, []) from lp19 _ 1 0 0 1 (Nat.lt_succ_self _) (by omega) (by omega) (by omega) (by omega) (by exact bs_0 (by omega))
    intro fu
    induction fu with
    | zero => intro t bs v2 v3 hm; exact absurd hm (Nat.not_lt_zero _)
    | succ fu ih19 =>
      intro t bs v2 v3 hm19 e2 e3 hi0 hi1 hbs
      subst e2
      subst e3
      have hb1 := hbs.1
      have hpb := price_r hH t
      have hpb2 := price_r hH bs
      have hmb := mean_b (s := t) hH hD hL hN4
      have hmb2 := mean_b (s := bs) hH hD hL hN4
      refine wp_iload_n G 3 dX10_strengthen_19 rfl ?_
      refine wp_iconst G dX10_strengthen_20 ?_
      refine wp_aload_n G 0 dX10_strengthen_21 rfl ?_
      refine wp_get G 27 cOk9 fX10_296 dX10_strengthen_22 h64 rfl ?_
      refine wp_ishl1 (k := hn) G rfl (by omega) dX10_strengthen_25 ?_
      refine wp_icmp_ge G dX10_strengthen_26 (by omega) (by omega) (fun kq2 => ?_) (fun kq2 => ?_)
      · skip
        refine wp_iload_n G 2 dX10_strengthen_90 rfl ?_
        exact wp_ireturn G hr dX10_strengthen_91 ⟨by have et : t = 2 ^ hn := (by omega); subst et; rw [ansV, if_neg (by omega)]; simp only [Int.toNat_natCast]; rw [bs_end hH hbs], rfl, by rfl⟩
      · skip
        have hvt := val_r (hs := hs) (kd := kd) (dm := dm) (lw := lw) (ln := ln) (f := st 4) (hn := hn) (s := t) (by omega)
        have hvb := val_r (hs := hs) (kd := kd) (dm := dm) (lw := lw) (ln := ln) (f := st 4) (hn := hn) (s := bs) (by omega)
        refine wp_aload_n G 0 dX10_strengthen_29 rfl ?_
        refine wp_iload_n G 3 dX10_strengthen_30 rfl ?_
        refine wp_cVE (b := 64) (ci := 9) (as := [zI ((t : Nat) : Int)]) (rest := []) (hp2 := (nx, h, [])) G mX10_priceOf lX10_317 iX10_priceOf eX10_priceOf ⟨_, rfl, rfl⟩ dX10_strengthen_31 h64 rfl rfl (Nat.le_of_ble_eq_true rfl) (rmx_ok hR (by decide) (by decide) (by decide) (by decide)) (t_X10_priceOf (nx := nx) (s := t) hQ hO hN hG hH hD hL (by omega)) rfl ?_
        refine wp_iload_n G 1 dX10_strengthen_34 rfl ?_
        refine wp_icmp_gt G dX10_strengthen_35 (by omega) (by omega) (fun kq3 => ?_) (fun kq3 => ?_)
        · skip
          refine wp_iinc (lv' := [(3, zI (((t : Nat) : Int) + 1)), (0, zR 64), (1, zI ((vv : Nat) : Int)), (2, zI ((bs : Nat) : Int))]) G 3 dX10_strengthen_84 rfl (by decide) rfl ?_
          refine wp_goto G dX10_strengthen_87 ?_
          refine wp_lv [1, 2, 3, 0] rfl ?_
          exact ih19 (t + 1) bs ((bs : Nat) : Int) (((t : Nat) : Int) + 1) (by omega) (by omega) (by omega) (by omega) (by omega) (by first | exact bs_no2 hbs (fun z => by omega) | exact bs_y2 hbs (by omega) (by omega))
        · skip
          refine wp_aload_n G 0 dX10_strengthen_38 rfl ?_
          refine wp_iload_n G 3 dX10_strengthen_39 rfl ?_
          refine wp_cVE (b := 64) (ci := 9) (as := [zI ((t : Nat) : Int)]) (rest := []) (hp2 := (nx, h, [])) G mX10_meanOf lX10_311 iX10_meanOf eX10_meanOf ⟨_, rfl, rfl⟩ dX10_strengthen_40 h64 rfl rfl (Nat.le_of_ble_eq_true rfl) (rmx_ok hR (by decide) (by decide) (by decide) (by decide)) (t_X10_meanOf (nx := nx) (s := t) hQ hO hN hG hH hD hL (by omega)) rfl ?_
          refine wp_aload_n G 0 dX10_strengthen_43 rfl ?_
          refine wp_iload_n G 2 dX10_strengthen_44 rfl ?_
          refine wp_cVE (b := 64) (ci := 9) (as := [zI ((bs : Nat) : Int)]) (rest := [zJ (meanF hn ln hs kd dm lw t (st 4) ln)]) (hp2 := (nx, h, [])) G mX10_meanOf lX10_311 iX10_meanOf eX10_meanOf ⟨_, rfl, rfl⟩ dX10_strengthen_45 h64 rfl rfl (Nat.le_of_ble_eq_true rfl) (rmx_ok hR (by decide) (by decide) (by decide) (by decide)) (t_X10_meanOf (nx := nx) (s := bs) hQ hO hN hG hH hD hL (by omega)) rfl ?_
          refine wp_lsub G dX10_strengthen_48 ?_
          refine wp_lstore (lv' := [(4, zJ (meanF hn ln hs kd dm lw t (st 4) ln - meanF hn ln hs kd dm lw bs (st 4) ln)), (0, zR 64), (1, zI ((vv : Nat) : Int)), (2, zI ((bs : Nat) : Int)), (3, zI ((t : Nat) : Int))]) G dX10_strengthen_49 (by decide) rfl ?_
          refine wp_lload G 0 dX10_strengthen_51 rfl ?_
          refine wp_lconst (z := 0) G dX10_strengthen_53 (by decide) ?_
          refine wp_lcmp G (by omega) (by omega) dX10_strengthen_54 ?_
          refine wp_if_lt G dX10_strengthen_55 (cmpZ_r _ _) (fun kq4 => ?_) (fun kq4 => ?_)
          · have kq4 : (meanF hn ln hs kd dm lw t (st 4) ln - meanF hn ln hs kd dm lw bs (st 4) ln) < 0 := cmpZ_lt.mp kq4
            refine wp_iload_n G 4 dX10_strengthen_78 rfl ?_
            refine wp_goto G dX10_strengthen_79 ?_
            refine wp_istore_n (lv' := [(2, zI ((t : Nat) : Int)), (4, zJ (meanF hn ln hs kd dm lw t (st 4) ln - meanF hn ln hs kd dm lw bs (st 4) ln)), (0, zR 64), (1, zI ((vv : Nat) : Int)), (3, zI ((t : Nat) : Int))]) G dX10_strengthen_83 (by decide) rfl ?_
            refine wp_iinc (lv' := [(3, zI (((t : Nat) : Int) + 1)), (2, zI ((t : Nat) : Int)), (4, zJ (meanF hn ln hs kd dm lw t (st 4) ln - meanF hn ln hs kd dm lw bs (st 4) ln)), (0, zR 64), (1, zI ((vv : Nat) : Int))]) G 4 dX10_strengthen_84 rfl (by decide) rfl ?_
            refine wp_goto G dX10_strengthen_87 ?_
            refine wp_lv [3, 4, 1, 0] rfl ?_
            exact ih19 (t + 1) t ((t : Nat) : Int) (((t : Nat) : Int) + 1) (by omega) (by omega) (by omega) (by omega) (by omega) (by first | exact bs_no2 hbs (fun z => by omega) | exact bs_y2 hbs (by omega) (by omega))
          · have kq4 : 0 ≤ (meanF hn ln hs kd dm lw t (st 4) ln - meanF hn ln hs kd dm lw bs (st 4) ln) := (Int.not_lt.mp (fun z => absurd (cmpZ_lt.mpr z) (Int.not_lt.mpr kq4)))
            refine wp_lload G 0 dX10_strengthen_58 rfl ?_
            refine wp_lconst (z := 0) G dX10_strengthen_60 (by decide) ?_
            refine wp_lcmp G (by omega) (by omega) dX10_strengthen_61 ?_
            refine wp_if_ne G dX10_strengthen_62 (cmpZ_r _ _) (fun kq5 => ?_) (fun kq5 => ?_)
            · have kq5 : (meanF hn ln hs kd dm lw t (st 4) ln - meanF hn ln hs kd dm lw bs (st 4) ln) ≠ 0 := fun z => kq5 (cmpZ_eq.mpr z)
              refine wp_iload_n G 3 dX10_strengthen_82 rfl ?_
              refine wp_istore_n (lv' := [(2, zI ((bs : Nat) : Int)), (4, zJ (meanF hn ln hs kd dm lw t (st 4) ln - meanF hn ln hs kd dm lw bs (st 4) ln)), (0, zR 64), (1, zI ((vv : Nat) : Int)), (3, zI ((t : Nat) : Int))]) G dX10_strengthen_83 (by decide) rfl ?_
              refine wp_iinc (lv' := [(3, zI (((t : Nat) : Int) + 1)), (2, zI ((bs : Nat) : Int)), (4, zJ (meanF hn ln hs kd dm lw t (st 4) ln - meanF hn ln hs kd dm lw bs (st 4) ln)), (0, zR 64), (1, zI ((vv : Nat) : Int))]) G 4 dX10_strengthen_84 rfl (by decide) rfl ?_
              refine wp_goto G dX10_strengthen_87 ?_
              refine wp_lv [3, 4, 1, 0] rfl ?_
              exact ih19 (t + 1) bs ((bs : Nat) : Int) (((t : Nat) : Int) + 1) (by omega) (by omega) (by omega) (by omega) (by omega) (by first | exact bs_no2 hbs (fun z => by omega) | exact bs_y2 hbs (by omega) (by omega))
            · have kq5 : (meanF hn ln hs kd dm lw t (st 4) ln - meanF hn ln hs kd dm lw bs (st 4) ln) = 0 := cmpZ_eq.mp kq5
              refine wp_aload_n G 1 dX10_strengthen_65 rfl ?_
              refine wp_iload_n G 4 dX10_strengthen_66 rfl ?_
              refine wp_cVE (b := 64) (ci := 9) (as := [zI ((t : Nat) : Int)]) (rest := []) (hp2 := (nx, h, [])) G mX10_priceOf lX10_317 iX10_priceOf eX10_priceOf ⟨_, rfl, rfl⟩ dX10_strengthen_67 h64 rfl rfl (Nat.le_of_ble_eq_true rfl) (rmx_ok hR (by decide) (by decide) (by decide) (by decide)) (t_X10_priceOf (nx := nx) (s := t) hQ hO hN hG hH hD hL (by omega)) rfl ?_
              refine wp_aload_n G 1 dX10_strengthen_70 rfl ?_
              refine wp_iload_n G 3 dX10_strengthen_71 rfl ?_
              refine wp_cVE (b := 64) (ci := 9) (as := [zI ((bs : Nat) : Int)]) (rest := [zI (sumZ (fun u => if t / 2 ^ u % 2 = 1 then hs 3 u else 0) hn)]) (hp2 := (nx, h, [])) G mX10_priceOf lX10_317 iX10_priceOf eX10_priceOf ⟨_, rfl, rfl⟩ dX10_strengthen_72 h64 rfl rfl (Nat.le_of_ble_eq_true rfl) (rmx_ok hR (by decide) (by decide) (by decide) (by decide)) (t_X10_priceOf (nx := nx) (s := bs) hQ hO hN hG hH hD hL (by omega)) rfl ?_
              refine wp_icmp_ge G dX10_strengthen_75 (by omega) (by omega) (fun kq6 => ?_) (fun kq6 => ?_)
              · skip
                refine wp_iload_n G 3 dX10_strengthen_82 rfl ?_
                refine wp_istore_n (lv' := [(2, zI ((bs : Nat) : Int)), (4, zJ (meanF hn ln hs kd dm lw t (st 4) ln - meanF hn ln hs kd dm lw bs (st 4) ln)), (0, zR 64), (1, zI ((vv : Nat) : Int)), (3, zI ((t : Nat) : Int))]) G dX10_strengthen_83 (by decide) rfl ?_
                refine wp_iinc (lv' := [(3, zI (((t : Nat) : Int) + 1)), (2, zI ((bs : Nat) : Int)), (4, zJ (meanF hn ln hs kd dm lw t (st 4) ln - meanF hn ln hs kd dm lw bs (st 4) ln)), (0, zR 64), (1, zI ((vv : Nat) : Int))]) G 4 dX10_strengthen_84 rfl (by decide) rfl ?_
                refine wp_goto G dX10_strengthen_87 ?_
                refine wp_lv [3, 4, 1, 0] rfl ?_
                exact ih19 (t + 1) bs ((bs : Nat) : Int) (((t : Nat) : Int) + 1) (by omega) (by omega) (by omega) (by omega) (by omega) (by first | exact bs_no2 hbs (fun z => by omega) | exact bs_y2 hbs (by omega) (by omega))
              · skip
                refine wp_iload_n G 4 dX10_strengthen_78 rfl ?_
                refine wp_goto G dX10_strengthen_79 ?_
                refine wp_istore_n (lv' := [(2, zI ((t : Nat) : Int)), (4, zJ (meanF hn ln hs kd dm lw t (st 4) ln - meanF hn ln hs kd dm lw bs (st 4) ln)), (0, zR 64), (1, zI ((vv : Nat) : Int)), (3, zI ((t : Nat) : Int))]) G dX10_strengthen_83 (by decide) rfl ?_
                refine wp_iinc (lv' := [(3, zI (((t : Nat) : Int) + 1)), (2, zI ((t : Nat) : Int)), (4, zJ (meanF hn ln hs kd dm lw t (st 4) ln - meanF hn ln hs kd dm lw bs (st 4) ln)), (0, zR 64), (1, zI ((vv : Nat) : Int))]) G 4 dX10_strengthen_84 rfl (by decide) rfl ?_
                refine wp_goto G dX10_strengthen_87 ?_
                refine wp_lv [3, 4, 1, 0] rfl ?_
                exact ih19 (t + 1) t ((t : Nat) : Int) (((t : Nat) : Int) + 1) (by omega) (by omega) (by omega) (by omega) (by omega) (by first | exact bs_no2 hbs (fun z => by omega) | exact bs_y2 hbs (by omega) (by omega))
  · skip
    refine wp_bipush G dX10_strengthen_12 (by decide) ?_
    exact wp_ireturn G hr dX10_strengthen_14 ⟨by rw [ansV, if_pos (by omega)], rfl, by rfl⟩


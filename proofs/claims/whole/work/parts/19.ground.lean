/-! houses, laws, losses. hs 0 x, 1 y, 2 worth, 3 price; kd the kinds; dm the damages by kind; lw 0 x, 1 y, 2 greatness, 3 how often -/
def isG (h : Nat → Option PC) (hn : Nat) (hs : Nat → Nat → Int) (kd : Nat → Nat) (dm : Nat → Nat → Int) (ln : Nat) (lw : Nat → Nat → Int) (gn : Nat → Int) : Prop :=
  h 48 = some (oO 2 [zI ((hn : Nat) : Int), zR 49, zR 50, zR 51, zR 52, zR 53, zR 54, zI ((ln : Nat) : Int), zR 59, zR 60, zR 61, zR 62, zR 63]) ∧ h 49 = some (oA 0 12 (hs 0)) ∧ h 50 = some (oA 0 12 (hs 1)) ∧ h 51 = some (oA 0 12 (fun u => ((kd u : Nat) : Int))) ∧ h 52 = some (oA 0 12 (hs 2)) ∧ h 53 = some (oA 0 12 (hs 3)) ∧ h 54 = some (oP 4 4 (fun i => if i < 4 then some (55 + i) else none)) ∧ h 55 = some (oA 0 10 (dm 0)) ∧ h 56 = some (oA 0 10 (dm 1)) ∧ h 57 = some (oA 0 10 (dm 2)) ∧ h 58 = some (oA 0 10 (dm 3)) ∧ h 59 = some (oA 0 12 (lw 0)) ∧ h 60 = some (oA 0 12 (lw 1)) ∧ h 61 = some (oA 0 12 (lw 2)) ∧ h 62 = some (oA 0 12 (lw 3)) ∧ h 63 = some (oL 2 501 gn)
def okH (hn : Nat) (hs : Nat → Nat → Int) (kd : Nat → Nat) : Prop := hn ≤ 12 ∧ (∀ u, u < hn → 0 ≤ hs 0 u ∧ hs 0 u ≤ 15) ∧ (∀ u, u < hn → 0 ≤ hs 1 u ∧ hs 1 u ≤ 15) ∧ (∀ u, u < hn → 0 ≤ hs 2 u ∧ hs 2 u ≤ 10000) ∧ (∀ u, u < hn → 0 ≤ hs 3 u ∧ hs 3 u ≤ 100) ∧ (∀ u, u < hn → kd u < 3)
def okD (dm : Nat → Nat → Int) : Prop := ∀ k, k < 4 → ∀ s, s < 10 → 0 ≤ dm k s ∧ dm k s ≤ 100
def okL (ln : Nat) (lw : Nat → Nat → Int) : Prop := ln ≤ 12 ∧ (∀ u, u < ln → 0 ≤ lw 0 u ∧ lw 0 u ≤ 15) ∧ (∀ u, u < ln → 0 ≤ lw 1 u ∧ lw 1 u ≤ 15) ∧ (∀ u, u < ln → 0 ≤ lw 2 u ∧ lw 2 u ≤ 90) ∧ (∀ u, u < ln → 1 ≤ lw 3 u ∧ lw 3 u ≤ 1000)
def shk (hs : Nat → Nat → Int) (u : Nat) (x y g f : Int) : Int := max 0 (g - f * farZ x y (hs 0 u) (hs 1 u))
def lsH (hs : Nat → Nat → Int) (dm : Nat → Nat → Int) (u k : Nat) (x y g f : Int) : Int := hs 2 u * dm k ((shk hs u x y g f / 10).toNat) / 100
theorem shk_b {hn : Nat} {hs : Nat → Nat → Int} {kd : Nat → Nat} {u : Nat} {x y g f : Int} (hH : okH hn hs kd) (hu : u < hn) (hx : 0 ≤ x ∧ x ≤ 15) (hy : 0 ≤ y ∧ y ≤ 15) (hg : 0 ≤ g ∧ g ≤ 90) (hf : 0 ≤ f ∧ f ≤ 20) : (0 ≤ f * farZ x y (hs 0 u) (hs 1 u) ∧ f * farZ x y (hs 0 u) (hs 1 u) ≤ 300) ∧ 0 ≤ shk hs u x y g f ∧ shk hs u x y g f ≤ 90 := by
  have h1 := farZ_b hx hy (hH.2.1 u hu) (hH.2.2.1 u hu)
  have h2 := mul_b hf h1
  unfold shk
  omega
theorem lsH_b {hn : Nat} {hs : Nat → Nat → Int} {kd : Nat → Nat} {dm : Nat → Nat → Int} {u k : Nat} {x y g f : Int} (hH : okH hn hs kd) (hD : okD dm) (hu : u < hn) (hk : k < 4) (hx : 0 ≤ x ∧ x ≤ 15) (hy : 0 ≤ y ∧ y ≤ 15) (hg : 0 ≤ g ∧ g ≤ 90) (hf : 0 ≤ f ∧ f ≤ 20) : 0 ≤ lsH hs dm u k x y g f ∧ lsH hs dm u k x y g f ≤ 10000 := by
  have h1 := shk_b hH hu hx hy hg hf
  have h2 := hD k hk ((shk hs u x y g f / 10).toNat) (by omega)
  have h3 := mul_b (hH.2.2.2.1 u hu) h2
  unfold lsH
  omega
/-- as which kind house u counts in the set s -/
def asK (kd : Nat → Nat) (s u : Nat) : Nat := if s / 2 ^ u % 2 = 1 then 3 else kd u
def lsA (hn : Nat) (hs : Nat → Nat → Int) (kd : Nat → Nat) (dm : Nat → Nat → Int) (x y g : Int) (s : Nat) (f : Int) : Int := sumZ (fun u => lsH hs dm u (asK kd s u) x y g f) hn
theorem asK_lt {hn : Nat} {hs : Nat → Nat → Int} {kd : Nat → Nat} (hH : okH hn hs kd) {s u : Nat} (hu : u < hn) : asK kd s u < 4 := by
  have := hH.2.2.2.2.2 u hu
  unfold asK
  split <;> omega
theorem lsA_b {hn : Nat} {hs : Nat → Nat → Int} {kd : Nat → Nat} {dm : Nat → Nat → Int} {s : Nat} {x y g f : Int} (hH : okH hn hs kd) (hD : okD dm) (hx : 0 ≤ x ∧ x ≤ 15) (hy : 0 ≤ y ∧ y ≤ 15) (hg : 0 ≤ g ∧ g ≤ 90) (hf : 0 ≤ f ∧ f ≤ 20) : 0 ≤ lsA hn hs kd dm x y g s f ∧ lsA hn hs kd dm x y g s f ≤ 120000 := by
  have h := sumZ_b (f := fun u => lsH hs dm u (asK kd s u) x y g f) (lo := 0) (hi := 10000) hn (fun u hu => lsH_b hH hD hu (asK_lt hH hu) hx hy hg hf)
  have := hH.1
  unfold lsA
  omega
def lsL (hn : Nat) (hs : Nat → Nat → Int) (kd : Nat → Nat) (dm lw : Nat → Nat → Int) (k s : Nat) (f : Int) : Int := lsA hn hs kd dm (lw 0 k) (lw 1 k) (lw 2 k) s f
def lsQ (hn : Nat) (hs : Nat → Nat → Int) (kd : Nat → Nat) (dm q : Nat → Nat → Int) (j : Nat) (f : Int) : Int := lsA hn hs kd dm (q 2 j) (q 3 j) (q 4 j) 0 f
theorem lsL_b {hn ln : Nat} {hs : Nat → Nat → Int} {kd : Nat → Nat} {dm lw : Nat → Nat → Int} {k s : Nat} {f : Int} (hH : okH hn hs kd) (hD : okD dm) (hL : okL ln lw) (hk : k < ln) (hf : 0 ≤ f ∧ f ≤ 20) : 0 ≤ lsL hn hs kd dm lw k s f ∧ lsL hn hs kd dm lw k s f ≤ 120000 := lsA_b hH hD (hL.2.1 k hk) (hL.2.2.1 k hk) (hL.2.2.2.1 k hk) hf
theorem lsQ_b {hn n : Nat} {hs : Nat → Nat → Int} {kd o : Nat → Nat} {dm q : Nat → Nat → Int} {j : Nat} {f : Int} (hH : okH hn hs kd) (hD : okD dm) (hO : okQ n q o) (hj : j < n) (hf : 0 ≤ f ∧ f ≤ 20) : 0 ≤ lsQ hn hs kd dm q j f ∧ lsQ hn hs kd dm q j f ≤ 120000 := lsA_b hH hD (hO.x j hj) (hO.y j hj) (hO.g j hj) hf
/-- the worst so far, along the order -/
noncomputable def wsF (o : Nat → Nat) (P : Nat → Prop) (L : Nat → Int) : Nat → Int × Int
  | 0 => (-6, -1)
  | r + 1 => by classical exact if P (o r) ∧ (wsF o P L r).2 < L (o r) then (((o r : Nat) : Int), L (o r)) else wsF o P L r
theorem wsF_y {o : Nat → Nat} {P : Nat → Prop} {L : Nat → Int} {r : Nat} (h1 : P (o r)) (h2 : (wsF o P L r).2 < L (o r)) : wsF o P L (r + 1) = (((o r : Nat) : Int), L (o r)) := by rw [wsF]; simp [h1, h2]
theorem wsF_n {o : Nat → Nat} {P : Nat → Prop} {L : Nat → Int} {r : Nat} (h : ¬ (P (o r) ∧ (wsF o P L r).2 < L (o r))) : wsF o P L (r + 1) = wsF o P L r := by rw [wsF]; simp [h]
theorem wsF_b {o : Nat → Nat} {P : Nat → Prop} {L : Nat → Int} {n : Nat} (hL : ∀ r, r < n → 0 ≤ L (o r) ∧ L (o r) ≤ 120000) : ∀ r, r ≤ n → -1 ≤ (wsF o P L r).2 ∧ (wsF o P L r).2 ≤ 120000
  | 0, _ => by rw [wsF]; omega
  | r + 1, hr => by
    have h := wsF_b (P := P) hL r (by omega)
    by_cases c : P (o r) ∧ (wsF o P L r).2 < L (o r)
    · rw [wsF_y c.1 c.2]
      have := hL r (by omega)
      show -1 ≤ L (o r) ∧ _
      omega
    · rw [wsF_n c]; exact h
def meanF (hn ln : Nat) (hs : Nat → Nat → Int) (kd : Nat → Nat) (dm lw : Nat → Nat → Int) (s : Nat) (f : Int) : Nat → Int := sumZ (fun k => lw 3 k * lsL hn hs kd dm lw k s f)
def gainF (hs : Nat → Nat → Int) (kd : Nat → Nat) (dm lw : Nat → Nat → Int) (u : Nat) (f : Int) : Nat → Int := sumZ (fun k => lw 3 k * (lsH hs dm u (kd u) (lw 0 k) (lw 1 k) (lw 2 k) f - lsH hs dm u 3 (lw 0 k) (lw 1 k) (lw 2 k) f))
theorem gain_b {hn ln : Nat} {hs : Nat → Nat → Int} {kd : Nat → Nat} {dm lw : Nat → Nat → Int} {u : Nat} {f : Int} (hH : okH hn hs kd) (hD : okD dm) (hL : okL ln lw) (hu : u < hn) (hf : 0 ≤ f ∧ f ≤ 20) : -120000000 ≤ gainF hs kd dm lw u f ln ∧ gainF hs kd dm lw u f ln ≤ 120000000 := by
  have h := sumZ_b (f := fun k => lw 3 k * (lsH hs dm u (kd u) (lw 0 k) (lw 1 k) (lw 2 k) f - lsH hs dm u 3 (lw 0 k) (lw 1 k) (lw 2 k) f)) (lo := -10000000) (hi := 10000000) ln (fun k hk => by
    have h1 := lsH_b (k := kd u) hH hD hu (by have := hH.2.2.2.2.2 u hu; omega) (hL.2.1 k hk) (hL.2.2.1 k hk) (hL.2.2.2.1 k hk) hf
    have h2 := lsH_b (k := 3) hH hD hu (by omega) (hL.2.1 k hk) (hL.2.2.1 k hk) (hL.2.2.2.1 k hk) hf
    have h3 := hL.2.2.2.2 k hk
    generalize lsH hs dm u (kd u) (lw 0 k) (lw 1 k) (lw 2 k) f = A at h1
    generalize lsH hs dm u 3 (lw 0 k) (lw 1 k) (lw 2 k) f = B at h2
    have h4 := mul_b (a := lw 3 k) (b := A) (A := 1000) (B := 10000) (by omega) h1
    have h5 := mul_b (a := lw 3 k) (b := B) (A := 1000) (B := 10000) (by omega) h2
    show _ ≤ lw 3 k * (A - B) ∧ lw 3 k * (A - B) ≤ _
    rw [Int.mul_sub]
    omega)
  have := hL.1
  unfold gainF
  omega
/-- the table behind one house more -/
def ofF (gn : Nat → Int) (p : Nat) (g : Int) (lo pu : Nat) : Nat → Int := fun m => if lo ≤ m ∧ m ≤ pu then max (gn m) (gn (m - p) + g) else gn m
theorem ofF_0 (gn : Nat → Int) (p : Nat) (g : Int) (pu : Nat) : gn = ofF gn p g (pu + 1) pu := by
  funext m
  unfold ofF
  rw [if_neg (by omega)]
theorem ofF_s (gn : Nat → Int) (p : Nat) (g : Int) {k pu : Nat} (hp : p < k) (hk : k ≤ pu + 1) : fup (ofF gn p g k pu) (k - 1) (max (ofF gn p g k pu (k - 1)) (ofF gn p g k pu (k - 1 - p) + g)) = ofF gn p g (k - 1) pu := by
  funext m
  have e1 : ofF gn p g k pu (k - 1) = gn (k - 1) := by unfold ofF; rw [if_neg (by omega)]
  have e2 : ofF gn p g k pu (k - 1 - p) = gn (k - 1 - p) := by unfold ofF; rw [if_neg (by omega)]
  rw [e1, e2]
  by_cases e : m = k - 1
  · subst e
    rw [fup_self]
    unfold ofF
    rw [if_pos (by omega)]
  · rw [fup_ne _ _ e]
    unfold ofF
    by_cases c : k ≤ m ∧ m ≤ pu
    · rw [if_pos c, if_pos (by omega)]
    · rw [if_neg c, if_neg (by omega)]
def gnU (hs : Nat → Nat → Int) (kd : Nat → Nat) (dm lw : Nat → Nat → Int) (ln : Nat) (f : Int) (u : Nat) : Int := gainF hs kd dm lw u f ln * 8388608 - (hs 3 u * 4096 + ((2 ^ u : Nat) : Int))
def knF (hs : Nat → Nat → Int) (kd : Nat → Nat) (dm lw : Nat → Nat → Int) (ln : Nat) (f : Int) (pu : Nat) (gn : Nat → Int) : Nat → (Nat → Int)
  | 0 => fun m => if m < pu + 1 then 0 else gn m
  | u + 1 => if 0 < gnU hs kd dm lw ln f u then ofF (knF hs kd dm lw ln f pu gn u) (hs 3 u).toNat (gnU hs kd dm lw ln f u) (hs 3 u).toNat pu else knF hs kd dm lw ln f pu gn u
theorem pow_4096 {u : Nat} (hu : u < 12) : 1 ≤ 2 ^ u ∧ 2 ^ u ≤ 2048 := by
  have h1 : 2 ^ u ≤ 2 ^ 11 := Nat.pow_le_pow_right (by decide) (by omega)
  have h2 : 0 < 2 ^ u := Nat.two_pow_pos u
  omega
theorem gnU_b {hn ln : Nat} {hs : Nat → Nat → Int} {kd : Nat → Nat} {dm lw : Nat → Nat → Int} {u : Nat} {f : Int} (hH : okH hn hs kd) (hD : okD dm) (hL : okL ln lw) (hu : u < hn) (hf : 0 ≤ f ∧ f ≤ 20) : -1100000000000000 ≤ gnU hs kd dm lw ln f u ∧ gnU hs kd dm lw ln f u ≤ 1100000000000000 := by
  have h1 := gain_b hH hD hL hu hf
  have h2 := hH.2.2.2.2.1 u hu
  have h3 := pow_4096 (u := u) (by have := hH.1; omega)
  unfold gnU
  omega
theorem knF_b {hn ln : Nat} {hs : Nat → Nat → Int} {kd : Nat → Nat} {dm lw : Nat → Nat → Int} {f : Int} {pu : Nat} {gn : Nat → Int} (hH : okH hn hs kd) (hD : okD dm) (hL : okL ln lw) (hf : 0 ≤ f ∧ f ≤ 20) : ∀ u, u ≤ hn → ∀ m, m ≤ pu → 0 ≤ knF hs kd dm lw ln f pu gn u m ∧ knF hs kd dm lw ln f pu gn u m ≤ 1100000000000000 * (u : Int)
  | 0, _, m, hm => by
    rw [knF]
    simp only []
    rw [if_pos (by omega)]
    omega
  | u + 1, hu, m, hm => by
    have ih := knF_b (gn := gn) (pu := pu) hH hD hL hf u (by omega)
    have h1 := ih m hm
    have hb := gnU_b hH hD hL (u := u) (by omega) hf
    rw [knF]
    split
    · unfold ofF
      split
      · have h2 := ih (m - (hs 3 u).toNat) (by omega)
        omega
      · omega
    · omega

/-! scores: marked days, stretches -/
theorem lk_ge {nx : Nat} {h : Nat → Option PC} {l : List (Nat × PC)} {r : Nat} {c : PC} (h93 : 93 ≤ r) (hl : l.all (fun x => decide (x.1 < 93)) = true) (hh : h r = some c) : hget (nx, h, l) r = some c := by
  show hlk l h r = some c
  induction l with
  | nil => exact hh
  | cons x l ih =>
    simp only [List.all_cons, Bool.and_eq_true, decide_eq_true_eq] at hl
    rw [hlk, if_neg (by omega)]
    exact ih hl.2
theorem isF_lk {nx : Nat} {h : Nat → Option PC} {l : List (Nat × PC)} {r ru : Nat} {la : Int} {dy le mo ch : Nat → Int} (h93 : 93 ≤ r) (hl : l.all (fun x => decide (x.1 < 93)) = true) (hF : isF h r ru la dy le mo ch) : isF (hget (nx, h, l)) r ru la dy le mo ch :=
  ⟨lk_ge h93 hl hF.1, lk_ge (by omega) hl hF.2.1, lk_ge (by omega) hl hF.2.2.1, lk_ge (by omega) hl hF.2.2.2.1, lk_ge (by omega) hl hF.2.2.2.2⟩
def mkF (tu : Nat → Int) (d a b : Int) : Nat → Int := if a < d ∧ d ≤ b then fup tu d.toNat 1 else tu
theorem mkF_y {tu : Nat → Int} {d a b : Int} (h : a < d ∧ d ≤ b) : mkF tu d a b = fup tu d.toNat 1 := if_pos h
theorem mkF_n {tu : Nat → Int} {d a b : Int} (h : ¬ (a < d ∧ d ≤ b)) : mkF tu d a b = tu := if_neg h
theorem mkF_1 {tu : Nat → Int} {d a b : Int} (h : a < d ∧ d ≤ b) : mkF tu d a b d.toNat = 1 := by rw [mkF_y h, fup_self]
theorem mkF_k {tu : Nat → Int} {d a b : Int} {j : Nat} (h : tu j = 1) : mkF tu d a b j = 1 := by
  unfold mkF
  split
  · by_cases e : j = d.toNat
    · rw [e, fup_self]
    · rw [fup_ne _ _ e]; exact h
  · exact h
theorem mkF_01 {tu : Nat → Int} {d a b : Int} {j : Nat} (h : tu j = 0 ∨ tu j = 1) : mkF tu d a b j = 0 ∨ mkF tu d a b j = 1 := by
  unfold mkF
  split
  · by_cases e : j = d.toNat
    · rw [e, fup_self]; omega
    · rw [fup_ne _ _ e]; exact h
  · exact h
theorem mkF_out {tu : Nat → Int} {d a b : Int} {j : Nat} (ha : 0 ≤ a) (hj : (j : Int) ≤ a ∨ b < (j : Int)) : mkF tu d a b j = tu j := by
  unfold mkF
  split
  · rw [fup_ne _ _ (by omega)]
  · rfl
noncomputable def msF (q : Nat → Nat → Int) (m a b : Int) (tu : Nat → Int) : Nat → (Nat → Int)
  | 0 => tu
  | k + 1 => by classical exact if grt q m k then mkF (mkF (msF q m a b tu k) (q 1 k) a b) (q 1 k + 1) a b else msF q m a b tu k
theorem msF_y {q : Nat → Nat → Int} {m a b : Int} {tu : Nat → Int} {k : Nat} (h : grt q m k) : msF q m a b tu (k + 1) = mkF (mkF (msF q m a b tu k) (q 1 k) a b) (q 1 k + 1) a b := by rw [msF]; simp [h]
theorem msF_n {q : Nat → Nat → Int} {m a b : Int} {tu : Nat → Int} {k : Nat} (h : ¬ grt q m k) : msF q m a b tu (k + 1) = msF q m a b tu k := by rw [msF]; simp [h]
noncomputable def mrI (q : Nat → Nat → Int) (a b d m : Int) (tu : Nat → Int) : Nat → (Nat → Int)
  | 0 => tu
  | k + 1 => by classical exact if grt q m k then mkF (mkF (mrI q a b d m tu k) (q 5 k + 1) a b) (q 1 k + d + 1) a b else mrI q a b d m tu k
theorem mrI_y {q : Nat → Nat → Int} {a b d m : Int} {tu : Nat → Int} {k : Nat} (h : grt q m k) : mrI q a b d m tu (k + 1) = mkF (mkF (mrI q a b d m tu k) (q 5 k + 1) a b) (q 1 k + d + 1) a b := by rw [mrI]; simp [h]
theorem mrI_n {q : Nat → Nat → Int} {a b d m : Int} {tu : Nat → Int} {k : Nat} (h : ¬ grt q m k) : mrI q a b d m tu (k + 1) = mrI q a b d m tu k := by rw [mrI]; simp [h]
noncomputable def mrF (q : Nat → Nat → Int) (n : Nat) (a b : Int) (dy le : Nat → Int) (tu : Nat → Int) : Nat → (Nat → Int)
  | 0 => tu
  | k + 1 => mrI q a b (dy k) (le k) (mrF q n a b dy le tu k) n
/-- ones stay, all is 0 or 1, nothing outside is touched -/
def mOk (a b : Int) (t u : Nat → Int) : Prop := (∀ j, t j = 1 → u j = 1) ∧ (∀ j, (t j = 0 ∨ t j = 1) → u j = 0 ∨ u j = 1) ∧ (0 ≤ a → ∀ j : Nat, ((j : Int) ≤ a ∨ b < (j : Int)) → u j = t j)
theorem mOk.rf (a b : Int) (t : Nat → Int) : mOk a b t t := ⟨fun _ h => h, fun _ h => h, fun _ _ _ => rfl⟩
theorem mOk.mk {a b d : Int} {t u : Nat → Int} (h : mOk a b t u) : mOk a b t (mkF u d a b) := ⟨fun j hj => mkF_k (h.1 j hj), fun j z => mkF_01 (h.2.1 j z), fun ha j hj => (mkF_out ha hj).trans (h.2.2 ha j hj)⟩
theorem mOk.tr {a b : Int} {t u v : Nat → Int} (h : mOk a b t u) (g : mOk a b u v) : mOk a b t v := ⟨fun j hj => g.1 j (h.1 j hj), fun j z => g.2.1 j (h.2.1 j z), fun ha j hj => (g.2.2 ha j hj).trans (h.2.2 ha j hj)⟩
theorem msF_ok (q : Nat → Nat → Int) (m a b : Int) (tu : Nat → Int) : ∀ k, mOk a b tu (msF q m a b tu k) ∧ ∀ j, j < k → grt q m j → ∀ d, (d = q 1 j ∨ d = q 1 j + 1) → (a < d ∧ d ≤ b) → msF q m a b tu k d.toNat = 1
  | 0 => ⟨mOk.rf _ _ _, fun j hj => by omega⟩
  | k + 1 => by
    obtain ⟨h1, h2⟩ := msF_ok q m a b tu k
    by_cases c : grt q m k
    · rw [msF_y c]
      refine ⟨h1.mk.mk, fun j hj hg d hd hr => ?_⟩
      by_cases e : j = k
      · subst e
        rcases hd with rfl | rfl
        · exact mkF_k (mkF_1 hr)
        · exact mkF_1 hr
      · exact mkF_k (mkF_k (h2 j (by omega) hg d hd hr))
    · rw [msF_n c]
      refine ⟨h1, fun j hj hg d hd hr => ?_⟩
      by_cases e : j = k
      · subst e; exact absurd hg c
      · exact h2 j (by omega) hg d hd hr
theorem mrI_ok (q : Nat → Nat → Int) (a b dd m : Int) (tu : Nat → Int) : ∀ k, mOk a b tu (mrI q a b dd m tu k) ∧ ∀ j, j < k → grt q m j → ∀ d, (d = q 5 j + 1 ∨ d = q 1 j + dd + 1) → (a < d ∧ d ≤ b) → mrI q a b dd m tu k d.toNat = 1
  | 0 => ⟨mOk.rf _ _ _, fun j hj => by omega⟩
  | k + 1 => by
    obtain ⟨h1, h2⟩ := mrI_ok q a b dd m tu k
    by_cases c : grt q m k
    · rw [mrI_y c]
      refine ⟨h1.mk.mk, fun j hj hg d hd hr => ?_⟩
      by_cases e : j = k
      · subst e
        rcases hd with rfl | rfl
        · exact mkF_k (mkF_1 hr)
        · exact mkF_1 hr
      · exact mkF_k (mkF_k (h2 j (by omega) hg d hd hr))
    · rw [mrI_n c]
      refine ⟨h1, fun j hj hg d hd hr => ?_⟩
      by_cases e : j = k
      · subst e; exact absurd hg c
      · exact h2 j (by omega) hg d hd hr
theorem mrF_ok (q : Nat → Nat → Int) (n : Nat) (a b : Int) (dy le : Nat → Int) (tu : Nat → Int) : ∀ k, mOk a b tu (mrF q n a b dy le tu k) ∧ ∀ i, i < k → ∀ j, j < n → grt q (le i) j → ∀ d, (d = q 5 j + 1 ∨ d = q 1 j + dy i + 1) → (a < d ∧ d ≤ b) → mrF q n a b dy le tu k d.toNat = 1
  | 0 => ⟨mOk.rf _ _ _, fun i hi => by omega⟩
  | k + 1 => by
    obtain ⟨h1, h2⟩ := mrF_ok q n a b dy le tu k
    obtain ⟨g1, g2⟩ := mrI_ok q a b (dy k) (le k) (mrF q n a b dy le tu k) n
    rw [mrF]
    refine ⟨h1.tr g1, fun i hi j hj hg d hd hr => ?_⟩
    by_cases e : i = k
    · subst e; exact g2 j hj hg d hd hr
    · exact g1.1 _ (h2 i (by omega) j hj hg d hd hr)
/-- what is due on a day -/
noncomputable def dueZ (q : Nat → Nat → Int) (n : Nat) (m d : Int) : Int := ifZ (∃ j, j < n ∧ q 1 j = d ∧ grt q m j) 1000 0
theorem due_same {q : Nat → Nat → Int} {n : Nat} {m d : Int} (h : ∀ j, j < n → grt q m j → d ≠ q 1 j ∧ d ≠ q 1 j + 1) : dueZ q n m d = dueZ q n m (d - 1) := by
  unfold dueZ
  rw [ifZ_n (fun ⟨j, h1, h2, h3⟩ => (h j h1 h3).1 h2.symm), ifZ_n (fun ⟨j, h1, h2, h3⟩ => (h j h1 h3).2 (by omega))]
theorem tel_congr {R R' : Nat → Prop} {c : Nat → Int} {la : Int} {ru : Nat} (h : ∀ k, k < ru → (R k ↔ R' k)) : ∀ m, m ≤ ru → telF R c la ru m = telF R' c la ru m
  | 0, _ => rfl
  | m + 1, hm => by rw [telF, telF, tel_congr h m (by omega), ifZ_iff (h (ru - (m + 1)) (by omega))]
theorem tld_same {q : Nat → Nat → Int} {n ru : Nat} {la : Int} {dy le mo ch : Nat → Int} {d : Int} (h : ∀ k, k < ru → ∀ j, j < n → grt q (le k) j → d ≠ q 5 j + 1 ∧ d ≠ q 1 j + dy k + 1) : tld q n ru la dy le mo ch d = tld q n ru la dy le mo ch (d - 1) := by
  unfold tld
  refine tel_congr (fun k hk => ?_) ru (Nat.le_refl _)
  have e : hma q n (dy k) (le k) d = hma q n (dy k) (le k) (d - 1) := by
    unfold hma
    refine cntZ_congr n (fun j hj => ?_)
    constructor
    · rintro ⟨g, h1, h2⟩
      have := h k hk j hj g
      exact ⟨g, by omega, by omega⟩
    · rintro ⟨g, h1, h2⟩
      have := h k hk j hj g
      exact ⟨g, by omega, by omega⟩
  rw [e]
/-- one day's part of the score of a mixture -/
noncomputable def ofZ (F G D : Int → Int) (w d : Int) : Int := (w * F d + (10 - w) * G d) / 10 - D d
noncomputable def scZ (F G D : Int → Int) (w a : Int) (k : Nat) : Int := sumZ (fun i => ofZ F G D w (a + ((i : Nat) : Int)) * ofZ F G D w (a + ((i : Nat) : Int))) k
theorem scZ_add (F G D : Int → Int) (w a : Int) (i : Nat) {c : Int} : ∀ k, (∀ t, t < k → ofZ F G D w (a + ((i + t : Nat) : Int)) = c) → scZ F G D w a (i + k) = scZ F G D w a i + ((k : Nat) : Int) * c * c
  | 0, _ => by simp
  | k + 1, h => by
    have ih := scZ_add F G D w a i k (fun t ht => h t (by omega))
    have e := h k (Nat.lt_succ_self k)
    unfold scZ at ih ⊢
    rw [show i + (k + 1) = (i + k) + 1 by omega, sumZ, ih, e, Int.natCast_succ, Int.add_mul, Int.add_mul, Int.one_mul]
    omega
theorem ofZ_b {F G D : Int → Int} {w d : Int} (hF : 0 ≤ F d ∧ F d ≤ 1000) (hG : 0 ≤ G d ∧ G d ≤ 1000) (hD : D d = 0 ∨ D d = 1000) (hw : 0 ≤ w ∧ w ≤ 10) : (0 ≤ w * F d + (10 - w) * G d ∧ w * F d + (10 - w) * G d ≤ 20000) ∧ -1000 ≤ ofZ F G D w d ∧ ofZ F G D w d ≤ 1000 := by
  have h1 := mul_b (a := w) (b := F d) hw hF
  have h2 := mul_b (a := 10 - w) (b := G d) (A := 10) (by omega) hG
  have h3 : w * F d ≤ w * 1000 := Int.mul_le_mul_of_nonneg_left hF.2 hw.1
  have h4 : (10 - w) * G d ≤ (10 - w) * 1000 := Int.mul_le_mul_of_nonneg_left hG.2 (by omega)
  unfold ofZ
  omega
def lmF (su : Nat → Int) : Nat → Nat
  | 0 => 0
  | k + 1 => if su (k + 1) < su (lmF su k) then k + 1 else lmF su k
theorem lmF_le (su : Nat → Int) : ∀ k, lmF su k ≤ k
  | 0 => Nat.le_refl _
  | k + 1 => by
    rw [lmF]
    split
    · exact Nat.le_refl _
    · exact Nat.le_succ_of_le (lmF_le su k)
/-- all marks of a work -/
noncomputable def mkA (q : Nat → Nat → Int) (n : Nat) (m a b : Int) (ru ru2 : Nat) (dy le dy2 le2 : Nat → Int) (tu : Nat → Int) : Nat → Int := mrF q n a b dy2 le2 (mrF q n a b dy le (msF q m a b tu n) ru) ru2
theorem mkA_ok (q : Nat → Nat → Int) (n : Nat) (m a b : Int) (ru ru2 : Nat) (dy le dy2 le2 : Nat → Int) (tu : Nat → Int) : mOk a b tu (mkA q n m a b ru ru2 dy le dy2 le2 tu) := ((msF_ok q m a b tu n).1.tr (mrF_ok q n a b dy le _ ru).1).tr (mrF_ok q n a b dy2 le2 _ ru2).1
theorem mkA_same {q : Nat → Nat → Int} {n : Nat} {m a b : Int} {ru ru2 : Nat} {la la2 : Int} {dy le mo ch dy2 le2 mo2 ch2 : Nat → Int} {tu : Nat → Int} {d : Int} (hr : a < d ∧ d ≤ b) (h0 : mkA q n m a b ru ru2 dy le dy2 le2 tu d.toNat = 0) :
    tld q n ru la dy le mo ch d = tld q n ru la dy le mo ch (d - 1) ∧ tld q n ru2 la2 dy2 le2 mo2 ch2 d = tld q n ru2 la2 dy2 le2 mo2 ch2 (d - 1) ∧ dueZ q n m d = dueZ q n m (d - 1) := by
  have k2 := mrF_ok q n a b dy2 le2 (mrF q n a b dy le (msF q m a b tu n) ru) ru2
  have k1 := mrF_ok q n a b dy le (msF q m a b tu n) ru
  have k0 := msF_ok q m a b tu n
  refine ⟨tld_same (fun k hk j hj hg => ?_), tld_same (fun k hk j hj hg => ?_), due_same (fun j hj hg => ?_)⟩
  · constructor
    · intro e
      have := k2.1.1 _ (k1.2 k hk j hj hg d (Or.inl e) hr)
      unfold mkA at h0; omega
    · intro e
      have := k2.1.1 _ (k1.2 k hk j hj hg d (Or.inr e) hr)
      unfold mkA at h0; omega
  · constructor
    · intro e
      have := k2.2 k hk j hj hg d (Or.inl e) hr
      unfold mkA at h0; omega
    · intro e
      have := k2.2 k hk j hj hg d (Or.inr e) hr
      unfold mkA at h0; omega
  · constructor
    · intro e
      have := k2.1.1 _ (k1.1.1 _ (k0.2 j hj hg d (Or.inl e) hr))
      unfold mkA at h0; omega
    · intro e
      have := k2.1.1 _ (k1.1.1 _ (k0.2 j hj hg d (Or.inr e) hr))
      unfold mkA at h0; omega
theorem wk_new {F G D : Int → Int} {S : Nat → Int} {a s e : Nat} (h1 : a ≤ s) (h2 : s ≤ e) (hS : ∀ w, w < 11 → S w = scZ F G D ((w : Nat) : Int) ((a : Nat) : Int) (s - a)) (hc : ∀ t : Nat, s ≤ t → t < e → F ((t : Nat) : Int) = F ((s : Nat) : Int) ∧ G ((t : Nat) : Int) = G ((s : Nat) : Int) ∧ D ((t : Nat) : Int) = D ((s : Nat) : Int)) : ∀ w, w < 11 → (if w < 11 then S w + (((e : Nat) : Int) - ((s : Nat) : Int)) * ofZ F G D ((w : Nat) : Int) ((s : Nat) : Int) * ofZ F G D ((w : Nat) : Int) ((s : Nat) : Int) else S w) = scZ F G D ((w : Nat) : Int) ((a : Nat) : Int) (e - a) := by
  intro w hw
  rw [if_pos hw, hS w hw]
  have := scZ_add F G D ((w : Nat) : Int) ((a : Nat) : Int) (s - a) (c := ofZ F G D ((w : Nat) : Int) ((s : Nat) : Int)) (e - s) (fun t ht => by
    have := hc (s + t) (by omega) (by omega)
    have e1 : ((a : Nat) : Int) + ((s - a + t : Nat) : Int) = ((s + t : Nat) : Int) := by omega
    unfold ofZ
    rw [e1, this.1, this.2.1, this.2.2])
  rw [show s - a + (e - s) = e - a by omega] at this
  rw [this, show ((e - s : Nat) : Int) = ((e : Nat) : Int) - ((s : Nat) : Int) by omega]
theorem sum1_b (F G D : Int → Int) (w a : Int) (hF : ∀ d, 0 ≤ F d ∧ F d ≤ 1000) (hG : ∀ d, 0 ≤ G d ∧ G d ≤ 1000) (hD : ∀ d, D d = 0 ∨ D d = 1000) (hw : 0 ≤ w ∧ w ≤ 10) (k : Nat) (hk : k ≤ 4000) : 0 ≤ scZ F G D w a k ∧ scZ F G D w a k ≤ 1000000000000 := by
  unfold scZ
  have h := sumZ_b (f := fun i => ofZ F G D w (a + ((i : Nat) : Int)) * ofZ F G D w (a + ((i : Nat) : Int))) (lo := 0) (hi := 1000000) k (fun j _ => by
    have h1 := (ofZ_b (F := F) (G := G) (D := D) (w := w) (d := a + ((j : Nat) : Int)) (hF _) (hG _) (hD _) hw).2
    generalize ofZ F G D w (a + ((j : Nat) : Int)) = x at h1
    rcases Int.le_total 0 x with c | c
    · have := mul_b (a := x) (b := x) (A := 1000) (B := 1000) (by omega) (by omega)
      omega
    · have := mul_b (a := -x) (b := -x) (A := 1000) (B := 1000) (by omega) (by omega)
      rw [Int.neg_mul_neg] at this
      omega)
  omega
theorem due_c (q : Nat → Nat → Int) (n : Nat) (m d : Int) : dueZ q n m d = 0 ∨ dueZ q n m d = 1000 := by
  unfold dueZ
  by_cases c : ∃ j, j < n ∧ q 1 j = d ∧ grt q m j
  · rw [ifZ_y c]; omega
  · rw [ifZ_n c]; omega

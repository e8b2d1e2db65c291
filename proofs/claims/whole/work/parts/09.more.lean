/-! truth as a number; exact contracts; the JDK's max, min, abs; bits -/
noncomputable def bt (P : Prop) : Int := by classical exact if P then 1 else 0
theorem bt_1 {P : Prop} (h : P) : bt P = 1 := by unfold bt; simp [h]
theorem bt_0 {P : Prop} (h : ¬ P) : bt P = 0 := by unfold bt; simp [h]
theorem bt_01 (P : Prop) : bt P = 0 ∨ bt P = 1 := by
  by_cases h : P
  · exact Or.inr (bt_1 h)
  · exact Or.inl (bt_0 h)
theorem bt_r (P : Prop) : r32 (bt P) := by
  rcases bt_01 P with h | h <;> rw [h] <;> omega
theorem bt_iff {P R : Prop} (h : P ↔ R) : bt P = bt R := by
  by_cases hp : P
  · rw [bt_1 hp, bt_1 (h.mp hp)]
  · rw [bt_0 hp, bt_0 (fun z => hp (h.mpr z))]
abbrev Rt (v : PV) (nx : Nat) (l : List (Nat × PC)) : Option PV → Nat → List (Nat × PC) → Prop := fun r nx' l' => r = some v ∧ nx' = nx ∧ l' = l
abbrev Rn (nx : Nat) (l : List (Nat × PC)) : Option PV → Nat → List (Nat × PC) → Prop := fun r nx' l' => r = none ∧ nx' = nx ∧ l' = l
theorem rmx_ok {K : KT} {d d0 mc ms c1 c2 maxL : Nat} (hR : kR K = rmx d mc ms) (h1 : d0 + 1 ≤ d) (h2 : maxL ≤ 21) (h3 : c1 ≤ mc) (h4 : c2 ≤ ms) : d0 + 1 ≤ (kR K).frames ∧ 8 + (maxL + 11) + 40 * d0 ≤ (kR K).locals ∧ c1 ≤ (kR K).cells ∧ c2 ≤ (kR K).slots := by
  rw [hR]
  exact ⟨h1, by show _ ≤ 40 * d; omega, h3, h4⟩
section RULES6
variable {K : KT} {nL : Nat} {Q : State → Prop} {cs mm : Nat × Nat} {pc pc' tgt : Nat} {lv : List (Nat × PV)} {stk rest : List PV} {hp hp2 : PH} {cc : ByteArray} {own : String} {h : Nat → Option PC} {nx : Nat} {l : List (Nat × PC)}
theorem wp_ifeq_bt (G : Gd K cc own nL) {P : Prop} {off : Int} (hd : Db cc pc (.ifCond .eq off) off pc' tgt) (kt : ¬ P → Wp K nL Q cs tgt lv stk hp) (kf : P → Wp K nL Q cs pc' lv stk hp) : Wp K nL Q cs pc lv (zI (bt P) :: stk) hp :=
  wp_if_eq G hd (bt_r P) (fun e => kt (fun z => by rw [bt_1 z] at e; omega)) (fun e => kf (Classical.byContradiction fun z => e (bt_0 z)))
theorem wp_ifne_bt (G : Gd K cc own nL) {P : Prop} {off : Int} (hd : Db cc pc (.ifCond .ne off) off pc' tgt) (kt : P → Wp K nL Q cs tgt lv stk hp) (kf : ¬ P → Wp K nL Q cs pc' lv stk hp) : Wp K nL Q cs pc lv (zI (bt P) :: stk) hp :=
  wp_if_ne G hd (bt_r P) (fun e => kt (Classical.byContradiction fun z => e (bt_0 z))) (fun e => kf (fun z => by rw [bt_1 z] at e; omega))
/-- calls whose answer is told exactly, and that make no cell -/
theorem wp_cSE (G : Gd K cc own nL) {d n idx maxL : Nat} {y : MethodName} {cb : ByteArray} {ret : Option FieldType} {as : List PV} {v : PV} (hm : My y cb maxL ret n) (hl : Mlk own idx y) (hst : Cond.static y ∈ WT) (hd : Dn cc pc (.invokestatic idx) 3 pc') (hs : stk = as.reverse ++ rest) (hn : as.length = n) (hrw : rwd rest ≤ 8) (hR : d + 1 ≤ (kR K).frames ∧ 8 + (maxL + 11) + 40 * d ≤ (kR K).locals ∧ cs.1 ≤ (kR K).cells ∧ cs.2 ≤ (kR K).slots)
    (C : Cx d (0, 0) y cb maxL ret as hp.1 (hget hp) (Rt v hp.1 l)) (he : (hp.1, hp.2.1, asets hp.2.2 l) = hp2) (k : Wp K nL Q cs pc' lv (v :: rest) hp2) : Wp K nL Q cs pc lv stk hp :=
  wp_callS G hm hl hst hd hs hn hrw hR C (fun r nx' l' hq => by obtain ⟨rfl, rfl, rfl⟩ := hq; rw [he]; exact k)
theorem wp_cVE (G : Gd K cc own nL) {d n idx maxL b ci : Nat} {y : MethodName} {cb : ByteArray} {ret : Option FieldType} {as fs : List PV} {v : PV} (hm : My y cb maxL ret n) (hl : Mlk own idx y) (hin : Cond.instanceMethod y ∈ WT) (hsel : Cond.selects y.cls y y ∈ WT) (hci : ∃ q, vwCl[ci]? = some q ∧ q.1 = y.cls) (hd : Dn cc pc (.invokevirtual idx) 3 pc') (ho : hget hp b = some (oO ci fs)) (hs : stk = as.reverse ++ zR b :: rest) (hn : as.length = n) (hrw : rwd rest ≤ 8) (hR : d + 1 ≤ (kR K).frames ∧ 8 + (maxL + 11) + 40 * d ≤ (kR K).locals ∧ cs.1 ≤ (kR K).cells ∧ cs.2 ≤ (kR K).slots)
    (C : Cx d (0, 0) y cb maxL ret (zR b :: as) hp.1 (hget hp) (Rt v hp.1 l)) (he : (hp.1, hp.2.1, asets hp.2.2 l) = hp2) (k : Wp K nL Q cs pc' lv (v :: rest) hp2) : Wp K nL Q cs pc lv stk hp :=
  wp_callV G hm hl hin hsel hci hd ho hs hn hrw hR C (fun r nx' l' hq => by obtain ⟨rfl, rfl, rfl⟩ := hq; rw [he]; exact k)
theorem wp_cVN (G : Gd K cc own nL) {d n idx maxL b ci : Nat} {y : MethodName} {cb : ByteArray} {ret : Option FieldType} {as fs : List PV} (hm : My y cb maxL ret n) (hl : Mlk own idx y) (hin : Cond.instanceMethod y ∈ WT) (hsel : Cond.selects y.cls y y ∈ WT) (hci : ∃ q, vwCl[ci]? = some q ∧ q.1 = y.cls) (hd : Dn cc pc (.invokevirtual idx) 3 pc') (ho : hget hp b = some (oO ci fs)) (hs : stk = as.reverse ++ zR b :: rest) (hn : as.length = n) (hrw : rwd rest ≤ 8) (hR : d + 1 ≤ (kR K).frames ∧ 8 + (maxL + 11) + 40 * d ≤ (kR K).locals ∧ cs.1 ≤ (kR K).cells ∧ cs.2 ≤ (kR K).slots)
    (C : Cx d (0, 0) y cb maxL ret (zR b :: as) hp.1 (hget hp) (Rn hp.1 l)) (he : (hp.1, hp.2.1, asets hp.2.2 l) = hp2) (k : Wp K nL Q cs pc' lv rest hp2) : Wp K nL Q cs pc lv stk hp :=
  wp_callV G hm hl hin hsel hci hd ho hs hn hrw hR C (fun r nx' l' hq => by obtain ⟨rfl, rfl, rfl⟩ := hq; rw [he]; exact k)
theorem max_i {a b : Int} (ra : r32 a) (rb : r32 b) : (if Int32.ofInt a < Int32.ofInt b then Int32.ofInt b else Int32.ofInt a) = Int32.ofInt (max a b) := by
  by_cases c : a < b
  · rw [if_pos ((l32 ra rb).mpr c), Int.max_eq_right (by omega)]
  · rw [if_neg (fun z => c ((l32 ra rb).mp z)), Int.max_eq_left (by omega)]
theorem min_i {a b : Int} (ra : r32 a) (rb : r32 b) : (if Int32.ofInt b < Int32.ofInt a then Int32.ofInt b else Int32.ofInt a) = Int32.ofInt (min a b) := by
  by_cases c : b < a
  · rw [if_pos ((l32 rb ra).mpr c), Int.min_eq_right (by omega)]
  · rw [if_neg (fun z => c ((l32 rb ra).mp z)), Int.min_eq_left (by omega)]
theorem wp_mmax (G : Gd K cc own nL) {idx : Nat} {a b : Int} (ra : r32 a) (rb : r32 b) (hl : Cond.methodLink own idx Lib.Math.max.name ∈ WT) (hst : Cond.static Lib.Math.max.name ∈ WT) (hc : Cond.code Lib.Math.max.name Lib.Math.max.code 2 (some .int) ∈ WT) (hi : Cond.initialized "java/lang/Math" ∈ WT) (hd : Dn cc pc (.invokestatic idx) 3 pc') (hrw : rwd stk ≤ 8) (hR : 0 + 1 ≤ (kR K).frames ∧ 21 ≤ (kR K).locals ∧ cs.1 ≤ (kR K).cells ∧ cs.2 ≤ (kR K).slots) (k : Wp K nL Q cs pc' lv (zI (max a b) :: stk) hp) : Wp K nL Q cs pc lv (zI b :: zI a :: stk) hp := by
  intro H locs ls h1 h2 h3
  obtain ⟨hx, hb, hml, hown, hts, -⟩ := G
  obtain ⟨hd, rfl⟩ := hd
  refine va_mmax (x := Int32.ofInt a) (y := Int32.ofInt b) hx hb (hml.trans h3.1.symm) hown (hts _ hl) (hts _ hst) (hts _ hi) (hts _ hc) hR.1 (by rw [rwd_eq]; exact Nat.le_trans (Nat.add_le_add_right hrw 13) hR.2.1) hR.2.2.1 hR.2.2.2 hd ?_
  rw [max_i ra rb]
  exact k H locs ls h1 h2 h3
theorem wp_mmin (G : Gd K cc own nL) {idx : Nat} {a b : Int} (ra : r32 a) (rb : r32 b) (hl : Cond.methodLink own idx Lib.Math.min.name ∈ WT) (hst : Cond.static Lib.Math.min.name ∈ WT) (hc : Cond.code Lib.Math.min.name Lib.Math.min.code 2 (some .int) ∈ WT) (hi : Cond.initialized "java/lang/Math" ∈ WT) (hd : Dn cc pc (.invokestatic idx) 3 pc') (hrw : rwd stk ≤ 8) (hR : 0 + 1 ≤ (kR K).frames ∧ 21 ≤ (kR K).locals ∧ cs.1 ≤ (kR K).cells ∧ cs.2 ≤ (kR K).slots) (k : Wp K nL Q cs pc' lv (zI (min a b) :: stk) hp) : Wp K nL Q cs pc lv (zI b :: zI a :: stk) hp := by
  intro H locs ls h1 h2 h3
  obtain ⟨hx, hb, hml, hown, hts, -⟩ := G
  obtain ⟨hd, rfl⟩ := hd
  refine va_mmin (x := Int32.ofInt a) (y := Int32.ofInt b) hx hb (hml.trans h3.1.symm) hown (hts _ hl) (hts _ hst) (hts _ hi) (hts _ hc) hR.1 (by rw [rwd_eq]; exact Nat.le_trans (Nat.add_le_add_right hrw 13) hR.2.1) hR.2.2.1 hR.2.2.2 hd ?_
  rw [min_i ra rb]
  exact k H locs ls h1 h2 h3
theorem wp_mabs (G : Gd K cc own nL) {idx : Nat} {a : Int} (ra : r32 a) (hl : Cond.methodLink own idx Lib.Math.abs.name ∈ WT) (hst : Cond.static Lib.Math.abs.name ∈ WT) (hc : Cond.code Lib.Math.abs.name Lib.Math.abs.code 1 (some .int) ∈ WT) (hi : Cond.initialized "java/lang/Math" ∈ WT) (hd : Dn cc pc (.invokestatic idx) 3 pc') (hrw : rwd stk ≤ 8) (hR : 0 + 1 ≤ (kR K).frames ∧ 21 ≤ (kR K).locals ∧ cs.1 ≤ (kR K).cells ∧ cs.2 ≤ (kR K).slots) (k : Wp K nL Q cs pc' lv (zI (if 0 ≤ a then a else -a) :: stk) hp) : Wp K nL Q cs pc lv (zI a :: stk) hp := by
  intro H locs ls h1 h2 h3
  obtain ⟨hx, hb, hml, hown, hts, -⟩ := G
  obtain ⟨hd, rfl⟩ := hd
  have e : (if 0 ≤ Int32.ofInt a then Int32.ofInt a else 0 - Int32.ofInt a) = Int32.ofInt (if 0 ≤ a then a else -a) := by
    have r0 : r32 0 := by omega
    by_cases c : 0 ≤ a
    · rw [if_pos c, if_pos (by rw [z32]; exact (le32 r0 ra).mpr c)]
    · rw [if_neg c, if_neg (fun z => c ((le32 r0 ra).mp (by rw [← z32]; exact z))), z32, ← Int32.ofInt_sub]
      congr 1
      omega
  refine va_mabs (x := Int32.ofInt a) hx hb (hml.trans h3.1.symm) hown (hts _ hl) (hts _ hst) (hts _ hi) (hts _ hc) hR.1 (by rw [rwd_eq]; exact Nat.le_trans (Nat.add_le_add_right hrw 13) hR.2.1) hR.2.2.1 hR.2.2.2 hd ?_
  rw [e]
  exact k H locs ls h1 h2 h3
theorem wp_lmax (G : Gd K cc own nL) {idx : Nat} {a b : Int} (ra : r64 a) (rb : r64 b) (hl : Cond.methodLink own idx Lib.MathLoose.max_long.x ∈ WT) (hst : Cond.static Lib.MathLoose.max_long.x ∈ WT) (hc : Cond.code Lib.MathLoose.max_long.x Lib.MathLoose.max_long.code 4 (some .long) ∈ WT) (hi : Cond.initialized "java/lang/Math" ∈ WT) (hd : Dn cc pc (.invokestatic idx) 3 pc') (hrw : rwd stk ≤ 6) (hR : 0 + 1 ≤ (kR K).frames ∧ 21 ≤ (kR K).locals ∧ cs.1 ≤ (kR K).cells ∧ cs.2 ≤ (kR K).slots) (k : Wp K nL Q cs pc' lv (zJ (max a b) :: stk) hp) : Wp K nL Q cs pc lv (zJ b :: zJ a :: stk) hp := by
  intro H locs ls h1 h2 h3
  obtain ⟨hx, hb, hml, hown, hts, -⟩ := G
  obtain ⟨hd, rfl⟩ := hd
  have e : (if Int64.ofInt b < Int64.ofInt a then Int64.ofInt a else Int64.ofInt b) = Int64.ofInt (max a b) := by
    have e1 : Int64.ofInt b < Int64.ofInt a ↔ b < a := by rw [Int64.lt_iff_toInt_lt, n64 ra, n64 rb]
    by_cases c : b < a
    · rw [if_pos (e1.mpr c), Int.max_eq_left (by omega)]
    · rw [if_neg (fun z => c (e1.mp z)), Int.max_eq_right (by omega)]
  refine va_mmax_long (x := Int64.ofInt a) (y := Int64.ofInt b) hx hb (hml.trans h3.1.symm) hown (hts _ hl) (hts _ hst) (hts _ hi) (hts _ hc) hR.1 (by rw [rwd_eq]; exact Nat.le_trans (Nat.add_le_add_right hrw 15) hR.2.1) hR.2.2.1 hR.2.2.2 hd ?_
  rw [e]
  exact k H locs ls h1 h2 h3
theorem wp_putE (G : Gd K cc own nL) {idx r ci : Nat} (f : Nat) {fs : List PV} {v : PV} (hc : ClOk ci) (hf : Fx own idx ci f) (hd : Dn cc pc (.putfield idx) 3 pc') (ho : hget hp r = some (oO ci fs)) (hlen : f < fs.length) (hfit : fitF (clTy ci f) v) (hfin : ∀ q, vwCl[ci]? = some q → (q.2.1 f).2.2.2 = false) (he : hset hp r (oO ci (fs.set f v)) = hp2) (k : Wp K nL Q cs pc' lv stk hp2) : Wp K nL Q cs pc lv (v :: zR r :: stk) hp := wp_put G f hc hf hd ho hlen hfit hfin (by rw [he]; exact k)
theorem wp_iastE (G : Gd K cc own nL) {r n j : Nat} {f : Nat → Int} {z x : Int} (hd : Dn cc pc .iastore 1 pc') (ho : hget hp r = some (oA 0 n f)) (hz : z = (j : Int)) (hj : j < n) (hn : n < 2147483648) (he : hset hp r (oA 0 n (fup f j x)) = hp2) (k : Wp K nL Q cs pc' lv stk hp2) : Wp K nL Q cs pc lv (zI x :: zI z :: zR r :: stk) hp := wp_iast G hd ho hz hj hn (by rw [he]; exact k)
theorem wp_lastE (G : Gd K cc own nL) {r n j : Nat} {f : Nat → Int} {z x : Int} (hd : Dn cc pc .lastore 1 pc') (ho : hget hp r = some (oL 2 n f)) (hz : z = (j : Int)) (hj : j < n) (hn : n < 2147483648) (he : hset hp r (oL 2 n (fup f j x)) = hp2) (k : Wp K nL Q cs pc' lv stk hp2) : Wp K nL Q cs pc lv (zJ x :: zI z :: zR r :: stk) hp := wp_last G hd ho hz hj hn (by rw [he]; exact k)
theorem wp_zastE (G : Gd K cc own nL) {r n j : Nat} {f : Nat → Int} {z x : Int} (hx01 : x = 0 ∨ x = 1) (hd : Dn cc pc .bastore 1 pc') (ho : hget hp r = some (oA 1 n f)) (hz : z = (j : Int)) (hj : j < n) (hn : n < 2147483648) (he : hset hp r (oA 1 n (fup f j x)) = hp2) (k : Wp K nL Q cs pc' lv stk hp2) : Wp K nL Q cs pc lv (zI x :: zI z :: zR r :: stk) hp := wp_zast G hx01 hd ho hz hj hn (by rw [he]; exact k)
end RULES6

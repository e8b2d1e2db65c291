/-! fields that are final, put in a constructor; arrays of rows -/
section RULES7
variable {K : KT} {nL : Nat} {Q : State → Prop} {cs mm : Nat × Nat} {pc pc' tgt : Nat} {lv : List (Nat × PV)} {stk rest : List PV} {hp hp2 : PH} {cc : ByteArray} {own : String} {h : Nat → Option PC} {nx : Nat} {l : List (Nat × PC)}
theorem wp_putFE (G : Gd K cc own nL) {idx r ci : Nat} (f : Nat) {fs : List PV} {v : PV} (hc : ClOk ci) (hf : Fx own idx ci f) (hd : Dn cc pc (.putfield idx) 3 pc') (ho : hget hp r = some (oO ci fs)) (hlen : f < fs.length) (hfit : fitF (clTy ci f) v) (hfin : ∀ q, vwCl[ci]? = some q → (q.2.1 f).2.2.2 = true ∧ (q.2.1 f).1 = own ∧ (Cond.fieldLink own idx (q.2.1 f).1 (q.2.1 f).2.1 (q.2.1 f).2.2.1 ∈ WT)) (hin2 : (kMeth K).name = "<init>") (he : hset hp r (oO ci (fs.set f v)) = hp2) (k : Wp K nL Q cs pc' lv stk hp2) : Wp K nL Q cs pc lv (v :: zR r :: stk) hp := wp_putF G f hc hf hd ho hlen hfit hfin hin2 (by rw [he]; exact k)
/-- an array of rows, as so many cells more -/
def mnew (p : PH) (c0 c : PC) : Nat → PH
  | 0 => hnew p c0
  | i + 1 => hnew (mnew p c0 c i) c
theorem mnew_1 (p : PH) (c0 c : PC) : ∀ i, (mnew p c0 c i).1 = p.1 + 1 + i
  | 0 => rfl
  | i + 1 => by
    show (mnew p c0 c i).1 + 1 = _
    rw [mnew_1 p c0 c i]
    omega
theorem mnew_get (p : PH) (c0 c : PC) : ∀ i j, hget (mnew p c0 c i) j = if j = p.1 then some c0 else if p.1 < j ∧ j ≤ p.1 + i then some c else hget p j
  | 0, j => by
    show hget (hnew p c0) j = _
    rw [hget_hnew]
    by_cases e : p.1 = j
    · rw [if_pos e, if_pos e.symm]
    · rw [if_neg e, if_neg (fun z => e z.symm), if_neg (by omega)]
  | i + 1, j => by
    show hget (hnew (mnew p c0 c i) c) j = _
    rw [hget_hnew, mnew_1, mnew_get p c0 c i j]
    by_cases e : p.1 + 1 + i = j
    · rw [if_pos e, if_neg (by omega), if_pos (by omega)]
    · rw [if_neg e]
      by_cases e2 : j = p.1
      · rw [if_pos e2, if_pos e2]
      · rw [if_neg e2, if_neg e2]
        by_cases e3 : p.1 < j ∧ j ≤ p.1 + i
        · rw [if_pos e3, if_pos (by omega)]
        · rw [if_neg e3, if_neg (by omega)]
theorem outer_i (c : ClassId) (N h0 : Nat) : ∀ i, Jvm.Free.Multi.outerC c N h0 i = arrV c N (fun j => if j < i then .ref (h0 + 1 + j) else .null)
  | 0 => by
    show ({ cls := c, slots := Array.replicate N .null, vm := .none } : Cell) = _
    rw [arrV_new]
    rfl
  | i + 1 => by
    show (Jvm.Free.Multi.outerC c N h0 i).setSlot i (.ref (h0 + 1 + i)) = _
    rw [outer_i c N h0 i, arrV_store]
    congr 1
    funext j
    by_cases e : j = i
    · subst e
      simp [updV]
    · simp only [updV, if_neg e]
      by_cases c1 : j < i
      · rw [if_pos c1, if_pos (by omega)]
      · rw [if_neg c1, if_neg (by omega)]
theorem arrV_ext {c : ClassId} {N : Nat} {f g : Nat → Value} (h : ∀ j, j < N → f j = g j) : arrV c N f = arrV c N g := by
  unfold arrV
  congr 2
  funext q
  exact h q.val q.isLt
theorem wp_mna (G : Gd K cc own nL) {idx n m t ti : Nat} {zn zm : Int} {c : PC} {f : Nat → Option Nat} (ht : (t = 3 ∧ ti = 2) ∨ (t = 4 ∧ ti = 0)) (hl : Cond.classLink own idx ("[" ++ (FieldType.array (aTy.getD ti .int)).toString) ∈ WT) (hw : Cond.arrayClass (aTy.getD ti .int) ∈ WT) (hd : Dn cc pc (.multianewarray idx 2) 4 pc') (hzn : zn = (n : Int)) (hzm : zm = (m : Int)) (hn : n < 60000000) (hm : m < 60000000)
    (hc : ∀ g : GT, ∃ a0, trC g c = .inl (g.2.2 ti, a0) ∧ ∀ cA, vp_cell cA a0 = arrV cA m (fun _ => defaultValue (aTy.getD ti .int))) (hf : ∀ j, j < n → f j = some (hp.1 + 1 + j)) (hR : cs.1 + (1 + n) ≤ (kR K).cells ∧ cs.2 + (n + n * m) ≤ (kR K).slots) (he : mnew hp (oP t n f) c n = hp2) (k : Wp K nL Q (cs.1 + 1 + n, cs.2 + n + n * m) pc' lv (zR hp.1 :: stk) hp2) : Wp K nL Q cs pc lv (zI zm :: zI zn :: stk) hp := by
  intro H locs ls h1 h2 h3
  obtain ⟨hx, hb, hml, hown, hts, hE, hSv, hlk, hz0⟩ := G
  obtain ⟨hd, rfl⟩ := hd
  have eN : (Int32.ofInt zn).toNatClampNeg = n := inbN (n := n + 1) hzn (Nat.lt_succ_self n) (by omega)
  have hneg : ¬ Int32.ofInt zn < 0 := fun q => (inb (n := n + 1) hzn (Nat.lt_succ_self n) (by omega)) (Or.inl q)
  have eM : (Int32.ofInt zm).toNatClampNeg = m := inbN (n := m + 1) hzm (Nat.lt_succ_self m) (by omega)
  have hnegM : ¬ Int32.ofInt zm < 0 := fun q => (inb (n := m + 1) hzm (Nat.lt_succ_self m) (by omega)) (Or.inl q)
  obtain ⟨a0, ha0, hcell⟩ := hc (kG K)
  have hover : (Cond.arrayOver (.array (aTy.getD ti .int))).before (kA K) (kS K) = true := by
    rcases ht with ⟨-, rfl⟩ | ⟨-, rfl⟩
    · exact hE.2.2.2.1
    · exact hE.2.2.2.2
  have hb2 : m * componentBytes (aTy.getD ti .int) ≤ 536870912 := by
    have : componentBytes (aTy.getD ti .int) ≤ 8 := by rcases ht with ⟨-, rfl⟩ | ⟨-, rfl⟩ <;> decide
    exact Nat.le_trans (Nat.mul_le_mul_left m this) (by omega)
  have hdf : fits (aTy.getD ti .int) (defaultValue (aTy.getD ti .int)) = true ∧ (defaultValue (aTy.getD ti .int)).isDefault = true := by rcases ht with ⟨-, rfl⟩ | ⟨-, rfl⟩ <;> exact ⟨rfl, rfl⟩
  intro T hT X
  obtain ⟨vm₁, cA, comp, -, hfA, hfC, X', st⟩ := X.multianewarray2 hx (ty := aTy.getD ti .int) hown (hts _ hl) hover (hts _ hw) (g := F0 (kM K) pc ls ((zI zm :: zI zn :: stk).map (rv (kG K).1))) rfl (by rw [hb]; exact hd) (n := Int32.ofInt zn) (k := Int32.ofInt zm) (rest := stk.map (rv (kG K).1)) rfl hneg hnegM (by rw [eN]; omega) (by rw [eM]; exact hb2) (by rw [eM]; omega) hdf.1 hdf.2 (by rw [eN]; exact hR.1) (by rw [eN, eM]; exact hR.2)
  rw [eN, eM] at X' st
  have hgA : cA = (kG K).2.2 t := by
    have := (ev_arr hE t (by omega)).2
    rcases ht with ⟨rfl, rfl⟩ | ⟨rfl, rfl⟩
    · exact Option.some.inj (hfA.symm.trans this)
    · exact Option.some.inj (hfA.symm.trans this)
  have hgC : comp = (kG K).2.2 ti := by
    have := (ev_arr hE ti (by omega)).2
    rcases ht with ⟨rfl, rfl⟩ | ⟨rfl, rfl⟩
    · exact Option.some.inj (hfC.symm.trans this)
    · exact Option.some.inj (hfC.symm.trans this)
  have hsz : H.size = (kG K).1 + hp.1 := h1.1
  have hTs : (T.setVm vm₁).heap = H := hT
  generalize hF : Jvm.Free.Multi.fill (T.setVm vm₁) cA comp n m (defaultValue (aTy.getD ti .int)) n = F at X' st
  have f1 := Jvm.Free.Multi.fill_facts (T.setVm vm₁) cA comp n m (defaultValue (aTy.getD ti .int)) n
  have f2 := fun a ha => Jvm.Free.Multi.fill_old (T.setVm vm₁) cA comp n m (defaultValue (aTy.getD ti .int)) (a := a) ha n
  have f3 := Jvm.Free.Multi.fill_inner (T.setVm vm₁) cA comp n m (defaultValue (aTy.getD ti .int)) n
  rw [hF, hTs] at f1 f2 f3
  have hR1 : Rl (kG K) hp2 F.heap := by
    subst he
    refine ⟨by rw [f1.1, mnew_1, hsz]; omega, fun j d hj => ?_⟩
    rw [mnew_get] at hj
    rw [mnew_1]
    by_cases e1 : j = hp.1
    · rw [if_pos e1] at hj
      cases hj
      subst e1
      refine ⟨by omega, ?_⟩
      show F.heap[_]? = some (vp_cell _ _)
      dsimp only
      rw [vp_cell_q, ← hsz, f1.2.1, outer_i, hgA, hsz]
      refine congrArg some (arrV_ext (fun q hq => ?_))
      rw [if_pos hq, hf q hq]
      show Value.ref ((kG K).1 + hp.1 + 1 + q) = Value.ref ((kG K).1 + (hp.1 + 1 + q))
      rw [show (kG K).1 + hp.1 + 1 + q = (kG K).1 + (hp.1 + 1 + q) by omega]
    · rw [if_neg e1] at hj
      by_cases e2 : hp.1 < j ∧ j ≤ hp.1 + n
      · rw [if_pos e2] at hj
        cases hj
        refine ⟨by omega, ?_⟩
        rw [ha0]
        show F.heap[_]? = some (vp_cell _ _)
        dsimp only
        rw [hcell, show (kG K).1 + j = H.size + 1 + (j - hp.1 - 1) by omega, f3 _ (by omega), ← hgC, ← arrV_new]
        rfl
      · rw [if_neg e2] at hj
        obtain ⟨a1, a2⟩ := h1.2 j d hj
        exact ⟨by omega, a2.kept (f2 _ (by show (kG K).1 + j < H.size; omega))⟩
  have hS2 : va_S (Ag (kG K)) (kS K).heap F.heap (locs ++ (List.range n).map fun j => (⟨T.heap.size, j⟩ : Loc)) := by
    refine ⟨by have := h2.1; rw [f1.1]; omega, fun x a1 a2 => (f2 x (Nat.lt_of_lt_of_le a1 h2.1)).trans (h2.2.1 x a1 a2), fun q hq => ?_⟩
    rcases List.mem_append.mp hq with w | w
    · exact h2.2.2 q w
    · obtain ⟨j, -, rfl⟩ := List.mem_map.mp w
      show (kG K).1 ≤ T.heap.size
      rw [hT]
      omega
  obtain ⟨t2, a1, b1⟩ := k F.heap _ ls hR1 hS2 h3 F rfl X'
  refine ⟨t2, st t2 ?_, b1⟩
  have e : Value.ref T.heap.size = rv (kG K).1 (zR hp.1) := by
    show Value.ref T.heap.size = .ref ((kG K).1 + hp.1)
    rw [hT, hsz]
  rw [e]
  exact a1
end RULES7
theorem mnaL (m : Nat) : ∀ g : GT, ∃ a0, trC g (oL 2 m (fun _ => 0)) = .inl (g.2.2 2, a0) ∧ ∀ cA, vp_cell cA a0 = arrV cA m (fun _ => defaultValue (aTy.getD 2 .int)) := fun g => ⟨_, rfl, fun cA => by rw [vp_cell_l]; rfl⟩
theorem mnaI (m : Nat) : ∀ g : GT, ∃ a0, trC g (oA 0 m (fun _ => 0)) = .inl (g.2.2 0, a0) ∧ ∀ cA, vp_cell cA a0 = arrV cA m (fun _ => defaultValue (aTy.getD 0 .int)) := fun g => ⟨_, rfl, fun cA => by rw [vp_cell_i]; rfl⟩

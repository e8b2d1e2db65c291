/-! arrays of rows; fields that are final, put in a constructor -/
/-- an array of rows in the making: behind i rows the outer array is o i -/
def rwU (S : State) (o : Nat → Cell) (r : Cell) : Nat → State
  | 0 => S.pushCell (o 0)
  | i + 1 => ((rwU S o r i).pushCell r).setCell S.heap.size (o (i + 1))
theorem rwU_h (S : State) (o : Nat → Cell) (r : Cell) : ∀ i, (rwU S o r i).heap.size = S.heap.size + 1 + i ∧ ∀ a, a ≤ S.heap.size + i → (rwU S o r i).heap[a]? = if a < S.heap.size then S.heap[a]? else if a = S.heap.size then some (o i) else some r
  | 0 => by
    refine ⟨?_, fun a ha => ?_⟩
    · show (S.heap.push (o 0)).size = _
      rw [Array.size_push]
    · show (S.heap.push (o 0))[a]? = _
      rw [Array.getElem?_push]
      by_cases q : a < S.heap.size
      · rw [if_neg (by omega), if_pos q]
      · rw [if_pos (by omega), if_neg q, if_pos (by omega)]
  | i + 1 => by
    obtain ⟨z, f⟩ := rwU_h S o r i
    refine ⟨?_, fun a ha => ?_⟩
    · show (((rwU S o r i).heap.push r).setIfInBounds S.heap.size (o (i + 1))).size = _
      rw [Array.size_setIfInBounds, Array.size_push, z]
      omega
    · show (((rwU S o r i).heap.push r).setIfInBounds S.heap.size (o (i + 1)))[a]? = _
      rw [Array.getElem?_setIfInBounds, Array.size_push, z]
      by_cases q : S.heap.size = a
      · rw [if_pos q, if_pos (by omega), if_neg (by omega), if_pos q.symm]
      · rw [if_neg q, Array.getElem?_push, z]
        by_cases q2 : a = S.heap.size + 1 + i
        · rw [if_pos q2, if_neg (by omega), if_neg (by omega)]
        · rw [if_neg q2, f a (by omega)]
          by_cases q3 : a < S.heap.size
          · rw [if_pos q3, if_pos q3]
          · rw [if_neg q3, if_neg q3, if_neg (fun x => q x.symm), if_neg (fun x => q x.symm)]
theorem rwU_vm (S : State) (o : Nat → Cell) (r : Cell) : ∀ i, (rwU S o r i).vm = S.vm
  | 0 => rfl
  | i + 1 => rwU_vm S o r i
theorem rwU_us (S : State) (o : Nat → Cell) (r : Cell) : ∀ i, (rwU S o r i).slotsUsed = S.slotsUsed + (o 0).slots.size + i * r.slots.size
  | 0 => by
    show S.slotsUsed + (o 0).slots.size = _
    omega
  | i + 1 => by
    show (rwU S o r i).slotsUsed + r.slots.size = _
    rw [rwU_us S o r i, Nat.succ_mul]
    omega
theorem rwU_top (S : State) (o : Nat → Cell) (r : Cell) (f : JFrame) : ∀ i, rwU (S.setTop f) o r i = (rwU S o r i).setTop f
  | 0 => rfl
  | i + 1 => by
    show ((rwU (S.setTop f) o r i).pushCell r).setCell (S.setTop f).heap.size (o (i + 1)) = _
    rw [rwU_top S o r f i]
    rfl
theorem rwU_st {p : Program} {l : Launch} {e : Env} {R : Room} {s : State} {m : MethodId} {args : Array Value} {below : List Frame} {meth : Method} {c : Code} {T : State} {locs : List Loc} {cells slots : Nat} (X : Stand p l e R s m args below meth c T locs cells slots) {o : Nat → Cell} {r : Cell} {v : Nat → Value} (ho : ∀ i, o (i + 1) = (o i).setSlot i (v i)) :
    ∀ i, Stand p l e R s m args below meth c (rwU T o r i) (locs ++ (List.range i).map fun j => ⟨T.heap.size, j⟩) (cells + 1 + i) (slots + (o 0).slots.size + i * r.slots.size)
  | 0 => by
    have h := X.pushed (o 0)
    rw [List.range_zero, List.map_nil, List.append_nil, Nat.zero_mul]
    exact h
  | i + 1 => by
    have h := (rwU_st X (r := r) ho i).pushed r
    obtain ⟨z, f⟩ := rwU_h T o r i
    have hc : ((rwU T o r i).pushCell r).heap[T.heap.size]? = some (o i) := by
      show ((rwU T o r i).heap.push r)[T.heap.size]? = _
      rw [Array.getElem?_push, z, if_neg (by omega), f _ (by omega), if_neg (by omega), if_pos rfl]
    have h2 := h.stored hc i (v i)
    rw [← ho i, List.append_assoc] at h2
    rw [List.range_succ, List.map_append, show slots + (o 0).slots.size + (i + 1) * r.slots.size = slots + (o 0).slots.size + i * r.slots.size + r.slots.size by rw [Nat.succ_mul]; omega]
    exact h2
/-- the outer array, i of its rows laid -/
def rwO (cA : ClassId) (N h0 i : Nat) : Cell := arrV cA N (fun j => if j < i then .ref (h0 + 1 + j) else .null)
theorem rwO_s (cA : ClassId) (N h0 i : Nat) : rwO cA N h0 (i + 1) = (rwO cA N h0 i).setSlot i (.ref (h0 + 1 + i)) := by
  unfold rwO
  rw [arrV_store]
  congr 1
  funext j
  by_cases q : j = i
  · subst q
    simp [updV]
  · simp only [updV, if_neg q]
    by_cases c1 : j < i
    · rw [if_pos c1, if_pos (by omega)]
    · rw [if_neg c1, if_neg (by omega)]
theorem rw_make {E : CtlPost} {e : Env} {d : Bool} {acts : List Action} {S : State} {cA cC cc : ClassId} {kA kC : Class} {ty : FieldType} {n k : Int32} {N M : Nat} (eN : n.toNatClampNeg = N) (eM : k.toNatClampNeg = M) (hA : S.vm.classes[cA]? = some kA) (hA2 : kA.kind = .array cC (.array ty)) (hC : S.vm.classes[cC]? = some kC) (hC2 : kC.kind = .array cc ty) (hn : ¬ n < 0) (hk : ¬ k < 0)
    (l1 : ¬ N > e.platform.arrayLengthLimit) (l2 : ¬ N * componentBytes (.array ty) > e.platform.maxHeapBytes) (l3 : ¬ M > e.platform.arrayLengthLimit) (l4 : ¬ M * componentBytes ty > e.platform.maxHeapBytes) (hf : fits ty (defaultValue ty) = true)
    (r1 : S.heap.size + (1 + N) ≤ e.platform.maxCells) (r2 : S.slotsUsed + (N + N * M) ≤ e.platform.maxSlots) {Q : Addr → Pre} (hq : ∀ d' acts', Q S.heap.size d' acts' (rwU S (rwO cA N S.heap.size) (arrV cC M (fun _ => defaultValue ty)) N)) : wp (multianewarray.make cA [n, k]) Q E e d acts S := by
  have e0 : ({ cls := cA, slots := Array.replicate N .null } : Cell) = rwO cA N S.heap.size 0 := by
    rw [show ({ cls := cA, slots := Array.replicate N .null } : Cell) = { cls := cA, slots := Array.replicate N .null, vm := .none } from rfl, arrV_new]
    rfl
  have e1 : ({ cls := cC, slots := Array.replicate M (defaultValue ty) } : Cell) = arrV cC M (fun _ => defaultValue ty) := by
    rw [← arrV_new]
  generalize hr : arrV cC M (fun _ => defaultValue ty) = r at hq e1
  have hrs : r.slots.size = M := by rw [← hr, arrV_size]
  have hos : ∀ i, (rwO cA N S.heap.size i).slots.size = N := fun i => arrV_size _ _ _
  unfold multianewarray.make
  simp only [wp_bind', W.ite, if_neg hn, wp_pure', W.theClass, hA, hA2, Option.some.injEq, exists_eq_left', eN]
  refine W.newArray_of hA hA2 l1 l2 (by omega) (by omega) rfl fun acts1 => ?_
  rw [e0]
  have hb : List.find? (fun x => decide (x < 0)) [k] = none := by rw [List.find?_cons_of_neg (by simpa using hk)]; rfl
  simp only [hb, ite_self]
  rw [wp_bind', Std.Legacy.Range.forIn_eq_forIn_range']
  refine wp_forIn_inv (fun rest s' => rest.length ≤ N ∧ rest = List.range' (N - rest.length) rest.length ∧ s' = rwU S (rwO cA N S.heap.size) r (N - rest.length)) _ _ ?_ ?_ ?_
  · simp [Std.Legacy.Range.size]
    rfl
  · rintro x rest s' d' acts' Q' ⟨a1, a2, rfl⟩ nxt
    obtain ⟨i, hi⟩ : ∃ i, i = N - (x :: rest).length := ⟨_, rfl⟩
    have hL : (x :: rest).length = rest.length + 1 := rfl
    have hi2 : N - rest.length = i + 1 := by omega
    rw [← hi] at a2 ⊢
    rw [hL, List.range'_succ] at a2
    obtain ⟨rfl, a3⟩ := List.cons.inj a2
    obtain ⟨z, f⟩ := rwU_h S (rwO cA N S.heap.size) r x
    have us := rwU_us S (rwO cA N S.heap.size) r x
    have vm := rwU_vm S (rwO cA N S.heap.size) r x
    rw [hos, hrs] at us
    have hxN : x < N := by omega
    have hmul : x * M + M ≤ N * M := by
      have := Nat.mul_le_mul_right M (show x + 1 ≤ N from hxN)
      rwa [Nat.succ_mul] at this
    simp only [wp_bind']
    unfold multianewarray.make
    simp only [wp_bind', W.ite, if_neg hk, wp_pure', W.theClass, vm, hC, hC2, Option.some.injEq, exists_eq_left', eM]
    refine W.newArray_of (by rw [vm]; exact hC) hC2 l3 l4 (by rw [z]; omega) (by rw [us]; omega) hf fun acts2 => ?_
    rw [e1, z]
    simp only [wp_bind', W.writeLoc, wp_pure']
    refine ⟨rwO cA N S.heap.size x, ?_, (fun q => by cases q), by rw [hos]; exact hxN, ?_, nxt _ _ _ ⟨by omega, ?_, ?_⟩⟩
    · show ((rwU S (rwO cA N S.heap.size) r x).heap.push r)[S.heap.size]? = _
      rw [Array.getElem?_push, z, if_neg (by omega), f _ (by omega), if_neg (by omega), if_pos rfl]
    · show State.fitsSlot _ cA .none x _ = true
      simp [State.fitsSlot, State.slotType?, vm, hA, hA2, fits]
    · rw [hi2]
      exact a3
    · rw [hi2, ← rwO_s]
      rfl
  · rintro s' d' acts' ⟨-, -, rfl⟩
    simp only [wp_pure']
    exact hq _ _
/-- the instruction that makes an array of rows -/
theorem rw_go {p : Program} {l : Launch} {e : Env} {R : Room} {s : State} {m : MethodId} {args : Array Value} {below : List Frame} {meth : Method} {c : Code} {T : State} {locs : List Loc} {cells slots : Nat} (X : Stand p l e R s m args below meth c T locs cells slots) (hx : p.tables.exec = Jvm.exec) {own : String} {idx : Nat} {ty : FieldType} (hown : s.vm.findClass own = some m.cls) (hl : (Cond.classLink own idx ("[" ++ (FieldType.array ty).toString)).before args s = true) (hov : (Cond.arrayOver (.array ty)).before args s = true) (har : (Cond.arrayClass ty).before args s = true)
    {g : JFrame} (hg : g.method = m) (hd : decode c.code g.pc = .ok (.multianewarray idx 2, 4)) {n k : Int32} {N M : Nat} {rest : List Value} (hst : g.stack = .int k :: .int n :: rest) (hn : ¬ n < 0) (hk : ¬ k < 0) (eN : n.toNatClampNeg = N) (eM : k.toNatClampNeg = M) (b1 : N * 4 ≤ 536870912) (b2 : M * componentBytes ty ≤ 536870912) (b3 : M ≤ 536870912) (hf : fits ty (defaultValue ty) = true) (hR : cells + (1 + N) ≤ R.cells ∧ slots + (N + N * M) ≤ R.slots) :
    ∃ (cA cC : ClassId) (U : State), s.vm.findClass ("[" ++ (FieldType.array ty).toString) = some cA ∧ s.vm.findClass (FieldType.array ty).toString = some cC ∧ U.heap.size = T.heap.size + 1 + N ∧ (∀ a, a ≤ T.heap.size + N → U.heap[a]? = if a < T.heap.size then T.heap[a]? else if a = T.heap.size then some (rwO cA N T.heap.size N) else some (arrV cC M (fun _ => defaultValue ty))) ∧ Stand p l e R s m args below meth c U (locs ++ (List.range N).map fun j => ⟨T.heap.size, j⟩) (cells + 1 + N) (slots + N + N * M) ∧
      ∀ t, Steps p.tables e below (U.setTop { g with pc := g.pc + 4, stack := .ref T.heap.size :: rest }) t → Steps p.tables e below (T.setTop g) t := by
  subst hg
  obtain ⟨cC, cA, kA, fC, -, hA, hA2, fA⟩ := arrayOverA_spec hov
  obtain ⟨cC2, kC, cc, fC2, hC, hC2⟩ := Cond.arrayClass_spec har
  cases Option.some.inj (fC2.symm.trans fC)
  obtain ⟨c0, f0, lk⟩ := Cond.classLink_spec hown hl e.platform (by rw [X.admits.platform])
  cases Option.some.inj (f0.symm.trans fA)
  obtain ⟨gv, wm, -⟩ := State.classEntry (e := e) X.warmed lk
  generalize T.vm.noted g.method.cls idx (.cls cA) = vm1 at gv wm
  obtain ⟨kA1, hA1, qA⟩ := wm.alike.2.2 _ _ hA
  obtain ⟨kC1, hC1, qC⟩ := wm.alike.2.2 _ _ hC
  have ha : ¬ N > e.platform.arrayLengthLimit ∧ ¬ M > e.platform.arrayLengthLimit := by rw [Launch.admits_arrayLengthLimit X.admits]; omega
  have hh : ¬ N * componentBytes (.array ty) > e.platform.maxHeapBytes ∧ ¬ M * componentBytes ty > e.platform.maxHeapBytes := by
    rw [Launch.admits_maxHeapBytes X.admits, show componentBytes (.array ty) = 4 from rfl]
    omega
  obtain ⟨m1, m2⟩ := X.roomAbove hR.1 hR.2
  have XU := rwU_st (X.noted wm) (o := rwO cA N T.heap.size) (r := arrV cC M (fun _ => defaultValue ty)) (v := fun i => .ref (T.heap.size + 1 + i)) (fun i => rwO_s cA N T.heap.size i) N
  obtain ⟨z, f⟩ := rwU_h (T.setVm vm1) (rwO cA N T.heap.size) (arrV cC M (fun _ => defaultValue ty)) N
  rw [arrV_size, show (rwO cA N T.heap.size 0).slots.size = N from arrV_size _ _ _] at XU
  refine ⟨cA, cC, _, fA, fC, z, f, XU, fun t rs => ?_⟩
  jvm_step X.here [hx, hd]
  simp only [multianewarray.sem, wp_bind', W.resolveClassAt_links (State.method?_setTop g X.here.top) gv]
  rw [W.popN, if_neg (by decide)]
  refine ⟨g, State.topJava?_setTop' (s := T.setVm vm1) g X.here.top, [.int n, .int k], rest, rfl, hst, ?_⟩
  simp only [List.mapM_cons, List.mapM_nil, wp_bind', wp_pure']
  refine rw_make (S := ((T.setTop g).setVm vm1).setTop { g with stack := rest }) eN eM (kA := kA1) (kC := kC1) (cc := cc) (ty := ty) hA1 (by rw [qA]; exact hA2) hC1 (by rw [qC]; exact hC2) hn hk ha.1 hh.1 ha.2 hh.2 hf m1 m2 fun d1 acts1 => ?_
  rw [show ((T.setTop g).setVm vm1).setTop { g with stack := rest } = (T.setVm vm1).setTop { g with stack := rest } from State.setTop_setTop (T.setVm vm1) _ _, rwU_top]
  simp only [State.heap_setTop]
  rw [show (T.setVm vm1).heap = T.heap from rfl]
  simp only [wp_bind', W.mark, W.pushRef, State.topJava?_setTop' _ XU.here.top, Option.some.injEq, exists_eq_left', State.setTop_setTop, State.heap_setTop]
  intro acts2
  simp [jvm, XU.here.top]
  exact rs
section RULES7
variable {K : KT} {nL : Nat} {Q : State → Prop} {cs mm : Nat × Nat} {pc pc' tgt : Nat} {lv : List (Nat × PV)} {stk rest : List PV} {hp hp2 : PH} {cc : ByteArray} {own : String} {h : Nat → Option PC} {nx : Nat} {l : List (Nat × PC)}
theorem wp_putFE (G : Gd K cc own nL) {idx r ci : Nat} (f : Nat) {fs : List PV} {v : PV} (hc : ClOk ci) (hf : Fx own idx ci f) (hd : Dn cc pc (.putfield idx) 3 pc') (ho : hget hp r = some (oO ci fs)) (hlen : f < fs.length) (hfit : fitF (clTy ci f) v) (hfin : ∀ q, vwCl[ci]? = some q → (q.2.1 f).2.2.2 = true ∧ (q.2.1 f).1 = own ∧ (Cond.fieldLink own idx (q.2.1 f).1 (q.2.1 f).2.1 (q.2.1 f).2.2.1 ∈ WT)) (hin2 : (kMeth K).name = "<init>") (he : hset hp r (oO ci (fs.set f v)) = hp2) (k : Wp K nL Q cs pc' lv stk hp2) : Wp K nL Q cs pc lv (v :: zR r :: stk) hp := wp_putF G f hc hf hd ho hlen hfit hfin hin2 (by rw [he]; exact k)
/-- an array of rows, as so many cells more -/
def mnew (p : PH) (c0 c : PC) : Nat → PH
  | 0 => hnew p c0
  | i + 1 => hnew (mnew p c0 c i) c
theorem mnew_1 (p : PH) (c0 c : PC) : ∀ i, (mnew p c0 c i).1 = p.1 + 1 + i
  | 0 => rfl
  | i + 1 => by
    show (mnew p c0 c i).1 + 1 = _
    rw [mnew_1 p c0 c i]
    omega
theorem mnew_get (p : PH) (c0 c : PC) : ∀ i j, hget (mnew p c0 c i) j = if j = p.1 then some c0 else if p.1 < j ∧ j ≤ p.1 + i then some c else hget p j
  | 0, j => by
    show hget (hnew p c0) j = _
    rw [hget_hnew]
    by_cases e : p.1 = j
    · rw [if_pos e, if_pos e.symm]
    · rw [if_neg e, if_neg (fun z => e z.symm), if_neg (by omega)]
  | i + 1, j => by
    show hget (hnew (mnew p c0 c i) c) j = _
    rw [hget_hnew, mnew_1, mnew_get p c0 c i j]
    by_cases e : p.1 + 1 + i = j
    · rw [if_pos e, if_neg (by omega), if_pos (by omega)]
    · rw [if_neg e]
      by_cases e2 : j = p.1
      · rw [if_pos e2, if_pos e2]
      · rw [if_neg e2, if_neg e2]
        by_cases e3 : p.1 < j ∧ j ≤ p.1 + i
        · rw [if_pos e3, if_pos (by omega)]
        · rw [if_neg e3, if_neg (by omega)]
theorem arrV_ext {c : ClassId} {N : Nat} {f g : Nat → Value} (h : ∀ j, j < N → f j = g j) : arrV c N f = arrV c N g := by
  unfold arrV
  congr 2
  funext q
  exact h q.val q.isLt
theorem wp_mna (G : Gd K cc own nL) {idx n m t ti : Nat} {zn zm : Int} {c : PC} {f : Nat → Option Nat} (ht : (t = 3 ∧ ti = 2) ∨ (t = 4 ∧ ti = 0)) (hl : Cond.classLink own idx ("[" ++ (FieldType.array (aTy.getD ti .int)).toString) ∈ WT) (hw : Cond.arrayClass (aTy.getD ti .int) ∈ WT) (hd : Dn cc pc (.multianewarray idx 2) 4 pc') (hzn : zn = (n : Int)) (hzm : zm = (m : Int)) (hn : n < 60000000) (hm : m < 60000000)
    (hc : ∀ g : GT, ∃ a0, trC g c = .inl (g.2.2 ti, a0) ∧ ∀ cA, vp_cell cA a0 = arrV cA m (fun _ => defaultValue (aTy.getD ti .int))) (hf : ∀ j, j < n → f j = some (hp.1 + 1 + j)) (hR : cs.1 + (1 + n) ≤ (kR K).cells ∧ cs.2 + (n + n * m) ≤ (kR K).slots) (he : mnew hp (oP t n f) c n = hp2) (k : Wp K nL Q (cs.1 + 1 + n, cs.2 + n + n * m) pc' lv (zR hp.1 :: stk) hp2) : Wp K nL Q cs pc lv (zI zm :: zI zn :: stk) hp := by
  intro H locs ls h1 h2 h3
  obtain ⟨hx, hb, hml, hown, hts, hE, hSv, hlk, hz0⟩ := G
  obtain ⟨hd, rfl⟩ := hd
  have eN : (Int32.ofInt zn).toNatClampNeg = n := inbN (n := n + 1) hzn (Nat.lt_succ_self n) (by omega)
  have hneg : ¬ Int32.ofInt zn < 0 := fun q => (inb (n := n + 1) hzn (Nat.lt_succ_self n) (by omega)) (Or.inl q)
  have eM : (Int32.ofInt zm).toNatClampNeg = m := inbN (n := m + 1) hzm (Nat.lt_succ_self m) (by omega)
  have hnegM : ¬ Int32.ofInt zm < 0 := fun q => (inb (n := m + 1) hzm (Nat.lt_succ_self m) (by omega)) (Or.inl q)
  obtain ⟨a0, ha0, hcell⟩ := hc (kG K)
  have hover : (Cond.arrayOver (.array (aTy.getD ti .int))).before (kA K) (kS K) = true := by
    rcases ht with ⟨-, rfl⟩ | ⟨-, rfl⟩
    · exact hE.2.2.2.1
    · exact hE.2.2.2.2
  have hb2 : m * componentBytes (aTy.getD ti .int) ≤ 536870912 := by
    have : componentBytes (aTy.getD ti .int) ≤ 8 := by rcases ht with ⟨-, rfl⟩ | ⟨-, rfl⟩ <;> decide
    exact Nat.le_trans (Nat.mul_le_mul_left m this) (by omega)
  have hdf : fits (aTy.getD ti .int) (defaultValue (aTy.getD ti .int)) = true := by rcases ht with ⟨-, rfl⟩ | ⟨-, rfl⟩ <;> rfl
  intro T hT X
  obtain ⟨cA, comp, F, hfA, hfC, f1, f2, X', st⟩ := rw_go X hx (ty := aTy.getD ti .int) hown (hts _ hl) hover (hts _ hw) (g := F0 (kM K) pc ls ((zI zm :: zI zn :: stk).map (rv (kG K).1))) rfl (by rw [hb]; exact hd) (n := Int32.ofInt zn) (k := Int32.ofInt zm) (rest := stk.map (rv (kG K).1)) rfl hneg hnegM eN eM (by omega) hb2 (by omega) hdf hR
  rw [hT] at f1 f2
  have hgA : cA = (kG K).2.2 t := by
    have := (ev_arr hE t (by omega)).2
    rcases ht with ⟨rfl, rfl⟩ | ⟨rfl, rfl⟩
    · exact Option.some.inj (hfA.symm.trans this)
    · exact Option.some.inj (hfA.symm.trans this)
  have hgC : comp = (kG K).2.2 ti := by
    have := (ev_arr hE ti (by omega)).2
    rcases ht with ⟨rfl, rfl⟩ | ⟨rfl, rfl⟩
    · exact Option.some.inj (hfC.symm.trans this)
    · exact Option.some.inj (hfC.symm.trans this)
  have hsz : H.size = (kG K).1 + hp.1 := h1.1
  have fo : ∀ a, a < H.size → F.heap[a]? = H[a]? := fun a ha => by rw [f2 a (by omega), if_pos ha]
  have hR1 : Rl (kG K) hp2 F.heap := by
    subst he
    refine ⟨by rw [f1, mnew_1, hsz]; omega, fun j d hj => ?_⟩
    rw [mnew_get] at hj
    rw [mnew_1]
    by_cases e1 : j = hp.1
    · rw [if_pos e1] at hj
      cases hj
      subst e1
      refine ⟨by omega, ?_⟩
      show F.heap[_]? = some (vp_cell _ _)
      dsimp only
      rw [vp_cell_q, ← hsz, f2 _ (by omega), if_neg (by omega), if_pos rfl, hgA, hsz]
      unfold rwO
      refine congrArg some (arrV_ext (fun q hq => ?_))
      rw [if_pos hq, hf q hq]
      show Value.ref ((kG K).1 + hp.1 + 1 + q) = Value.ref ((kG K).1 + (hp.1 + 1 + q))
      rw [show (kG K).1 + hp.1 + 1 + q = (kG K).1 + (hp.1 + 1 + q) by omega]
    · rw [if_neg e1] at hj
      by_cases e2 : hp.1 < j ∧ j ≤ hp.1 + n
      · rw [if_pos e2] at hj
        cases hj
        refine ⟨by omega, ?_⟩
        rw [ha0]
        show F.heap[_]? = some (vp_cell _ _)
        dsimp only
        rw [hcell, f2 _ (by omega), if_neg (by omega), if_neg (by omega), ← hgC]
      · rw [if_neg e2] at hj
        obtain ⟨a1, a2⟩ := h1.2 j d hj
        exact ⟨by omega, a2.kept (fo _ (by show (kG K).1 + j < H.size; omega))⟩
  have hS2 : va_S (Ag (kG K)) (kS K).heap F.heap (locs ++ (List.range n).map fun j => (⟨T.heap.size, j⟩ : Loc)) := by
    refine ⟨by have := h2.1; rw [f1]; omega, fun x a1 a2 => (fo x (Nat.lt_of_lt_of_le a1 h2.1)).trans (h2.2.1 x a1 a2), fun q hq => ?_⟩
    rcases List.mem_append.mp hq with w | w
    · exact h2.2.2 q w
    · obtain ⟨j, -, rfl⟩ := List.mem_map.mp w
      show (kG K).1 ≤ T.heap.size
      rw [hT]
      omega
  obtain ⟨t2, a1, b1⟩ := k F.heap _ ls hR1 hS2 h3 F rfl X'
  refine ⟨t2, st t2 ?_, b1⟩
  have e : Value.ref T.heap.size = rv (kG K).1 (zR hp.1) := by
    show Value.ref T.heap.size = .ref ((kG K).1 + hp.1)
    rw [hT, hsz]
  rw [e]
  exact a1
end RULES7
theorem mnaL (m : Nat) : ∀ g : GT, ∃ a0, trC g (oL 2 m (fun _ => 0)) = .inl (g.2.2 2, a0) ∧ ∀ cA, vp_cell cA a0 = arrV cA m (fun _ => defaultValue (aTy.getD 2 .int)) := fun g => ⟨_, rfl, fun cA => by rw [vp_cell_l]; rfl⟩
theorem mnaI (m : Nat) : ∀ g : GT, ∃ a0, trC g (oA 0 m (fun _ => 0)) = .inl (g.2.2 0, a0) ∧ ∀ cA, vp_cell cA a0 = arrV cA m (fun _ => defaultValue (aTy.getD 0 .int)) := fun g => ⟨_, rfl, fun cA => by rw [vp_cell_i]; rfl⟩

/-! THE PURE PICTURE: numbers as integers, references as places counted from the law's start, the heap as a table with what was overwritten on top -/
abbrev PV : Type := Int ⊕ Int ⊕ Option Nat
abbrev zI (z : Int) : PV := Sum.inl z
abbrev zJ (z : Int) : PV := Sum.inr (Sum.inl z)
abbrev zR (k : Nat) : PV := Sum.inr (Sum.inr (some k))
abbrev zN : PV := Sum.inr (Sum.inr none)
abbrev zQ (r : Option Nat) : PV := Sum.inr (Sum.inr r)
def rv (sz : Nat) : PV → Value
  | .inl z => .int (Int32.ofInt z)
  | .inr (.inl z) => .long (Int64.ofInt z)
  | .inr (.inr none) => .null
  | .inr (.inr (some k)) => .ref (sz + k)
abbrev PA : Type := (Nat → Int) ⊕ (Nat → Int) ⊕ (Nat → Option Nat)
abbrev PC : Type := (Nat × Nat × PA) ⊕ (Nat × List PV)
abbrev PH : Type := Nat × (Nat → Option PC) × List (Nat × PC)
abbrev oA (t n : Nat) (f : Nat → Int) : PC := Sum.inl (t, n, Sum.inl f)
abbrev oL (t n : Nat) (f : Nat → Int) : PC := Sum.inl (t, n, Sum.inr (Sum.inl f))
abbrev oP (t n : Nat) (f : Nat → Option Nat) : PC := Sum.inl (t, n, Sum.inr (Sum.inr f))
abbrev oO (ci : Nat) (fs : List PV) : PC := Sum.inr (ci, fs)
def hlk : List (Nat × PC) → (Nat → Option PC) → Nat → Option PC
  | [], h, k => h k
  | q :: l, h, k => if q.1 = k then some q.2 else hlk l h k
def hget (p : PH) (k : Nat) : Option PC := hlk p.2.2 p.2.1 k
def aset : List (Nat × PC) → Nat → PC → List (Nat × PC)
  | [], k, c => [(k, c)]
  | q :: l, k, c => if q.1 = k then (k, c) :: l else q :: aset l k c
def asets (l : List (Nat × PC)) : List (Nat × PC) → List (Nat × PC)
  | [] => l
  | q :: r => aset (asets l r) q.1 q.2
def hset (p : PH) (k : Nat) (c : PC) : PH := (p.1, p.2.1, aset p.2.2 k c)
def fup {α : Type} (f : Nat → α) (k : Nat) (v : α) : Nat → α := fun j => if j = k then v else f j
theorem fup_self {α : Type} (f : Nat → α) (k : Nat) (v : α) : fup f k v k = v := by simp [fup]
theorem fup_ne {α : Type} (f : Nat → α) {k j : Nat} (v : α) (h : j ≠ k) : fup f k v j = f j := by simp [fup, h]
theorem hlk_aset (l : List (Nat × PC)) (h : Nat → Option PC) (k j : Nat) (c : PC) : hlk (aset l k c) h j = if k = j then some c else hlk l h j := by
  induction l with
  | nil => simp [aset, hlk]
  | cons q l ih =>
    by_cases h1 : q.1 = k
    · simp only [aset, if_pos h1, hlk]
      by_cases h2 : k = j
      · simp [h2]
      · rw [if_neg h2, if_neg h2, if_neg (by rw [h1]; exact h2)]
    · simp only [aset, if_neg h1, hlk]
      by_cases h2 : q.1 = j
      · rw [if_pos h2, if_neg (by intro e; exact h1 (h2.trans e.symm)), if_pos h2]
      · rw [if_neg h2, ih, if_neg h2]
theorem hget_hset (p : PH) (k j : Nat) (c : PC) : hget (hset p k c) j = if k = j then some c else hget p j := hlk_aset _ _ _ _ _
theorem hget_set_self (p : PH) (k : Nat) (c : PC) : hget (hset p k c) k = some c := by rw [hget_hset, if_pos rfl]
theorem hget_set_ne (p : PH) {k j : Nat} (c : PC) (h : k ≠ j) : hget (hset p k c) j = hget p j := by rw [hget_hset, if_neg h]
/-- the lists of two overwritings, the later one on top -/
theorem hlk_asets (l : List (Nat × PC)) (h : Nat → Option PC) (j : Nat) : ∀ r : List (Nat × PC), hlk (asets l r) h j = hlk r (hlk l h) j
  | [] => rfl
  | q :: r => by
    show hlk (aset (asets l r) q.1 q.2) h j = if q.1 = j then some q.2 else hlk r (hlk l h) j
    rw [hlk_aset, hlk_asets l h j r]
abbrev GT : Type := Nat × va_G × (Nat → ClassId)
def trC (g : GT) : PC → va_E
  | .inl (t, n, .inl f) => .inl (g.2.2 t, n, .inl (fun j => Int32.ofInt (f j)))
  | .inl (t, n, .inr (.inl f)) => .inl (g.2.2 t, n, .inr (.inl (fun j => Int64.ofInt (f j))))
  | .inl (t, n, .inr (.inr f)) => .inl (g.2.2 t, n, .inr (.inr (.inr (.inr (fun j => (f j).map (fun k => g.1 + k))))))
  | .inr (ci, fs) => .inr (ci, fs.map (rv g.1))
/-- the machine's heap holds the picture -/
def Rl (g : GT) (hp : PH) (H : Heap) : Prop := H.size = g.1 + hp.1 ∧ ∀ (k : Nat) (c : PC), hget hp k = some c → k < hp.1 ∧ va_at g.2.1 vwCl (g.1 + k, trC g c) H
def Ag (g : GT) : Nat → Prop := fun q => g.1 ≤ q
theorem Rl.ext {g : GT} {hp hq : PH} {H : Heap} (h : Rl g hp H) (e1 : hq.1 = hp.1) (e2 : ∀ k, hget hq k = hget hp k) : Rl g hq H := ⟨by rw [e1]; exact h.1, fun k c hk => by rw [e1]; exact h.2 k c (by rw [← e2]; exact hk)⟩
/-- one cell changed -/
theorem Rl.put {g : GT} {hp : PH} {H H1 : Heap} (h : Rl g hp H) {k : Nat} {c0 c : PC} (hk : hget hp k = some c0) (z : H1.size = H.size) (o : ∀ q : Nat, q ≠ g.1 + k → H1[q]? = H[q]?) (hc : va_at g.2.1 vwCl (g.1 + k, trC g c) H1) : Rl g (hset hp k c) H1 := by
  refine ⟨by rw [z]; exact h.1, fun j d hj => ?_⟩
  rw [hget_hset] at hj
  by_cases e : k = j
  · rw [if_pos e] at hj
    cases hj
    subst e
    exact ⟨(h.2 k c0 hk).1, hc⟩
  · rw [if_neg e] at hj
    obtain ⟨a1, a2⟩ := h.2 j d hj
    exact ⟨a1, a2.kept (o _ (by show g.1 + j ≠ g.1 + k; omega))⟩
/-- a cell more -/
def hnew (p : PH) (c : PC) : PH := (p.1 + 1, p.2.1, aset p.2.2 p.1 c)
theorem hget_hnew (p : PH) (j : Nat) (c : PC) : hget (hnew p c) j = if p.1 = j then some c else hget p j := hlk_aset _ _ _ _ _
theorem Rl.new {g : GT} {hp : PH} {H H1 : Heap} (h : Rl g hp H) {c : PC} (z : H1.size = H.size + 1) (o : ∀ q : Nat, q < H.size → H1[q]? = H[q]?) (hc : va_at g.2.1 vwCl (g.1 + hp.1, trC g c) H1) : Rl g (hnew hp c) H1 := by
  refine ⟨by rw [z, h.1]; rfl, fun j d hj => ?_⟩
  rw [hget_hnew] at hj
  by_cases e : hp.1 = j
  · rw [if_pos e] at hj
    cases hj
    subst e
    exact ⟨Nat.lt_succ_self _, hc⟩
  · rw [if_neg e] at hj
    obtain ⟨a1, a2⟩ := h.2 j d hj
    exact ⟨Nat.lt_succ_of_lt a1, a2.kept (o _ (by show g.1 + j < H.size; rw [h.1]; omega))⟩
/-! ===== words ===== -/
def nestW : Cond → Bool
  | .fieldLinkNest _ _ _ _ _ _ => true
  | .methodLinkNest _ _ _ _ => true
  | _ => false
def WT : List Cond := lw_tbl.filter goodWord
theorem wt_of {w : Cond} (h : w ∈ lw_tbl) (hg : goodWord w = true) : w ∈ WT := List.mem_filter.mpr ⟨h, hg⟩
theorem wt_good {w : Cond} (h : w ∈ WT) : (w.onTables && w.keeps) = true ∨ ∃ ty, w = .arrayClass ty := good_of_word (List.mem_filter.mp h).2
theorem wt_goodIn {c d : Cond} (hd : d ∈ WT) : GoodIn (c :: WT) (d :: WT) := by
  intro w hw
  rcases List.mem_cons.mp hw with rfl | h
  · exact ⟨List.mem_cons_of_mem _ hd, wt_good hd⟩
  · exact ⟨List.mem_cons_of_mem _ h, wt_good h⟩
/-- what the tables say beside the words: layouts, classes of arrays, links between nest mates, static tables -/
def aTy : List FieldType := [.int, .boolean, .long, .array .long, .array .int, .object RX1]
def stTab : Nat → String × String × String × FieldType × Nat × (Nat → Int)
  | 0 => (RX9, "SET_LEAST", "[I", .int, 5, fun j => if j = 3 then 1 else 0)
  | 1 => (RX9, "SET_MOST", "[I", .int, 5, fun j => if j = 0 then 10 else if j = 1 then 5 else if j = 2 then 20 else if j = 3 then 100000 else 20)
  | _ => (RX8, "ENDS", "[C", .char, 4, fun j => if j = 0 then 44 else if j = 1 then 62 else if j = 2 then 58 else 59)
def Sv (g : GT) (U : State) (H : Heap) : Prop := ∀ i, i < 3 → ∃ t : Nat, va_Z (stTab i).1 (stTab i).2.1 (stTab i).2.2.1 (.ref t) (Ag g) U H ∧ va_T (stTab i).2.2.2.1 t (stTab i).2.2.2.2.1 (fun j => .int (Int32.ofInt ((stTab i).2.2.2.2.2 j))) (Ag g) U H
/-- arrays of rows -/
def AOt (t : FieldType) (U : State) : Prop := (Cond.arrayOver (.array t)).before #[] U = true
theorem AOt.moved {t : FieldType} {u U : State} (hvm : u.vm.Alike U.vm) (h : AOt t u) : AOt t U := by
  obtain ⟨comp, c, k, h1, h2, h3, h4, h5⟩ := arrayOverA_spec h
  obtain ⟨k', hk', he⟩ := hvm.2.2 _ _ h3
  have hi : (U.vm.classes.findIdx? fun (x : Class) => match x.kind with | .array component _ => component == comp | _ => false) = some c := by
    rw [hvm.findIdx?_eq _ (fun _ => rfl)]
    exact h2
  have hkind : k'.kind = .array comp (.array t) := by rw [he]; exact h4
  have f1 : U.vm.findClass (FieldType.array t).toString = some comp := by rw [hvm.findClass]; exact h1
  have f2 : U.vm.findClass ("[" ++ (FieldType.array t).toString) = some c := by rw [hvm.findClass]; exact h5
  unfold AOt Cond.before Cond.holds
  simp only [Cond.value]
  rw [f1, Option.bind_some]
  refine (congrArg (fun o : Option Nat => (o.bind (fun c => (U.vm.classes[c]?).map fun (k : Class) => match k.kind with | .array _ ty => decide (ty = FieldType.array t) && decide (U.vm.findClass ("[" ++ (FieldType.array t).toString) = some c) | _ => false) == some true)) hi).trans ?_
  simp [hk', hkind, f2]
def Ev (g : GT) (U : State) : Prop := va_K g.2.1 vwCl ((List.range 6).map (fun i => (g.2.2 i, aTy.getD i .int))) U ∧ (∀ w ∈ lw_tbl, nestW w = true → va_Nw w U) ∧ va_AO RX1 U ∧ AOt .long U ∧ AOt .int U
theorem Ev.moved {g : GT} {u U : State} (hW : u.WarmedH U.vm) (h : Ev g u) : Ev g U := by
  refine ⟨va_K.moved hW.alike h.1, fun w hw hn => ?_, va_AO.moved hW.alike h.2.2.1, AOt.moved hW.alike h.2.2.2.1, AOt.moved hW.alike h.2.2.2.2⟩
  have h1 := h.2.1 w hw hn
  cases w <;> first | exact va_Nw.warmF hW h1 | exact va_Nw.warmM hW h1 | (exfalso; simp [nestW] at hn)
theorem Ev.same {g : GT} {u U : State} (hW : u.vm = U.vm) (h : Ev g u) : Ev g U := by
  have hA : u.vm.Alike U.vm := by rw [hW]; exact Vm.Alike.refl U.vm
  refine ⟨va_K.moved hA h.1, fun w hw hn => ?_, va_AO.moved hA h.2.2.1, AOt.moved hA h.2.2.2.1, AOt.moved hA h.2.2.2.2⟩
  have h1 := h.2.1 w hw hn
  cases w <;> first | exact va_Nw.same rfl hW h1 | (exfalso; simp [nestW] at hn)
theorem Sv.moved {g : GT} {u U : State} {H : Heap} (hvm : u.vm.Alike U.vm) (h : Sv g u H) : Sv g U H := fun i hi => by
  obtain ⟨t, a, b⟩ := h i hi
  exact ⟨t, a.moved hvm, b.moved hvm⟩
theorem Sv.kept {g : GT} {U : State} {H H1 : Heap} (h : Sv g U H) (hq : ∀ a : Nat, a < H.size → ¬ Ag g a → H1[a]? = H[a]?) : Sv g U H1 := fun i hi => by
  obtain ⟨t, a, b⟩ := h i hi
  exact ⟨t, a.kept hq, b.kept hq⟩
/-! ===== the judgement ===== -/
abbrev KT : Type := Program × Launch × Env × Room × State × MethodId × Array Value × List Frame × Method × Code × GT
abbrev kS (K : KT) : State := K.2.2.2.2.1
abbrev kA (K : KT) : Array Value := K.2.2.2.2.2.2.1
abbrev kG (K : KT) : GT := K.2.2.2.2.2.2.2.2.2.2
abbrev kM (K : KT) : MethodId := K.2.2.2.2.2.1
abbrev kMeth (K : KT) : Method := K.2.2.2.2.2.2.2.2.1
abbrev kC (K : KT) : Code := K.2.2.2.2.2.2.2.2.2.1
abbrev kR (K : KT) : Room := K.2.2.2.1
def Gd (K : KT) (cc : ByteArray) (own : String) (nL : Nat) : Prop :=
  K.1.tables.exec = Jvm.exec ∧ (kC K).code = cc ∧ (kC K).maxLocals = nL ∧ (kS K).vm.findClass own = some (kM K).cls ∧ (∀ w ∈ WT, w.before (kA K) (kS K) = true) ∧ Ev (kG K) (kS K) ∧ Sv (kG K) (kS K) (kS K).heap ∧ (kMeth K).locks = false ∧ (kG K).1 ≤ (kS K).heap.size
abbrev WK (K : KT) (H : Heap) (locs : List Loc) (cs : Nat × Nat) (Q : State → Prop) (g : JFrame) : Prop :=
  W K.1 K.2.1 K.2.2.1 K.2.2.2.1 K.2.2.2.2.1 K.2.2.2.2.2.1 K.2.2.2.2.2.2.1 K.2.2.2.2.2.2.2.1 K.2.2.2.2.2.2.2.2.1 K.2.2.2.2.2.2.2.2.2.1 H locs cs.1 cs.2 Q g
abbrev lvm (sz : Nat) (lv : List (Nat × PV)) : List (Nat × Value) := lv.map (fun q => (q.1, rv sz q.2))
def Wp (K : KT) (nL : Nat) (Q : State → Prop) (cs : Nat × Nat) (pc : Nat) (lv : List (Nat × PV)) (stk : List PV) (hp : PH) : Prop :=
  ∀ (H : Heap) (locs : List Loc) (ls : Array Slot), Rl (kG K) hp H → va_S (Ag (kG K)) (kS K).heap H locs → lv_has ls nL (lvm (kG K).1 lv) → WK K H locs cs Q (F0 (kM K) pc ls (stk.map (rv (kG K).1)))
abbrev r32 (z : Int) : Prop := -2147483648 ≤ z ∧ z ≤ 2147483647
abbrev r64 (z : Int) : Prop := -9223372036854775808 ≤ z ∧ z ≤ 9223372036854775807
theorem n32 {z : Int} (h : r32 z) : (Int32.ofInt z).toInt = z := Int32.toInt_ofInt_of_le (by omega) (by omega)
theorem n64 {z : Int} (h : r64 z) : (Int64.ofInt z).toInt = z := Int64.toInt_ofInt_of_le (by omega) (by omega)
theorem e32 {a b : Int} (ha : r32 a) (hb : r32 b) : Int32.ofInt a = Int32.ofInt b ↔ a = b := by
  rw [← Int32.toInt_inj, n32 ha, n32 hb]
theorem l32 {a b : Int} (ha : r32 a) (hb : r32 b) : Int32.ofInt a < Int32.ofInt b ↔ a < b := by
  rw [Int32.lt_iff_toInt_lt, n32 ha, n32 hb]
theorem le32 {a b : Int} (ha : r32 a) (hb : r32 b) : Int32.ofInt a ≤ Int32.ofInt b ↔ a ≤ b := by
  rw [Int32.le_iff_toInt_le, n32 ha, n32 hb]
theorem z32 : (0 : Int32) = Int32.ofInt 0 := by decide
section RULES
variable {K : KT} {nL : Nat} {Q : State → Prop} {cs : Nat × Nat} {pc pc' : Nat} {lv : List (Nat × PV)} {stk : List PV} {hp : PH} {cc : ByteArray} {own : String}
theorem wp_iconst (G : Gd K cc own nL) {n : Int} (hd : Dn cc pc (.iconst n) 1 pc') (k : Wp K nL Q cs pc' lv (zI n :: stk) hp) : Wp K nL Q cs pc lv stk hp := by
  intro H locs ls h1 h2 h3
  obtain ⟨hx, hb, -⟩ := G
  obtain ⟨hd, rfl⟩ := hd
  exact lv_iconst hx hb hd rfl (k H locs ls h1 h2 h3)
theorem wp_bipush (G : Gd K cc own nL) {n : Int} (hd : Dn cc pc (.bipush n) 2 pc') (hv : (Int8.ofInt n).toInt32 = Int32.ofInt n) (k : Wp K nL Q cs pc' lv (zI n :: stk) hp) : Wp K nL Q cs pc lv stk hp := by
  intro H locs ls h1 h2 h3
  obtain ⟨hx, hb, -⟩ := G
  obtain ⟨hd, rfl⟩ := hd
  exact lv_bipush hx hb hd hv (k H locs ls h1 h2 h3)
theorem wp_sipush (G : Gd K cc own nL) {n : Int} (hd : Dn cc pc (.sipush n) 3 pc') (hv : (Int16.ofInt n).toInt32 = Int32.ofInt n) (k : Wp K nL Q cs pc' lv (zI n :: stk) hp) : Wp K nL Q cs pc lv stk hp := by
  intro H locs ls h1 h2 h3
  obtain ⟨hx, hb, -⟩ := G
  obtain ⟨hd, rfl⟩ := hd
  exact lv_sipush hx hb hd hv (k H locs ls h1 h2 h3)
theorem wp_lconst (G : Gd K cc own nL) {n : Fin 2} {z : Int} (hd : Dn cc pc (.lconst n) 1 pc') (hv : z = ((n : Nat) : Int)) (k : Wp K nL Q cs pc' lv (zJ z :: stk) hp) : Wp K nL Q cs pc lv stk hp := by
  intro H locs ls h1 h2 h3
  obtain ⟨hx, hb, -⟩ := G
  obtain ⟨hd, rfl⟩ := hd
  subst hv
  exact lv_lconst hx hb hd rfl (k H locs ls h1 h2 h3)
/-- a listed local, by its place in the list -/
theorem lvm_at {ls : Array Slot} {sz : Nat} {lv : List (Nat × PV)} (h : lv_has ls nL (lvm sz lv)) {j i : Nat} {v : PV} (hj : lv[j]? = some (i, v)) : ls[i]? = some (.val (rv sz v)) := lv_at h j (by rw [List.getElem?_map, hj]; rfl)
theorem wp_iload_n (G : Gd K cc own nL) {i : Fin 4} (j : Nat) {z : Int} (hd : Dn cc pc (.iload_n i) 1 pc') (hj : lv[j]? = some ((i : Nat), zI z)) (k : Wp K nL Q cs pc' lv (zI z :: stk) hp) : Wp K nL Q cs pc lv stk hp := by
  intro H locs ls h1 h2 h3
  obtain ⟨hx, hb, -⟩ := G
  obtain ⟨hd, rfl⟩ := hd
  exact lv_iload_n hx hb hd rfl (lvm_at h3 hj) (k H locs ls h1 h2 h3)
theorem wp_iload (G : Gd K cc own nL) {i : Nat} (j : Nat) {z : Int} (hd : Dn cc pc (.iload i) 2 pc') (hj : lv[j]? = some (i, zI z)) (k : Wp K nL Q cs pc' lv (zI z :: stk) hp) : Wp K nL Q cs pc lv stk hp := by
  intro H locs ls h1 h2 h3
  obtain ⟨hx, hb, -⟩ := G
  obtain ⟨hd, rfl⟩ := hd
  exact lv_iload hx hb hd (lvm_at h3 hj) (k H locs ls h1 h2 h3)
theorem wp_lload_n (G : Gd K cc own nL) {i : Fin 4} (j : Nat) {z : Int} (hd : Dn cc pc (.lload_n i) 1 pc') (hj : lv[j]? = some ((i : Nat), zJ z)) (k : Wp K nL Q cs pc' lv (zJ z :: stk) hp) : Wp K nL Q cs pc lv stk hp := by
  intro H locs ls h1 h2 h3
  obtain ⟨hx, hb, -⟩ := G
  obtain ⟨hd, rfl⟩ := hd
  exact lv_lload_n hx hb hd rfl (lvm_at h3 hj) (k H locs ls h1 h2 h3)
theorem wp_lload (G : Gd K cc own nL) {i : Nat} (j : Nat) {z : Int} (hd : Dn cc pc (.lload i) 2 pc') (hj : lv[j]? = some (i, zJ z)) (k : Wp K nL Q cs pc' lv (zJ z :: stk) hp) : Wp K nL Q cs pc lv stk hp := by
  intro H locs ls h1 h2 h3
  obtain ⟨hx, hb, -⟩ := G
  obtain ⟨hd, rfl⟩ := hd
  exact lv_lload hx hb hd (lvm_at h3 hj) (k H locs ls h1 h2 h3)
theorem wp_aload_n (G : Gd K cc own nL) {i : Fin 4} (j : Nat) {r : Nat} (hd : Dn cc pc (.aload_n i) 1 pc') (hj : lv[j]? = some ((i : Nat), zR r)) (k : Wp K nL Q cs pc' lv (zR r :: stk) hp) : Wp K nL Q cs pc lv stk hp := by
  intro H locs ls h1 h2 h3
  obtain ⟨hx, hb, -⟩ := G
  obtain ⟨hd, rfl⟩ := hd
  exact lv_aload_n hx hb hd rfl (lvm_at h3 hj) (k H locs ls h1 h2 h3)
theorem wp_aload (G : Gd K cc own nL) {i : Nat} (j : Nat) {r : Nat} (hd : Dn cc pc (.aload i) 2 pc') (hj : lv[j]? = some (i, zR r)) (k : Wp K nL Q cs pc' lv (zR r :: stk) hp) : Wp K nL Q cs pc lv stk hp := by
  intro H locs ls h1 h2 h3
  obtain ⟨hx, hb, -⟩ := G
  obtain ⟨hd, rfl⟩ := hd
  exact lv_aload hx hb hd (lvm_at h3 hj) (k H locs ls h1 h2 h3)
theorem wp_aload_nN (G : Gd K cc own nL) {i : Fin 4} (j : Nat) (hd : Dn cc pc (.aload_n i) 1 pc') (hj : lv[j]? = some ((i : Nat), zN)) (k : Wp K nL Q cs pc' lv (zN :: stk) hp) : Wp K nL Q cs pc lv stk hp := by
  intro H locs ls h1 h2 h3
  obtain ⟨hx, hb, -⟩ := G
  obtain ⟨hd, rfl⟩ := hd
  exact lv_aload_nN hx hb hd rfl (lvm_at h3 hj) (k H locs ls h1 h2 h3)
theorem wp_aloadN (G : Gd K cc own nL) {i : Nat} (j : Nat) (hd : Dn cc pc (.aload i) 2 pc') (hj : lv[j]? = some (i, zN)) (k : Wp K nL Q cs pc' lv (zN :: stk) hp) : Wp K nL Q cs pc lv stk hp := by
  intro H locs ls h1 h2 h3
  obtain ⟨hx, hb, -⟩ := G
  obtain ⟨hd, rfl⟩ := hd
  exact lv_aloadN hx hb hd (lvm_at h3 hj) (k H locs ls h1 h2 h3)
/-! stores -/
def isJ : PV → Bool
  | .inr (.inl _) => true
  | _ => false
theorem cat_rv (sz : Nat) (v : PV) : ((rv sz v).category == 2) = isJ v := by
  rcases v with z | z | _ | k <;> rfl
def pst (i : Nat) (v : PV) (lv : List (Nat × PV)) : List (Nat × PV) := (i, v) :: lv.filter (fun q => !(q.1 == i) && !(q.1 + 1 == i && isJ q.2))
def pst2 (i : Nat) (v : PV) (lv : List (Nat × PV)) : List (Nat × PV) := (i, v) :: lv.filter (fun q => !(q.1 == i) && (!(q.1 == i + 1) && !(q.1 + 1 == i && isJ q.2)))
theorem pst_map (sz i : Nat) (v : PV) (lv : List (Nat × PV)) : (i, rv sz v) :: (lvm sz lv).filter (fun q => !(q.1 == i) && !(q.1 + 1 == i && q.2.category == 2)) = lvm sz (pst i v lv) := by
  show _ = (i, rv sz v) :: List.map _ _
  rw [List.filter_map]
  congr 2
  refine congrArg (fun f => List.filter f lv) (funext fun q => ?_)
  simp only [Function.comp_apply, cat_rv]
theorem pst2_map (sz i : Nat) (v : PV) (lv : List (Nat × PV)) : (i, rv sz v) :: (lvm sz lv).filter (fun q => !(q.1 == i) && (!(q.1 == i + 1) && !(q.1 + 1 == i && q.2.category == 2))) = lvm sz (pst2 i v lv) := by
  show _ = (i, rv sz v) :: List.map _ _
  rw [List.filter_map]
  congr 2
  refine congrArg (fun f => List.filter f lv) (funext fun q => ?_)
  simp only [Function.comp_apply, cat_rv]
theorem wp_istore_n (G : Gd K cc own nL) {i : Fin 4} {z : Int} {lv' : List (Nat × PV)} (hd : Dn cc pc (.istore_n i) 1 pc') (hn : (i : Nat) < nL) (hl : pst (i : Nat) (zI z) lv = lv') (k : Wp K nL Q cs pc' lv' stk hp) : Wp K nL Q cs pc lv (zI z :: stk) hp := by
  intro H locs ls h1 h2 h3
  obtain ⟨hx, hb, -⟩ := G
  obtain ⟨hd, rfl⟩ := hd
  subst hl
  exact lv_istore_n hx hb hd rfl h3 hn (pst_map _ _ (zI z) _) (fun ls' h' => k H locs ls' h1 h2 h')
theorem wp_istore (G : Gd K cc own nL) {i : Nat} {z : Int} {lv' : List (Nat × PV)} (hd : Dn cc pc (.istore i) 2 pc') (hn : i < nL) (hl : pst i (zI z) lv = lv') (k : Wp K nL Q cs pc' lv' stk hp) : Wp K nL Q cs pc lv (zI z :: stk) hp := by
  intro H locs ls h1 h2 h3
  obtain ⟨hx, hb, -⟩ := G
  obtain ⟨hd, rfl⟩ := hd
  subst hl
  exact lv_istore hx hb hd h3 hn (pst_map _ _ (zI z) _) (fun ls' h' => k H locs ls' h1 h2 h')
theorem wp_lstore_n (G : Gd K cc own nL) {i : Fin 4} {z : Int} {lv' : List (Nat × PV)} (hd : Dn cc pc (.lstore_n i) 1 pc') (hn : (i : Nat) + 1 < nL) (hl : pst2 (i : Nat) (zJ z) lv = lv') (k : Wp K nL Q cs pc' lv' stk hp) : Wp K nL Q cs pc lv (zJ z :: stk) hp := by
  intro H locs ls h1 h2 h3
  obtain ⟨hx, hb, -⟩ := G
  obtain ⟨hd, rfl⟩ := hd
  subst hl
  exact lv_lstore_n hx hb hd rfl h3 hn (pst2_map _ _ (zJ z) _) (fun ls' h' => k H locs ls' h1 h2 h')
theorem wp_lstore (G : Gd K cc own nL) {i : Nat} {z : Int} {lv' : List (Nat × PV)} (hd : Dn cc pc (.lstore i) 2 pc') (hn : i + 1 < nL) (hl : pst2 i (zJ z) lv = lv') (k : Wp K nL Q cs pc' lv' stk hp) : Wp K nL Q cs pc lv (zJ z :: stk) hp := by
  intro H locs ls h1 h2 h3
  obtain ⟨hx, hb, -⟩ := G
  obtain ⟨hd, rfl⟩ := hd
  subst hl
  exact lv_lstore hx hb hd h3 hn (pst2_map _ _ (zJ z) _) (fun ls' h' => k H locs ls' h1 h2 h')
theorem wp_astore_n (G : Gd K cc own nL) {i : Fin 4} {r : Nat} {lv' : List (Nat × PV)} (hd : Dn cc pc (.astore_n i) 1 pc') (hn : (i : Nat) < nL) (hl : pst (i : Nat) (zR r) lv = lv') (k : Wp K nL Q cs pc' lv' stk hp) : Wp K nL Q cs pc lv (zR r :: stk) hp := by
  intro H locs ls h1 h2 h3
  obtain ⟨hx, hb, -⟩ := G
  obtain ⟨hd, rfl⟩ := hd
  subst hl
  exact lv_astore_n hx hb hd rfl h3 hn (pst_map _ _ (zR r) _) (fun ls' h' => k H locs ls' h1 h2 h')
theorem wp_astore (G : Gd K cc own nL) {i : Nat} {r : Nat} {lv' : List (Nat × PV)} (hd : Dn cc pc (.astore i) 2 pc') (hn : i < nL) (hl : pst i (zR r) lv = lv') (k : Wp K nL Q cs pc' lv' stk hp) : Wp K nL Q cs pc lv (zR r :: stk) hp := by
  intro H locs ls h1 h2 h3
  obtain ⟨hx, hb, -⟩ := G
  obtain ⟨hd, rfl⟩ := hd
  subst hl
  exact lv_astore hx hb hd h3 hn (pst_map _ _ (zR r) _) (fun ls' h' => k H locs ls' h1 h2 h')
theorem wp_astore_nN (G : Gd K cc own nL) {i : Fin 4} {lv' : List (Nat × PV)} (hd : Dn cc pc (.astore_n i) 1 pc') (hn : (i : Nat) < nL) (hl : pst (i : Nat) zN lv = lv') (k : Wp K nL Q cs pc' lv' stk hp) : Wp K nL Q cs pc lv (zN :: stk) hp := by
  intro H locs ls h1 h2 h3
  obtain ⟨hx, hb, -⟩ := G
  obtain ⟨hd, rfl⟩ := hd
  subst hl
  exact lv_astore_nN hx hb hd rfl h3 hn (pst_map _ _ zN _) (fun ls' h' => k H locs ls' h1 h2 h')
theorem wp_astoreN (G : Gd K cc own nL) {i : Nat} {lv' : List (Nat × PV)} (hd : Dn cc pc (.astore i) 2 pc') (hn : i < nL) (hl : pst i zN lv = lv') (k : Wp K nL Q cs pc' lv' stk hp) : Wp K nL Q cs pc lv (zN :: stk) hp := by
  intro H locs ls h1 h2 h3
  obtain ⟨hx, hb, -⟩ := G
  obtain ⟨hd, rfl⟩ := hd
  subst hl
  exact lv_astoreN hx hb hd h3 hn (pst_map _ _ zN _) (fun ls' h' => k H locs ls' h1 h2 h')
theorem wp_iinc (G : Gd K cc own nL) {i : Nat} {n z : Int} (j : Nat) {lv' : List (Nat × PV)} (hd : Dn cc pc (.iinc i n) 3 pc') (hj : lv[j]? = some (i, zI z)) (hn : i < nL) (hl : pst i (zI (z + n)) lv = lv') (k : Wp K nL Q cs pc' lv' stk hp) : Wp K nL Q cs pc lv stk hp := by
  intro H locs ls h1 h2 h3
  obtain ⟨hx, hb, -⟩ := G
  obtain ⟨hd, rfl⟩ := hd
  subst hl
  exact lv_iinc (k := j) hx hb hd h3 (by rw [List.getElem?_map, hj]; rfl) (Int32.ofInt_add z n).symm hn (pst_map _ _ (zI (z + n)) _) (fun ls' h' => k H locs ls' h1 h2 h')
end RULES

theorem mn32 : Int32.minValue.toInt = -2147483648 := by decide
theorem mx32 : Int32.maxValue.toInt = 2147483647 := by decide
theorem mn64 : Int64.minValue.toInt = -9223372036854775808 := by decide
theorem mx64 : Int64.maxValue.toInt = 9223372036854775807 := by decide
theorem dv32 {a b : Int} (ha : 0 ≤ a) (ra : r32 a) (rb : r32 b) : Int32.ofInt a / Int32.ofInt b = Int32.ofInt (a / b) := by
  rw [← Int.tdiv_eq_ediv_of_nonneg ha]
  exact (Int32.ofInt_tdiv (by rw [mn32]; omega) (by rw [mx32]; omega) (by rw [mn32]; omega) (by rw [mx32]; omega)).symm
theorem dv64 {a b : Int} (ha : 0 ≤ a) (ra : r64 a) (rb : r64 b) : Int64.ofInt a / Int64.ofInt b = Int64.ofInt (a / b) := by
  rw [← Int.tdiv_eq_ediv_of_nonneg ha]
  exact (Int64.ofInt_tdiv (by rw [mn64]; omega) (by rw [mx64]; omega) (by rw [mn64]; omega) (by rw [mx64]; omega)).symm
theorem rm32 {a b : Int} (ra : r32 a) (rb : r32 b) : Int32.ofInt a - Int32.ofInt a / Int32.ofInt b * Int32.ofInt b = Int32.ofInt (Int.tmod a b) := by
  rw [irem_eq_mod]
  exact (Int32.ofInt_tmod (by rw [mn32]; omega) (by rw [mx32]; omega) (by rw [mn32]; omega) (by rw [mx32]; omega)).symm
theorem rm64 {a b : Int} (ra : r64 a) (rb : r64 b) : Int64.ofInt a - Int64.ofInt a / Int64.ofInt b * Int64.ofInt b = Int64.ofInt (Int.tmod a b) := by
  rw [← Int64.ofInt_tdiv (by rw [mn64]; omega) (by rw [mx64]; omega) (by rw [mn64]; omega) (by rw [mx64]; omega), ← Int64.ofInt_mul, ← Int64.ofInt_sub, Int.tmod_def, Int.mul_comm]
section RULES2
variable {K : KT} {nL : Nat} {Q : State → Prop} {cs : Nat × Nat} {pc pc' tgt : Nat} {lv : List (Nat × PV)} {stk : List PV} {hp : PH} {cc : ByteArray} {own : String}

theorem wp_iadd (G : Gd K cc own nL) {a b : Int} (hd : Dn cc pc .iadd 1 pc') (k : Wp K nL Q cs pc' lv (zI (a + b) :: stk) hp) : Wp K nL Q cs pc lv (zI b :: zI a :: stk) hp := by
  intro H locs ls h1 h2 h3
  obtain ⟨hx, hb, -⟩ := G
  obtain ⟨hd, rfl⟩ := hd
  have e : Int32.ofInt a + Int32.ofInt b = Int32.ofInt (a + b) := (Int32.ofInt_add a b).symm
  refine lv_iadd (x := Int32.ofInt a) (y := Int32.ofInt b) hx hb hd ?_
  rw [e]
  exact k H locs ls h1 h2 h3
theorem wp_ladd (G : Gd K cc own nL) {a b : Int} (hd : Dn cc pc .ladd 1 pc') (k : Wp K nL Q cs pc' lv (zJ (a + b) :: stk) hp) : Wp K nL Q cs pc lv (zJ b :: zJ a :: stk) hp := by
  intro H locs ls h1 h2 h3
  obtain ⟨hx, hb, -⟩ := G
  obtain ⟨hd, rfl⟩ := hd
  have e : Int64.ofInt a + Int64.ofInt b = Int64.ofInt (a + b) := (Int64.ofInt_add a b).symm
  refine lv_ladd (x := Int64.ofInt a) (y := Int64.ofInt b) hx hb hd ?_
  rw [e]
  exact k H locs ls h1 h2 h3
theorem wp_isub (G : Gd K cc own nL) {a b : Int} (hd : Dn cc pc .isub 1 pc') (k : Wp K nL Q cs pc' lv (zI (a - b) :: stk) hp) : Wp K nL Q cs pc lv (zI b :: zI a :: stk) hp := by
  intro H locs ls h1 h2 h3
  obtain ⟨hx, hb, -⟩ := G
  obtain ⟨hd, rfl⟩ := hd
  have e : Int32.ofInt a - Int32.ofInt b = Int32.ofInt (a - b) := (Int32.ofInt_sub a b).symm
  refine lv_isub (x := Int32.ofInt a) (y := Int32.ofInt b) hx hb hd ?_
  rw [e]
  exact k H locs ls h1 h2 h3
theorem wp_lsub (G : Gd K cc own nL) {a b : Int} (hd : Dn cc pc .lsub 1 pc') (k : Wp K nL Q cs pc' lv (zJ (a - b) :: stk) hp) : Wp K nL Q cs pc lv (zJ b :: zJ a :: stk) hp := by
  intro H locs ls h1 h2 h3
  obtain ⟨hx, hb, -⟩ := G
  obtain ⟨hd, rfl⟩ := hd
  have e : Int64.ofInt a - Int64.ofInt b = Int64.ofInt (a - b) := (Int64.ofInt_sub a b).symm
  refine lv_lsub (x := Int64.ofInt a) (y := Int64.ofInt b) hx hb hd ?_
  rw [e]
  exact k H locs ls h1 h2 h3
theorem wp_imul (G : Gd K cc own nL) {a b : Int} (hd : Dn cc pc .imul 1 pc') (k : Wp K nL Q cs pc' lv (zI (a * b) :: stk) hp) : Wp K nL Q cs pc lv (zI b :: zI a :: stk) hp := by
  intro H locs ls h1 h2 h3
  obtain ⟨hx, hb, -⟩ := G
  obtain ⟨hd, rfl⟩ := hd
  have e : Int32.ofInt a * Int32.ofInt b = Int32.ofInt (a * b) := (Int32.ofInt_mul a b).symm
  refine lv_imul (x := Int32.ofInt a) (y := Int32.ofInt b) hx hb hd ?_
  rw [e]
  exact k H locs ls h1 h2 h3
theorem wp_lmul (G : Gd K cc own nL) {a b : Int} (hd : Dn cc pc .lmul 1 pc') (k : Wp K nL Q cs pc' lv (zJ (a * b) :: stk) hp) : Wp K nL Q cs pc lv (zJ b :: zJ a :: stk) hp := by
  intro H locs ls h1 h2 h3
  obtain ⟨hx, hb, -⟩ := G
  obtain ⟨hd, rfl⟩ := hd
  have e : Int64.ofInt a * Int64.ofInt b = Int64.ofInt (a * b) := (Int64.ofInt_mul a b).symm
  refine lv_lmul (x := Int64.ofInt a) (y := Int64.ofInt b) hx hb hd ?_
  rw [e]
  exact k H locs ls h1 h2 h3
theorem wp_ineg (G : Gd K cc own nL) {a : Int} (hd : Dn cc pc .ineg 1 pc') (k : Wp K nL Q cs pc' lv (zI (-a) :: stk) hp) : Wp K nL Q cs pc lv (zI a :: stk) hp := by
  intro H locs ls h1 h2 h3
  obtain ⟨hx, hb, -⟩ := G
  obtain ⟨hd, rfl⟩ := hd
  have e : -Int32.ofInt a = Int32.ofInt (-a) := (Int32.ofInt_neg a).symm
  refine lv_ineg (x := Int32.ofInt a) hx hb hd ?_
  first | rw [e] | rw [Int32.zero_sub, e]
  exact k H locs ls h1 h2 h3
theorem wp_lneg (G : Gd K cc own nL) {a : Int} (hd : Dn cc pc .lneg 1 pc') (k : Wp K nL Q cs pc' lv (zJ (-a) :: stk) hp) : Wp K nL Q cs pc lv (zJ a :: stk) hp := by
  intro H locs ls h1 h2 h3
  obtain ⟨hx, hb, -⟩ := G
  obtain ⟨hd, rfl⟩ := hd
  have e : -Int64.ofInt a = Int64.ofInt (-a) := (Int64.ofInt_neg a).symm
  refine lv_lneg (x := Int64.ofInt a) hx hb hd ?_
  first | rw [e] | rw [Int64.zero_sub, e]
  exact k H locs ls h1 h2 h3
theorem wp_idiv (G : Gd K cc own nL) {a b : Int} (ha : 0 ≤ a) (hb0 : 0 < b) (ra : r32 a) (rb : r32 b) (hd : Dn cc pc .idiv 1 pc') (k : Wp K nL Q cs pc' lv (zI (a / b) :: stk) hp) : Wp K nL Q cs pc lv (zI b :: zI a :: stk) hp := by
  intro H locs ls h1 h2 h3
  obtain ⟨hx, hb, -⟩ := G
  obtain ⟨hd, rfl⟩ := hd
  have e0 : ¬ Int32.ofInt b = 0 := fun h => by
    have := congrArg Int32.toInt h
    rw [n32 rb] at this
    have z : (0 : Int32).toInt = 0 := by decide
    omega
  have e := dv32 ha ra rb
  refine lv_idiv (x := Int32.ofInt a) (y := Int32.ofInt b) hx hb hd e0 ?_
  rw [e]
  exact k H locs ls h1 h2 h3
theorem wp_ldiv (G : Gd K cc own nL) {a b : Int} (ha : 0 ≤ a) (hb0 : 0 < b) (ra : r64 a) (rb : r64 b) (hd : Dn cc pc .ldiv 1 pc') (k : Wp K nL Q cs pc' lv (zJ (a / b) :: stk) hp) : Wp K nL Q cs pc lv (zJ b :: zJ a :: stk) hp := by
  intro H locs ls h1 h2 h3
  obtain ⟨hx, hb, -⟩ := G
  obtain ⟨hd, rfl⟩ := hd
  have e0 : ¬ Int64.ofInt b = 0 := fun h => by
    have := congrArg Int64.toInt h
    rw [n64 rb] at this
    have z : (0 : Int64).toInt = 0 := by decide
    omega
  have e := dv64 ha ra rb
  refine lv_ldiv (x := Int64.ofInt a) (y := Int64.ofInt b) hx hb hd e0 ?_
  rw [e]
  exact k H locs ls h1 h2 h3
theorem wp_irem (G : Gd K cc own nL) {a b : Int} (hb0 : b ≠ 0) (ra : r32 a) (rb : r32 b) (hd : Dn cc pc .irem 1 pc') (k : Wp K nL Q cs pc' lv (zI (Int.tmod a b) :: stk) hp) : Wp K nL Q cs pc lv (zI b :: zI a :: stk) hp := by
  intro H locs ls h1 h2 h3
  obtain ⟨hx, hb, -⟩ := G
  obtain ⟨hd, rfl⟩ := hd
  have e0 : ¬ Int32.ofInt b = 0 := fun h => by
    have := congrArg Int32.toInt h
    rw [n32 rb] at this
    have z : (0 : Int32).toInt = 0 := by decide
    omega
  have e := rm32 ra rb
  refine lv_irem (x := Int32.ofInt a) (y := Int32.ofInt b) hx hb hd e0 ?_
  rw [e]
  exact k H locs ls h1 h2 h3
theorem wp_lrem (G : Gd K cc own nL) {a b : Int} (hb0 : b ≠ 0) (ra : r64 a) (rb : r64 b) (hd : Dn cc pc .lrem 1 pc') (k : Wp K nL Q cs pc' lv (zJ (Int.tmod a b) :: stk) hp) : Wp K nL Q cs pc lv (zJ b :: zJ a :: stk) hp := by
  intro H locs ls h1 h2 h3
  obtain ⟨hx, hb, -⟩ := G
  obtain ⟨hd, rfl⟩ := hd
  have e0 : ¬ Int64.ofInt b = 0 := fun h => by
    have := congrArg Int64.toInt h
    rw [n64 rb] at this
    have z : (0 : Int64).toInt = 0 := by decide
    omega
  have e := rm64 ra rb
  refine lv_lrem (x := Int64.ofInt a) (y := Int64.ofInt b) hx hb hd e0 ?_
  rw [e]
  exact k H locs ls h1 h2 h3
theorem wp_i2l (G : Gd K cc own nL) {a : Int} (ra : r32 a) (hd : Dn cc pc .i2l 1 pc') (k : Wp K nL Q cs pc' lv (zJ a :: stk) hp) : Wp K nL Q cs pc lv (zI a :: stk) hp := by
  intro H locs ls h1 h2 h3
  obtain ⟨hx, hb, -⟩ := G
  obtain ⟨hd, rfl⟩ := hd
  have e : (Int32.ofInt a).toInt64 = Int64.ofInt a := Int32.toInt64_ofInt (by rw [mn32]; omega) (by rw [mx32]; omega)
  exact lv_i2l (x := Int32.ofInt a) hx hb hd e (k H locs ls h1 h2 h3)
theorem wp_l2i (G : Gd K cc own nL) {a : Int} (hd : Dn cc pc .l2i 1 pc') (k : Wp K nL Q cs pc' lv (zI a :: stk) hp) : Wp K nL Q cs pc lv (zJ a :: stk) hp := by
  intro H locs ls h1 h2 h3
  obtain ⟨hx, hb, -⟩ := G
  obtain ⟨hd, rfl⟩ := hd
  exact lv_l2i (x := Int64.ofInt a) hx hb hd Int64.toInt32_ofInt (k H locs ls h1 h2 h3)
theorem wp_dup (G : Gd K cc own nL) {v : PV} (hj : isJ v = false) (hd : Dn cc pc .dup 1 pc') (k : Wp K nL Q cs pc' lv (v :: v :: stk) hp) : Wp K nL Q cs pc lv (v :: stk) hp := by
  intro H locs ls h1 h2 h3
  obtain ⟨hx, hb, -⟩ := G
  obtain ⟨hd, rfl⟩ := hd
  exact lv_dup hx hb hd (by rcases v with z | z | _ | r <;> first | rfl | (exact absurd hj (by simp [isJ]))) (k H locs ls h1 h2 h3)
theorem wp_pop (G : Gd K cc own nL) {v : PV} (hj : isJ v = false) (hd : Dn cc pc .pop 1 pc') (k : Wp K nL Q cs pc' lv (stk) hp) : Wp K nL Q cs pc lv (v :: stk) hp := by
  intro H locs ls h1 h2 h3
  obtain ⟨hx, hb, -⟩ := G
  obtain ⟨hd, rfl⟩ := hd
  exact lv_pop hx hb hd (by rcases v with z | z | _ | r <;> first | rfl | (exact absurd hj (by simp [isJ]))) (k H locs ls h1 h2 h3)
theorem wp_dup2 (G : Gd K cc own nL) {v w : PV} (hj : isJ v = false) (hj2 : isJ w = false) (hd : Dn cc pc .dup2 1 pc') (k : Wp K nL Q cs pc' lv (v :: w :: v :: w :: stk) hp) : Wp K nL Q cs pc lv (v :: w :: stk) hp := by
  intro H locs ls h1 h2 h3
  obtain ⟨hx, hb, -⟩ := G
  obtain ⟨hd, rfl⟩ := hd
  exact lv_dup2_11 hx hb hd (by rcases v with z | z | _ | r <;> first | rfl | (exact absurd hj (by simp [isJ]))) (by rcases w with z | z | _ | r <;> first | rfl | (exact absurd hj2 (by simp [isJ]))) (k H locs ls h1 h2 h3)
theorem wp_null (G : Gd K cc own nL)  (hd : Dn cc pc .aconst_null 1 pc') (k : Wp K nL Q cs pc' lv (zN :: stk) hp) : Wp K nL Q cs pc lv (stk) hp := by
  intro H locs ls h1 h2 h3
  obtain ⟨hx, hb, -⟩ := G
  obtain ⟨hd, rfl⟩ := hd
  exact lv_null hx hb hd (k H locs ls h1 h2 h3)
theorem wp_icmp_lt (G : Gd K cc own nL) {a b : Int} {off : Int} (hd : Db cc pc (.if_icmp .lt off) off pc' tgt) (ra : r32 a) (rb : r32 b) (kt : a < b → Wp K nL Q cs tgt lv stk hp) (kf : b ≤ a → Wp K nL Q cs pc' lv stk hp) : Wp K nL Q cs pc lv (zI b :: zI a :: stk) hp := by
  intro H locs ls h1 h2 h3
  obtain ⟨hx, hb, -⟩ := G
  obtain ⟨hd, rfl, ht⟩ := hd
  exact lv_icmp_lt (x := Int32.ofInt a) (y := Int32.ofInt b) hx hb hd ht (fun c => kt ((l32 ra rb).mp c) H locs ls h1 h2 h3) (fun c => kf (Int.not_lt.mp (fun z => c ((l32 ra rb).mpr z))) H locs ls h1 h2 h3)
theorem wp_if_lt (G : Gd K cc own nL) {a : Int} {off : Int} (hd : Db cc pc (.ifCond .lt off) off pc' tgt) (ra : r32 a) (kt : a < 0 → Wp K nL Q cs tgt lv stk hp) (kf : 0 ≤ a → Wp K nL Q cs pc' lv stk hp) : Wp K nL Q cs pc lv (zI a :: stk) hp := by
  intro H locs ls h1 h2 h3
  obtain ⟨hx, hb, -⟩ := G
  obtain ⟨hd, rfl, ht⟩ := hd
  have r0 : r32 0 := by omega
  exact lv_if_lt (x := Int32.ofInt a) hx hb hd ht (fun c => kt (by rw [z32] at c; exact (l32 ra r0).mp c) H locs ls h1 h2 h3) (fun c => kf (by rw [z32] at c; exact Int.not_lt.mp (fun z => c ((l32 ra r0).mpr z))) H locs ls h1 h2 h3)
theorem wp_icmp_ge (G : Gd K cc own nL) {a b : Int} {off : Int} (hd : Db cc pc (.if_icmp .ge off) off pc' tgt) (ra : r32 a) (rb : r32 b) (kt : b ≤ a → Wp K nL Q cs tgt lv stk hp) (kf : a < b → Wp K nL Q cs pc' lv stk hp) : Wp K nL Q cs pc lv (zI b :: zI a :: stk) hp := by
  intro H locs ls h1 h2 h3
  obtain ⟨hx, hb, -⟩ := G
  obtain ⟨hd, rfl, ht⟩ := hd
  exact lv_icmp_ge (x := Int32.ofInt a) (y := Int32.ofInt b) hx hb hd ht (fun c => kt (Int.not_lt.mp (fun z => by first | exact absurd c (Int32.not_le.mpr ((l32 ra rb).mpr z)) | exact c ((l32 ra rb).mpr z))) H locs ls h1 h2 h3) (fun c => kf (Int.not_le.mp (fun z => c (by first | exact (le32 rb ra).mpr z | exact fun y => absurd ((l32 ra rb).mp y) (Int.not_lt.mpr z)))) H locs ls h1 h2 h3)
theorem wp_if_ge (G : Gd K cc own nL) {a : Int} {off : Int} (hd : Db cc pc (.ifCond .ge off) off pc' tgt) (ra : r32 a) (kt : 0 ≤ a → Wp K nL Q cs tgt lv stk hp) (kf : a < 0 → Wp K nL Q cs pc' lv stk hp) : Wp K nL Q cs pc lv (zI a :: stk) hp := by
  intro H locs ls h1 h2 h3
  obtain ⟨hx, hb, -⟩ := G
  obtain ⟨hd, rfl, ht⟩ := hd
  have r0 : r32 0 := by omega
  exact lv_if_ge (x := Int32.ofInt a) hx hb hd ht (fun c => kt (by rw [z32] at c; exact Int.not_lt.mp (fun z => by first | exact absurd c (Int32.not_le.mpr ((l32 ra r0).mpr z)) | exact c ((l32 ra r0).mpr z))) H locs ls h1 h2 h3) (fun c => kf (by rw [z32] at c; exact Int.not_le.mp (fun z => c (by first | exact (le32 r0 ra).mpr z | exact fun y => absurd ((l32 ra r0).mp y) (Int.not_lt.mpr z)))) H locs ls h1 h2 h3)
theorem wp_icmp_gt (G : Gd K cc own nL) {a b : Int} {off : Int} (hd : Db cc pc (.if_icmp .gt off) off pc' tgt) (ra : r32 a) (rb : r32 b) (kt : b < a → Wp K nL Q cs tgt lv stk hp) (kf : a ≤ b → Wp K nL Q cs pc' lv stk hp) : Wp K nL Q cs pc lv (zI b :: zI a :: stk) hp := by
  intro H locs ls h1 h2 h3
  obtain ⟨hx, hb, -⟩ := G
  obtain ⟨hd, rfl, ht⟩ := hd
  exact lv_icmp_gt (x := Int32.ofInt a) (y := Int32.ofInt b) hx hb hd ht (fun c => kt ((l32 rb ra).mp c) H locs ls h1 h2 h3) (fun c => kf (Int.not_lt.mp (fun z => c ((l32 rb ra).mpr z))) H locs ls h1 h2 h3)
theorem wp_if_gt (G : Gd K cc own nL) {a : Int} {off : Int} (hd : Db cc pc (.ifCond .gt off) off pc' tgt) (ra : r32 a) (kt : 0 < a → Wp K nL Q cs tgt lv stk hp) (kf : a ≤ 0 → Wp K nL Q cs pc' lv stk hp) : Wp K nL Q cs pc lv (zI a :: stk) hp := by
  intro H locs ls h1 h2 h3
  obtain ⟨hx, hb, -⟩ := G
  obtain ⟨hd, rfl, ht⟩ := hd
  have r0 : r32 0 := by omega
  exact lv_if_gt (x := Int32.ofInt a) hx hb hd ht (fun c => kt (by rw [z32] at c; exact (l32 r0 ra).mp c) H locs ls h1 h2 h3) (fun c => kf (by rw [z32] at c; exact Int.not_lt.mp (fun z => c ((l32 r0 ra).mpr z))) H locs ls h1 h2 h3)
theorem wp_icmp_le (G : Gd K cc own nL) {a b : Int} {off : Int} (hd : Db cc pc (.if_icmp .le off) off pc' tgt) (ra : r32 a) (rb : r32 b) (kt : a ≤ b → Wp K nL Q cs tgt lv stk hp) (kf : b < a → Wp K nL Q cs pc' lv stk hp) : Wp K nL Q cs pc lv (zI b :: zI a :: stk) hp := by
  intro H locs ls h1 h2 h3
  obtain ⟨hx, hb, -⟩ := G
  obtain ⟨hd, rfl, ht⟩ := hd
  exact lv_icmp_le (x := Int32.ofInt a) (y := Int32.ofInt b) hx hb hd ht (fun c => kt (Int.not_lt.mp (fun z => by first | exact absurd c (Int32.not_le.mpr ((l32 rb ra).mpr z)) | exact c ((l32 rb ra).mpr z))) H locs ls h1 h2 h3) (fun c => kf (Int.not_le.mp (fun z => c (by first | exact (le32 ra rb).mpr z | exact fun y => absurd ((l32 rb ra).mp y) (Int.not_lt.mpr z)))) H locs ls h1 h2 h3)
theorem wp_if_le (G : Gd K cc own nL) {a : Int} {off : Int} (hd : Db cc pc (.ifCond .le off) off pc' tgt) (ra : r32 a) (kt : a ≤ 0 → Wp K nL Q cs tgt lv stk hp) (kf : 0 < a → Wp K nL Q cs pc' lv stk hp) : Wp K nL Q cs pc lv (zI a :: stk) hp := by
  intro H locs ls h1 h2 h3
  obtain ⟨hx, hb, -⟩ := G
  obtain ⟨hd, rfl, ht⟩ := hd
  have r0 : r32 0 := by omega
  exact lv_if_le (x := Int32.ofInt a) hx hb hd ht (fun c => kt (by rw [z32] at c; exact Int.not_lt.mp (fun z => by first | exact absurd c (Int32.not_le.mpr ((l32 r0 ra).mpr z)) | exact c ((l32 r0 ra).mpr z))) H locs ls h1 h2 h3) (fun c => kf (by rw [z32] at c; exact Int.not_le.mp (fun z => c (by first | exact (le32 ra r0).mpr z | exact fun y => absurd ((l32 r0 ra).mp y) (Int.not_lt.mpr z)))) H locs ls h1 h2 h3)
theorem wp_icmp_eq (G : Gd K cc own nL) {a b : Int} {off : Int} (hd : Db cc pc (.if_icmp .eq off) off pc' tgt) (ra : r32 a) (rb : r32 b) (kt : a = b → Wp K nL Q cs tgt lv stk hp) (kf : a ≠ b → Wp K nL Q cs pc' lv stk hp) : Wp K nL Q cs pc lv (zI b :: zI a :: stk) hp := by
  intro H locs ls h1 h2 h3
  obtain ⟨hx, hb, -⟩ := G
  obtain ⟨hd, rfl, ht⟩ := hd
  exact lv_icmp_eq (x := Int32.ofInt a) (y := Int32.ofInt b) hx hb hd ht (fun c => kt ((e32 ra rb).mp c) H locs ls h1 h2 h3) (fun c => kf (fun z => c ((e32 ra rb).mpr z)) H locs ls h1 h2 h3)
theorem wp_if_eq (G : Gd K cc own nL) {a : Int} {off : Int} (hd : Db cc pc (.ifCond .eq off) off pc' tgt) (ra : r32 a) (kt : a = 0 → Wp K nL Q cs tgt lv stk hp) (kf : a ≠ 0 → Wp K nL Q cs pc' lv stk hp) : Wp K nL Q cs pc lv (zI a :: stk) hp := by
  intro H locs ls h1 h2 h3
  obtain ⟨hx, hb, -⟩ := G
  obtain ⟨hd, rfl, ht⟩ := hd
  have r0 : r32 0 := by omega
  exact lv_if_eq (x := Int32.ofInt a) hx hb hd ht (fun c => kt (by rw [z32] at c; exact (e32 ra r0).mp c) H locs ls h1 h2 h3) (fun c => kf (by rw [z32] at c; exact fun z => c ((e32 ra r0).mpr z)) H locs ls h1 h2 h3)
theorem wp_icmp_ne (G : Gd K cc own nL) {a b : Int} {off : Int} (hd : Db cc pc (.if_icmp .ne off) off pc' tgt) (ra : r32 a) (rb : r32 b) (kt : a ≠ b → Wp K nL Q cs tgt lv stk hp) (kf : a = b → Wp K nL Q cs pc' lv stk hp) : Wp K nL Q cs pc lv (zI b :: zI a :: stk) hp := by
  intro H locs ls h1 h2 h3
  obtain ⟨hx, hb, -⟩ := G
  obtain ⟨hd, rfl, ht⟩ := hd
  exact lv_icmp_ne (x := Int32.ofInt a) (y := Int32.ofInt b) hx hb hd ht (fun c => kt (fun z => c ((e32 ra rb).mpr z)) H locs ls h1 h2 h3) (fun c => kf ((e32 ra rb).mp c) H locs ls h1 h2 h3)
theorem wp_if_ne (G : Gd K cc own nL) {a : Int} {off : Int} (hd : Db cc pc (.ifCond .ne off) off pc' tgt) (ra : r32 a) (kt : a ≠ 0 → Wp K nL Q cs tgt lv stk hp) (kf : a = 0 → Wp K nL Q cs pc' lv stk hp) : Wp K nL Q cs pc lv (zI a :: stk) hp := by
  intro H locs ls h1 h2 h3
  obtain ⟨hx, hb, -⟩ := G
  obtain ⟨hd, rfl, ht⟩ := hd
  have r0 : r32 0 := by omega
  exact lv_if_ne (x := Int32.ofInt a) hx hb hd ht (fun c => kt (by rw [z32] at c; exact fun z => c ((e32 ra r0).mpr z)) H locs ls h1 h2 h3) (fun c => kf (by rw [z32] at c; exact (e32 ra r0).mp c) H locs ls h1 h2 h3)
theorem wp_goto (G : Gd K cc own nL) {off : Int} (hd : Db cc pc (.goto off) off pc' tgt) (k : Wp K nL Q cs tgt lv stk hp) : Wp K nL Q cs pc lv stk hp := by
  intro H locs ls h1 h2 h3
  obtain ⟨hx, hb, -⟩ := G
  obtain ⟨hd, -, ht⟩ := hd
  exact lv_goto hx hb hd ht (k H locs ls h1 h2 h3)
theorem wp_ifnull (G : Gd K cc own nL) {off : Int} {r : Option Nat} (hd : Db cc pc (.ifnull off) off pc' tgt) (kt : r = none → Wp K nL Q cs tgt lv stk hp) (kf : ∀ a, r = some a → Wp K nL Q cs pc' lv stk hp) : Wp K nL Q cs pc lv (zQ r :: stk) hp := by
  intro H locs ls h1 h2 h3
  obtain ⟨hx, hb, -⟩ := G
  obtain ⟨hd, rfl, ht⟩ := hd
  cases r with
  | none => exact lv_ifnullN hx hb hd ht (kt rfl H locs ls h1 h2 h3)
  | some a => exact lv_ifnull hx hb hd (kf a rfl H locs ls h1 h2 h3)
theorem wp_ifnonnull (G : Gd K cc own nL) {off : Int} {r : Option Nat} (hd : Db cc pc (.ifnonnull off) off pc' tgt) (kt : ∀ a, r = some a → Wp K nL Q cs tgt lv stk hp) (kf : r = none → Wp K nL Q cs pc' lv stk hp) : Wp K nL Q cs pc lv (zQ r :: stk) hp := by
  intro H locs ls h1 h2 h3
  obtain ⟨hx, hb, -⟩ := G
  obtain ⟨hd, rfl, ht⟩ := hd
  cases r with
  | none => exact lv_ifnonnullN hx hb hd (kf rfl H locs ls h1 h2 h3)
  | some a => exact lv_ifnonnull hx hb hd ht (kt a rfl H locs ls h1 h2 h3)
theorem wp_tableIn (G : Gd K cc own nL) {a dflt lo hi off : Int} {offs : Array Int} {len : Nat} (hd : Dn cc pc (.tableswitch dflt lo hi offs) len pc') (ra : r32 a) (hl : lo ≤ a) (hh : a ≤ hi) (ho : offs[(a - lo).toNat]? = some off) (ht : (pc : Int) + off = (tgt : Int)) (k : Wp K nL Q cs tgt lv stk hp) : Wp K nL Q cs pc lv (zI a :: stk) hp := by
  intro H locs ls h1 h2 h3
  obtain ⟨hx, hb, -⟩ := G
  obtain ⟨hd, -⟩ := hd
  have e := n32 ra
  exact lv_tableIn (x := Int32.ofInt a) hx hb hd (by omega) (by omega) (by rw [e]; exact ho) ht (k H locs ls h1 h2 h3)
theorem wp_tableOut (G : Gd K cc own nL) {a dflt lo hi : Int} {offs : Array Int} {len : Nat} (hd : Dn cc pc (.tableswitch dflt lo hi offs) len pc') (ra : r32 a) (hl : a < lo ∨ hi < a) (ht : (pc : Int) + dflt = (tgt : Int)) (k : Wp K nL Q cs tgt lv stk hp) : Wp K nL Q cs pc lv (zI a :: stk) hp := by
  intro H locs ls h1 h2 h3
  obtain ⟨hx, hb, -⟩ := G
  obtain ⟨hd, -⟩ := hd
  have e := n32 ra
  exact lv_tableOut (x := Int32.ofInt a) hx hb hd (by omega) ht (k H locs ls h1 h2 h3)
theorem wp_ldc (G : Gd K cc own nL) {idx : Nat} {z : Int} (hw : Cond.constant own idx (Int32.ofInt z) ∈ WT) (hd : Dn cc pc (.ldc idx) 2 pc') (k : Wp K nL Q cs pc' lv (zI z :: stk) hp) : Wp K nL Q cs pc lv stk hp := by
  intro H locs ls h1 h2 h3
  obtain ⟨hx, hb, -, ho, hts, -⟩ := G
  obtain ⟨hd, rfl⟩ := hd
  exact lv_ldc hx hb ho (hts _ hw) hd (k H locs ls h1 h2 h3)
theorem wp_ldc2 (G : Gd K cc own nL) {idx : Nat} {z : Int} (hw : Cond.constantLong own idx (Int64.ofInt z) ∈ WT) (hd : Dn cc pc (.ldc2_w idx) 3 pc') (k : Wp K nL Q cs pc' lv (zJ z :: stk) hp) : Wp K nL Q cs pc lv stk hp := by
  intro H locs ls h1 h2 h3
  obtain ⟨hx, hb, -, ho, hts, -⟩ := G
  obtain ⟨hd, rfl⟩ := hd
  exact lv_ldc2 hx hb ho (hts _ hw) hd (k H locs ls h1 h2 h3)
/-- the same heap, written otherwise -/
theorem wp_heap {hq : PH} (e1 : hq.1 = hp.1) (e2 : ∀ k, hget hq k = hget hp k) (k : Wp K nL Q cs pc lv stk hq) : Wp K nL Q cs pc lv stk hp := fun H locs ls h1 h2 h3 => k H locs ls (h1.ext e1 e2) h2 h3
/-- fewer locals -/
theorem wp_locals {lv' : List (Nat × PV)} (h : ∀ q ∈ lv', q ∈ lv) (k : Wp K nL Q cs pc lv' stk hp) : Wp K nL Q cs pc lv stk hp := fun H locs ls h1 h2 h3 => k H locs ls h1 h2 ⟨h3.1, h3.2.1, fun q hq => by
  obtain ⟨x, hx, rfl⟩ := List.mem_map.mp hq
  exact h3.2.2 _ (List.mem_map.mpr ⟨x, h x hx, rfl⟩)⟩
theorem wp_lv (js : List Nat) {lv' : List (Nat × PV)} (h : js.filterMap (fun j => lv[j]?) = lv') (k : Wp K nL Q cs pc lv' stk hp) : Wp K nL Q cs pc lv stk hp := by
  refine wp_locals (lv' := lv') (fun q hq => ?_) k
  subst h
  obtain ⟨j, -, hj⟩ := List.mem_filterMap.mp hq
  exact List.mem_of_getElem? hj
/-! lcmp and the branch behind it, at once -/

def cmpZ (a b : Int) : Int := if b < a then 1 else if a = b then 0 else -1
theorem wp_lcmp (G : Gd K cc own nL) {a b : Int} (ra : r64 a) (rb : r64 b) (hd : Dn cc pc .lcmp 1 pc') (k : Wp K nL Q cs pc' lv (zI (cmpZ a b) :: stk) hp) : Wp K nL Q cs pc lv (zJ b :: zJ a :: stk) hp := by
  intro H locs ls h1 h2 h3
  obtain ⟨hx, hb, -⟩ := G
  obtain ⟨hd, rfl⟩ := hd
  have e : lg_cmp (Int64.ofInt a) (Int64.ofInt b) = Int32.ofInt (cmpZ a b) := by
    have e1 : Int64.ofInt b < Int64.ofInt a ↔ b < a := by rw [Int64.lt_iff_toInt_lt, n64 ra, n64 rb]
    have e2 : Int64.ofInt a = Int64.ofInt b ↔ a = b := by rw [← Int64.toInt_inj, n64 ra, n64 rb]
    unfold lg_cmp cmpZ
    by_cases c1 : b < a
    · rw [if_pos c1, if_pos (e1.mpr c1)]; rfl
    · rw [if_neg c1, if_neg (fun z => c1 (e1.mp z))]
      by_cases c2 : a = b
      · rw [if_pos c2, if_pos (e2.mpr c2)]; rfl
      · rw [if_neg c2, if_neg (fun z => c2 (e2.mp z))]; rfl
  have k2 := k H locs ls h1 h2 h3
  refine W.lcmp (x := Int64.ofInt a) (y := Int64.ofInt b) hx hb hd ?_
  rw [e]
  exact k2
theorem cmpZ_r (a b : Int) : r32 (cmpZ a b) := by unfold cmpZ; split <;> (try split) <;> omega
theorem cmpZ_lt {a b : Int} : cmpZ a b < 0 ↔ a < b := by unfold cmpZ; split <;> (try split) <;> omega
theorem cmpZ_eq {a b : Int} : cmpZ a b = 0 ↔ a = b := by unfold cmpZ; split <;> (try split) <;> omega
theorem cmpZ_gt {a b : Int} : 0 < cmpZ a b ↔ b < a := by unfold cmpZ; split <;> (try split) <;> omega
end RULES2

def rpU (re : Nat → Int) (rn : Nat → Nat) (u : Nat → Int) (b : Int) : Nat → Nat → Int
  | 0 => u
  | k + 1 => if re k = 1 then fup (rpU re rn u b k) (rn k) (rpU re rn u b k (rn k) + b) else rpU re rn u b k
def rpV (re v : Nat → Int) (b : Int) (k : Nat) : Nat → Int := fun j => if j < k ∧ re j = 1 then v j - b else v j
def rpS (re s : Nat → Int) (b : Int) (k : Nat) : Nat → Int := fun j => if j < k ∧ ¬ re j = 1 then s j - b else s j
theorem rpV_0 {re v : Nat → Int} {b : Int} : rpV re v b 0 = v := funext fun _ => if_neg (fun z => by have := z.1; omega)
theorem rpS_0 {re v : Nat → Int} {b : Int} : rpS re v b 0 = v := funext fun _ => if_neg (fun z => by have := z.1; omega)
theorem rp_uy {re : Nat → Int} {rn : Nat → Nat} {u : Nat → Int} {b : Int} {k : Nat} (h : re k = 1) : fup (rpU re rn u b k) (rn k) (rpU re rn u b k (rn k) + b) = rpU re rn u b (k + 1) := by rw [rpU, if_pos h]
theorem rp_un {re : Nat → Int} {rn : Nat → Nat} {u : Nat → Int} {b : Int} {k : Nat} (h : ¬ re k = 1) : rpU re rn u b k = rpU re rn u b (k + 1) := by rw [rpU, if_neg h]
theorem rp_vy {re v : Nat → Int} {b : Int} {k : Nat} (h : re k = 1) : fup (rpV re v b k) k (rpV re v b k k - b) = rpV re v b (k + 1) := by
  funext j
  unfold fup rpV
  by_cases e : j = k
  · subst e
    rw [if_pos rfl, if_neg (fun z => by have := z.1; omega), if_pos ⟨by omega, h⟩]
  · rw [if_neg e]
    by_cases z : j < k ∧ re j = 1
    · rw [if_pos z, if_pos ⟨by omega, z.2⟩]
    · rw [if_neg z, if_neg (fun y => z ⟨by omega, y.2⟩)]
theorem rp_vn {re v : Nat → Int} {b : Int} {k : Nat} (h : ¬ re k = 1) : rpV re v b k = rpV re v b (k + 1) := by
  funext j
  unfold rpV
  by_cases z : j < k ∧ re j = 1
  · rw [if_pos z, if_pos ⟨by omega, z.2⟩]
  · rw [if_neg z, if_neg (fun y => z ⟨by have : j ≠ k := (fun e => h (e ▸ y.2)); omega, y.2⟩)]
theorem rp_sy {re v : Nat → Int} {b : Int} {k : Nat} (h : ¬ re k = 1) : fup (rpS re v b k) k (rpS re v b k k - b) = rpS re v b (k + 1) := by
  funext j
  unfold fup rpS
  by_cases e : j = k
  · subst e
    rw [if_pos rfl, if_neg (fun z => by have := z.1; omega), if_pos ⟨by omega, h⟩]
  · rw [if_neg e]
    by_cases z : j < k ∧ ¬ re j = 1
    · rw [if_pos z, if_pos ⟨by omega, z.2⟩]
    · rw [if_neg z, if_neg (fun y => z ⟨by omega, y.2⟩)]
theorem rp_sn {re v : Nat → Int} {b : Int} {k : Nat} (h : re k = 1) : rpS re v b k = rpS re v b (k + 1) := by
  funext j
  unfold rpS
  by_cases z : j < k ∧ ¬ re j = 1
  · rw [if_pos z, if_pos ⟨by omega, z.2⟩]
  · rw [if_neg z, if_neg (fun y => z ⟨by have : j ≠ k := (fun e => y.2 (e ▸ h)); omega, y.2⟩)]

set_option maxRecDepth 100000 in
set_option maxHeartbeats 4000000 in
theorem t_X3_reprice {nx : Nat} {h : Nat → Option PC} {pa : Int} {mi : Int} {rw_ : Nat} {pt : Nat} {cl : Nat} {u : Nat → Int} {v : Nat → Int} {sl : Nat → Int} {ro : Nat → Int} {be : Nat → Int} {re : Nat → Int} {rn : Nat → Nat} {by_ : Int} (hJ : isJo h pa mi rw_ pt cl u v sl ro be re) (hrw : rw_ ≤ 12) (hcl : cl ≤ 24) (hre : ∀ j, j < 25 → re j = 0 ∨ re j = 1) (hro : ∀ j, j < cl + 1 → ro j = ((rn j : Nat) : Int) ∧ rn j < 13) : Cx 0 (0, 0) yX3_reprice cX3_reprice 4 none [zR 11, zJ by_] nx h (Rn nx [(28, oL 2 13 (rpU re rn u by_ (cl + 1))), (29, oL 2 25 (rpV re v by_ (cl + 1))), (30, oL 2 25 (rpS re sl by_ (cl + 1)))]) := by
  refine cx_of pnX3_reprice (Nat.le_of_ble_eq_true rfl) ?_
  intro K G hr hnm hR
  obtain ⟨h11, h28, h29, h30, h31, h32, h33⟩ := id hJ
  show Wp K 4 (Mx K h (Rn nx [(28, oL 2 13 (rpU re rn u by_ (cl + 1))), (29, oL 2 25 (rpV re v by_ (cl + 1))), (30, oL 2 25 (rpS re sl by_ (cl + 1)))]) (0, 0)) (0, 0) 0 [(0, zR 11), (1, zJ by_)] [] (nx, h, [])
  refine wp_iconst G dX3_reprice_0 ?_
  refine wp_istore_n (lv' := [(3, zI 0), (0, zR 11), (1, zJ by_)]) G dX3_reprice_1 (by decide) rfl ?_
  refine wp_own (r := 28) (hp2 := (nx, h, [(28, oL 2 13 u)])) h28 rfl ?_
  refine wp_own (r := 29) (hp2 := (nx, h, [(28, oL 2 13 u), (29, oL 2 25 v)])) h29 rfl ?_
  refine wp_own (r := 30) (hp2 := (nx, h, [(28, oL 2 13 u), (29, oL 2 25 v), (30, oL 2 25 sl)])) h30 rfl ?_
  refine wp_lv [1, 2, 0] rfl ?_
  suffices lp2 : ∀ (fu : Nat) (k : Nat) (v3 : Int) (A28 : Nat → Int) (A29 : Nat → Int) (A30 : Nat → Int), cl + 1 - k < fu → (v3 = ((k : Nat) : Int)) → (A28 = rpU re rn u by_ k) → (A29 = rpV re v by_ k) → (A30 = rpS re sl by_ k) → (k ≤ cl + 1) → Wp K 4 (Mx K h (Rn nx [(28, oL 2 13 (rpU re rn u by_ (cl + 1))), (29, oL 2 25 (rpV re v by_ (cl + 1))), (30, oL 2 25 (rpS re sl by_ (cl + 1)))]) (0, 0)) (0, 0) 2 [(0, zR 11), (1, zJ by_), (3, zI v3)] [] (nx, h, [(28, oL 2 13 A28), (29, oL 2 25 A29), (30, oL 2 25 A30)]) from lp2 _ 0 0 u v sl (Nat.lt_succ_self _) (by omega) (by rfl) (by exact (rpV_0).symm) (by exact (rpS_0).symm) (by omega)
  intro fu
  induction fu with
  | zero => intro k v3 A28 A29 A30 hm; exact absurd hm (Nat.not_lt_zero _)
  | succ fu ih2 =>
    intro k v3 A28 A29 A30 hm2 e3 eA28 eA29 eA30 hi0
    subst e3
    subst eA28
    subst eA29
    subst eA30
    refine wp_iload_n G 2 dX3_reprice_2 rfl ?_
    refine wp_aload_n G 0 dX3_reprice_3 rfl ?_
    refine wp_get G 4 cOk3 fX3_24 dX3_reprice_4 h11 rfl ?_
    refine wp_icmp_gt G dX3_reprice_7 (by omega) (by omega) (fun kq1 => ?_) (fun kq1 => ?_)
    · skip
      exact wp_vreturn G hr dX3_reprice_63 ⟨rfl, rfl, by rw [show k = cl + 1 by omega]⟩
    · skip
      refine wp_aload_n G 0 dX3_reprice_10 rfl ?_
      refine wp_get G 13 cOk3 fX3_55 dX3_reprice_11 h11 rfl ?_
      refine wp_iload_n G 2 dX3_reprice_14 rfl ?_
      refine wp_zald (j := k) G dX3_reprice_15 h33 rfl (by omega) (by decide) ?_
      have rrq1 := hre k (by omega)
      refine wp_if_eq G dX3_reprice_16 (by omega) (fun kq2 => ?_) (fun kq2 => ?_)
      · skip
        refine wp_aload_n G 0 dX3_reprice_47 rfl ?_
        refine wp_get G 10 cOk3 fX3_46 dX3_reprice_48 h11 rfl ?_
        refine wp_iload_n G 2 dX3_reprice_51 rfl ?_
        refine wp_dup2 G rfl rfl dX3_reprice_52 ?_
        refine wp_lald (j := k) G dX3_reprice_53 rfl rfl (by omega) (by decide) ?_
        refine wp_lload_n G 1 dX3_reprice_54 rfl ?_
        refine wp_lsub G dX3_reprice_55 ?_
        refine wp_lastE (j := k) (hp2 := (nx, h, [(28, oL 2 13 (rpU re rn u by_ k)), (29, oL 2 25 (rpV re v by_ k)), (30, oL 2 25 (fup (rpS re sl by_ k) k (((rpS re sl by_ k) k) - by_)))])) G dX3_reprice_56 rfl rfl (by omega) (by decide) rfl ?_
        refine wp_iinc (lv' := [(3, zI (((k : Nat) : Int) + 1)), (0, zR 11), (1, zJ by_)]) G 2 dX3_reprice_57 rfl (by decide) rfl ?_
        refine wp_goto G dX3_reprice_60 ?_
        refine wp_lv [1, 2, 0] rfl ?_
        exact ih2 (k + 1) (((k : Nat) : Int) + 1) (rpU re rn u by_ k) (rpV re v by_ k) (fup (rpS re sl by_ k) k (((rpS re sl by_ k) k) - by_)) (by omega) (by omega) (by first | exact rp_uy (by omega) | exact rp_un (by omega)) (by first | exact rp_vy (by omega) | exact rp_vn (by omega)) (by first | exact rp_sy (by omega) | exact rp_sn (by omega)) (by omega)
      · skip
        refine wp_aload_n G 0 dX3_reprice_19 rfl ?_
        refine wp_get G 8 cOk3 fX3_39 dX3_reprice_20 h11 rfl ?_
        refine wp_aload_n G 0 dX3_reprice_23 rfl ?_
        refine wp_get G 11 cOk3 fX3_49 dX3_reprice_24 h11 rfl ?_
        refine wp_iload_n G 2 dX3_reprice_27 rfl ?_
        refine wp_iald (j := k) G dX3_reprice_28 h31 rfl (by omega) (by decide) ?_
        rw [show ((ro k) : Int) = ((rn k : Nat) : Int) by exact (hro k (by omega)).1]
        refine wp_dup2 G rfl rfl dX3_reprice_29 ?_
        have hrk := (hro k (by omega)).2
        refine wp_lald (j := rn k) G dX3_reprice_30 rfl rfl (by omega) (by decide) ?_
        refine wp_lload_n G 1 dX3_reprice_31 rfl ?_
        refine wp_ladd G dX3_reprice_32 ?_
        refine wp_lastE (j := rn k) (hp2 := (nx, h, [(28, oL 2 13 (fup (rpU re rn u by_ k) (rn k) (((rpU re rn u by_ k) (rn k)) + by_))), (29, oL 2 25 (rpV re v by_ k)), (30, oL 2 25 (rpS re sl by_ k))])) G dX3_reprice_33 rfl rfl (by omega) (by decide) rfl ?_
        refine wp_aload_n G 0 dX3_reprice_34 rfl ?_
        refine wp_get G 9 cOk3 fX3_43 dX3_reprice_35 h11 rfl ?_
        refine wp_iload_n G 2 dX3_reprice_38 rfl ?_
        refine wp_dup2 G rfl rfl dX3_reprice_39 ?_
        refine wp_lald (j := k) G dX3_reprice_40 rfl rfl (by omega) (by decide) ?_
        refine wp_lload_n G 1 dX3_reprice_41 rfl ?_
        refine wp_lsub G dX3_reprice_42 ?_
        refine wp_lastE (j := k) (hp2 := (nx, h, [(28, oL 2 13 (fup (rpU re rn u by_ k) (rn k) (((rpU re rn u by_ k) (rn k)) + by_))), (29, oL 2 25 (fup (rpV re v by_ k) k (((rpV re v by_ k) k) - by_))), (30, oL 2 25 (rpS re sl by_ k))])) G dX3_reprice_43 rfl rfl (by omega) (by decide) rfl ?_
        refine wp_goto G dX3_reprice_44 ?_
        refine wp_iinc (lv' := [(3, zI (((k : Nat) : Int) + 1)), (0, zR 11), (1, zJ by_)]) G 2 dX3_reprice_57 rfl (by decide) rfl ?_
        refine wp_goto G dX3_reprice_60 ?_
        refine wp_lv [1, 2, 0] rfl ?_
        exact ih2 (k + 1) (((k : Nat) : Int) + 1) (fup (rpU re rn u by_ k) (rn k) (((rpU re rn u by_ k) (rn k)) + by_)) (fup (rpV re v by_ k) k (((rpV re v by_ k) k) - by_)) (rpS re sl by_ k) (by omega) (by omega) (by first | exact rp_uy (by omega) | exact rp_un (by omega)) (by first | exact rp_vy (by omega) | exact rp_vn (by omega)) (by first | exact rp_sy (by omega) | exact rp_sn (by omega)) (by omega)


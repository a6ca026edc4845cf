theorem kin_65 {x : Int32} (h : x = 65) : kin x = some 65 := by rw [h]; decide +kernel
theorem kin_66 {x : Int32} (h : x = 66) : kin x = some 66 := by rw [h]; decide +kernel
noncomputable def fX6_carry_a_17 (I : HI) (J3 : HI) : Int32 × HI :=
  (J3 65 (ix (I 52 23)), (up J3 52 23 ((J3 52 23) + 1)))
noncomputable def fX6_carry_a (I : HI) (v : Int32) : Int32 × HI :=
  fX6_carry_a_17 I (if I 52 24 = 0 then I else (up I 65 (ix (I 52 23)) v))
theorem knX6_carry : Kn yX6_carry cX6_carry 2 (some .int) 1 := ⟨q814, q8, ⟨by decide, by decide⟩, by decide +kernel⟩
set_option maxHeartbeats 400000 in
set_option maxRecDepth 100000 in
theorem kX6_carry_a (I : HI) (v : Int32) (hk : I 52 25 = 65) (hp : vp_in (I 52 23) 146) : Cx yX6_carry cX6_carry 2 (some .int) 0 0 [vr 52, vi v] I ((some (vi (((fX6_carry_a I v).1))), (fX6_carry_a I v).2)) := by
  refine Cx.mk (lv := [(0, vr 52), (1, vi v)]) (by decide) (Nat.le_of_ble_eq_true rfl) rfl (fun E ok hr => ?_)
  have hp1 := vb hp
  rw [fX6_carry_a]
  refine g_aload_n (n := 1) ok 0 dX6_carry_0 rfl rfl rfl ?_
  refine g_get (n := 4) (v := vi (I 52 24)) (c := 6) (k := 24) ok dX6_carry_1 clsX6 (by decide) q702 rfl rfl rfl ?_
  have J17_4 : ∀ (J3 : HI) (hJ3 : ∀ a, a ≠ 65 → J3 a = I a), G E 2 ((some (vi (((fX6_carry_a_17 I J3).1))), (fX6_carry_a_17 I J3).2)) J3 17 [(0, vr 52)] [] := by
    intro J3 hJ3
    rw [fX6_carry_a_17]
    refine g_aload_n (n := 18) ok 0 dX6_carry_17 rfl rfl rfl ?_
    refine g_dup (n := 19) ok dX6_carry_18 rfl rfl ?_
    refine g_get (n := 22) (v := vi (J3 52 23)) (c := 6) (k := 23) ok dX6_carry_19 clsX6 (by decide) q701 rfl rfl rfl ?_
    refine g_iconst (n := 23) (v := 1) ok dX6_carry_22 rfl rfl ?_
    refine g_iadd (n := 24) ok dX6_carry_23 rfl ?_
    refine g_put (n := 27) (J := up J3 52 23 ((J3 52 23) + 1)) (c := 6) (k := 23) ok dX6_carry_24 clsX6 tyX6 tyX6_ok nmX6 (by decide) q701 rfl rfl (fun _ => rfl) (fun _ => rfl) (Nat.le_of_ble_eq_true rfl) (fs_6_23 _ _ _) up_ne rfl ?_
    refine g_aload_n (n := 28) ok 0 dX6_carry_27 rfl rfl rfl ?_
    refine g_get (n := 31) (v := vo (kin ((up J3 52 23 ((J3 52 23) + 1)) 52 25))) (c := 6) (k := 25) ok dX6_carry_28 clsX6 (by decide) q703 rfl rfl rfl ?_
    refine g_topo (kin_65 (by rw [up_k (by omega), hJ3 52 (by omega)]; exact hk)) ?_
    refine g_aload_n (n := 32) ok 0 dX6_carry_31 rfl rfl rfl ?_
    refine g_get (n := 35) (v := vi ((up J3 52 23 ((J3 52 23) + 1)) 52 23)) (c := 6) (k := 23) ok dX6_carry_32 clsX6 (by decide) q701 rfl rfl rfl ?_
    refine g_top up_v ?_
    refine g_iconst (n := 36) (v := 1) ok dX6_carry_35 rfl rfl ?_
    refine g_isub (n := 37) ok dX6_carry_36 rfl ?_
    refine g_top (show _ = nI (ix (I 52 23)) by rw [add_sub1, hJ3 52 (by omega)]; exact vx hp) ?_
    refine g_iald (n := 38) (i := ix (I 52 23)) (L := 146) ok dX6_carry_37 rfl rfl rfl (by omega) rfl ?_
    refine g_top (up_ne2 (by decide)) ?_
    exact g_iret ok hr dX6_carry_38
  refine g_if_eq (n := 7) (tgt := 17) ok dX6_carry_4 (by decide) rfl (fun c1 => ?_) (fun c1 => ?_)
  · try simp only [if_pos c1]
    refine g_sub [0] rfl ?_
    exact J17_4 _ (by first | exact fun _ _ => rfl | exact fun a h => up_ne a h)
  · try simp only [if_neg c1]
    refine g_aload_n (n := 8) ok 0 dX6_carry_7 rfl rfl rfl ?_
    refine g_get (n := 11) (v := vo (kin (I 52 25))) (c := 6) (k := 25) ok dX6_carry_8 clsX6 (by decide) q703 rfl rfl rfl ?_
    refine g_topo (kin_65 hk) ?_
    refine g_aload_n (n := 12) ok 0 dX6_carry_11 rfl rfl rfl ?_
    refine g_get (n := 15) (v := vi (I 52 23)) (c := 6) (k := 23) ok dX6_carry_12 clsX6 (by decide) q701 rfl rfl rfl ?_
    refine g_iload_n (n := 16) ok 1 dX6_carry_15 rfl rfl rfl ?_
    refine g_iast (n := 17) (i := ix (I 52 23)) (L := 146) ok dX6_carry_16 rfl rfl (vx hp) (by omega) rfl ?_
    refine g_sub [0] rfl ?_
    exact J17_4 _ (by first | exact fun _ _ => rfl | exact fun a h => up_ne a h)

noncomputable def fX6_carry_b_17 (I : HI) (J3 : HI) : Int32 × HI :=
  (J3 66 (ix (I 52 23)), (up J3 52 23 ((J3 52 23) + 1)))
noncomputable def fX6_carry_b (I : HI) (v : Int32) : Int32 × HI :=
  fX6_carry_b_17 I (if I 52 24 = 0 then I else (up I 66 (ix (I 52 23)) v))
set_option maxHeartbeats 400000 in
set_option maxRecDepth 100000 in
theorem kX6_carry_b (I : HI) (v : Int32) (hk : I 52 25 = 66) (hp : vp_in (I 52 23) 146) : Cx yX6_carry cX6_carry 2 (some .int) 0 0 [vr 52, vi v] I ((some (vi (((fX6_carry_b I v).1))), (fX6_carry_b I v).2)) := by
  refine Cx.mk (lv := [(0, vr 52), (1, vi v)]) (by decide) (Nat.le_of_ble_eq_true rfl) rfl (fun E ok hr => ?_)
  have hp1 := vb hp
  rw [fX6_carry_b]
  refine g_aload_n (n := 1) ok 0 dX6_carry_0 rfl rfl rfl ?_
  refine g_get (n := 4) (v := vi (I 52 24)) (c := 6) (k := 24) ok dX6_carry_1 clsX6 (by decide) q702 rfl rfl rfl ?_
  have J17_4 : ∀ (J3 : HI) (hJ3 : ∀ a, a ≠ 66 → J3 a = I a), G E 2 ((some (vi (((fX6_carry_b_17 I J3).1))), (fX6_carry_b_17 I J3).2)) J3 17 [(0, vr 52)] [] := by
    intro J3 hJ3
    rw [fX6_carry_b_17]
    refine g_aload_n (n := 18) ok 0 dX6_carry_17 rfl rfl rfl ?_
    refine g_dup (n := 19) ok dX6_carry_18 rfl rfl ?_
    refine g_get (n := 22) (v := vi (J3 52 23)) (c := 6) (k := 23) ok dX6_carry_19 clsX6 (by decide) q701 rfl rfl rfl ?_
    refine g_iconst (n := 23) (v := 1) ok dX6_carry_22 rfl rfl ?_
    refine g_iadd (n := 24) ok dX6_carry_23 rfl ?_
    refine g_put (n := 27) (J := up J3 52 23 ((J3 52 23) + 1)) (c := 6) (k := 23) ok dX6_carry_24 clsX6 tyX6 tyX6_ok nmX6 (by decide) q701 rfl rfl (fun _ => rfl) (fun _ => rfl) (Nat.le_of_ble_eq_true rfl) (fs_6_23 _ _ _) up_ne rfl ?_
    refine g_aload_n (n := 28) ok 0 dX6_carry_27 rfl rfl rfl ?_
    refine g_get (n := 31) (v := vo (kin ((up J3 52 23 ((J3 52 23) + 1)) 52 25))) (c := 6) (k := 25) ok dX6_carry_28 clsX6 (by decide) q703 rfl rfl rfl ?_
    refine g_topo (kin_66 (by rw [up_k (by omega), hJ3 52 (by omega)]; exact hk)) ?_
    refine g_aload_n (n := 32) ok 0 dX6_carry_31 rfl rfl rfl ?_
    refine g_get (n := 35) (v := vi ((up J3 52 23 ((J3 52 23) + 1)) 52 23)) (c := 6) (k := 23) ok dX6_carry_32 clsX6 (by decide) q701 rfl rfl rfl ?_
    refine g_top up_v ?_
    refine g_iconst (n := 36) (v := 1) ok dX6_carry_35 rfl rfl ?_
    refine g_isub (n := 37) ok dX6_carry_36 rfl ?_
    refine g_top (show _ = nI (ix (I 52 23)) by rw [add_sub1, hJ3 52 (by omega)]; exact vx hp) ?_
    refine g_iald (n := 38) (i := ix (I 52 23)) (L := 146) ok dX6_carry_37 rfl rfl rfl (by omega) rfl ?_
    refine g_top (up_ne2 (by decide)) ?_
    exact g_iret ok hr dX6_carry_38
  refine g_if_eq (n := 7) (tgt := 17) ok dX6_carry_4 (by decide) rfl (fun c1 => ?_) (fun c1 => ?_)
  · try simp only [if_pos c1]
    refine g_sub [0] rfl ?_
    exact J17_4 _ (by first | exact fun _ _ => rfl | exact fun a h => up_ne a h)
  · try simp only [if_neg c1]
    refine g_aload_n (n := 8) ok 0 dX6_carry_7 rfl rfl rfl ?_
    refine g_get (n := 11) (v := vo (kin (I 52 25))) (c := 6) (k := 25) ok dX6_carry_8 clsX6 (by decide) q703 rfl rfl rfl ?_
    refine g_topo (kin_66 hk) ?_
    refine g_aload_n (n := 12) ok 0 dX6_carry_11 rfl rfl rfl ?_
    refine g_get (n := 15) (v := vi (I 52 23)) (c := 6) (k := 23) ok dX6_carry_12 clsX6 (by decide) q701 rfl rfl rfl ?_
    refine g_iload_n (n := 16) ok 1 dX6_carry_15 rfl rfl rfl ?_
    refine g_iast (n := 17) (i := ix (I 52 23)) (L := 146) ok dX6_carry_16 rfl rfl (vx hp) (by omega) rfl ?_
    refine g_sub [0] rfl ?_
    exact J17_4 _ (by first | exact fun _ _ => rfl | exact fun a h => up_ne a h)
theorem carry_pl_a {I : HI} {v : Int32} : (fX6_carry_a I v).2 52 23 = I 52 23 + 1 := by
  unfold fX6_carry_a
  split <;> (unfold fX6_carry_a_17; dsimp only; rw [up_v]; try rw [up_ne2 (by omega)])
theorem carry_kin_a {I : HI} {v : Int32} : (fX6_carry_a I v).2 52 25 = I 52 25 := by
  unfold fX6_carry_a
  split <;> (unfold fX6_carry_a_17; dsimp only; rw [up_k (by omega)]; try rw [up_ne2 (by omega)])
theorem carry_pl_b {I : HI} {v : Int32} : (fX6_carry_b I v).2 52 23 = I 52 23 + 1 := by
  unfold fX6_carry_b
  split <;> (unfold fX6_carry_b_17; dsimp only; rw [up_v]; try rw [up_ne2 (by omega)])
theorem carry_kin_b {I : HI} {v : Int32} : (fX6_carry_b I v).2 52 25 = I 52 25 := by
  unfold fX6_carry_b
  split <;> (unfold fX6_carry_b_17; dsimp only; rw [up_k (by omega)]; try rw [up_ne2 (by omega)])

noncomputable def fX6_carryAll_a_x190 (J190 : HI) : HI :=
  J190
noncomputable def fX6_carryAll_a_b190 (i190 : Nat) (J190 : HI) : HI :=
  (up ((fX6_carry_a J190 (J190 59 i190)).2) 59 i190 ((fX6_carry_a J190 (J190 59 i190)).1))
noncomputable def fX6_carryAll_a_x128 (J128 : HI) : HI :=
  fX6_carryAll_a_x190 (fo 72 0 (fun (i : Nat) (s : HI) => fX6_carryAll_a_b190 i s) J128)
noncomputable def fX6_carryAll_a_c166 (i128 : Nat) (K166 : HI) : HI :=
  (up ((fX6_carry_a K166 (K166 58 i128)).2) 58 i128 ((fX6_carry_a K166 (K166 58 i128)).1))
noncomputable def fX6_carryAll_a_c150 (i128 : Nat) (K150 : HI) : HI :=
  fX6_carryAll_a_c166 i128 (up ((fX6_carry_a K150 (K150 57 i128)).2) 57 i128 ((fX6_carry_a K150 (K150 57 i128)).1))
noncomputable def fX6_carryAll_a_b128 (i128 : Nat) (J128 : HI) : HI :=
  fX6_carryAll_a_c150 i128 (up ((fX6_carry_a J128 (J128 56 i128)).2) 56 i128 ((fX6_carry_a J128 (J128 56 i128)).1))
noncomputable def fX6_carryAll_a_x99 (J99 : HI) : HI :=
  fX6_carryAll_a_x128 (fo 6 0 (fun (i : Nat) (s : HI) => fX6_carryAll_a_b128 i s) J99)
noncomputable def fX6_carryAll_a_b99 (i99 : Nat) (J99 : HI) : HI :=
  (up ((fX6_carry_a J99 (J99 55 i99)).2) 55 i99 ((fX6_carry_a J99 (J99 55 i99)).1))
noncomputable def fX6_carryAll_a_x53 (J53 : HI) : HI :=
  fX6_carryAll_a_x99 (fo 5 0 (fun (i : Nat) (s : HI) => fX6_carryAll_a_b99 i s) J53)
noncomputable def fX6_carryAll_a_c75 (i53 : Nat) (K75 : HI) : HI :=
  (up ((fX6_carry_a K75 (K75 54 i53)).2) 54 i53 ((fX6_carry_a K75 (K75 54 i53)).1))
noncomputable def fX6_carryAll_a_b53 (i53 : Nat) (J53 : HI) : HI :=
  fX6_carryAll_a_c75 i53 (up ((fX6_carry_a J53 (J53 53 i53)).2) 53 i53 ((fX6_carry_a J53 (J53 53 i53)).1))
noncomputable def fX6_carryAll_a_c51 (K51 : HI) : HI :=
  fX6_carryAll_a_x53 (fo 24 0 (fun (i : Nat) (s : HI) => fX6_carryAll_a_b53 i s) K51)
noncomputable def fX6_carryAll_a_c39 (K39 : HI) : HI :=
  fX6_carryAll_a_c51 (up ((fX6_carry_a K39 (K39 52 5)).2) 52 5 ((fX6_carry_a K39 (K39 52 5)).1))
noncomputable def fX6_carryAll_a_c27 (K27 : HI) : HI :=
  fX6_carryAll_a_c39 (up ((fX6_carry_a K27 (K27 52 4)).2) 52 4 ((fX6_carry_a K27 (K27 52 4)).1))
noncomputable def fX6_carryAll_a_c15 (K15 : HI) : HI :=
  fX6_carryAll_a_c27 (up ((fX6_carry_a K15 (K15 52 3)).2) 52 3 ((fX6_carry_a K15 (K15 52 3)).1))
noncomputable def fX6_carryAll_a (I : HI) (takes : Int32) : HI :=
  fX6_carryAll_a_c15 (up (up (up I 52 25 65) 52 24 takes) 52 23 0)
theorem knX6_carryAll : Kn yX6_carryAll cX6_carryAll 4 none 2 := ⟨q810, q8, ⟨by decide, by decide⟩, by decide +kernel⟩
set_option maxHeartbeats 400000 in
set_option maxRecDepth 100000 in
theorem kX6_carryAll_a (I : HI) (takes : Int32) (htk : takes = 0 ∨ takes = 1) : Cx yX6_carryAll cX6_carryAll 4 none 1 21 [vr 52, vr 65, vi takes] I ((none, fX6_carryAll_a I takes)) := by
  refine Cx.mk (lv := [(0, vr 52), (1, vr 65), (2, vi takes)]) (by decide) (Nat.le_of_ble_eq_true rfl) rfl (fun E ok hr => ?_)
  rw [fX6_carryAll_a]
  refine g_aload_n (n := 1) ok 0 dX6_carryAll_0 rfl rfl rfl ?_
  refine g_aload_n (n := 2) ok 1 dX6_carryAll_1 rfl rfl rfl ?_
  refine g_put (n := 5) (J := up I 52 25 65) (c := 6) (k := 25) ok dX6_carryAll_2 clsX6 tyX6 tyX6_ok nmX6 (by decide) q703 rfl rfl (fun _ => rfl) (fun _ => rfl) (Nat.le_of_ble_eq_true rfl) (fs_6_25_65 _ _) up_ne rfl ?_
  refine g_aload_n (n := 6) ok 0 dX6_carryAll_5 rfl rfl rfl ?_
  refine g_iload_n (n := 7) ok 2 dX6_carryAll_6 rfl rfl rfl ?_
  refine g_put (n := 10) (J := up (up I 52 25 65) 52 24 takes) (c := 6) (k := 24) ok dX6_carryAll_7 clsX6 tyX6 tyX6_ok nmX6 (by decide) q702 rfl rfl (bnar htk) (bfit htk) (Nat.le_of_ble_eq_true rfl) (fs_6_24 _ _ _) up_ne rfl ?_
  refine g_aload_n (n := 11) ok 0 dX6_carryAll_10 rfl rfl rfl ?_
  refine g_iconst (n := 12) (v := 0) ok dX6_carryAll_11 rfl rfl ?_
  refine g_put (n := 15) (J := up (up (up I 52 25 65) 52 24 takes) 52 23 0) (c := 6) (k := 23) ok dX6_carryAll_12 clsX6 tyX6 tyX6_ok nmX6 (by decide) q701 rfl rfl (fun _ => rfl) (fun _ => rfl) (Nat.le_of_ble_eq_true rfl) (fs_6_23 _ _ _) up_ne rfl ?_
  have C15_17 : ∀ (K15 : HI) (hk : K15 52 25 = 65) (hp : K15 52 23 = nI 0), G E 4 ((none, fX6_carryAll_a_c15 K15)) K15 15 [(0, vr 52)] [] := by
    intro K15 hk hp
    rw [fX6_carryAll_a_c15]
    refine g_aload_n (n := 16) ok 0 dX6_carryAll_15 rfl rfl rfl ?_
    refine g_aload_n (n := 17) ok 0 dX6_carryAll_16 rfl rfl rfl ?_
    refine g_aload_n (n := 18) ok 0 dX6_carryAll_17 rfl rfl rfl ?_
    refine g_get (n := 21) (v := vi (K15 52 3)) (c := 6) (k := 3) ok dX6_carryAll_18 clsX6 (by decide) q681 rfl rfl rfl ?_
    refine g_callV (n := 24) (rest := [vr 52]) (av := [vi (K15 52 3)]) (j := 52) ok (kX6_carry_a K15 (K15 52 3) hk (by rw [hp]; exact vp_nI (by omega) (by omega))) knX6_carry q811 q813 qs33 clsX6 rfl dX6_carryAll_21 rfl rfl (Nat.le_of_ble_eq_true rfl) (by decide) (by decide) rfl ?_
    refine g_put (n := 27) (J := up ((fX6_carry_a K15 (K15 52 3)).2) 52 3 ((fX6_carry_a K15 (K15 52 3)).1)) (c := 6) (k := 3) ok dX6_carryAll_24 clsX6 tyX6 tyX6_ok nmX6 (by decide) q681 rfl rfl (fun _ => rfl) (fun _ => rfl) (Nat.le_of_ble_eq_true rfl) (fs_6_3 _ _ _) up_ne rfl ?_
    have C27_16 : ∀ (K27 : HI) (hk : K27 52 25 = 65) (hp : K27 52 23 = nI 1), G E 4 ((none, fX6_carryAll_a_c27 K27)) K27 27 [(0, vr 52)] [] := by
      intro K27 hk hp
      rw [fX6_carryAll_a_c27]
      refine g_aload_n (n := 28) ok 0 dX6_carryAll_27 rfl rfl rfl ?_
      refine g_aload_n (n := 29) ok 0 dX6_carryAll_28 rfl rfl rfl ?_
      refine g_aload_n (n := 30) ok 0 dX6_carryAll_29 rfl rfl rfl ?_
      refine g_get (n := 33) (v := vi (K27 52 4)) (c := 6) (k := 4) ok dX6_carryAll_30 clsX6 (by decide) q682 rfl rfl rfl ?_
      refine g_callV (n := 36) (rest := [vr 52]) (av := [vi (K27 52 4)]) (j := 52) ok (kX6_carry_a K27 (K27 52 4) hk (by rw [hp]; exact vp_nI (by omega) (by omega))) knX6_carry q811 q813 qs33 clsX6 rfl dX6_carryAll_33 rfl rfl (Nat.le_of_ble_eq_true rfl) (by decide) (by decide) rfl ?_
      refine g_put (n := 39) (J := up ((fX6_carry_a K27 (K27 52 4)).2) 52 4 ((fX6_carry_a K27 (K27 52 4)).1)) (c := 6) (k := 4) ok dX6_carryAll_36 clsX6 tyX6 tyX6_ok nmX6 (by decide) q682 rfl rfl (fun _ => rfl) (fun _ => rfl) (Nat.le_of_ble_eq_true rfl) (fs_6_4 _ _ _) up_ne rfl ?_
      have C39_15 : ∀ (K39 : HI) (hk : K39 52 25 = 65) (hp : K39 52 23 = nI 2), G E 4 ((none, fX6_carryAll_a_c39 K39)) K39 39 [(0, vr 52)] [] := by
        intro K39 hk hp
        rw [fX6_carryAll_a_c39]
        refine g_aload_n (n := 40) ok 0 dX6_carryAll_39 rfl rfl rfl ?_
        refine g_aload_n (n := 41) ok 0 dX6_carryAll_40 rfl rfl rfl ?_
        refine g_aload_n (n := 42) ok 0 dX6_carryAll_41 rfl rfl rfl ?_
        refine g_get (n := 45) (v := vi (K39 52 5)) (c := 6) (k := 5) ok dX6_carryAll_42 clsX6 (by decide) q683 rfl rfl rfl ?_
        refine g_callV (n := 48) (rest := [vr 52]) (av := [vi (K39 52 5)]) (j := 52) ok (kX6_carry_a K39 (K39 52 5) hk (by rw [hp]; exact vp_nI (by omega) (by omega))) knX6_carry q811 q813 qs33 clsX6 rfl dX6_carryAll_45 rfl rfl (Nat.le_of_ble_eq_true rfl) (by decide) (by decide) rfl ?_
        refine g_put (n := 51) (J := up ((fX6_carry_a K39 (K39 52 5)).2) 52 5 ((fX6_carry_a K39 (K39 52 5)).1)) (c := 6) (k := 5) ok dX6_carryAll_48 clsX6 tyX6 tyX6_ok nmX6 (by decide) q683 rfl rfl (fun _ => rfl) (fun _ => rfl) (Nat.le_of_ble_eq_true rfl) (fs_6_5 _ _ _) up_ne rfl ?_
        have C51_14 : ∀ (K51 : HI) (hk : K51 52 25 = 65) (hp : K51 52 23 = nI 3), G E 4 ((none, fX6_carryAll_a_c51 K51)) K51 51 [(0, vr 52)] [] := by
          intro K51 hk hp
          rw [fX6_carryAll_a_c51]
          refine g_iconst (n := 52) (v := 0) ok dX6_carryAll_51 rfl rfl ?_
          refine g_istore_n (n := 53) (lv' := [(3, vi 0), (0, vr 52)]) ok dX6_carryAll_52 rfl (by decide) rfl rfl ?_
          have X53 : ∀ (J53 : HI) (hk : J53 52 25 = 65) (hp : J53 52 23 = nI 51), G E 4 ((none, fX6_carryAll_a_x53 J53)) J53 97 [(0, vr 52)] [] := by
            intro J53 hk hp
            rw [fX6_carryAll_a_x53]
            refine g_iconst (n := 98) (v := 0) ok dX6_carryAll_97 rfl rfl ?_
            refine g_istore_n (n := 99) (lv' := [(3, vi 0), (0, vr 52)]) ok dX6_carryAll_98 rfl (by decide) rfl rfl ?_
            have X99 : ∀ (J99 : HI) (hk : J99 52 25 = 65) (hp : J99 52 23 = nI 56), G E 4 ((none, fX6_carryAll_a_x99 J99)) J99 126 [(0, vr 52)] [] := by
              intro J99 hk hp
              rw [fX6_carryAll_a_x99]
              refine g_iconst (n := 127) (v := 0) ok dX6_carryAll_126 rfl rfl ?_
              refine g_istore_n (n := 128) (lv' := [(3, vi 0), (0, vr 52)]) ok dX6_carryAll_127 rfl (by decide) rfl rfl ?_
              have X128 : ∀ (J128 : HI) (hk : J128 52 25 = 65) (hp : J128 52 23 = nI 74), G E 4 ((none, fX6_carryAll_a_x128 J128)) J128 188 [(0, vr 52)] [] := by
                intro J128 hk hp
                rw [fX6_carryAll_a_x128]
                refine g_iconst (n := 189) (v := 0) ok dX6_carryAll_188 rfl rfl ?_
                refine g_istore_n (n := 190) (lv' := [(3, vi 0), (0, vr 52)]) ok dX6_carryAll_189 rfl (by decide) rfl rfl ?_
                have X190 : ∀ (J190 : HI) (hk : J190 52 25 = 65) (hp : J190 52 23 = nI 146), G E 4 ((none, fX6_carryAll_a_x190 J190)) J190 218 [] [] := by
                  intro J190 hk hp
                  rw [fX6_carryAll_a_x190]
                  exact g_vret ok hr dX6_carryAll_218
                have L190 : ∀ (n190 i190 : Nat) (J190 : HI) (hk : J190 52 25 = 65) (hp : J190 52 23 = nI (74 + 1 * i190)) (hi : i190 + n190 = 72), G E 4 ((none, fX6_carryAll_a_x190 (fo n190 i190 (fun (i : Nat) (s : HI) => fX6_carryAll_a_b190 i s) J190))) J190 190 [(3, vi (nI i190)), (0, vr 52)] [] := by
                  intro n190
                  induction n190 with
                  | zero =>
                    intro i190 J190 hk hp hi
                    rw [fo_0]
                    refine g_iload_n (n := 191) ok 0 dX6_carryAll_190 rfl rfl rfl ?_
                    refine g_bipush (n := 193) (v := 72) ok dX6_carryAll_191 rfl rfl ?_
                    refine g_icmp_ge (n := 196) (tgt := 218) ok dX6_carryAll_193 (by decide) rfl (fun c => ?_) (fun c => absurd (nle (a := 72) (b := i190) rfl rfl (by omega) (by omega)) c)
                    refine g_sub [] rfl ?_
                    exact X190 _ hk (by rw [hp]; exact congrArg nI (by omega))
                  | succ n190 ih =>
                    intro i190 J190 hk hp hi
                    refine g_iload_n (n := 191) ok 0 dX6_carryAll_190 rfl rfl rfl ?_
                    refine g_bipush (n := 193) (v := 72) ok dX6_carryAll_191 rfl rfl ?_
                    refine g_icmp_ge (n := 196) (tgt := 218) ok dX6_carryAll_193 (by decide) rfl (fun c => absurd c (nnle (a := 72) (b := i190) rfl rfl (by omega) (by omega))) (fun c => ?_)
                    rw [fo_s]
                    show G E 4 ((none, fX6_carryAll_a_x190 (fo n190 (i190 + 1) (fun (i : Nat) (s : HI) => fX6_carryAll_a_b190 i s) (fX6_carryAll_a_b190 i190 J190)))) _ _ _ _
                    rw [fX6_carryAll_a_b190]
                    refine g_aload_n (n := 197) ok 1 dX6_carryAll_196 rfl rfl rfl ?_
                    refine g_get (n := 200) (v := vr 59) (c := 6) (k := 9) ok dX6_carryAll_197 clsX6 (by decide) q687 rfl rfl rfl ?_
                    refine g_iload_n (n := 201) ok 0 dX6_carryAll_200 rfl rfl rfl ?_
                    refine g_aload_n (n := 202) ok 1 dX6_carryAll_201 rfl rfl rfl ?_
                    refine g_aload_n (n := 203) ok 1 dX6_carryAll_202 rfl rfl rfl ?_
                    refine g_get (n := 206) (v := vr 59) (c := 6) (k := 9) ok dX6_carryAll_203 clsX6 (by decide) q687 rfl rfl rfl ?_
                    refine g_iload_n (n := 207) ok 0 dX6_carryAll_206 rfl rfl rfl ?_
                    refine g_iald (n := 208) (i := i190) (L := 324) ok dX6_carryAll_207 rfl rfl rfl (by omega) rfl ?_
                    refine g_callV (n := 211) (rest := [vi (nI i190), vr 59]) (av := [vi (J190 59 i190)]) (j := 52) ok (kX6_carry_a J190 (J190 59 i190) hk (by rw [hp]; exact vp_nI (by omega) (by omega))) knX6_carry q811 q813 qs33 clsX6 rfl dX6_carryAll_208 rfl rfl (Nat.le_of_ble_eq_true rfl) (by decide) (by decide) rfl ?_
                    refine g_iast (n := 212) (i := i190) (L := 324) ok dX6_carryAll_211 rfl rfl rfl (by omega) rfl ?_
                    refine g_iinc (n := 215) (v := nI (i190 + 1)) (lv' := [(3, vi (nI (i190 + 1))), (0, vr 52)]) ok 0 dX6_carryAll_212 rfl (iinc_n (a := i190) rfl) (by decide) rfl rfl ?_
                    refine g_goto (tgt := 190) ok dX6_carryAll_215 (by decide) ?_
                    exact ih (i190 + 1) _ (by rw [up_ne2 (by omega), carry_kin_a]; exact hk) (by rw [up_ne2 (by omega), carry_pl_a, hp]; exact (nI_succ _).symm.trans (congrArg nI (by omega))) (by omega)
                exact L190 72 0 _ hk hp (by omega)
              have L128 : ∀ (n128 i128 : Nat) (J128 : HI) (hk : J128 52 25 = 65) (hp : J128 52 23 = nI (56 + 3 * i128)) (hi : i128 + n128 = 6), G E 4 ((none, fX6_carryAll_a_x128 (fo n128 i128 (fun (i : Nat) (s : HI) => fX6_carryAll_a_b128 i s) J128))) J128 128 [(3, vi (nI i128)), (0, vr 52)] [] := by
                intro n128
                induction n128 with
                | zero =>
                  intro i128 J128 hk hp hi
                  rw [fo_0]
                  refine g_iload_n (n := 129) ok 0 dX6_carryAll_128 rfl rfl rfl ?_
                  refine g_bipush (n := 131) (v := 6) ok dX6_carryAll_129 rfl rfl ?_
                  refine g_icmp_ge (n := 134) (tgt := 188) ok dX6_carryAll_131 (by decide) rfl (fun c => ?_) (fun c => absurd (nle (a := 6) (b := i128) rfl rfl (by omega) (by omega)) c)
                  refine g_sub [1] rfl ?_
                  exact X128 _ hk (by rw [hp]; exact congrArg nI (by omega))
                | succ n128 ih =>
                  intro i128 J128 hk hp hi
                  refine g_iload_n (n := 129) ok 0 dX6_carryAll_128 rfl rfl rfl ?_
                  refine g_bipush (n := 131) (v := 6) ok dX6_carryAll_129 rfl rfl ?_
                  refine g_icmp_ge (n := 134) (tgt := 188) ok dX6_carryAll_131 (by decide) rfl (fun c => absurd c (nnle (a := 6) (b := i128) rfl rfl (by omega) (by omega))) (fun c => ?_)
                  rw [fo_s]
                  show G E 4 ((none, fX6_carryAll_a_x128 (fo n128 (i128 + 1) (fun (i : Nat) (s : HI) => fX6_carryAll_a_b128 i s) (fX6_carryAll_a_b128 i128 J128)))) _ _ _ _
                  rw [fX6_carryAll_a_b128]
                  refine g_aload_n (n := 135) ok 1 dX6_carryAll_134 rfl rfl rfl ?_
                  refine g_get (n := 138) (v := vr 56) (c := 6) (k := 6) ok dX6_carryAll_135 clsX6 (by decide) q684 rfl rfl rfl ?_
                  refine g_iload_n (n := 139) ok 0 dX6_carryAll_138 rfl rfl rfl ?_
                  refine g_aload_n (n := 140) ok 1 dX6_carryAll_139 rfl rfl rfl ?_
                  refine g_aload_n (n := 141) ok 1 dX6_carryAll_140 rfl rfl rfl ?_
                  refine g_get (n := 144) (v := vr 56) (c := 6) (k := 6) ok dX6_carryAll_141 clsX6 (by decide) q684 rfl rfl rfl ?_
                  refine g_iload_n (n := 145) ok 0 dX6_carryAll_144 rfl rfl rfl ?_
                  refine g_iald (n := 146) (i := i128) (L := 27) ok dX6_carryAll_145 rfl rfl rfl (by omega) rfl ?_
                  refine g_callV (n := 149) (rest := [vi (nI i128), vr 56]) (av := [vi (J128 56 i128)]) (j := 52) ok (kX6_carry_a J128 (J128 56 i128) hk (by rw [hp]; exact vp_nI (by omega) (by omega))) knX6_carry q811 q813 qs33 clsX6 rfl dX6_carryAll_146 rfl rfl (Nat.le_of_ble_eq_true rfl) (by decide) (by decide) rfl ?_
                  refine g_iast (n := 150) (i := i128) (L := 27) ok dX6_carryAll_149 rfl rfl rfl (by omega) rfl ?_
                  have C150_10 : ∀ (K150 : HI) (hk : K150 52 25 = 65) (hp : K150 52 23 = nI (56 + 3 * i128 + 1)), G E 4 ((none, fX6_carryAll_a_x128 (fo n128 (i128 + 1) (fun (i : Nat) (s : HI) => fX6_carryAll_a_b128 i s) (fX6_carryAll_a_c150 i128 K150)))) K150 150 [(3, vi (nI i128)), (0, vr 52)] [] := by
                    intro K150 hk hp
                    rw [fX6_carryAll_a_c150]
                    refine g_aload_n (n := 151) ok 1 dX6_carryAll_150 rfl rfl rfl ?_
                    refine g_get (n := 154) (v := vr 57) (c := 6) (k := 7) ok dX6_carryAll_151 clsX6 (by decide) q685 rfl rfl rfl ?_
                    refine g_iload_n (n := 155) ok 0 dX6_carryAll_154 rfl rfl rfl ?_
                    refine g_aload_n (n := 156) ok 1 dX6_carryAll_155 rfl rfl rfl ?_
                    refine g_aload_n (n := 157) ok 1 dX6_carryAll_156 rfl rfl rfl ?_
                    refine g_get (n := 160) (v := vr 57) (c := 6) (k := 7) ok dX6_carryAll_157 clsX6 (by decide) q685 rfl rfl rfl ?_
                    refine g_iload_n (n := 161) ok 0 dX6_carryAll_160 rfl rfl rfl ?_
                    refine g_iald (n := 162) (i := i128) (L := 27) ok dX6_carryAll_161 rfl rfl rfl (by omega) rfl ?_
                    refine g_callV (n := 165) (rest := [vi (nI i128), vr 57]) (av := [vi (K150 57 i128)]) (j := 52) ok (kX6_carry_a K150 (K150 57 i128) hk (by rw [hp]; exact vp_nI (by omega) (by omega))) knX6_carry q811 q813 qs33 clsX6 rfl dX6_carryAll_162 rfl rfl (Nat.le_of_ble_eq_true rfl) (by decide) (by decide) rfl ?_
                    refine g_iast (n := 166) (i := i128) (L := 27) ok dX6_carryAll_165 rfl rfl rfl (by omega) rfl ?_
                    have C166_9 : ∀ (K166 : HI) (hk : K166 52 25 = 65) (hp : K166 52 23 = nI (56 + 3 * i128 + 1 + 1)), G E 4 ((none, fX6_carryAll_a_x128 (fo n128 (i128 + 1) (fun (i : Nat) (s : HI) => fX6_carryAll_a_b128 i s) (fX6_carryAll_a_c166 i128 K166)))) K166 166 [(3, vi (nI i128)), (0, vr 52)] [] := by
                      intro K166 hk hp
                      rw [fX6_carryAll_a_c166]
                      refine g_aload_n (n := 167) ok 1 dX6_carryAll_166 rfl rfl rfl ?_
                      refine g_get (n := 170) (v := vr 58) (c := 6) (k := 8) ok dX6_carryAll_167 clsX6 (by decide) q686 rfl rfl rfl ?_
                      refine g_iload_n (n := 171) ok 0 dX6_carryAll_170 rfl rfl rfl ?_
                      refine g_aload_n (n := 172) ok 1 dX6_carryAll_171 rfl rfl rfl ?_
                      refine g_aload_n (n := 173) ok 1 dX6_carryAll_172 rfl rfl rfl ?_
                      refine g_get (n := 176) (v := vr 58) (c := 6) (k := 8) ok dX6_carryAll_173 clsX6 (by decide) q686 rfl rfl rfl ?_
                      refine g_iload_n (n := 177) ok 0 dX6_carryAll_176 rfl rfl rfl ?_
                      refine g_iald (n := 178) (i := i128) (L := 27) ok dX6_carryAll_177 rfl rfl rfl (by omega) rfl ?_
                      refine g_callV (n := 181) (rest := [vi (nI i128), vr 58]) (av := [vi (K166 58 i128)]) (j := 52) ok (kX6_carry_a K166 (K166 58 i128) hk (by rw [hp]; exact vp_nI (by omega) (by omega))) knX6_carry q811 q813 qs33 clsX6 rfl dX6_carryAll_178 rfl rfl (Nat.le_of_ble_eq_true rfl) (by decide) (by decide) rfl ?_
                      refine g_iast (n := 182) (i := i128) (L := 27) ok dX6_carryAll_181 rfl rfl rfl (by omega) rfl ?_
                      refine g_iinc (n := 185) (v := nI (i128 + 1)) (lv' := [(3, vi (nI (i128 + 1))), (0, vr 52)]) ok 0 dX6_carryAll_182 rfl (iinc_n (a := i128) rfl) (by decide) rfl rfl ?_
                      refine g_goto (tgt := 128) ok dX6_carryAll_185 (by decide) ?_
                      exact ih (i128 + 1) _ (by rw [up_ne2 (by omega), carry_kin_a]; exact hk) (by rw [up_ne2 (by omega), carry_pl_a, hp]; exact (nI_succ _).symm.trans (congrArg nI (by omega))) (by omega)
                    exact C166_9 _ (by rw [up_ne2 (by omega), carry_kin_a]; exact hk) (by rw [up_ne2 (by omega), carry_pl_a, hp]; exact (nI_succ _).symm)
                  exact C150_10 _ (by rw [up_ne2 (by omega), carry_kin_a]; exact hk) (by rw [up_ne2 (by omega), carry_pl_a, hp]; exact (nI_succ _).symm)
              exact L128 6 0 _ hk hp (by omega)
            have L99 : ∀ (n99 i99 : Nat) (J99 : HI) (hk : J99 52 25 = 65) (hp : J99 52 23 = nI (51 + 1 * i99)) (hi : i99 + n99 = 5), G E 4 ((none, fX6_carryAll_a_x99 (fo n99 i99 (fun (i : Nat) (s : HI) => fX6_carryAll_a_b99 i s) J99))) J99 99 [(3, vi (nI i99)), (0, vr 52)] [] := by
              intro n99
              induction n99 with
              | zero =>
                intro i99 J99 hk hp hi
                rw [fo_0]
                refine g_iload_n (n := 100) ok 0 dX6_carryAll_99 rfl rfl rfl ?_
                refine g_iconst (n := 101) (v := 5) ok dX6_carryAll_100 rfl rfl ?_
                refine g_icmp_ge (n := 104) (tgt := 126) ok dX6_carryAll_101 (by decide) rfl (fun c => ?_) (fun c => absurd (nle (a := 5) (b := i99) rfl rfl (by omega) (by omega)) c)
                refine g_sub [1] rfl ?_
                exact X99 _ hk (by rw [hp]; exact congrArg nI (by omega))
              | succ n99 ih =>
                intro i99 J99 hk hp hi
                refine g_iload_n (n := 100) ok 0 dX6_carryAll_99 rfl rfl rfl ?_
                refine g_iconst (n := 101) (v := 5) ok dX6_carryAll_100 rfl rfl ?_
                refine g_icmp_ge (n := 104) (tgt := 126) ok dX6_carryAll_101 (by decide) rfl (fun c => absurd c (nnle (a := 5) (b := i99) rfl rfl (by omega) (by omega))) (fun c => ?_)
                rw [fo_s]
                show G E 4 ((none, fX6_carryAll_a_x99 (fo n99 (i99 + 1) (fun (i : Nat) (s : HI) => fX6_carryAll_a_b99 i s) (fX6_carryAll_a_b99 i99 J99)))) _ _ _ _
                rw [fX6_carryAll_a_b99]
                refine g_aload_n (n := 105) ok 1 dX6_carryAll_104 rfl rfl rfl ?_
                refine g_get (n := 108) (v := vr 55) (c := 6) (k := 2) ok dX6_carryAll_105 clsX6 (by decide) q680 rfl rfl rfl ?_
                refine g_iload_n (n := 109) ok 0 dX6_carryAll_108 rfl rfl rfl ?_
                refine g_aload_n (n := 110) ok 1 dX6_carryAll_109 rfl rfl rfl ?_
                refine g_aload_n (n := 111) ok 1 dX6_carryAll_110 rfl rfl rfl ?_
                refine g_get (n := 114) (v := vr 55) (c := 6) (k := 2) ok dX6_carryAll_111 clsX6 (by decide) q680 rfl rfl rfl ?_
                refine g_iload_n (n := 115) ok 0 dX6_carryAll_114 rfl rfl rfl ?_
                refine g_iald (n := 116) (i := i99) (L := 5) ok dX6_carryAll_115 rfl rfl rfl (by omega) rfl ?_
                refine g_callV (n := 119) (rest := [vi (nI i99), vr 55]) (av := [vi (J99 55 i99)]) (j := 52) ok (kX6_carry_a J99 (J99 55 i99) hk (by rw [hp]; exact vp_nI (by omega) (by omega))) knX6_carry q811 q813 qs33 clsX6 rfl dX6_carryAll_116 rfl rfl (Nat.le_of_ble_eq_true rfl) (by decide) (by decide) rfl ?_
                refine g_iast (n := 120) (i := i99) (L := 5) ok dX6_carryAll_119 rfl rfl rfl (by omega) rfl ?_
                refine g_iinc (n := 123) (v := nI (i99 + 1)) (lv' := [(3, vi (nI (i99 + 1))), (0, vr 52)]) ok 0 dX6_carryAll_120 rfl (iinc_n (a := i99) rfl) (by decide) rfl rfl ?_
                refine g_goto (tgt := 99) ok dX6_carryAll_123 (by decide) ?_
                exact ih (i99 + 1) _ (by rw [up_ne2 (by omega), carry_kin_a]; exact hk) (by rw [up_ne2 (by omega), carry_pl_a, hp]; exact (nI_succ _).symm.trans (congrArg nI (by omega))) (by omega)
            exact L99 5 0 _ hk hp (by omega)
          have L53 : ∀ (n53 i53 : Nat) (J53 : HI) (hk : J53 52 25 = 65) (hp : J53 52 23 = nI (3 + 2 * i53)) (hi : i53 + n53 = 24), G E 4 ((none, fX6_carryAll_a_x53 (fo n53 i53 (fun (i : Nat) (s : HI) => fX6_carryAll_a_b53 i s) J53))) J53 53 [(3, vi (nI i53)), (0, vr 52)] [] := by
            intro n53
            induction n53 with
            | zero =>
              intro i53 J53 hk hp hi
              rw [fo_0]
              refine g_iload_n (n := 54) ok 0 dX6_carryAll_53 rfl rfl rfl ?_
              refine g_bipush (n := 56) (v := 24) ok dX6_carryAll_54 rfl rfl ?_
              refine g_icmp_ge (n := 59) (tgt := 97) ok dX6_carryAll_56 (by decide) rfl (fun c => ?_) (fun c => absurd (nle (a := 24) (b := i53) rfl rfl (by omega) (by omega)) c)
              refine g_sub [1] rfl ?_
              exact X53 _ hk (by rw [hp]; exact congrArg nI (by omega))
            | succ n53 ih =>
              intro i53 J53 hk hp hi
              refine g_iload_n (n := 54) ok 0 dX6_carryAll_53 rfl rfl rfl ?_
              refine g_bipush (n := 56) (v := 24) ok dX6_carryAll_54 rfl rfl ?_
              refine g_icmp_ge (n := 59) (tgt := 97) ok dX6_carryAll_56 (by decide) rfl (fun c => absurd c (nnle (a := 24) (b := i53) rfl rfl (by omega) (by omega))) (fun c => ?_)
              rw [fo_s]
              show G E 4 ((none, fX6_carryAll_a_x53 (fo n53 (i53 + 1) (fun (i : Nat) (s : HI) => fX6_carryAll_a_b53 i s) (fX6_carryAll_a_b53 i53 J53)))) _ _ _ _
              rw [fX6_carryAll_a_b53]
              refine g_aload_n (n := 60) ok 1 dX6_carryAll_59 rfl rfl rfl ?_
              refine g_get (n := 63) (v := vr 53) (c := 6) (k := 0) ok dX6_carryAll_60 clsX6 (by decide) q678 rfl rfl rfl ?_
              refine g_iload_n (n := 64) ok 0 dX6_carryAll_63 rfl rfl rfl ?_
              refine g_aload_n (n := 65) ok 1 dX6_carryAll_64 rfl rfl rfl ?_
              refine g_aload_n (n := 66) ok 1 dX6_carryAll_65 rfl rfl rfl ?_
              refine g_get (n := 69) (v := vr 53) (c := 6) (k := 0) ok dX6_carryAll_66 clsX6 (by decide) q678 rfl rfl rfl ?_
              refine g_iload_n (n := 70) ok 0 dX6_carryAll_69 rfl rfl rfl ?_
              refine g_iald (n := 71) (i := i53) (L := 24) ok dX6_carryAll_70 rfl rfl rfl (by omega) rfl ?_
              refine g_callV (n := 74) (rest := [vi (nI i53), vr 53]) (av := [vi (J53 53 i53)]) (j := 52) ok (kX6_carry_a J53 (J53 53 i53) hk (by rw [hp]; exact vp_nI (by omega) (by omega))) knX6_carry q811 q813 qs33 clsX6 rfl dX6_carryAll_71 rfl rfl (Nat.le_of_ble_eq_true rfl) (by decide) (by decide) rfl ?_
              refine g_iast (n := 75) (i := i53) (L := 24) ok dX6_carryAll_74 rfl rfl rfl (by omega) rfl ?_
              have C75_13 : ∀ (K75 : HI) (hk : K75 52 25 = 65) (hp : K75 52 23 = nI (3 + 2 * i53 + 1)), G E 4 ((none, fX6_carryAll_a_x53 (fo n53 (i53 + 1) (fun (i : Nat) (s : HI) => fX6_carryAll_a_b53 i s) (fX6_carryAll_a_c75 i53 K75)))) K75 75 [(3, vi (nI i53)), (0, vr 52)] [] := by
                intro K75 hk hp
                rw [fX6_carryAll_a_c75]
                refine g_aload_n (n := 76) ok 1 dX6_carryAll_75 rfl rfl rfl ?_
                refine g_get (n := 79) (v := vr 54) (c := 6) (k := 1) ok dX6_carryAll_76 clsX6 (by decide) q679 rfl rfl rfl ?_
                refine g_iload_n (n := 80) ok 0 dX6_carryAll_79 rfl rfl rfl ?_
                refine g_aload_n (n := 81) ok 1 dX6_carryAll_80 rfl rfl rfl ?_
                refine g_aload_n (n := 82) ok 1 dX6_carryAll_81 rfl rfl rfl ?_
                refine g_get (n := 85) (v := vr 54) (c := 6) (k := 1) ok dX6_carryAll_82 clsX6 (by decide) q679 rfl rfl rfl ?_
                refine g_iload_n (n := 86) ok 0 dX6_carryAll_85 rfl rfl rfl ?_
                refine g_iald (n := 87) (i := i53) (L := 24) ok dX6_carryAll_86 rfl rfl rfl (by omega) rfl ?_
                refine g_callV (n := 90) (rest := [vi (nI i53), vr 54]) (av := [vi (K75 54 i53)]) (j := 52) ok (kX6_carry_a K75 (K75 54 i53) hk (by rw [hp]; exact vp_nI (by omega) (by omega))) knX6_carry q811 q813 qs33 clsX6 rfl dX6_carryAll_87 rfl rfl (Nat.le_of_ble_eq_true rfl) (by decide) (by decide) rfl ?_
                refine g_iast (n := 91) (i := i53) (L := 24) ok dX6_carryAll_90 rfl rfl rfl (by omega) rfl ?_
                refine g_iinc (n := 94) (v := nI (i53 + 1)) (lv' := [(3, vi (nI (i53 + 1))), (0, vr 52)]) ok 0 dX6_carryAll_91 rfl (iinc_n (a := i53) rfl) (by decide) rfl rfl ?_
                refine g_goto (tgt := 53) ok dX6_carryAll_94 (by decide) ?_
                exact ih (i53 + 1) _ (by rw [up_ne2 (by omega), carry_kin_a]; exact hk) (by rw [up_ne2 (by omega), carry_pl_a, hp]; exact (nI_succ _).symm.trans (congrArg nI (by omega))) (by omega)
              exact C75_13 _ (by rw [up_ne2 (by omega), carry_kin_a]; exact hk) (by rw [up_ne2 (by omega), carry_pl_a, hp]; exact (nI_succ _).symm)
          exact L53 24 0 _ hk hp (by omega)
        exact C51_14 _ (by rw [up_k (by omega), carry_kin_a]; exact hk) (by rw [up_k (by omega), carry_pl_a, hp]; rfl)
      exact C39_15 _ (by rw [up_k (by omega), carry_kin_a]; exact hk) (by rw [up_k (by omega), carry_pl_a, hp]; rfl)
    exact C27_16 _ (by rw [up_k (by omega), carry_kin_a]; exact hk) (by rw [up_k (by omega), carry_pl_a, hp]; rfl)
  refine g_sub [0] rfl ?_
  exact C15_17 _ (by rw [up_k (by omega), up_k (by omega)]; exact up_v) up_v

noncomputable def fX6_carryAll_b_x190 (J190 : HI) : HI :=
  J190
noncomputable def fX6_carryAll_b_b190 (i190 : Nat) (J190 : HI) : HI :=
  (up ((fX6_carry_b J190 (J190 59 i190)).2) 59 i190 ((fX6_carry_b J190 (J190 59 i190)).1))
noncomputable def fX6_carryAll_b_x128 (J128 : HI) : HI :=
  fX6_carryAll_b_x190 (fo 72 0 (fun (i : Nat) (s : HI) => fX6_carryAll_b_b190 i s) J128)
noncomputable def fX6_carryAll_b_c166 (i128 : Nat) (K166 : HI) : HI :=
  (up ((fX6_carry_b K166 (K166 58 i128)).2) 58 i128 ((fX6_carry_b K166 (K166 58 i128)).1))
noncomputable def fX6_carryAll_b_c150 (i128 : Nat) (K150 : HI) : HI :=
  fX6_carryAll_b_c166 i128 (up ((fX6_carry_b K150 (K150 57 i128)).2) 57 i128 ((fX6_carry_b K150 (K150 57 i128)).1))
noncomputable def fX6_carryAll_b_b128 (i128 : Nat) (J128 : HI) : HI :=
  fX6_carryAll_b_c150 i128 (up ((fX6_carry_b J128 (J128 56 i128)).2) 56 i128 ((fX6_carry_b J128 (J128 56 i128)).1))
noncomputable def fX6_carryAll_b_x99 (J99 : HI) : HI :=
  fX6_carryAll_b_x128 (fo 6 0 (fun (i : Nat) (s : HI) => fX6_carryAll_b_b128 i s) J99)
noncomputable def fX6_carryAll_b_b99 (i99 : Nat) (J99 : HI) : HI :=
  (up ((fX6_carry_b J99 (J99 55 i99)).2) 55 i99 ((fX6_carry_b J99 (J99 55 i99)).1))
noncomputable def fX6_carryAll_b_x53 (J53 : HI) : HI :=
  fX6_carryAll_b_x99 (fo 5 0 (fun (i : Nat) (s : HI) => fX6_carryAll_b_b99 i s) J53)
noncomputable def fX6_carryAll_b_c75 (i53 : Nat) (K75 : HI) : HI :=
  (up ((fX6_carry_b K75 (K75 54 i53)).2) 54 i53 ((fX6_carry_b K75 (K75 54 i53)).1))
noncomputable def fX6_carryAll_b_b53 (i53 : Nat) (J53 : HI) : HI :=
  fX6_carryAll_b_c75 i53 (up ((fX6_carry_b J53 (J53 53 i53)).2) 53 i53 ((fX6_carry_b J53 (J53 53 i53)).1))
noncomputable def fX6_carryAll_b_c51 (K51 : HI) : HI :=
  fX6_carryAll_b_x53 (fo 24 0 (fun (i : Nat) (s : HI) => fX6_carryAll_b_b53 i s) K51)
noncomputable def fX6_carryAll_b_c39 (K39 : HI) : HI :=
  fX6_carryAll_b_c51 (up ((fX6_carry_b K39 (K39 52 5)).2) 52 5 ((fX6_carry_b K39 (K39 52 5)).1))
noncomputable def fX6_carryAll_b_c27 (K27 : HI) : HI :=
  fX6_carryAll_b_c39 (up ((fX6_carry_b K27 (K27 52 4)).2) 52 4 ((fX6_carry_b K27 (K27 52 4)).1))
noncomputable def fX6_carryAll_b_c15 (K15 : HI) : HI :=
  fX6_carryAll_b_c27 (up ((fX6_carry_b K15 (K15 52 3)).2) 52 3 ((fX6_carry_b K15 (K15 52 3)).1))
noncomputable def fX6_carryAll_b (I : HI) (takes : Int32) : HI :=
  fX6_carryAll_b_c15 (up (up (up I 52 25 66) 52 24 takes) 52 23 0)
set_option maxHeartbeats 400000 in
set_option maxRecDepth 100000 in
theorem kX6_carryAll_b (I : HI) (takes : Int32) (htk : takes = 0 ∨ takes = 1) : Cx yX6_carryAll cX6_carryAll 4 none 1 21 [vr 52, vr 66, vi takes] I ((none, fX6_carryAll_b I takes)) := by
  refine Cx.mk (lv := [(0, vr 52), (1, vr 66), (2, vi takes)]) (by decide) (Nat.le_of_ble_eq_true rfl) rfl (fun E ok hr => ?_)
  rw [fX6_carryAll_b]
  refine g_aload_n (n := 1) ok 0 dX6_carryAll_0 rfl rfl rfl ?_
  refine g_aload_n (n := 2) ok 1 dX6_carryAll_1 rfl rfl rfl ?_
  refine g_put (n := 5) (J := up I 52 25 66) (c := 6) (k := 25) ok dX6_carryAll_2 clsX6 tyX6 tyX6_ok nmX6 (by decide) q703 rfl rfl (fun _ => rfl) (fun _ => rfl) (Nat.le_of_ble_eq_true rfl) (fs_6_25_66 _ _) up_ne rfl ?_
  refine g_aload_n (n := 6) ok 0 dX6_carryAll_5 rfl rfl rfl ?_
  refine g_iload_n (n := 7) ok 2 dX6_carryAll_6 rfl rfl rfl ?_
  refine g_put (n := 10) (J := up (up I 52 25 66) 52 24 takes) (c := 6) (k := 24) ok dX6_carryAll_7 clsX6 tyX6 tyX6_ok nmX6 (by decide) q702 rfl rfl (bnar htk) (bfit htk) (Nat.le_of_ble_eq_true rfl) (fs_6_24 _ _ _) up_ne rfl ?_
  refine g_aload_n (n := 11) ok 0 dX6_carryAll_10 rfl rfl rfl ?_
  refine g_iconst (n := 12) (v := 0) ok dX6_carryAll_11 rfl rfl ?_
  refine g_put (n := 15) (J := up (up (up I 52 25 66) 52 24 takes) 52 23 0) (c := 6) (k := 23) ok dX6_carryAll_12 clsX6 tyX6 tyX6_ok nmX6 (by decide) q701 rfl rfl (fun _ => rfl) (fun _ => rfl) (Nat.le_of_ble_eq_true rfl) (fs_6_23 _ _ _) up_ne rfl ?_
  have C15_17 : ∀ (K15 : HI) (hk : K15 52 25 = 66) (hp : K15 52 23 = nI 0), G E 4 ((none, fX6_carryAll_b_c15 K15)) K15 15 [(0, vr 52)] [] := by
    intro K15 hk hp
    rw [fX6_carryAll_b_c15]
    refine g_aload_n (n := 16) ok 0 dX6_carryAll_15 rfl rfl rfl ?_
    refine g_aload_n (n := 17) ok 0 dX6_carryAll_16 rfl rfl rfl ?_
    refine g_aload_n (n := 18) ok 0 dX6_carryAll_17 rfl rfl rfl ?_
    refine g_get (n := 21) (v := vi (K15 52 3)) (c := 6) (k := 3) ok dX6_carryAll_18 clsX6 (by decide) q681 rfl rfl rfl ?_
    refine g_callV (n := 24) (rest := [vr 52]) (av := [vi (K15 52 3)]) (j := 52) ok (kX6_carry_b K15 (K15 52 3) hk (by rw [hp]; exact vp_nI (by omega) (by omega))) knX6_carry q811 q813 qs33 clsX6 rfl dX6_carryAll_21 rfl rfl (Nat.le_of_ble_eq_true rfl) (by decide) (by decide) rfl ?_
    refine g_put (n := 27) (J := up ((fX6_carry_b K15 (K15 52 3)).2) 52 3 ((fX6_carry_b K15 (K15 52 3)).1)) (c := 6) (k := 3) ok dX6_carryAll_24 clsX6 tyX6 tyX6_ok nmX6 (by decide) q681 rfl rfl (fun _ => rfl) (fun _ => rfl) (Nat.le_of_ble_eq_true rfl) (fs_6_3 _ _ _) up_ne rfl ?_
    have C27_16 : ∀ (K27 : HI) (hk : K27 52 25 = 66) (hp : K27 52 23 = nI 1), G E 4 ((none, fX6_carryAll_b_c27 K27)) K27 27 [(0, vr 52)] [] := by
      intro K27 hk hp
      rw [fX6_carryAll_b_c27]
      refine g_aload_n (n := 28) ok 0 dX6_carryAll_27 rfl rfl rfl ?_
      refine g_aload_n (n := 29) ok 0 dX6_carryAll_28 rfl rfl rfl ?_
      refine g_aload_n (n := 30) ok 0 dX6_carryAll_29 rfl rfl rfl ?_
      refine g_get (n := 33) (v := vi (K27 52 4)) (c := 6) (k := 4) ok dX6_carryAll_30 clsX6 (by decide) q682 rfl rfl rfl ?_
      refine g_callV (n := 36) (rest := [vr 52]) (av := [vi (K27 52 4)]) (j := 52) ok (kX6_carry_b K27 (K27 52 4) hk (by rw [hp]; exact vp_nI (by omega) (by omega))) knX6_carry q811 q813 qs33 clsX6 rfl dX6_carryAll_33 rfl rfl (Nat.le_of_ble_eq_true rfl) (by decide) (by decide) rfl ?_
      refine g_put (n := 39) (J := up ((fX6_carry_b K27 (K27 52 4)).2) 52 4 ((fX6_carry_b K27 (K27 52 4)).1)) (c := 6) (k := 4) ok dX6_carryAll_36 clsX6 tyX6 tyX6_ok nmX6 (by decide) q682 rfl rfl (fun _ => rfl) (fun _ => rfl) (Nat.le_of_ble_eq_true rfl) (fs_6_4 _ _ _) up_ne rfl ?_
      have C39_15 : ∀ (K39 : HI) (hk : K39 52 25 = 66) (hp : K39 52 23 = nI 2), G E 4 ((none, fX6_carryAll_b_c39 K39)) K39 39 [(0, vr 52)] [] := by
        intro K39 hk hp
        rw [fX6_carryAll_b_c39]
        refine g_aload_n (n := 40) ok 0 dX6_carryAll_39 rfl rfl rfl ?_
        refine g_aload_n (n := 41) ok 0 dX6_carryAll_40 rfl rfl rfl ?_
        refine g_aload_n (n := 42) ok 0 dX6_carryAll_41 rfl rfl rfl ?_
        refine g_get (n := 45) (v := vi (K39 52 5)) (c := 6) (k := 5) ok dX6_carryAll_42 clsX6 (by decide) q683 rfl rfl rfl ?_
        refine g_callV (n := 48) (rest := [vr 52]) (av := [vi (K39 52 5)]) (j := 52) ok (kX6_carry_b K39 (K39 52 5) hk (by rw [hp]; exact vp_nI (by omega) (by omega))) knX6_carry q811 q813 qs33 clsX6 rfl dX6_carryAll_45 rfl rfl (Nat.le_of_ble_eq_true rfl) (by decide) (by decide) rfl ?_
        refine g_put (n := 51) (J := up ((fX6_carry_b K39 (K39 52 5)).2) 52 5 ((fX6_carry_b K39 (K39 52 5)).1)) (c := 6) (k := 5) ok dX6_carryAll_48 clsX6 tyX6 tyX6_ok nmX6 (by decide) q683 rfl rfl (fun _ => rfl) (fun _ => rfl) (Nat.le_of_ble_eq_true rfl) (fs_6_5 _ _ _) up_ne rfl ?_
        have C51_14 : ∀ (K51 : HI) (hk : K51 52 25 = 66) (hp : K51 52 23 = nI 3), G E 4 ((none, fX6_carryAll_b_c51 K51)) K51 51 [(0, vr 52)] [] := by
          intro K51 hk hp
          rw [fX6_carryAll_b_c51]
          refine g_iconst (n := 52) (v := 0) ok dX6_carryAll_51 rfl rfl ?_
          refine g_istore_n (n := 53) (lv' := [(3, vi 0), (0, vr 52)]) ok dX6_carryAll_52 rfl (by decide) rfl rfl ?_
          have X53 : ∀ (J53 : HI) (hk : J53 52 25 = 66) (hp : J53 52 23 = nI 51), G E 4 ((none, fX6_carryAll_b_x53 J53)) J53 97 [(0, vr 52)] [] := by
            intro J53 hk hp
            rw [fX6_carryAll_b_x53]
            refine g_iconst (n := 98) (v := 0) ok dX6_carryAll_97 rfl rfl ?_
            refine g_istore_n (n := 99) (lv' := [(3, vi 0), (0, vr 52)]) ok dX6_carryAll_98 rfl (by decide) rfl rfl ?_
            have X99 : ∀ (J99 : HI) (hk : J99 52 25 = 66) (hp : J99 52 23 = nI 56), G E 4 ((none, fX6_carryAll_b_x99 J99)) J99 126 [(0, vr 52)] [] := by
              intro J99 hk hp
              rw [fX6_carryAll_b_x99]
              refine g_iconst (n := 127) (v := 0) ok dX6_carryAll_126 rfl rfl ?_
              refine g_istore_n (n := 128) (lv' := [(3, vi 0), (0, vr 52)]) ok dX6_carryAll_127 rfl (by decide) rfl rfl ?_
              have X128 : ∀ (J128 : HI) (hk : J128 52 25 = 66) (hp : J128 52 23 = nI 74), G E 4 ((none, fX6_carryAll_b_x128 J128)) J128 188 [(0, vr 52)] [] := by
                intro J128 hk hp
                rw [fX6_carryAll_b_x128]
                refine g_iconst (n := 189) (v := 0) ok dX6_carryAll_188 rfl rfl ?_
                refine g_istore_n (n := 190) (lv' := [(3, vi 0), (0, vr 52)]) ok dX6_carryAll_189 rfl (by decide) rfl rfl ?_
                have X190 : ∀ (J190 : HI) (hk : J190 52 25 = 66) (hp : J190 52 23 = nI 146), G E 4 ((none, fX6_carryAll_b_x190 J190)) J190 218 [] [] := by
                  intro J190 hk hp
                  rw [fX6_carryAll_b_x190]
                  exact g_vret ok hr dX6_carryAll_218
                have L190 : ∀ (n190 i190 : Nat) (J190 : HI) (hk : J190 52 25 = 66) (hp : J190 52 23 = nI (74 + 1 * i190)) (hi : i190 + n190 = 72), G E 4 ((none, fX6_carryAll_b_x190 (fo n190 i190 (fun (i : Nat) (s : HI) => fX6_carryAll_b_b190 i s) J190))) J190 190 [(3, vi (nI i190)), (0, vr 52)] [] := by
                  intro n190
                  induction n190 with
                  | zero =>
                    intro i190 J190 hk hp hi
                    rw [fo_0]
                    refine g_iload_n (n := 191) ok 0 dX6_carryAll_190 rfl rfl rfl ?_
                    refine g_bipush (n := 193) (v := 72) ok dX6_carryAll_191 rfl rfl ?_
                    refine g_icmp_ge (n := 196) (tgt := 218) ok dX6_carryAll_193 (by decide) rfl (fun c => ?_) (fun c => absurd (nle (a := 72) (b := i190) rfl rfl (by omega) (by omega)) c)
                    refine g_sub [] rfl ?_
                    exact X190 _ hk (by rw [hp]; exact congrArg nI (by omega))
                  | succ n190 ih =>
                    intro i190 J190 hk hp hi
                    refine g_iload_n (n := 191) ok 0 dX6_carryAll_190 rfl rfl rfl ?_
                    refine g_bipush (n := 193) (v := 72) ok dX6_carryAll_191 rfl rfl ?_
                    refine g_icmp_ge (n := 196) (tgt := 218) ok dX6_carryAll_193 (by decide) rfl (fun c => absurd c (nnle (a := 72) (b := i190) rfl rfl (by omega) (by omega))) (fun c => ?_)
                    rw [fo_s]
                    show G E 4 ((none, fX6_carryAll_b_x190 (fo n190 (i190 + 1) (fun (i : Nat) (s : HI) => fX6_carryAll_b_b190 i s) (fX6_carryAll_b_b190 i190 J190)))) _ _ _ _
                    rw [fX6_carryAll_b_b190]
                    refine g_aload_n (n := 197) ok 1 dX6_carryAll_196 rfl rfl rfl ?_
                    refine g_get (n := 200) (v := vr 59) (c := 6) (k := 9) ok dX6_carryAll_197 clsX6 (by decide) q687 rfl rfl rfl ?_
                    refine g_iload_n (n := 201) ok 0 dX6_carryAll_200 rfl rfl rfl ?_
                    refine g_aload_n (n := 202) ok 1 dX6_carryAll_201 rfl rfl rfl ?_
                    refine g_aload_n (n := 203) ok 1 dX6_carryAll_202 rfl rfl rfl ?_
                    refine g_get (n := 206) (v := vr 59) (c := 6) (k := 9) ok dX6_carryAll_203 clsX6 (by decide) q687 rfl rfl rfl ?_
                    refine g_iload_n (n := 207) ok 0 dX6_carryAll_206 rfl rfl rfl ?_
                    refine g_iald (n := 208) (i := i190) (L := 324) ok dX6_carryAll_207 rfl rfl rfl (by omega) rfl ?_
                    refine g_callV (n := 211) (rest := [vi (nI i190), vr 59]) (av := [vi (J190 59 i190)]) (j := 52) ok (kX6_carry_b J190 (J190 59 i190) hk (by rw [hp]; exact vp_nI (by omega) (by omega))) knX6_carry q811 q813 qs33 clsX6 rfl dX6_carryAll_208 rfl rfl (Nat.le_of_ble_eq_true rfl) (by decide) (by decide) rfl ?_
                    refine g_iast (n := 212) (i := i190) (L := 324) ok dX6_carryAll_211 rfl rfl rfl (by omega) rfl ?_
                    refine g_iinc (n := 215) (v := nI (i190 + 1)) (lv' := [(3, vi (nI (i190 + 1))), (0, vr 52)]) ok 0 dX6_carryAll_212 rfl (iinc_n (a := i190) rfl) (by decide) rfl rfl ?_
                    refine g_goto (tgt := 190) ok dX6_carryAll_215 (by decide) ?_
                    exact ih (i190 + 1) _ (by rw [up_ne2 (by omega), carry_kin_b]; exact hk) (by rw [up_ne2 (by omega), carry_pl_b, hp]; exact (nI_succ _).symm.trans (congrArg nI (by omega))) (by omega)
                exact L190 72 0 _ hk hp (by omega)
              have L128 : ∀ (n128 i128 : Nat) (J128 : HI) (hk : J128 52 25 = 66) (hp : J128 52 23 = nI (56 + 3 * i128)) (hi : i128 + n128 = 6), G E 4 ((none, fX6_carryAll_b_x128 (fo n128 i128 (fun (i : Nat) (s : HI) => fX6_carryAll_b_b128 i s) J128))) J128 128 [(3, vi (nI i128)), (0, vr 52)] [] := by
                intro n128
                induction n128 with
                | zero =>
                  intro i128 J128 hk hp hi
                  rw [fo_0]
                  refine g_iload_n (n := 129) ok 0 dX6_carryAll_128 rfl rfl rfl ?_
                  refine g_bipush (n := 131) (v := 6) ok dX6_carryAll_129 rfl rfl ?_
                  refine g_icmp_ge (n := 134) (tgt := 188) ok dX6_carryAll_131 (by decide) rfl (fun c => ?_) (fun c => absurd (nle (a := 6) (b := i128) rfl rfl (by omega) (by omega)) c)
                  refine g_sub [1] rfl ?_
                  exact X128 _ hk (by rw [hp]; exact congrArg nI (by omega))
                | succ n128 ih =>
                  intro i128 J128 hk hp hi
                  refine g_iload_n (n := 129) ok 0 dX6_carryAll_128 rfl rfl rfl ?_
                  refine g_bipush (n := 131) (v := 6) ok dX6_carryAll_129 rfl rfl ?_
                  refine g_icmp_ge (n := 134) (tgt := 188) ok dX6_carryAll_131 (by decide) rfl (fun c => absurd c (nnle (a := 6) (b := i128) rfl rfl (by omega) (by omega))) (fun c => ?_)
                  rw [fo_s]
                  show G E 4 ((none, fX6_carryAll_b_x128 (fo n128 (i128 + 1) (fun (i : Nat) (s : HI) => fX6_carryAll_b_b128 i s) (fX6_carryAll_b_b128 i128 J128)))) _ _ _ _
                  rw [fX6_carryAll_b_b128]
                  refine g_aload_n (n := 135) ok 1 dX6_carryAll_134 rfl rfl rfl ?_
                  refine g_get (n := 138) (v := vr 56) (c := 6) (k := 6) ok dX6_carryAll_135 clsX6 (by decide) q684 rfl rfl rfl ?_
                  refine g_iload_n (n := 139) ok 0 dX6_carryAll_138 rfl rfl rfl ?_
                  refine g_aload_n (n := 140) ok 1 dX6_carryAll_139 rfl rfl rfl ?_
                  refine g_aload_n (n := 141) ok 1 dX6_carryAll_140 rfl rfl rfl ?_
                  refine g_get (n := 144) (v := vr 56) (c := 6) (k := 6) ok dX6_carryAll_141 clsX6 (by decide) q684 rfl rfl rfl ?_
                  refine g_iload_n (n := 145) ok 0 dX6_carryAll_144 rfl rfl rfl ?_
                  refine g_iald (n := 146) (i := i128) (L := 27) ok dX6_carryAll_145 rfl rfl rfl (by omega) rfl ?_
                  refine g_callV (n := 149) (rest := [vi (nI i128), vr 56]) (av := [vi (J128 56 i128)]) (j := 52) ok (kX6_carry_b J128 (J128 56 i128) hk (by rw [hp]; exact vp_nI (by omega) (by omega))) knX6_carry q811 q813 qs33 clsX6 rfl dX6_carryAll_146 rfl rfl (Nat.le_of_ble_eq_true rfl) (by decide) (by decide) rfl ?_
                  refine g_iast (n := 150) (i := i128) (L := 27) ok dX6_carryAll_149 rfl rfl rfl (by omega) rfl ?_
                  have C150_10 : ∀ (K150 : HI) (hk : K150 52 25 = 66) (hp : K150 52 23 = nI (56 + 3 * i128 + 1)), G E 4 ((none, fX6_carryAll_b_x128 (fo n128 (i128 + 1) (fun (i : Nat) (s : HI) => fX6_carryAll_b_b128 i s) (fX6_carryAll_b_c150 i128 K150)))) K150 150 [(3, vi (nI i128)), (0, vr 52)] [] := by
                    intro K150 hk hp
                    rw [fX6_carryAll_b_c150]
                    refine g_aload_n (n := 151) ok 1 dX6_carryAll_150 rfl rfl rfl ?_
                    refine g_get (n := 154) (v := vr 57) (c := 6) (k := 7) ok dX6_carryAll_151 clsX6 (by decide) q685 rfl rfl rfl ?_
                    refine g_iload_n (n := 155) ok 0 dX6_carryAll_154 rfl rfl rfl ?_
                    refine g_aload_n (n := 156) ok 1 dX6_carryAll_155 rfl rfl rfl ?_
                    refine g_aload_n (n := 157) ok 1 dX6_carryAll_156 rfl rfl rfl ?_
                    refine g_get (n := 160) (v := vr 57) (c := 6) (k := 7) ok dX6_carryAll_157 clsX6 (by decide) q685 rfl rfl rfl ?_
                    refine g_iload_n (n := 161) ok 0 dX6_carryAll_160 rfl rfl rfl ?_
                    refine g_iald (n := 162) (i := i128) (L := 27) ok dX6_carryAll_161 rfl rfl rfl (by omega) rfl ?_
                    refine g_callV (n := 165) (rest := [vi (nI i128), vr 57]) (av := [vi (K150 57 i128)]) (j := 52) ok (kX6_carry_b K150 (K150 57 i128) hk (by rw [hp]; exact vp_nI (by omega) (by omega))) knX6_carry q811 q813 qs33 clsX6 rfl dX6_carryAll_162 rfl rfl (Nat.le_of_ble_eq_true rfl) (by decide) (by decide) rfl ?_
                    refine g_iast (n := 166) (i := i128) (L := 27) ok dX6_carryAll_165 rfl rfl rfl (by omega) rfl ?_
                    have C166_9 : ∀ (K166 : HI) (hk : K166 52 25 = 66) (hp : K166 52 23 = nI (56 + 3 * i128 + 1 + 1)), G E 4 ((none, fX6_carryAll_b_x128 (fo n128 (i128 + 1) (fun (i : Nat) (s : HI) => fX6_carryAll_b_b128 i s) (fX6_carryAll_b_c166 i128 K166)))) K166 166 [(3, vi (nI i128)), (0, vr 52)] [] := by
                      intro K166 hk hp
                      rw [fX6_carryAll_b_c166]
                      refine g_aload_n (n := 167) ok 1 dX6_carryAll_166 rfl rfl rfl ?_
                      refine g_get (n := 170) (v := vr 58) (c := 6) (k := 8) ok dX6_carryAll_167 clsX6 (by decide) q686 rfl rfl rfl ?_
                      refine g_iload_n (n := 171) ok 0 dX6_carryAll_170 rfl rfl rfl ?_
                      refine g_aload_n (n := 172) ok 1 dX6_carryAll_171 rfl rfl rfl ?_
                      refine g_aload_n (n := 173) ok 1 dX6_carryAll_172 rfl rfl rfl ?_
                      refine g_get (n := 176) (v := vr 58) (c := 6) (k := 8) ok dX6_carryAll_173 clsX6 (by decide) q686 rfl rfl rfl ?_
                      refine g_iload_n (n := 177) ok 0 dX6_carryAll_176 rfl rfl rfl ?_
                      refine g_iald (n := 178) (i := i128) (L := 27) ok dX6_carryAll_177 rfl rfl rfl (by omega) rfl ?_
                      refine g_callV (n := 181) (rest := [vi (nI i128), vr 58]) (av := [vi (K166 58 i128)]) (j := 52) ok (kX6_carry_b K166 (K166 58 i128) hk (by rw [hp]; exact vp_nI (by omega) (by omega))) knX6_carry q811 q813 qs33 clsX6 rfl dX6_carryAll_178 rfl rfl (Nat.le_of_ble_eq_true rfl) (by decide) (by decide) rfl ?_
                      refine g_iast (n := 182) (i := i128) (L := 27) ok dX6_carryAll_181 rfl rfl rfl (by omega) rfl ?_
                      refine g_iinc (n := 185) (v := nI (i128 + 1)) (lv' := [(3, vi (nI (i128 + 1))), (0, vr 52)]) ok 0 dX6_carryAll_182 rfl (iinc_n (a := i128) rfl) (by decide) rfl rfl ?_
                      refine g_goto (tgt := 128) ok dX6_carryAll_185 (by decide) ?_
                      exact ih (i128 + 1) _ (by rw [up_ne2 (by omega), carry_kin_b]; exact hk) (by rw [up_ne2 (by omega), carry_pl_b, hp]; exact (nI_succ _).symm.trans (congrArg nI (by omega))) (by omega)
                    exact C166_9 _ (by rw [up_ne2 (by omega), carry_kin_b]; exact hk) (by rw [up_ne2 (by omega), carry_pl_b, hp]; exact (nI_succ _).symm)
                  exact C150_10 _ (by rw [up_ne2 (by omega), carry_kin_b]; exact hk) (by rw [up_ne2 (by omega), carry_pl_b, hp]; exact (nI_succ _).symm)
              exact L128 6 0 _ hk hp (by omega)
            have L99 : ∀ (n99 i99 : Nat) (J99 : HI) (hk : J99 52 25 = 66) (hp : J99 52 23 = nI (51 + 1 * i99)) (hi : i99 + n99 = 5), G E 4 ((none, fX6_carryAll_b_x99 (fo n99 i99 (fun (i : Nat) (s : HI) => fX6_carryAll_b_b99 i s) J99))) J99 99 [(3, vi (nI i99)), (0, vr 52)] [] := by
              intro n99
              induction n99 with
              | zero =>
                intro i99 J99 hk hp hi
                rw [fo_0]
                refine g_iload_n (n := 100) ok 0 dX6_carryAll_99 rfl rfl rfl ?_
                refine g_iconst (n := 101) (v := 5) ok dX6_carryAll_100 rfl rfl ?_
                refine g_icmp_ge (n := 104) (tgt := 126) ok dX6_carryAll_101 (by decide) rfl (fun c => ?_) (fun c => absurd (nle (a := 5) (b := i99) rfl rfl (by omega) (by omega)) c)
                refine g_sub [1] rfl ?_
                exact X99 _ hk (by rw [hp]; exact congrArg nI (by omega))
              | succ n99 ih =>
                intro i99 J99 hk hp hi
                refine g_iload_n (n := 100) ok 0 dX6_carryAll_99 rfl rfl rfl ?_
                refine g_iconst (n := 101) (v := 5) ok dX6_carryAll_100 rfl rfl ?_
                refine g_icmp_ge (n := 104) (tgt := 126) ok dX6_carryAll_101 (by decide) rfl (fun c => absurd c (nnle (a := 5) (b := i99) rfl rfl (by omega) (by omega))) (fun c => ?_)
                rw [fo_s]
                show G E 4 ((none, fX6_carryAll_b_x99 (fo n99 (i99 + 1) (fun (i : Nat) (s : HI) => fX6_carryAll_b_b99 i s) (fX6_carryAll_b_b99 i99 J99)))) _ _ _ _
                rw [fX6_carryAll_b_b99]
                refine g_aload_n (n := 105) ok 1 dX6_carryAll_104 rfl rfl rfl ?_
                refine g_get (n := 108) (v := vr 55) (c := 6) (k := 2) ok dX6_carryAll_105 clsX6 (by decide) q680 rfl rfl rfl ?_
                refine g_iload_n (n := 109) ok 0 dX6_carryAll_108 rfl rfl rfl ?_
                refine g_aload_n (n := 110) ok 1 dX6_carryAll_109 rfl rfl rfl ?_
                refine g_aload_n (n := 111) ok 1 dX6_carryAll_110 rfl rfl rfl ?_
                refine g_get (n := 114) (v := vr 55) (c := 6) (k := 2) ok dX6_carryAll_111 clsX6 (by decide) q680 rfl rfl rfl ?_
                refine g_iload_n (n := 115) ok 0 dX6_carryAll_114 rfl rfl rfl ?_
                refine g_iald (n := 116) (i := i99) (L := 5) ok dX6_carryAll_115 rfl rfl rfl (by omega) rfl ?_
                refine g_callV (n := 119) (rest := [vi (nI i99), vr 55]) (av := [vi (J99 55 i99)]) (j := 52) ok (kX6_carry_b J99 (J99 55 i99) hk (by rw [hp]; exact vp_nI (by omega) (by omega))) knX6_carry q811 q813 qs33 clsX6 rfl dX6_carryAll_116 rfl rfl (Nat.le_of_ble_eq_true rfl) (by decide) (by decide) rfl ?_
                refine g_iast (n := 120) (i := i99) (L := 5) ok dX6_carryAll_119 rfl rfl rfl (by omega) rfl ?_
                refine g_iinc (n := 123) (v := nI (i99 + 1)) (lv' := [(3, vi (nI (i99 + 1))), (0, vr 52)]) ok 0 dX6_carryAll_120 rfl (iinc_n (a := i99) rfl) (by decide) rfl rfl ?_
                refine g_goto (tgt := 99) ok dX6_carryAll_123 (by decide) ?_
                exact ih (i99 + 1) _ (by rw [up_ne2 (by omega), carry_kin_b]; exact hk) (by rw [up_ne2 (by omega), carry_pl_b, hp]; exact (nI_succ _).symm.trans (congrArg nI (by omega))) (by omega)
            exact L99 5 0 _ hk hp (by omega)
          have L53 : ∀ (n53 i53 : Nat) (J53 : HI) (hk : J53 52 25 = 66) (hp : J53 52 23 = nI (3 + 2 * i53)) (hi : i53 + n53 = 24), G E 4 ((none, fX6_carryAll_b_x53 (fo n53 i53 (fun (i : Nat) (s : HI) => fX6_carryAll_b_b53 i s) J53))) J53 53 [(3, vi (nI i53)), (0, vr 52)] [] := by
            intro n53
            induction n53 with
            | zero =>
              intro i53 J53 hk hp hi
              rw [fo_0]
              refine g_iload_n (n := 54) ok 0 dX6_carryAll_53 rfl rfl rfl ?_
              refine g_bipush (n := 56) (v := 24) ok dX6_carryAll_54 rfl rfl ?_
              refine g_icmp_ge (n := 59) (tgt := 97) ok dX6_carryAll_56 (by decide) rfl (fun c => ?_) (fun c => absurd (nle (a := 24) (b := i53) rfl rfl (by omega) (by omega)) c)
              refine g_sub [1] rfl ?_
              exact X53 _ hk (by rw [hp]; exact congrArg nI (by omega))
            | succ n53 ih =>
              intro i53 J53 hk hp hi
              refine g_iload_n (n := 54) ok 0 dX6_carryAll_53 rfl rfl rfl ?_
              refine g_bipush (n := 56) (v := 24) ok dX6_carryAll_54 rfl rfl ?_
              refine g_icmp_ge (n := 59) (tgt := 97) ok dX6_carryAll_56 (by decide) rfl (fun c => absurd c (nnle (a := 24) (b := i53) rfl rfl (by omega) (by omega))) (fun c => ?_)
              rw [fo_s]
              show G E 4 ((none, fX6_carryAll_b_x53 (fo n53 (i53 + 1) (fun (i : Nat) (s : HI) => fX6_carryAll_b_b53 i s) (fX6_carryAll_b_b53 i53 J53)))) _ _ _ _
              rw [fX6_carryAll_b_b53]
              refine g_aload_n (n := 60) ok 1 dX6_carryAll_59 rfl rfl rfl ?_
              refine g_get (n := 63) (v := vr 53) (c := 6) (k := 0) ok dX6_carryAll_60 clsX6 (by decide) q678 rfl rfl rfl ?_
              refine g_iload_n (n := 64) ok 0 dX6_carryAll_63 rfl rfl rfl ?_
              refine g_aload_n (n := 65) ok 1 dX6_carryAll_64 rfl rfl rfl ?_
              refine g_aload_n (n := 66) ok 1 dX6_carryAll_65 rfl rfl rfl ?_
              refine g_get (n := 69) (v := vr 53) (c := 6) (k := 0) ok dX6_carryAll_66 clsX6 (by decide) q678 rfl rfl rfl ?_
              refine g_iload_n (n := 70) ok 0 dX6_carryAll_69 rfl rfl rfl ?_
              refine g_iald (n := 71) (i := i53) (L := 24) ok dX6_carryAll_70 rfl rfl rfl (by omega) rfl ?_
              refine g_callV (n := 74) (rest := [vi (nI i53), vr 53]) (av := [vi (J53 53 i53)]) (j := 52) ok (kX6_carry_b J53 (J53 53 i53) hk (by rw [hp]; exact vp_nI (by omega) (by omega))) knX6_carry q811 q813 qs33 clsX6 rfl dX6_carryAll_71 rfl rfl (Nat.le_of_ble_eq_true rfl) (by decide) (by decide) rfl ?_
              refine g_iast (n := 75) (i := i53) (L := 24) ok dX6_carryAll_74 rfl rfl rfl (by omega) rfl ?_
              have C75_13 : ∀ (K75 : HI) (hk : K75 52 25 = 66) (hp : K75 52 23 = nI (3 + 2 * i53 + 1)), G E 4 ((none, fX6_carryAll_b_x53 (fo n53 (i53 + 1) (fun (i : Nat) (s : HI) => fX6_carryAll_b_b53 i s) (fX6_carryAll_b_c75 i53 K75)))) K75 75 [(3, vi (nI i53)), (0, vr 52)] [] := by
                intro K75 hk hp
                rw [fX6_carryAll_b_c75]
                refine g_aload_n (n := 76) ok 1 dX6_carryAll_75 rfl rfl rfl ?_
                refine g_get (n := 79) (v := vr 54) (c := 6) (k := 1) ok dX6_carryAll_76 clsX6 (by decide) q679 rfl rfl rfl ?_
                refine g_iload_n (n := 80) ok 0 dX6_carryAll_79 rfl rfl rfl ?_
                refine g_aload_n (n := 81) ok 1 dX6_carryAll_80 rfl rfl rfl ?_
                refine g_aload_n (n := 82) ok 1 dX6_carryAll_81 rfl rfl rfl ?_
                refine g_get (n := 85) (v := vr 54) (c := 6) (k := 1) ok dX6_carryAll_82 clsX6 (by decide) q679 rfl rfl rfl ?_
                refine g_iload_n (n := 86) ok 0 dX6_carryAll_85 rfl rfl rfl ?_
                refine g_iald (n := 87) (i := i53) (L := 24) ok dX6_carryAll_86 rfl rfl rfl (by omega) rfl ?_
                refine g_callV (n := 90) (rest := [vi (nI i53), vr 54]) (av := [vi (K75 54 i53)]) (j := 52) ok (kX6_carry_b K75 (K75 54 i53) hk (by rw [hp]; exact vp_nI (by omega) (by omega))) knX6_carry q811 q813 qs33 clsX6 rfl dX6_carryAll_87 rfl rfl (Nat.le_of_ble_eq_true rfl) (by decide) (by decide) rfl ?_
                refine g_iast (n := 91) (i := i53) (L := 24) ok dX6_carryAll_90 rfl rfl rfl (by omega) rfl ?_
                refine g_iinc (n := 94) (v := nI (i53 + 1)) (lv' := [(3, vi (nI (i53 + 1))), (0, vr 52)]) ok 0 dX6_carryAll_91 rfl (iinc_n (a := i53) rfl) (by decide) rfl rfl ?_
                refine g_goto (tgt := 53) ok dX6_carryAll_94 (by decide) ?_
                exact ih (i53 + 1) _ (by rw [up_ne2 (by omega), carry_kin_b]; exact hk) (by rw [up_ne2 (by omega), carry_pl_b, hp]; exact (nI_succ _).symm.trans (congrArg nI (by omega))) (by omega)
              exact C75_13 _ (by rw [up_ne2 (by omega), carry_kin_b]; exact hk) (by rw [up_ne2 (by omega), carry_pl_b, hp]; exact (nI_succ _).symm)
          exact L53 24 0 _ hk hp (by omega)
        exact C51_14 _ (by rw [up_k (by omega), carry_kin_b]; exact hk) (by rw [up_k (by omega), carry_pl_b, hp]; rfl)
      exact C39_15 _ (by rw [up_k (by omega), carry_kin_b]; exact hk) (by rw [up_k (by omega), carry_pl_b, hp]; rfl)
    exact C27_16 _ (by rw [up_k (by omega), carry_kin_b]; exact hk) (by rw [up_k (by omega), carry_pl_b, hp]; rfl)
  refine g_sub [0] rfl ?_
  exact C15_17 _ (by rw [up_k (by omega), up_k (by omega)]; exact up_v) up_v

noncomputable def fX6_image_c5 (K5 : HI) : Int32 × HI :=
  ((fX6_carryAll_b (up K5 52 22 1) 1) 52 5, (fX6_carryAll_b (up K5 52 22 1) 1))
noncomputable def fX6_image (I : HI) : Int32 × HI :=
  fX6_image_c5 (up I 52 10 0)
theorem knX6_image : Kn yX6_image cX6_image 1 (some .int) 0 := ⟨q882, q8, ⟨by decide, by decide⟩, by decide +kernel⟩
set_option maxHeartbeats 400000 in
set_option maxRecDepth 100000 in
theorem kX6_image (I : HI) : Cx yX6_image cX6_image 1 (some .int) 2 44 [vr 52] I ((some (vi (((fX6_image I).1))), (fX6_image I).2)) := by
  refine Cx.mk (lv := [(0, vr 52)]) (by decide) (Nat.le_of_ble_eq_true rfl) rfl (fun E ok hr => ?_)
  rw [fX6_image]
  refine g_aload_n (n := 1) ok 0 dX6_image_0 rfl rfl rfl ?_
  refine g_iconst (n := 2) (v := 0) ok dX6_image_1 rfl rfl ?_
  refine g_put (n := 5) (J := up I 52 10 0) (c := 6) (k := 10) ok dX6_image_2 clsX6 tyX6 tyX6_ok nmX6 (by decide) q688 rfl rfl (fun _ => rfl) (fun _ => rfl) (Nat.le_of_ble_eq_true rfl) (fs_6_10 _ _ _) up_ne rfl ?_
  have C5_2 : ∀ (K5 : HI), G E 1 ((some (vi (((fX6_image_c5 K5).1))), (fX6_image_c5 K5).2)) K5 5 [(0, vr 52)] [] := by
    intro K5
    rw [fX6_image_c5]
    refine g_aload_n (n := 6) ok 0 dX6_image_5 rfl rfl rfl ?_
    refine g_iconst (n := 7) (v := 1) ok dX6_image_6 rfl rfl ?_
    refine g_put (n := 10) (J := up K5 52 22 1) (c := 6) (k := 22) ok dX6_image_7 clsX6 tyX6 tyX6_ok nmX6 (by decide) q700 rfl rfl (bnar (by decide)) (bfit (by decide)) (Nat.le_of_ble_eq_true rfl) (fs_6_22 _ _ _) up_ne rfl ?_
    refine g_aload_n (n := 11) ok 0 dX6_image_10 rfl rfl rfl ?_
    refine g_aload_n (n := 12) ok 0 dX6_image_11 rfl rfl rfl ?_
    refine g_get (n := 15) (v := vr 66) (c := 6) (k := 21) ok dX6_image_12 clsX6 (by decide) q699 rfl rfl rfl ?_
    refine g_iconst (n := 16) (v := 1) ok dX6_image_15 rfl rfl ?_
    refine g_callVv (n := 19) (rest := []) (av := [vr 66, vi 1]) (j := 52) ok (kX6_carryAll_b (up K5 52 22 1) 1 (by decide)) knX6_carryAll q807 q809 qs32 clsX6 rfl dX6_image_16 rfl rfl (Nat.le_of_ble_eq_true rfl) (by decide) (by decide) rfl ?_
    refine g_aload_n (n := 20) ok 0 dX6_image_19 rfl rfl rfl ?_
    refine g_get (n := 23) (v := vi ((fX6_carryAll_b (up K5 52 22 1) 1) 52 5)) (c := 6) (k := 5) ok dX6_image_20 clsX6 (by decide) q683 rfl rfl rfl ?_
    exact g_iret ok hr dX6_image_23
  exact C5_2 _

noncomputable def fX6_restore_c5 (K5 : HI) : Int32 × HI :=
  if K5 52 22 = 0 then ((fX6_refuse K5 (-3)).1, ((fX6_refuse K5 (-3)).2)) else ((fX6_carryAll_b K5 0) 52 5, (fX6_carryAll_b K5 0))
noncomputable def fX6_restore (I : HI) : Int32 × HI :=
  fX6_restore_c5 (up I 52 10 0)
theorem knX6_restore : Kn yX6_restore cX6_restore 1 (some .int) 0 := ⟨q886, q8, ⟨by decide, by decide⟩, by decide +kernel⟩
set_option maxHeartbeats 400000 in
set_option maxRecDepth 100000 in
theorem kX6_restore (I : HI) : Cx yX6_restore cX6_restore 1 (some .int) 2 44 [vr 52] I ((some (vi (((fX6_restore I).1))), (fX6_restore I).2)) := by
  refine Cx.mk (lv := [(0, vr 52)]) (by decide) (Nat.le_of_ble_eq_true rfl) rfl (fun E ok hr => ?_)
  rw [fX6_restore]
  refine g_aload_n (n := 1) ok 0 dX6_restore_0 rfl rfl rfl ?_
  refine g_iconst (n := 2) (v := 0) ok dX6_restore_1 rfl rfl ?_
  refine g_put (n := 5) (J := up I 52 10 0) (c := 6) (k := 10) ok dX6_restore_2 clsX6 tyX6 tyX6_ok nmX6 (by decide) q688 rfl rfl (fun _ => rfl) (fun _ => rfl) (Nat.le_of_ble_eq_true rfl) (fs_6_10 _ _ _) up_ne rfl ?_
  have C5_3 : ∀ (K5 : HI), G E 1 ((some (vi (((fX6_restore_c5 K5).1))), (fX6_restore_c5 K5).2)) K5 5 [(0, vr 52)] [] := by
    intro K5
    rw [fX6_restore_c5]
    refine g_aload_n (n := 6) ok 0 dX6_restore_5 rfl rfl rfl ?_
    refine g_get (n := 9) (v := vi (K5 52 22)) (c := 6) (k := 22) ok dX6_restore_6 clsX6 (by decide) q700 rfl rfl rfl ?_
    refine g_if_ne (n := 12) (tgt := 19) ok dX6_restore_9 (by decide) rfl (fun c2 => ?_) (fun c2 => ?_)
    · rw [if_neg c2]
      refine g_aload_n (n := 20) ok 0 dX6_restore_19 rfl rfl rfl ?_
      refine g_aload_n (n := 21) ok 0 dX6_restore_20 rfl rfl rfl ?_
      refine g_get (n := 24) (v := vr 66) (c := 6) (k := 21) ok dX6_restore_21 clsX6 (by decide) q699 rfl rfl rfl ?_
      refine g_iconst (n := 25) (v := 0) ok dX6_restore_24 rfl rfl ?_
      refine g_callVv (n := 28) (rest := []) (av := [vr 66, vi 0]) (j := 52) ok (kX6_carryAll_b K5 0 (by decide)) knX6_carryAll q807 q809 qs32 clsX6 rfl dX6_restore_25 rfl rfl (Nat.le_of_ble_eq_true rfl) (by decide) (by decide) rfl ?_
      refine g_aload_n (n := 29) ok 0 dX6_restore_28 rfl rfl rfl ?_
      refine g_get (n := 32) (v := vi ((fX6_carryAll_b K5 0) 52 5)) (c := 6) (k := 5) ok dX6_restore_29 clsX6 (by decide) q683 rfl rfl rfl ?_
      exact g_iret ok hr dX6_restore_32
    · rw [if_pos c2]
      refine g_aload_n (n := 13) ok 0 dX6_restore_12 rfl rfl rfl ?_
      refine g_bipush (n := 15) (v := -3) ok dX6_restore_13 rfl rfl ?_
      refine g_callV (n := 18) (rest := []) (av := [vi (-3)]) (j := 52) ok (kX6_refuse K5 (-3) (vp_b (by decide +kernel))) knX6_refuse q770 q772 qs25 clsX6 rfl dX6_restore_15 rfl rfl (Nat.le_of_ble_eq_true rfl) (by decide) (by decide) rfl ?_
      exact g_iret ok hr dX6_restore_18
  exact C5_3 _

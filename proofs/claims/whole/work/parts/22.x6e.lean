noncomputable def fX6_calm_x43 (x43_6 : Int32) (J43 : HI) : Int32 × HI :=
  (x43_6, J43)
noncomputable def fX6_calm_b43 (foot : Int32) (push : Int32) (lean : Int32) (n : Int32) (i43 : Nat) (x43_6 : Int32) (J43 : HI) : Int32 × HI :=
  if (fX6_growsBy J43 (nI i43) (ix foot) push lean (ix n)).1 ≤ 0 then (x43_6 ||| (1 <<< ((nI i43) &&& 31)), ((fX6_growsBy J43 (nI i43) (ix foot) push lean (ix n)).2)) else (x43_6 ||| 0, ((fX6_growsBy J43 (nI i43) (ix foot) push lean (ix n)).2))
noncomputable def fX6_calm_c5 (foot : Int32) (push : Int32) (lean : Int32) (n : Int32) (K5 : HI) : Int32 × HI :=
  if fX6_isFoot foot = 0 then ((fX6_refuse K5 (-1)).1, ((fX6_refuse K5 (-1)).2)) else (if 0 ≤ fX6_wrongGrowth push lean n then (fun (s : Int32 × HI) => fX6_calm_x43 s.1 s.2) (fo 7 0 (fun (i : Nat) (s : Int32 × HI) => fX6_calm_b43 foot push lean n i s.1 s.2) (0, K5)) else ((fX6_refuse K5 (fX6_wrongGrowth push lean n)).1, ((fX6_refuse K5 (fX6_wrongGrowth push lean n)).2)))
noncomputable def fX6_calm (I : HI) (foot : Int32) (push : Int32) (lean : Int32) (n : Int32) : Int32 × HI :=
  fX6_calm_c5 foot push lean n (up I 52 10 0)
theorem knX6_calm : Kn yX6_calm cX6_calm 8 (some .int) 4 := ⟨q1002, q8, ⟨by decide, by decide⟩, by decide +kernel⟩
set_option maxHeartbeats 400000 in
set_option maxRecDepth 100000 in
theorem kX6_calm (I : HI) (foot : Int32) (push : Int32) (lean : Int32) (n : Int32) (hd : vp_in (I 52 5) 7) : Cx yX6_calm cX6_calm 8 (some .int) 5 129 [vr 52, vi foot, vi push, vi lean, vi n] I ((some (vi (((fX6_calm I foot push lean n).1))), (fX6_calm I foot push lean n).2)) := by
  refine Cx.mk (lv := [(0, vr 52), (1, vi foot), (2, vi push), (3, vi lean), (4, vi n)]) (by decide) (Nat.le_of_ble_eq_true rfl) rfl (fun E ok hr => ?_)
  rw [fX6_calm]
  refine g_aload_n (n := 1) ok 0 dX6_calm_0 rfl rfl rfl ?_
  refine g_iconst (n := 2) (v := 0) ok dX6_calm_1 rfl rfl ?_
  refine g_put (n := 5) (J := up I 52 10 0) (c := 6) (k := 10) ok dX6_calm_2 clsX6 tyX6 tyX6_ok nmX6 (by decide) q688 rfl rfl (fun _ => rfl) (fun _ => rfl) (Nat.le_of_ble_eq_true rfl) (fs_6_10 _ _ _) up_ne rfl ?_
  have C5_14 : ∀ (K5 : HI) (hd2 : vp_in (K5 52 5) 7), G E 8 ((some (vi (((fX6_calm_c5 foot push lean n K5).1))), (fX6_calm_c5 foot push lean n K5).2)) K5 5 [(0, vr 52), (1, vi foot), (2, vi push), (3, vi lean), (4, vi n)] [] := by
    intro K5 hd2
    rw [fX6_calm_c5]
    have hd3 := vb hd2
    refine g_iload_n (n := 6) ok 1 dX6_calm_5 rfl rfl rfl ?_
    refine g_callS (n := 9) (rest := []) (av := [vi foot]) ok (kX6_isFoot K5 foot) knX6_isFoot q834 q835 dX6_calm_6 rfl rfl (Nat.le_of_ble_eq_true rfl) (by decide) (by decide) rfl ?_
    refine g_if_ne (n := 12) (tgt := 16) ok dX6_calm_9 (by decide) rfl (fun c6 => ?_) (fun c6 => ?_)
    · rw [if_neg c6]
      have ha7 : vp_in foot 2 := isFoot6_in c6
      have ha7b := vb ha7
      refine g_iload_n (n := 17) ok 2 dX6_calm_16 rfl rfl rfl ?_
      refine g_iload_n (n := 18) ok 3 dX6_calm_17 rfl rfl rfl ?_
      refine g_iload (n := 20) ok 4 dX6_calm_18 rfl rfl ?_
      refine g_callS (n := 23) (rest := []) (av := [vi push, vi lean, vi n]) ok (kX6_wrongGrowth K5 push lean n) knX6_wrongGrowth q991 q992 dX6_calm_20 rfl rfl (Nat.le_of_ble_eq_true rfl) (by decide) (by decide) rfl ?_
      refine g_istore (n := 25) (lv' := [(5, vi (fX6_wrongGrowth push lean n)), (0, vr 52), (1, vi foot), (2, vi push), (3, vi lean), (4, vi n)]) ok dX6_calm_23 (by decide) rfl rfl ?_
      refine g_iload (n := 27) ok 0 dX6_calm_25 rfl rfl ?_
      refine g_if_ge (n := 30) (tgt := 37) ok dX6_calm_27 (by decide) rfl (fun c8 => ?_) (fun c8 => ?_)
      · rw [if_pos c8]
        have ha9 : vp_in n 10 := wrongGrowth_in10 c8
        have ha9b := vb ha9
        have hx10 := wrongGrowth_ne c8
        have hx11 := wrongGrowth_ge c8
        refine g_iconst (n := 38) (v := 0) ok dX6_calm_37 rfl rfl ?_
        refine g_istore (n := 40) (lv' := [(6, vi 0), (5, vi (fX6_wrongGrowth push lean n)), (0, vr 52), (1, vi foot), (2, vi push), (3, vi lean), (4, vi n)]) ok dX6_calm_38 (by decide) rfl rfl ?_
        refine g_iconst (n := 41) (v := 0) ok dX6_calm_40 rfl rfl ?_
        refine g_istore (n := 43) (lv' := [(7, vi 0), (6, vi 0), (5, vi (fX6_wrongGrowth push lean n)), (0, vr 52), (1, vi foot), (2, vi push), (3, vi lean), (4, vi n)]) ok dX6_calm_41 (by decide) rfl rfl ?_
        have X43 : ∀ (x43_6 : Int32) (J43 : HI) (hd4 : vp_in (J43 52 5) 7), G E 8 ((some (vi (((fX6_calm_x43 x43_6 J43).1))), (fX6_calm_x43 x43_6 J43).2)) J43 83 [(6, vi x43_6)] [] := by
          intro x43_6 J43 hd4
          rw [fX6_calm_x43]
          refine g_iload (n := 85) ok 0 dX6_calm_83 rfl rfl ?_
          exact g_iret ok hr dX6_calm_85
        have L43 : ∀ (n43 i43 : Nat) (x43_6 : Int32) (J43 : HI) (hd4 : vp_in (J43 52 5) 7) (hi : i43 + n43 = 7), G E 8 ((some (vi ((((fun (s : Int32 × HI) => fX6_calm_x43 s.1 s.2) (fo n43 i43 (fun (i : Nat) (s : Int32 × HI) => fX6_calm_b43 foot push lean n i s.1 s.2) (x43_6, J43))).1))), ((fun (s : Int32 × HI) => fX6_calm_x43 s.1 s.2) (fo n43 i43 (fun (i : Nat) (s : Int32 × HI) => fX6_calm_b43 foot push lean n i s.1 s.2) (x43_6, J43))).2)) J43 43 [(7, vi (nI i43)), (6, vi x43_6), (0, vr 52), (1, vi foot), (2, vi push), (3, vi lean), (4, vi n)] [] := by
          intro n43
          induction n43 with
          | zero =>
            intro i43 x43_6 J43 hd4 hi
            rw [fo_0]
            refine g_iload (n := 45) ok 0 dX6_calm_43 rfl rfl ?_
            refine g_bipush (n := 47) (v := 7) ok dX6_calm_45 rfl rfl ?_
            refine g_icmp_ge (n := 50) (tgt := 83) ok dX6_calm_47 (by decide) rfl (fun c => ?_) (fun c => absurd (nle (a := 7) (b := i43) rfl rfl (by omega) (by omega)) c)
            refine g_sub [1] rfl ?_
            exact X43 _ _ hd4
          | succ n43 ih =>
            intro i43 x43_6 J43 hd4 hi
            refine g_iload (n := 45) ok 0 dX6_calm_43 rfl rfl ?_
            refine g_bipush (n := 47) (v := 7) ok dX6_calm_45 rfl rfl ?_
            refine g_icmp_ge (n := 50) (tgt := 83) ok dX6_calm_47 (by decide) rfl (fun c => absurd c (nnle (a := 7) (b := i43) rfl rfl (by omega) (by omega))) (fun c => ?_)
            rw [fo_s]
            show G E 8 ((some (vi ((((fun (s : Int32 × HI) => fX6_calm_x43 s.1 s.2) (fo n43 (i43 + 1) (fun (i : Nat) (s : Int32 × HI) => fX6_calm_b43 foot push lean n i s.1 s.2) (fX6_calm_b43 foot push lean n i43 x43_6 J43))).1))), ((fun (s : Int32 × HI) => fX6_calm_x43 s.1 s.2) (fo n43 (i43 + 1) (fun (i : Nat) (s : Int32 × HI) => fX6_calm_b43 foot push lean n i s.1 s.2) (fX6_calm_b43 foot push lean n i43 x43_6 J43))).2)) _ _ _ _
            rw [fX6_calm_b43]
            refine g_iload (n := 52) ok 1 dX6_calm_50 rfl rfl ?_
            refine g_aload_n (n := 53) ok 2 dX6_calm_52 rfl rfl rfl ?_
            refine g_iload (n := 55) ok 0 dX6_calm_53 rfl rfl ?_
            refine g_iload_n (n := 56) ok 3 dX6_calm_55 rfl rfl rfl ?_
            refine g_iload_n (n := 57) ok 4 dX6_calm_56 rfl rfl rfl ?_
            refine g_iload_n (n := 58) ok 5 dX6_calm_57 rfl rfl rfl ?_
            refine g_iload (n := 60) ok 6 dX6_calm_58 rfl rfl ?_
            refine g_callV (n := 63) (rest := [vi x43_6]) (av := [vi (nI i43), vi (nI (ix foot)), vi push, vi lean, vi (nI (ix n))]) (j := 52) ok (kX6_growsBy J43 (nI i43) (ix foot) push lean (ix n) hd4 (by first | with_reducible assumption | omega) (by first | with_reducible assumption | omega) (by first | with_reducible assumption | omega) (by first | with_reducible assumption | omega)) knX6_growsBy q995 q997 qs54 clsX6 rfl dX6_calm_60 (lcons (congrArg vi (vx ha9)) (lcons rfl (lcons rfl (lcons (congrArg vi (vx ha7)) (lcons rfl (lcons rfl rfl)))))) rfl (Nat.le_of_ble_eq_true rfl) (by decide) (by decide) rfl ?_
            refine g_if_le (n := 66) (tgt := 70) ok dX6_calm_63 (by decide) rfl (fun c12 => ?_) (fun c12 => ?_)
            · rw [if_pos c12]
              refine g_iconst (n := 71) (v := 1) ok dX6_calm_70 rfl rfl ?_
              refine g_iload (n := 73) ok 0 dX6_calm_71 rfl rfl ?_
              refine g_ishl (n := 74) ok dX6_calm_73 rfl ?_
              refine g_ior (n := 75) ok dX6_calm_74 rfl ?_
              refine g_istore (n := 77) (lv' := [(6, vi (x43_6 ||| (1 <<< ((nI i43) &&& 31)))), (7, vi (nI i43)), (0, vr 52), (1, vi foot), (2, vi push), (3, vi lean), (4, vi n)]) ok dX6_calm_75 (by decide) rfl rfl ?_
              refine g_iinc (n := 80) (v := nI (i43 + 1)) (lv' := [(7, vi (nI (i43 + 1))), (6, vi (x43_6 ||| (1 <<< ((nI i43) &&& 31)))), (0, vr 52), (1, vi foot), (2, vi push), (3, vi lean), (4, vi n)]) ok 1 dX6_calm_77 rfl (iinc_n (a := i43) rfl) (by decide) rfl rfl ?_
              refine g_goto (tgt := 43) ok dX6_calm_80 (by decide) ?_
              exact ih (i43 + 1) (x43_6 ||| (1 <<< ((nI i43) &&& 31))) _ (by rw [growsBy_tr]; exact hd4) (by omega)
            · rw [if_neg c12]
              refine g_iconst (n := 67) (v := 0) ok dX6_calm_66 rfl rfl ?_
              refine g_goto (tgt := 74) ok dX6_calm_67 (by decide) ?_
              refine g_ior (n := 75) ok dX6_calm_74 rfl ?_
              refine g_istore (n := 77) (lv' := [(6, vi (x43_6 ||| 0)), (7, vi (nI i43)), (0, vr 52), (1, vi foot), (2, vi push), (3, vi lean), (4, vi n)]) ok dX6_calm_75 (by decide) rfl rfl ?_
              refine g_iinc (n := 80) (v := nI (i43 + 1)) (lv' := [(7, vi (nI (i43 + 1))), (6, vi (x43_6 ||| 0)), (0, vr 52), (1, vi foot), (2, vi push), (3, vi lean), (4, vi n)]) ok 1 dX6_calm_77 rfl (iinc_n (a := i43) rfl) (by decide) rfl rfl ?_
              refine g_goto (tgt := 43) ok dX6_calm_80 (by decide) ?_
              exact ih (i43 + 1) (x43_6 ||| 0) _ (by rw [growsBy_tr]; exact hd4) (by omega)
        refine g_sub [0, 1, 3, 4, 5, 6, 7] rfl ?_
        exact L43 7 0 0 _ hd2 (by omega)
      · rw [if_neg c8]
        refine g_aload_n (n := 31) ok 1 dX6_calm_30 rfl rfl rfl ?_
        refine g_iload (n := 33) ok 0 dX6_calm_31 rfl rfl ?_
        refine g_callV (n := 36) (rest := []) (av := [vi (fX6_wrongGrowth push lean n)]) (j := 52) ok (kX6_refuse K5 (fX6_wrongGrowth push lean n) wrongGrowth_in) knX6_refuse q770 q772 qs25 clsX6 rfl dX6_calm_33 rfl rfl (Nat.le_of_ble_eq_true rfl) (by decide) (by decide) rfl ?_
        exact g_iret ok hr dX6_calm_36
    · rw [if_pos c6]
      refine g_iconst (n := 13) (v := -1) ok dX6_calm_12 rfl rfl ?_
      refine g_goto (tgt := 23) ok dX6_calm_13 (by decide) ?_
      refine g_istore (n := 25) (lv' := [(5, vi (-1)), (0, vr 52), (1, vi foot), (2, vi push), (3, vi lean), (4, vi n)]) ok dX6_calm_23 (by decide) rfl rfl ?_
      refine g_iload (n := 27) ok 0 dX6_calm_25 rfl rfl ?_
      refine g_if_ge (n := 30) (tgt := 37) ok dX6_calm_27 (by decide) rfl (fun c13 => ?_) (fun c13 => ?_)
      · exact absurd c13 (by decide)
      · refine g_aload_n (n := 31) ok 1 dX6_calm_30 rfl rfl rfl ?_
        refine g_iload (n := 33) ok 0 dX6_calm_31 rfl rfl ?_
        refine g_callV (n := 36) (rest := []) (av := [vi (-1)]) (j := 52) ok (kX6_refuse K5 (-1) (vp_b (by decide +kernel))) knX6_refuse q770 q772 qs25 clsX6 rfl dX6_calm_33 rfl rfl (Nat.le_of_ble_eq_true rfl) (by decide) (by decide) rfl ?_
        exact g_iret ok hr dX6_calm_36
  exact C5_14 _ (by rw [up_k (by omega)]; exact hd)

noncomputable def fX6_closes_x28 (x28_4 : Int32) (x28_3 : Int32) (x28_2 : Int32) (J28 : HI) : Int32 × HI :=
  (x28_2, J28)
noncomputable def fX6_closes_x38 (x38_4 : Int32) (x38_3 : Int32) (x38_2 : Int32) (J38 : HI) : Int32 × Int32 × Int32 × HI :=
  (x38_4, x38_3, x38_2, J38)
noncomputable def fX6_closes_145 (x38_4 : Int32) (v6 : Nat) (K70 : HI) (v27 : Int32) (v39 : Int32) (v50 : Int32) : Int32 × Int32 × Int32 × HI :=
  if v27 = 0 then (x38_4, v50, v39, K70) else (fX6_offOf K70 v6, v50, v39, K70)
noncomputable def fX6_closes_133 (x38_4 : Int32) (x38_3 : Int32) (v6 : Nat) (K70 : HI) (v27 : Int32) (v39 : Int32) : Int32 × Int32 × Int32 × HI :=
  fX6_closes_145 x38_4 v6 K70 v27 v39 (if v27 = 0 then x38_3 else fX6_gapOf K70 v6)
noncomputable def fX6_closes_114 (i28 : Nat) (x38_4 : Int32) (x38_3 : Int32) (x38_2 : Int32) (i38 : Nat) (v6 : Nat) (K70 : HI) (v27 : Int32) : Int32 × Int32 × Int32 × HI :=
  fX6_closes_133 x38_4 x38_3 v6 K70 v27 (if v27 = 0 then x38_2 else nI ((10 * i28) + i38))
noncomputable def fX6_closes_c70 (i28 : Nat) (x38_4 : Int32) (x38_3 : Int32) (x38_2 : Int32) (i38 : Nat) (v6 : Nat) (K70 : HI) : Int32 × Int32 × Int32 × HI :=
  fX6_closes_114 i28 x38_4 x38_3 x38_2 i38 v6 K70 (if x38_2 = 0 then 1 else (if fX6_gapOf K70 v6 < x38_3 then 1 else (if fX6_gapOf K70 v6 = x38_3 then (if x38_4 ≤ fX6_offOf K70 v6 then 0 else 1) else 0)))
noncomputable def fX6_closes_b38 (foot : Int32) (i28 : Nat) (i38 : Nat) (x38_4 : Int32) (x38_3 : Int32) (x38_2 : Int32) (J38 : HI) : Int32 × Int32 × Int32 × HI :=
  fX6_closes_c70 i28 x38_4 x38_3 x38_2 i38 ((fX6_drawBy J38 (J38 52 3) (ix foot) (nI i28) (nI i38)).1) (up ((fX6_drawBy J38 (J38 52 3) (ix foot) (nI i28) (nI i38)).2) 52 5 ((((fX6_drawBy J38 (J38 52 3) (ix foot) (nI i28) (nI i38)).2) 52 5) - 1))
noncomputable def fX6_closes_b28 (foot : Int32) (i28 : Nat) (x28_4 : Int32) (x28_3 : Int32) (x28_2 : Int32) (J28 : HI) : Int32 × Int32 × Int32 × HI :=
  (fun (s : Int32 × Int32 × Int32 × HI) => fX6_closes_x38 s.1 s.2.1 s.2.2.1 s.2.2.2) (fo 9 1 (fun (i : Nat) (s : Int32 × Int32 × Int32 × HI) => fX6_closes_b38 foot i28 i s.1 s.2.1 s.2.2.1 s.2.2.2) (x28_4, x28_3, x28_2, J28))
noncomputable def fX6_closes_c5 (foot : Int32) (K5 : HI) : Int32 × HI :=
  if fX6_isFoot foot = 0 then ((fX6_refuse K5 (-1)).1, ((fX6_refuse K5 (-1)).2)) else (fun (s : Int32 × Int32 × Int32 × HI) => fX6_closes_x28 s.1 s.2.1 s.2.2.1 s.2.2.2) (fo 9 1 (fun (i : Nat) (s : Int32 × Int32 × Int32 × HI) => fX6_closes_b28 foot i s.1 s.2.1 s.2.2.1 s.2.2.2) (0, 0, 0, K5))
noncomputable def fX6_closes (I : HI) (foot : Int32) : Int32 × HI :=
  fX6_closes_c5 foot (up I 52 10 0)
theorem knX6_closes : Kn yX6_closes cX6_closes 11 (some .int) 1 := ⟨q1006, q8, ⟨by decide, by decide⟩, by decide +kernel⟩
set_option maxHeartbeats 400000 in
set_option maxRecDepth 100000 in
theorem kX6_closes (I : HI) (foot : Int32) (hd : vp_in (I 52 5) 7) : Cx yX6_closes cX6_closes 11 (some .int) 4 100 [vr 52, vi foot] I ((some (vi (((fX6_closes I foot).1))), (fX6_closes I foot).2)) := by
  refine Cx.mk (lv := [(0, vr 52), (1, vi foot)]) (by decide) (Nat.le_of_ble_eq_true rfl) rfl (fun E ok hr => ?_)
  rw [fX6_closes]
  refine g_aload_n (n := 1) ok 0 dX6_closes_0 rfl rfl rfl ?_
  refine g_iconst (n := 2) (v := 0) ok dX6_closes_1 rfl rfl ?_
  refine g_put (n := 5) (J := up I 52 10 0) (c := 6) (k := 10) ok dX6_closes_2 clsX6 tyX6 tyX6_ok nmX6 (by decide) q688 rfl rfl (fun _ => rfl) (fun _ => rfl) (Nat.le_of_ble_eq_true rfl) (fs_6_10 _ _ _) up_ne rfl ?_
  have C5_54 : ∀ (K5 : HI) (hd2 : vp_in (K5 52 5) 7), G E 11 ((some (vi (((fX6_closes_c5 foot K5).1))), (fX6_closes_c5 foot K5).2)) K5 5 [(0, vr 52), (1, vi foot)] [] := by
    intro K5 hd2
    rw [fX6_closes_c5]
    have hd3 := vb hd2
    refine g_iload_n (n := 6) ok 1 dX6_closes_5 rfl rfl rfl ?_
    refine g_callS (n := 9) (rest := []) (av := [vi foot]) ok (kX6_isFoot K5 foot) knX6_isFoot q834 q835 dX6_closes_6 rfl rfl (Nat.le_of_ble_eq_true rfl) (by decide) (by decide) rfl ?_
    refine g_if_ne (n := 12) (tgt := 18) ok dX6_closes_9 (by decide) rfl (fun c3 => ?_) (fun c3 => ?_)
    · rw [if_neg c3]
      have ha4 : vp_in foot 2 := isFoot6_in c3
      have ha4b := vb ha4
      refine g_iconst (n := 19) (v := 0) ok dX6_closes_18 rfl rfl ?_
      refine g_istore_n (n := 20) (lv' := [(2, vi 0), (0, vr 52), (1, vi foot)]) ok dX6_closes_19 rfl (by decide) rfl rfl ?_
      refine g_iconst (n := 21) (v := 0) ok dX6_closes_20 rfl rfl ?_
      refine g_istore_n (n := 22) (lv' := [(3, vi 0), (2, vi 0), (0, vr 52), (1, vi foot)]) ok dX6_closes_21 rfl (by decide) rfl rfl ?_
      refine g_iconst (n := 23) (v := 0) ok dX6_closes_22 rfl rfl ?_
      refine g_istore (n := 25) (lv' := [(4, vi 0), (3, vi 0), (2, vi 0), (0, vr 52), (1, vi foot)]) ok dX6_closes_23 (by decide) rfl rfl ?_
      refine g_iconst (n := 26) (v := 1) ok dX6_closes_25 rfl rfl ?_
      refine g_istore (n := 28) (lv' := [(5, vi 1), (4, vi 0), (3, vi 0), (2, vi 0), (0, vr 52), (1, vi foot)]) ok dX6_closes_26 (by decide) rfl rfl ?_
      have X28 : ∀ (x28_4 : Int32) (x28_3 : Int32) (x28_2 : Int32) (J28 : HI) (hd4 : vp_in (J28 52 5) 7), G E 11 ((some (vi (((fX6_closes_x28 x28_4 x28_3 x28_2 J28).1))), (fX6_closes_x28 x28_4 x28_3 x28_2 J28).2)) J28 172 [(2, vi x28_2)] [] := by
        intro x28_4 x28_3 x28_2 J28 hd4
        rw [fX6_closes_x28]
        refine g_iload_n (n := 173) ok 0 dX6_closes_172 rfl rfl rfl ?_
        exact g_iret ok hr dX6_closes_173
      have L28 : ∀ (n28 i28 : Nat) (x28_4 : Int32) (x28_3 : Int32) (x28_2 : Int32) (J28 : HI) (hd4 : vp_in (J28 52 5) 7) (hge28 : 1 ≤ i28) (hi : i28 + n28 = 10), G E 11 ((some (vi ((((fun (s : Int32 × Int32 × Int32 × HI) => fX6_closes_x28 s.1 s.2.1 s.2.2.1 s.2.2.2) (fo n28 i28 (fun (i : Nat) (s : Int32 × Int32 × Int32 × HI) => fX6_closes_b28 foot i s.1 s.2.1 s.2.2.1 s.2.2.2) (x28_4, x28_3, x28_2, J28))).1))), ((fun (s : Int32 × Int32 × Int32 × HI) => fX6_closes_x28 s.1 s.2.1 s.2.2.1 s.2.2.2) (fo n28 i28 (fun (i : Nat) (s : Int32 × Int32 × Int32 × HI) => fX6_closes_b28 foot i s.1 s.2.1 s.2.2.1 s.2.2.2) (x28_4, x28_3, x28_2, J28))).2)) J28 28 [(5, vi (nI i28)), (4, vi x28_4), (3, vi x28_3), (2, vi x28_2), (0, vr 52), (1, vi foot)] [] := by
        intro n28
        induction n28 with
        | zero =>
          intro i28 x28_4 x28_3 x28_2 J28 hd4 hge28 hi
          rw [fo_0]
          refine g_iload (n := 30) ok 0 dX6_closes_28 rfl rfl ?_
          refine g_bipush (n := 32) (v := 10) ok dX6_closes_30 rfl rfl ?_
          refine g_icmp_ge (n := 35) (tgt := 172) ok dX6_closes_32 (by decide) rfl (fun c => ?_) (fun c => absurd (nle (a := 10) (b := i28) rfl rfl (by omega) (by omega)) c)
          refine g_sub [3] rfl ?_
          exact X28 _ _ _ _ hd4
        | succ n28 ih =>
          intro i28 x28_4 x28_3 x28_2 J28 hd4 hge28 hi
          refine g_iload (n := 30) ok 0 dX6_closes_28 rfl rfl ?_
          refine g_bipush (n := 32) (v := 10) ok dX6_closes_30 rfl rfl ?_
          refine g_icmp_ge (n := 35) (tgt := 172) ok dX6_closes_32 (by decide) rfl (fun c => absurd c (nnle (a := 10) (b := i28) rfl rfl (by omega) (by omega))) (fun c => ?_)
          rw [fo_s]
          show G E 11 ((some (vi ((((fun (s : Int32 × Int32 × Int32 × HI) => fX6_closes_x28 s.1 s.2.1 s.2.2.1 s.2.2.2) (fo n28 (i28 + 1) (fun (i : Nat) (s : Int32 × Int32 × Int32 × HI) => fX6_closes_b28 foot i s.1 s.2.1 s.2.2.1 s.2.2.2) (fX6_closes_b28 foot i28 x28_4 x28_3 x28_2 J28))).1))), ((fun (s : Int32 × Int32 × Int32 × HI) => fX6_closes_x28 s.1 s.2.1 s.2.2.1 s.2.2.2) (fo n28 (i28 + 1) (fun (i : Nat) (s : Int32 × Int32 × Int32 × HI) => fX6_closes_b28 foot i s.1 s.2.1 s.2.2.1 s.2.2.2) (fX6_closes_b28 foot i28 x28_4 x28_3 x28_2 J28))).2)) _ _ _ _
          rw [fX6_closes_b28]
          refine g_iconst (n := 36) (v := 1) ok dX6_closes_35 rfl rfl ?_
          refine g_istore (n := 38) (lv' := [(6, vi 1), (5, vi (nI i28)), (4, vi x28_4), (3, vi x28_3), (2, vi x28_2), (0, vr 52), (1, vi foot)]) ok dX6_closes_36 (by decide) rfl rfl ?_
          have X38 : ∀ (x38_4 : Int32) (x38_3 : Int32) (x38_2 : Int32) (J38 : HI) (hd5 : vp_in (J38 52 5) 7), G E 11 ((some (vi ((((fun (s : Int32 × Int32 × Int32 × HI) => fX6_closes_x28 s.1 s.2.1 s.2.2.1 s.2.2.2) (fo n28 (i28 + 1) (fun (i : Nat) (s : Int32 × Int32 × Int32 × HI) => fX6_closes_b28 foot i s.1 s.2.1 s.2.2.1 s.2.2.2) (fX6_closes_x38 x38_4 x38_3 x38_2 J38))).1))), ((fun (s : Int32 × Int32 × Int32 × HI) => fX6_closes_x28 s.1 s.2.1 s.2.2.1 s.2.2.2) (fo n28 (i28 + 1) (fun (i : Nat) (s : Int32 × Int32 × Int32 × HI) => fX6_closes_b28 foot i s.1 s.2.1 s.2.2.1 s.2.2.2) (fX6_closes_x38 x38_4 x38_3 x38_2 J38))).2)) J38 166 [(5, vi (nI i28)), (4, vi x38_4), (3, vi x38_3), (2, vi x38_2), (0, vr 52), (1, vi foot)] [] := by
            intro x38_4 x38_3 x38_2 J38 hd5
            rw [fX6_closes_x38]
            refine g_iinc (n := 169) (v := nI (i28 + 1)) (lv' := [(5, vi (nI (i28 + 1))), (4, vi x38_4), (3, vi x38_3), (2, vi x38_2), (0, vr 52), (1, vi foot)]) ok 0 dX6_closes_166 rfl (iinc_n (a := i28) rfl) (by decide) rfl rfl ?_
            refine g_goto (tgt := 28) ok dX6_closes_169 (by decide) ?_
            exact ih (i28 + 1) x38_4 x38_3 x38_2 _ hd5 (by omega) (by omega)
          have L38 : ∀ (n38 i38 : Nat) (x38_4 : Int32) (x38_3 : Int32) (x38_2 : Int32) (J38 : HI) (hd5 : vp_in (J38 52 5) 7) (hge38 : 1 ≤ i38) (hi : i38 + n38 = 10), G E 11 ((some (vi ((((fun (s : Int32 × Int32 × Int32 × HI) => fX6_closes_x28 s.1 s.2.1 s.2.2.1 s.2.2.2) (fo n28 (i28 + 1) (fun (i : Nat) (s : Int32 × Int32 × Int32 × HI) => fX6_closes_b28 foot i s.1 s.2.1 s.2.2.1 s.2.2.2) ((fun (s : Int32 × Int32 × Int32 × HI) => fX6_closes_x38 s.1 s.2.1 s.2.2.1 s.2.2.2) (fo n38 i38 (fun (i : Nat) (s : Int32 × Int32 × Int32 × HI) => fX6_closes_b38 foot i28 i s.1 s.2.1 s.2.2.1 s.2.2.2) (x38_4, x38_3, x38_2, J38))))).1))), ((fun (s : Int32 × Int32 × Int32 × HI) => fX6_closes_x28 s.1 s.2.1 s.2.2.1 s.2.2.2) (fo n28 (i28 + 1) (fun (i : Nat) (s : Int32 × Int32 × Int32 × HI) => fX6_closes_b28 foot i s.1 s.2.1 s.2.2.1 s.2.2.2) ((fun (s : Int32 × Int32 × Int32 × HI) => fX6_closes_x38 s.1 s.2.1 s.2.2.1 s.2.2.2) (fo n38 i38 (fun (i : Nat) (s : Int32 × Int32 × Int32 × HI) => fX6_closes_b38 foot i28 i s.1 s.2.1 s.2.2.1 s.2.2.2) (x38_4, x38_3, x38_2, J38))))).2)) J38 38 [(6, vi (nI i38)), (5, vi (nI i28)), (4, vi x38_4), (3, vi x38_3), (2, vi x38_2), (0, vr 52), (1, vi foot)] [] := by
            intro n38
            induction n38 with
            | zero =>
              intro i38 x38_4 x38_3 x38_2 J38 hd5 hge38 hi
              rw [fo_0]
              refine g_iload (n := 40) ok 0 dX6_closes_38 rfl rfl ?_
              refine g_bipush (n := 42) (v := 10) ok dX6_closes_40 rfl rfl ?_
              refine g_icmp_ge (n := 45) (tgt := 166) ok dX6_closes_42 (by decide) rfl (fun c => ?_) (fun c => absurd (nle (a := 10) (b := i38) rfl rfl (by omega) (by omega)) c)
              refine g_sub [1, 2, 3, 4, 5, 6] rfl ?_
              exact X38 _ _ _ _ hd5
            | succ n38 ih =>
              intro i38 x38_4 x38_3 x38_2 J38 hd5 hge38 hi
              refine g_iload (n := 40) ok 0 dX6_closes_38 rfl rfl ?_
              refine g_bipush (n := 42) (v := 10) ok dX6_closes_40 rfl rfl ?_
              refine g_icmp_ge (n := 45) (tgt := 166) ok dX6_closes_42 (by decide) rfl (fun c => absurd c (nnle (a := 10) (b := i38) rfl rfl (by omega) (by omega))) (fun c => ?_)
              rw [fo_s]
              show G E 11 ((some (vi ((((fun (s : Int32 × Int32 × Int32 × HI) => fX6_closes_x28 s.1 s.2.1 s.2.2.1 s.2.2.2) (fo n28 (i28 + 1) (fun (i : Nat) (s : Int32 × Int32 × Int32 × HI) => fX6_closes_b28 foot i s.1 s.2.1 s.2.2.1 s.2.2.2) ((fun (s : Int32 × Int32 × Int32 × HI) => fX6_closes_x38 s.1 s.2.1 s.2.2.1 s.2.2.2) (fo n38 (i38 + 1) (fun (i : Nat) (s : Int32 × Int32 × Int32 × HI) => fX6_closes_b38 foot i28 i s.1 s.2.1 s.2.2.1 s.2.2.2) (fX6_closes_b38 foot i28 i38 x38_4 x38_3 x38_2 J38))))).1))), ((fun (s : Int32 × Int32 × Int32 × HI) => fX6_closes_x28 s.1 s.2.1 s.2.2.1 s.2.2.2) (fo n28 (i28 + 1) (fun (i : Nat) (s : Int32 × Int32 × Int32 × HI) => fX6_closes_b28 foot i s.1 s.2.1 s.2.2.1 s.2.2.2) ((fun (s : Int32 × Int32 × Int32 × HI) => fX6_closes_x38 s.1 s.2.1 s.2.2.1 s.2.2.2) (fo n38 (i38 + 1) (fun (i : Nat) (s : Int32 × Int32 × Int32 × HI) => fX6_closes_b38 foot i28 i s.1 s.2.1 s.2.2.1 s.2.2.2) (fX6_closes_b38 foot i28 i38 x38_4 x38_3 x38_2 J38))))).2)) _ _ _ _
              rw [fX6_closes_b38]
              refine g_aload_n (n := 46) ok 5 dX6_closes_45 rfl rfl rfl ?_
              refine g_aload_n (n := 47) ok 5 dX6_closes_46 rfl rfl rfl ?_
              refine g_get (n := 50) (v := vi (J38 52 3)) (c := 6) (k := 3) ok dX6_closes_47 clsX6 (by decide) q681 rfl rfl rfl ?_
              refine g_iload_n (n := 51) ok 6 dX6_closes_50 rfl rfl rfl ?_
              refine g_iload (n := 53) ok 1 dX6_closes_51 rfl rfl ?_
              refine g_iload (n := 55) ok 0 dX6_closes_53 rfl rfl ?_
              refine g_callV (n := 58) (rest := []) (av := [vi (J38 52 3), vi (nI (ix foot)), vi (nI i28), vi (nI i38)]) (j := 52) ok (kX6_drawBy J38 (J38 52 3) (ix foot) (nI i28) (nI i38) (vp_mono hd5 (by omega)) (by first | with_reducible assumption | omega) (nI_ne0 (by omega) (by omega))) knX6_drawBy q848 q850 qs38 clsX6 rfl dX6_closes_55 (lcons rfl (lcons rfl (lcons (congrArg vi (vx ha4)) (lcons rfl (lcons rfl rfl))))) rfl (Nat.le_of_ble_eq_true rfl) (by decide) (by decide) rfl ?_
              have hp5 : (fX6_drawBy J38 (J38 52 3) (ix foot) (nI i28) (nI i38)).1 = ix (J38 52 5) := rfl
              refine g_istore (n := 60) (lv' := [(7, vi (nI ((fX6_drawBy J38 (J38 52 3) (ix foot) (nI i28) (nI i38)).1))), (6, vi (nI i38)), (5, vi (nI i28)), (4, vi x38_4), (3, vi x38_3), (2, vi x38_2), (0, vr 52), (1, vi foot)]) ok dX6_closes_58 (by decide) rfl rfl ?_
              refine g_aload_n (n := 61) ok 6 dX6_closes_60 rfl rfl rfl ?_
              refine g_dup (n := 62) ok dX6_closes_61 rfl rfl ?_
              refine g_get (n := 65) (v := vi (((fX6_drawBy J38 (J38 52 3) (ix foot) (nI i28) (nI i38)).2) 52 5)) (c := 6) (k := 5) ok dX6_closes_62 clsX6 (by decide) q683 rfl rfl rfl ?_
              refine g_iconst (n := 66) (v := 1) ok dX6_closes_65 rfl rfl ?_
              refine g_isub (n := 67) ok dX6_closes_66 rfl ?_
              refine g_put (n := 70) (J := up ((fX6_drawBy J38 (J38 52 3) (ix foot) (nI i28) (nI i38)).2) 52 5 ((((fX6_drawBy J38 (J38 52 3) (ix foot) (nI i28) (nI i38)).2) 52 5) - 1)) (c := 6) (k := 5) ok dX6_closes_67 clsX6 tyX6 tyX6_ok nmX6 (by decide) q683 rfl rfl (fun _ => rfl) (fun _ => rfl) (Nat.le_of_ble_eq_true rfl) (fs_6_5 _ _ _) up_ne rfl ?_
              have C70_53 : ∀ (v6 : Nat) (K70 : HI) (hd6 : vp_in (K70 52 5) 7) (ht7 : v6 < 27), G E 11 ((some (vi ((((fun (s : Int32 × Int32 × Int32 × HI) => fX6_closes_x28 s.1 s.2.1 s.2.2.1 s.2.2.2) (fo n28 (i28 + 1) (fun (i : Nat) (s : Int32 × Int32 × Int32 × HI) => fX6_closes_b28 foot i s.1 s.2.1 s.2.2.1 s.2.2.2) ((fun (s : Int32 × Int32 × Int32 × HI) => fX6_closes_x38 s.1 s.2.1 s.2.2.1 s.2.2.2) (fo n38 (i38 + 1) (fun (i : Nat) (s : Int32 × Int32 × Int32 × HI) => fX6_closes_b38 foot i28 i s.1 s.2.1 s.2.2.1 s.2.2.2) (fX6_closes_c70 i28 x38_4 x38_3 x38_2 i38 v6 K70))))).1))), ((fun (s : Int32 × Int32 × Int32 × HI) => fX6_closes_x28 s.1 s.2.1 s.2.2.1 s.2.2.2) (fo n28 (i28 + 1) (fun (i : Nat) (s : Int32 × Int32 × Int32 × HI) => fX6_closes_b28 foot i s.1 s.2.1 s.2.2.1 s.2.2.2) ((fun (s : Int32 × Int32 × Int32 × HI) => fX6_closes_x38 s.1 s.2.1 s.2.2.1 s.2.2.2) (fo n38 (i38 + 1) (fun (i : Nat) (s : Int32 × Int32 × Int32 × HI) => fX6_closes_b38 foot i28 i s.1 s.2.1 s.2.2.1 s.2.2.2) (fX6_closes_c70 i28 x38_4 x38_3 x38_2 i38 v6 K70))))).2)) K70 70 [(7, vi (nI v6)), (6, vi (nI i38)), (5, vi (nI i28)), (4, vi x38_4), (3, vi x38_3), (2, vi x38_2), (0, vr 52), (1, vi foot)] [] := by
                intro v6 K70 hd6 ht7
                rw [fX6_closes_c70]
                refine g_aload_n (n := 71) ok 6 dX6_closes_70 rfl rfl rfl ?_
                refine g_iload (n := 73) ok 0 dX6_closes_71 rfl rfl ?_
                refine g_callV (n := 76) (rest := []) (av := [vi (nI v6)]) (j := 52) ok (kX6_gapOf K70 v6 (by first | with_reducible assumption | omega)) knX6_gapOf q932 q934 qs47 clsX6 rfl dX6_closes_73 rfl rfl (Nat.le_of_ble_eq_true rfl) (by decide) (by decide) rfl ?_
                refine g_istore (n := 78) (lv' := [(8, vi (fX6_gapOf K70 v6)), (7, vi (nI v6)), (6, vi (nI i38)), (5, vi (nI i28)), (4, vi x38_4), (3, vi x38_3), (2, vi x38_2), (0, vr 52), (1, vi foot)]) ok dX6_closes_76 (by decide) rfl rfl ?_
                refine g_aload_n (n := 79) ok 7 dX6_closes_78 rfl rfl rfl ?_
                refine g_iload (n := 81) ok 1 dX6_closes_79 rfl rfl ?_
                refine g_callV (n := 84) (rest := []) (av := [vi (nI v6)]) (j := 52) ok (kX6_offOf K70 v6 (by first | with_reducible assumption | omega)) knX6_offOf q939 q941 qs48 clsX6 rfl dX6_closes_81 rfl rfl (Nat.le_of_ble_eq_true rfl) (by decide) (by decide) rfl ?_
                refine g_istore (n := 86) (lv' := [(9, vi (fX6_offOf K70 v6)), (8, vi (fX6_gapOf K70 v6)), (7, vi (nI v6)), (6, vi (nI i38)), (5, vi (nI i28)), (4, vi x38_4), (3, vi x38_3), (2, vi x38_2), (0, vr 52), (1, vi foot)]) ok dX6_closes_84 (by decide) rfl rfl ?_
                refine g_iload_n (n := 87) ok 7 dX6_closes_86 rfl rfl rfl ?_
                have J114_28 : ∀ (v27 : Int32), G E 11 ((some (vi ((((fun (s : Int32 × Int32 × Int32 × HI) => fX6_closes_x28 s.1 s.2.1 s.2.2.1 s.2.2.2) (fo n28 (i28 + 1) (fun (i : Nat) (s : Int32 × Int32 × Int32 × HI) => fX6_closes_b28 foot i s.1 s.2.1 s.2.2.1 s.2.2.2) ((fun (s : Int32 × Int32 × Int32 × HI) => fX6_closes_x38 s.1 s.2.1 s.2.2.1 s.2.2.2) (fo n38 (i38 + 1) (fun (i : Nat) (s : Int32 × Int32 × Int32 × HI) => fX6_closes_b38 foot i28 i s.1 s.2.1 s.2.2.1 s.2.2.2) (fX6_closes_114 i28 x38_4 x38_3 x38_2 i38 v6 K70 v27))))).1))), ((fun (s : Int32 × Int32 × Int32 × HI) => fX6_closes_x28 s.1 s.2.1 s.2.2.1 s.2.2.2) (fo n28 (i28 + 1) (fun (i : Nat) (s : Int32 × Int32 × Int32 × HI) => fX6_closes_b28 foot i s.1 s.2.1 s.2.2.1 s.2.2.2) ((fun (s : Int32 × Int32 × Int32 × HI) => fX6_closes_x38 s.1 s.2.1 s.2.2.1 s.2.2.2) (fo n38 (i38 + 1) (fun (i : Nat) (s : Int32 × Int32 × Int32 × HI) => fX6_closes_b38 foot i28 i s.1 s.2.1 s.2.2.1 s.2.2.2) (fX6_closes_114 i28 x38_4 x38_3 x38_2 i38 v6 K70 v27))))).2)) K70 114 [(9, vi (fX6_offOf K70 v6)), (8, vi (fX6_gapOf K70 v6)), (6, vi (nI i38)), (5, vi (nI i28)), (4, vi x38_4), (3, vi x38_3), (2, vi x38_2), (0, vr 52), (1, vi foot)] [vi v27] := by
                  intro v27
                  rw [fX6_closes_114]
                  refine g_istore (n := 116) (lv' := [(10, vi v27), (9, vi (fX6_offOf K70 v6)), (8, vi (fX6_gapOf K70 v6)), (6, vi (nI i38)), (5, vi (nI i28)), (4, vi x38_4), (3, vi x38_3), (2, vi x38_2), (0, vr 52), (1, vi foot)]) ok dX6_closes_114 (by decide) rfl rfl ?_
                  refine g_iload (n := 118) ok 0 dX6_closes_116 rfl rfl ?_
                  have J133_40 : ∀ (v39 : Int32), G E 11 ((some (vi ((((fun (s : Int32 × Int32 × Int32 × HI) => fX6_closes_x28 s.1 s.2.1 s.2.2.1 s.2.2.2) (fo n28 (i28 + 1) (fun (i : Nat) (s : Int32 × Int32 × Int32 × HI) => fX6_closes_b28 foot i s.1 s.2.1 s.2.2.1 s.2.2.2) ((fun (s : Int32 × Int32 × Int32 × HI) => fX6_closes_x38 s.1 s.2.1 s.2.2.1 s.2.2.2) (fo n38 (i38 + 1) (fun (i : Nat) (s : Int32 × Int32 × Int32 × HI) => fX6_closes_b38 foot i28 i s.1 s.2.1 s.2.2.1 s.2.2.2) (fX6_closes_133 x38_4 x38_3 v6 K70 v27 v39))))).1))), ((fun (s : Int32 × Int32 × Int32 × HI) => fX6_closes_x28 s.1 s.2.1 s.2.2.1 s.2.2.2) (fo n28 (i28 + 1) (fun (i : Nat) (s : Int32 × Int32 × Int32 × HI) => fX6_closes_b28 foot i s.1 s.2.1 s.2.2.1 s.2.2.2) ((fun (s : Int32 × Int32 × Int32 × HI) => fX6_closes_x38 s.1 s.2.1 s.2.2.1 s.2.2.2) (fo n38 (i38 + 1) (fun (i : Nat) (s : Int32 × Int32 × Int32 × HI) => fX6_closes_b38 foot i28 i s.1 s.2.1 s.2.2.1 s.2.2.2) (fX6_closes_133 x38_4 x38_3 v6 K70 v27 v39))))).2)) K70 133 [(10, vi v27), (9, vi (fX6_offOf K70 v6)), (8, vi (fX6_gapOf K70 v6)), (6, vi (nI i38)), (5, vi (nI i28)), (4, vi x38_4), (3, vi x38_3), (0, vr 52), (1, vi foot)] [vi v39] := by
                    intro v39
                    rw [fX6_closes_133]
                    refine g_istore_n (n := 134) (lv' := [(2, vi v39), (10, vi v27), (9, vi (fX6_offOf K70 v6)), (8, vi (fX6_gapOf K70 v6)), (6, vi (nI i38)), (5, vi (nI i28)), (4, vi x38_4), (3, vi x38_3), (0, vr 52), (1, vi foot)]) ok dX6_closes_133 rfl (by decide) rfl rfl ?_
                    refine g_iload (n := 136) ok 1 dX6_closes_134 rfl rfl ?_
                    have J145_51 : ∀ (v50 : Int32), G E 11 ((some (vi ((((fun (s : Int32 × Int32 × Int32 × HI) => fX6_closes_x28 s.1 s.2.1 s.2.2.1 s.2.2.2) (fo n28 (i28 + 1) (fun (i : Nat) (s : Int32 × Int32 × Int32 × HI) => fX6_closes_b28 foot i s.1 s.2.1 s.2.2.1 s.2.2.2) ((fun (s : Int32 × Int32 × Int32 × HI) => fX6_closes_x38 s.1 s.2.1 s.2.2.1 s.2.2.2) (fo n38 (i38 + 1) (fun (i : Nat) (s : Int32 × Int32 × Int32 × HI) => fX6_closes_b38 foot i28 i s.1 s.2.1 s.2.2.1 s.2.2.2) (fX6_closes_145 x38_4 v6 K70 v27 v39 v50))))).1))), ((fun (s : Int32 × Int32 × Int32 × HI) => fX6_closes_x28 s.1 s.2.1 s.2.2.1 s.2.2.2) (fo n28 (i28 + 1) (fun (i : Nat) (s : Int32 × Int32 × Int32 × HI) => fX6_closes_b28 foot i s.1 s.2.1 s.2.2.1 s.2.2.2) ((fun (s : Int32 × Int32 × Int32 × HI) => fX6_closes_x38 s.1 s.2.1 s.2.2.1 s.2.2.2) (fo n38 (i38 + 1) (fun (i : Nat) (s : Int32 × Int32 × Int32 × HI) => fX6_closes_b38 foot i28 i s.1 s.2.1 s.2.2.1 s.2.2.2) (fX6_closes_145 x38_4 v6 K70 v27 v39 v50))))).2)) K70 145 [(2, vi v39), (10, vi v27), (9, vi (fX6_offOf K70 v6)), (6, vi (nI i38)), (5, vi (nI i28)), (4, vi x38_4), (0, vr 52), (1, vi foot)] [vi v50] := by
                      intro v50
                      rw [fX6_closes_145]
                      refine g_istore_n (n := 146) (lv' := [(3, vi v50), (2, vi v39), (10, vi v27), (9, vi (fX6_offOf K70 v6)), (6, vi (nI i38)), (5, vi (nI i28)), (4, vi x38_4), (0, vr 52), (1, vi foot)]) ok dX6_closes_145 rfl (by decide) rfl rfl ?_
                      refine g_iload (n := 148) ok 2 dX6_closes_146 rfl rfl ?_
                      refine g_if_eq (n := 151) (tgt := 156) ok dX6_closes_148 (by decide) rfl (fun c52 => ?_) (fun c52 => ?_)
                      · rw [if_pos c52]
                        refine g_iload (n := 158) ok 6 dX6_closes_156 rfl rfl ?_
                        refine g_istore (n := 160) (lv' := [(4, vi x38_4), (3, vi v50), (2, vi v39), (10, vi v27), (9, vi (fX6_offOf K70 v6)), (6, vi (nI i38)), (5, vi (nI i28)), (0, vr 52), (1, vi foot)]) ok dX6_closes_158 (by decide) rfl rfl ?_
                        refine g_iinc (n := 163) (v := nI (i38 + 1)) (lv' := [(6, vi (nI (i38 + 1))), (4, vi x38_4), (3, vi v50), (2, vi v39), (10, vi v27), (9, vi (fX6_offOf K70 v6)), (5, vi (nI i28)), (0, vr 52), (1, vi foot)]) ok 5 dX6_closes_160 rfl (iinc_n (a := i38) rfl) (by decide) rfl rfl ?_
                        refine g_goto (tgt := 38) ok dX6_closes_163 (by decide) ?_
                        refine g_sub [0, 6, 1, 2, 3, 7, 8] rfl ?_
                        exact ih (i38 + 1) x38_4 v50 v39 _ hd6 (by omega) (by omega)
                      · rw [if_neg c52]
                        refine g_iload (n := 153) ok 3 dX6_closes_151 rfl rfl ?_
                        refine g_goto (tgt := 158) ok dX6_closes_153 (by decide) ?_
                        refine g_istore (n := 160) (lv' := [(4, vi (fX6_offOf K70 v6)), (3, vi v50), (2, vi v39), (10, vi v27), (9, vi (fX6_offOf K70 v6)), (6, vi (nI i38)), (5, vi (nI i28)), (0, vr 52), (1, vi foot)]) ok dX6_closes_158 (by decide) rfl rfl ?_
                        refine g_iinc (n := 163) (v := nI (i38 + 1)) (lv' := [(6, vi (nI (i38 + 1))), (4, vi (fX6_offOf K70 v6)), (3, vi v50), (2, vi v39), (10, vi v27), (9, vi (fX6_offOf K70 v6)), (5, vi (nI i28)), (0, vr 52), (1, vi foot)]) ok 5 dX6_closes_160 rfl (iinc_n (a := i38) rfl) (by decide) rfl rfl ?_
                        refine g_goto (tgt := 38) ok dX6_closes_163 (by decide) ?_
                        refine g_sub [0, 6, 1, 2, 3, 7, 8] rfl ?_
                        exact ih (i38 + 1) (fX6_offOf K70 v6) v50 v39 _ hd6 (by omega) (by omega)
                    refine g_if_eq (n := 139) (tgt := 144) ok dX6_closes_136 (by decide) rfl (fun c41 => ?_) (fun c41 => ?_)
                    · try simp only [if_pos c41]
                      refine g_iload_n (n := 145) ok 7 dX6_closes_144 rfl rfl rfl ?_
                      refine g_sub [0, 1, 2, 4, 5, 6, 8, 9] rfl ?_
                      exact J145_51 _
                    · try simp only [if_neg c41]
                      refine g_iload (n := 141) ok 3 dX6_closes_139 rfl rfl ?_
                      refine g_goto (tgt := 145) ok dX6_closes_141 (by decide) ?_
                      refine g_sub [0, 1, 2, 4, 5, 6, 8, 9] rfl ?_
                      exact J145_51 _
                  refine g_if_eq (n := 121) (tgt := 132) ok dX6_closes_118 (by decide) rfl (fun c29 => ?_) (fun c29 => ?_)
                  · try simp only [if_pos c29]
                    refine g_iload_n (n := 133) ok 7 dX6_closes_132 rfl rfl rfl ?_
                    refine g_sub [0, 1, 2, 3, 4, 5, 6, 8, 9] rfl ?_
                    exact J133_40 _
                  · try simp only [if_neg c29]
                    refine g_bipush (n := 123) (v := 10) ok dX6_closes_121 rfl rfl ?_
                    refine g_iload (n := 125) ok 4 dX6_closes_123 rfl rfl ?_
                    refine g_imul (n := 126) ok dX6_closes_125 rfl ?_
                    refine g_top (nv_imul (a := 10) (b := i28) rfl rfl) ?_
                    refine g_iload (n := 128) ok 3 dX6_closes_126 rfl rfl ?_
                    refine g_iadd (n := 129) ok dX6_closes_128 rfl ?_
                    refine g_top (nv_iadd (a := 10 * i28) (b := i38) rfl rfl) ?_
                    refine g_goto (tgt := 133) ok dX6_closes_129 (by decide) ?_
                    refine g_sub [0, 1, 2, 3, 4, 5, 6, 8, 9] rfl ?_
                    exact J133_40 _
                refine g_if_eq (n := 90) (tgt := 109) ok dX6_closes_87 (by decide) rfl (fun c14 => ?_) (fun c14 => ?_)
                · try simp only [if_pos c14]
                  refine g_iconst (n := 110) (v := 1) ok dX6_closes_109 rfl rfl ?_
                  refine g_goto (tgt := 114) ok dX6_closes_110 (by decide) ?_
                  refine g_sub [0, 1, 3, 4, 5, 6, 7, 8, 9] rfl ?_
                  exact J114_28 _
                · try simp only [if_neg c14]
                  refine g_iload (n := 92) ok 1 dX6_closes_90 rfl rfl ?_
                  refine g_iload_n (n := 93) ok 6 dX6_closes_92 rfl rfl rfl ?_
                  refine g_icmp_lt (n := 96) (tgt := 109) ok dX6_closes_93 (by decide) rfl (fun c15 => ?_) (fun c15 => ?_)
                  · rw [if_pos c15]
                    refine g_iconst (n := 110) (v := 1) ok dX6_closes_109 rfl rfl ?_
                    refine g_goto (tgt := 114) ok dX6_closes_110 (by decide) ?_
                    refine g_sub [0, 1, 3, 4, 5, 6, 7, 8, 9] rfl ?_
                    exact J114_28 _
                  · rw [if_neg c15]
                    refine g_iload (n := 98) ok 1 dX6_closes_96 rfl rfl ?_
                    refine g_iload_n (n := 99) ok 6 dX6_closes_98 rfl rfl rfl ?_
                    refine g_icmp_ne (n := 102) (tgt := 113) ok dX6_closes_99 (by decide) rfl (fun c16 => ?_) (fun c16 => ?_)
                    · rw [if_neg c16]
                      refine g_iconst (n := 114) (v := 0) ok dX6_closes_113 rfl rfl ?_
                      refine g_sub [0, 1, 3, 4, 5, 6, 7, 8, 9] rfl ?_
                      exact J114_28 _
                    · rw [if_pos c16]
                      refine g_iload (n := 104) ok 0 dX6_closes_102 rfl rfl ?_
                      refine g_iload (n := 106) ok 5 dX6_closes_104 rfl rfl ?_
                      refine g_icmp_ge (n := 109) (tgt := 113) ok dX6_closes_106 (by decide) rfl (fun c17 => ?_) (fun c17 => ?_)
                      · rw [if_pos c17]
                        refine g_iconst (n := 114) (v := 0) ok dX6_closes_113 rfl rfl ?_
                        refine g_sub [0, 1, 3, 4, 5, 6, 7, 8, 9] rfl ?_
                        exact J114_28 _
                      · rw [if_neg c17]
                        refine g_iconst (n := 110) (v := 1) ok dX6_closes_109 rfl rfl ?_
                        refine g_goto (tgt := 114) ok dX6_closes_110 (by decide) ?_
                        refine g_sub [0, 1, 3, 4, 5, 6, 7, 8, 9] rfl ?_
                        exact J114_28 _
              exact C70_53 ((fX6_drawBy J38 (J38 52 3) (ix foot) (nI i28) (nI i38)).1) _ (by rw [up_v, drawBy_tr, add_sub1]; exact hd5) (by have := vb hd5; omega)
          exact L38 9 1 x28_4 x28_3 x28_2 _ hd4 (by omega) (by omega)
      exact L28 9 1 0 0 0 _ hd2 (by omega) (by omega)
    · rw [if_pos c3]
      refine g_aload_n (n := 13) ok 0 dX6_closes_12 rfl rfl rfl ?_
      refine g_iconst (n := 14) (v := -1) ok dX6_closes_13 rfl rfl ?_
      refine g_callV (n := 17) (rest := []) (av := [vi (-1)]) (j := 52) ok (kX6_refuse K5 (-1) (vp_b (by decide +kernel))) knX6_refuse q770 q772 qs25 clsX6 rfl dX6_closes_14 rfl rfl (Nat.le_of_ble_eq_true rfl) (by decide) (by decide) rfl ?_
      exact g_iret ok hr dX6_closes_17
  exact C5_54 _ (by rw [up_k (by omega)]; exact hd)

noncomputable def fX6_correct_c5 (foot : Int32) (push : Int32) (lean : Int32) (K5 : HI) : Int32 × HI :=
  if fX6_isFoot foot = 0 then ((fX6_refuse K5 (-1)).1, ((fX6_refuse K5 (-1)).2)) else (if 0 ≤ fX6_wrongTwo push lean then (if (fX6_offBy ((fX6_offBy K5 2 (ix foot) push lean).2) 0 (ix foot) push lean).1 ≤ (fX6_offBy K5 2 (ix foot) push lean).1 then (0, ((fX6_offBy ((fX6_offBy K5 2 (ix foot) push lean).2) 0 (ix foot) push lean).2)) else (1, ((fX6_offBy ((fX6_offBy K5 2 (ix foot) push lean).2) 0 (ix foot) push lean).2))) else ((fX6_refuse K5 (fX6_wrongTwo push lean)).1, ((fX6_refuse K5 (fX6_wrongTwo push lean)).2)))
noncomputable def fX6_correct (I : HI) (foot : Int32) (push : Int32) (lean : Int32) : Int32 × HI :=
  fX6_correct_c5 foot push lean (up I 52 10 0)
theorem knX6_correct : Kn yX6_correct cX6_correct 5 (some .int) 3 := ⟨q1010, q8, ⟨by decide, by decide⟩, by decide +kernel⟩
set_option maxHeartbeats 400000 in
set_option maxRecDepth 100000 in
theorem kX6_correct (I : HI) (foot : Int32) (push : Int32) (lean : Int32) (hd : vp_in (I 52 5) 7) : Cx yX6_correct cX6_correct 5 (some .int) 5 125 [vr 52, vi foot, vi push, vi lean] I ((some (vi (((fX6_correct I foot push lean).1))), (fX6_correct I foot push lean).2)) := by
  refine Cx.mk (lv := [(0, vr 52), (1, vi foot), (2, vi push), (3, vi lean)]) (by decide) (Nat.le_of_ble_eq_true rfl) rfl (fun E ok hr => ?_)
  rw [fX6_correct]
  refine g_aload_n (n := 1) ok 0 dX6_correct_0 rfl rfl rfl ?_
  refine g_iconst (n := 2) (v := 0) ok dX6_correct_1 rfl rfl ?_
  refine g_put (n := 5) (J := up I 52 10 0) (c := 6) (k := 10) ok dX6_correct_2 clsX6 tyX6 tyX6_ok nmX6 (by decide) q688 rfl rfl (fun _ => rfl) (fun _ => rfl) (Nat.le_of_ble_eq_true rfl) (fs_6_10 _ _ _) up_ne rfl ?_
  have C5_11 : ∀ (K5 : HI) (hd2 : vp_in (K5 52 5) 7), G E 5 ((some (vi (((fX6_correct_c5 foot push lean K5).1))), (fX6_correct_c5 foot push lean K5).2)) K5 5 [(0, vr 52), (1, vi foot), (2, vi push), (3, vi lean)] [] := by
    intro K5 hd2
    rw [fX6_correct_c5]
    have hd3 := vb hd2
    refine g_iload_n (n := 6) ok 1 dX6_correct_5 rfl rfl rfl ?_
    refine g_callS (n := 9) (rest := []) (av := [vi foot]) ok (kX6_isFoot K5 foot) knX6_isFoot q834 q835 dX6_correct_6 rfl rfl (Nat.le_of_ble_eq_true rfl) (by decide) (by decide) rfl ?_
    refine g_if_eq (n := 12) (tgt := 20) ok dX6_correct_9 (by decide) rfl (fun c5 => ?_) (fun c5 => ?_)
    · rw [if_pos c5]
      refine g_iconst (n := 21) (v := -1) ok dX6_correct_20 rfl rfl ?_
      refine g_istore (n := 23) (lv' := [(4, vi (-1)), (0, vr 52), (1, vi foot), (2, vi push), (3, vi lean)]) ok dX6_correct_21 (by decide) rfl rfl ?_
      refine g_iload (n := 25) ok 0 dX6_correct_23 rfl rfl ?_
      refine g_if_ge (n := 28) (tgt := 35) ok dX6_correct_25 (by decide) rfl (fun c6 => ?_) (fun c6 => ?_)
      · exact absurd c6 (by decide)
      · refine g_aload_n (n := 29) ok 1 dX6_correct_28 rfl rfl rfl ?_
        refine g_iload (n := 31) ok 0 dX6_correct_29 rfl rfl ?_
        refine g_callV (n := 34) (rest := []) (av := [vi (-1)]) (j := 52) ok (kX6_refuse K5 (-1) (vp_b (by decide +kernel))) knX6_refuse q770 q772 qs25 clsX6 rfl dX6_correct_31 rfl rfl (Nat.le_of_ble_eq_true rfl) (by decide) (by decide) rfl ?_
        exact g_iret ok hr dX6_correct_34
    · rw [if_neg c5]
      have ha7 : vp_in foot 2 := isFoot6_in c5
      have ha7b := vb ha7
      refine g_iload_n (n := 13) ok 2 dX6_correct_12 rfl rfl rfl ?_
      refine g_iload_n (n := 14) ok 3 dX6_correct_13 rfl rfl rfl ?_
      refine g_callS (n := 17) (rest := []) (av := [vi push, vi lean]) ok (kX6_wrongTwo K5 push lean) knX6_wrongTwo q845 q846 dX6_correct_14 rfl rfl (Nat.le_of_ble_eq_true rfl) (by decide) (by decide) rfl ?_
      refine g_goto (tgt := 21) ok dX6_correct_17 (by decide) ?_
      refine g_istore (n := 23) (lv' := [(4, vi (fX6_wrongTwo push lean)), (0, vr 52), (1, vi foot), (2, vi push), (3, vi lean)]) ok dX6_correct_21 (by decide) rfl rfl ?_
      refine g_iload (n := 25) ok 0 dX6_correct_23 rfl rfl ?_
      refine g_if_ge (n := 28) (tgt := 35) ok dX6_correct_25 (by decide) rfl (fun c8 => ?_) (fun c8 => ?_)
      · rw [if_pos c8]
        have hx9 := wrongTwo_ne c8
        refine g_aload_n (n := 36) ok 1 dX6_correct_35 rfl rfl rfl ?_
        refine g_iconst (n := 37) (v := 2) ok dX6_correct_36 rfl rfl ?_
        refine g_iload_n (n := 38) ok 2 dX6_correct_37 rfl rfl rfl ?_
        refine g_iload_n (n := 39) ok 3 dX6_correct_38 rfl rfl rfl ?_
        refine g_iload_n (n := 40) ok 4 dX6_correct_39 rfl rfl rfl ?_
        refine g_callV (n := 43) (rest := []) (av := [vi 2, vi (nI (ix foot)), vi push, vi lean]) (j := 52) ok (kX6_offBy K5 2 (ix foot) push lean (by first | with_reducible assumption | exact vp_mono (by with_reducible assumption) (by omega)) (by first | with_reducible assumption | omega) (by first | with_reducible assumption | omega)) knX6_offBy q983 q985 qs53 clsX6 rfl dX6_correct_40 (lcons rfl (lcons rfl (lcons (congrArg vi (vx ha7)) (lcons rfl (lcons rfl rfl))))) rfl (Nat.le_of_ble_eq_true rfl) (by decide) (by decide) rfl ?_
        refine g_aload_n (n := 44) ok 1 dX6_correct_43 rfl rfl rfl ?_
        refine g_iconst (n := 45) (v := 0) ok dX6_correct_44 rfl rfl ?_
        refine g_iload_n (n := 46) ok 2 dX6_correct_45 rfl rfl rfl ?_
        refine g_iload_n (n := 47) ok 3 dX6_correct_46 rfl rfl rfl ?_
        refine g_iload_n (n := 48) ok 4 dX6_correct_47 rfl rfl rfl ?_
        refine g_callV (n := 51) (rest := [vi ((fX6_offBy K5 2 (ix foot) push lean).1)]) (av := [vi 0, vi (nI (ix foot)), vi push, vi lean]) (j := 52) ok (kX6_offBy ((fX6_offBy K5 2 (ix foot) push lean).2) 0 (ix foot) push lean (by rw [offBy_tr]; exact vp_mono hd2 (by omega)) (by first | with_reducible assumption | omega) (by first | with_reducible assumption | omega)) knX6_offBy q983 q985 qs53 clsX6 rfl dX6_correct_48 (lcons rfl (lcons rfl (lcons (congrArg vi (vx ha7)) (lcons rfl (lcons rfl rfl))))) rfl (Nat.le_of_ble_eq_true rfl) (by decide) (by decide) rfl ?_
        refine g_icmp_ge (n := 54) (tgt := 58) ok dX6_correct_51 (by decide) rfl (fun c10 => ?_) (fun c10 => ?_)
        · rw [if_pos c10]
          refine g_iconst (n := 59) (v := 0) ok dX6_correct_58 rfl rfl ?_
          exact g_iret ok hr dX6_correct_59
        · rw [if_neg c10]
          refine g_iconst (n := 55) (v := 1) ok dX6_correct_54 rfl rfl ?_
          refine g_goto (tgt := 59) ok dX6_correct_55 (by decide) ?_
          exact g_iret ok hr dX6_correct_59
      · rw [if_neg c8]
        refine g_aload_n (n := 29) ok 1 dX6_correct_28 rfl rfl rfl ?_
        refine g_iload (n := 31) ok 0 dX6_correct_29 rfl rfl ?_
        refine g_callV (n := 34) (rest := []) (av := [vi (fX6_wrongTwo push lean)]) (j := 52) ok (kX6_refuse K5 (fX6_wrongTwo push lean) wrongTwo_in) knX6_refuse q770 q772 qs25 clsX6 rfl dX6_correct_31 rfl rfl (Nat.le_of_ble_eq_true rfl) (by decide) (by decide) rfl ?_
        exact g_iret ok hr dX6_correct_34
  exact C5_11 _ (by rw [up_k (by omega)]; exact hd)

noncomputable def fX6_lot_c5 (push : Int32) (lean : Int32) (K5 : HI) : Int32 × HI :=
  if 0 ≤ fX6_wrongTwo push lean then (if (fX6_offBy ((fX6_offBy K5 (K5 52 3) 0 push lean).2) (((fX6_offBy K5 (K5 52 3) 0 push lean).2) 52 3) 1 push lean).1 ≤ (fX6_offBy K5 (K5 52 3) 0 push lean).1 then (if (fX6_offBy K5 (K5 52 3) 0 push lean).1 ≤ (fX6_offBy ((fX6_offBy K5 (K5 52 3) 0 push lean).2) (((fX6_offBy K5 (K5 52 3) 0 push lean).2) 52 3) 1 push lean).1 then (2, ((fX6_offBy ((fX6_offBy K5 (K5 52 3) 0 push lean).2) (((fX6_offBy K5 (K5 52 3) 0 push lean).2) 52 3) 1 push lean).2)) else (1, ((fX6_offBy ((fX6_offBy K5 (K5 52 3) 0 push lean).2) (((fX6_offBy K5 (K5 52 3) 0 push lean).2) 52 3) 1 push lean).2))) else (0, ((fX6_offBy ((fX6_offBy K5 (K5 52 3) 0 push lean).2) (((fX6_offBy K5 (K5 52 3) 0 push lean).2) 52 3) 1 push lean).2))) else ((fX6_refuse K5 (fX6_wrongTwo push lean)).1, ((fX6_refuse K5 (fX6_wrongTwo push lean)).2))
noncomputable def fX6_lot (I : HI) (push : Int32) (lean : Int32) : Int32 × HI :=
  fX6_lot_c5 push lean (up I 52 10 0)
theorem knX6_lot : Kn yX6_lot cX6_lot 5 (some .int) 2 := ⟨q1072, q8, ⟨by decide, by decide⟩, by decide +kernel⟩
set_option maxHeartbeats 400000 in
set_option maxRecDepth 100000 in
theorem kX6_lot (I : HI) (push : Int32) (lean : Int32) (hd : vp_in (I 52 5) 7) : Cx yX6_lot cX6_lot 5 (some .int) 5 125 [vr 52, vi push, vi lean] I ((some (vi (((fX6_lot I push lean).1))), (fX6_lot I push lean).2)) := by
  refine Cx.mk (lv := [(0, vr 52), (1, vi push), (2, vi lean)]) (by decide) (Nat.le_of_ble_eq_true rfl) rfl (fun E ok hr => ?_)
  rw [fX6_lot]
  refine g_aload_n (n := 1) ok 0 dX6_lot_0 rfl rfl rfl ?_
  refine g_iconst (n := 2) (v := 0) ok dX6_lot_1 rfl rfl ?_
  refine g_put (n := 5) (J := up I 52 10 0) (c := 6) (k := 10) ok dX6_lot_2 clsX6 tyX6 tyX6_ok nmX6 (by decide) q688 rfl rfl (fun _ => rfl) (fun _ => rfl) (Nat.le_of_ble_eq_true rfl) (fs_6_10 _ _ _) up_ne rfl ?_
  have C5_8 : ∀ (K5 : HI) (hd2 : vp_in (K5 52 5) 7), G E 5 ((some (vi (((fX6_lot_c5 push lean K5).1))), (fX6_lot_c5 push lean K5).2)) K5 5 [(0, vr 52), (1, vi push), (2, vi lean)] [] := by
    intro K5 hd2
    rw [fX6_lot_c5]
    have hd3 := vb hd2
    refine g_iload_n (n := 6) ok 1 dX6_lot_5 rfl rfl rfl ?_
    refine g_iload_n (n := 7) ok 2 dX6_lot_6 rfl rfl rfl ?_
    refine g_callS (n := 10) (rest := []) (av := [vi push, vi lean]) ok (kX6_wrongTwo K5 push lean) knX6_wrongTwo q845 q846 dX6_lot_7 rfl rfl (Nat.le_of_ble_eq_true rfl) (by decide) (by decide) rfl ?_
    refine g_if_ge (n := 13) (tgt := 23) ok dX6_lot_10 (by decide) rfl (fun c4 => ?_) (fun c4 => ?_)
    · rw [if_pos c4]
      have hx5 := wrongTwo_ne c4
      refine g_aload_n (n := 24) ok 0 dX6_lot_23 rfl rfl rfl ?_
      refine g_aload_n (n := 25) ok 0 dX6_lot_24 rfl rfl rfl ?_
      refine g_get (n := 28) (v := vi (K5 52 3)) (c := 6) (k := 3) ok dX6_lot_25 clsX6 (by decide) q681 rfl rfl rfl ?_
      refine g_iconst (n := 29) (v := 0) ok dX6_lot_28 rfl rfl ?_
      refine g_iload_n (n := 30) ok 1 dX6_lot_29 rfl rfl rfl ?_
      refine g_iload_n (n := 31) ok 2 dX6_lot_30 rfl rfl rfl ?_
      refine g_callV (n := 34) (rest := []) (av := [vi (K5 52 3), vi (nI 0), vi push, vi lean]) (j := 52) ok (kX6_offBy K5 (K5 52 3) 0 push lean (by first | with_reducible assumption | exact vp_mono (by with_reducible assumption) (by omega)) (by first | with_reducible assumption | omega) (by first | with_reducible assumption | omega)) knX6_offBy q983 q985 qs53 clsX6 rfl dX6_lot_31 rfl rfl (Nat.le_of_ble_eq_true rfl) (by decide) (by decide) rfl ?_
      refine g_istore_n (n := 35) (lv' := [(3, vi ((fX6_offBy K5 (K5 52 3) 0 push lean).1)), (0, vr 52), (1, vi push), (2, vi lean)]) ok dX6_lot_34 rfl (by decide) rfl rfl ?_
      refine g_aload_n (n := 36) ok 1 dX6_lot_35 rfl rfl rfl ?_
      refine g_aload_n (n := 37) ok 1 dX6_lot_36 rfl rfl rfl ?_
      refine g_get (n := 40) (v := vi (((fX6_offBy K5 (K5 52 3) 0 push lean).2) 52 3)) (c := 6) (k := 3) ok dX6_lot_37 clsX6 (by decide) q681 rfl rfl rfl ?_
      refine g_iconst (n := 41) (v := 1) ok dX6_lot_40 rfl rfl ?_
      refine g_iload_n (n := 42) ok 2 dX6_lot_41 rfl rfl rfl ?_
      refine g_iload_n (n := 43) ok 3 dX6_lot_42 rfl rfl rfl ?_
      refine g_callV (n := 46) (rest := []) (av := [vi (((fX6_offBy K5 (K5 52 3) 0 push lean).2) 52 3), vi (nI 1), vi push, vi lean]) (j := 52) ok (kX6_offBy ((fX6_offBy K5 (K5 52 3) 0 push lean).2) (((fX6_offBy K5 (K5 52 3) 0 push lean).2) 52 3) 1 push lean (by rw [offBy_tr]; exact vp_mono hd2 (by omega)) (by first | with_reducible assumption | omega) (by first | with_reducible assumption | omega)) knX6_offBy q983 q985 qs53 clsX6 rfl dX6_lot_43 rfl rfl (Nat.le_of_ble_eq_true rfl) (by decide) (by decide) rfl ?_
      refine g_istore (n := 48) (lv' := [(4, vi ((fX6_offBy ((fX6_offBy K5 (K5 52 3) 0 push lean).2) (((fX6_offBy K5 (K5 52 3) 0 push lean).2) 52 3) 1 push lean).1)), (3, vi ((fX6_offBy K5 (K5 52 3) 0 push lean).1)), (0, vr 52), (1, vi push), (2, vi lean)]) ok dX6_lot_46 (by decide) rfl rfl ?_
      refine g_iload_n (n := 49) ok 1 dX6_lot_48 rfl rfl rfl ?_
      refine g_iload (n := 51) ok 0 dX6_lot_49 rfl rfl ?_
      refine g_icmp_ge (n := 54) (tgt := 58) ok dX6_lot_51 (by decide) rfl (fun c6 => ?_) (fun c6 => ?_)
      · rw [if_pos c6]
        refine g_iload_n (n := 59) ok 1 dX6_lot_58 rfl rfl rfl ?_
        refine g_iload (n := 61) ok 0 dX6_lot_59 rfl rfl ?_
        refine g_icmp_le (n := 64) (tgt := 68) ok dX6_lot_61 (by decide) rfl (fun c7 => ?_) (fun c7 => ?_)
        · rw [if_pos c7]
          refine g_iconst (n := 69) (v := 2) ok dX6_lot_68 rfl rfl ?_
          exact g_iret ok hr dX6_lot_69
        · rw [if_neg c7]
          refine g_iconst (n := 65) (v := 1) ok dX6_lot_64 rfl rfl ?_
          refine g_goto (tgt := 69) ok dX6_lot_65 (by decide) ?_
          exact g_iret ok hr dX6_lot_69
      · rw [if_neg c6]
        refine g_iconst (n := 55) (v := 0) ok dX6_lot_54 rfl rfl ?_
        refine g_goto (tgt := 69) ok dX6_lot_55 (by decide) ?_
        exact g_iret ok hr dX6_lot_69
    · rw [if_neg c4]
      refine g_aload_n (n := 14) ok 0 dX6_lot_13 rfl rfl rfl ?_
      refine g_iload_n (n := 15) ok 1 dX6_lot_14 rfl rfl rfl ?_
      refine g_iload_n (n := 16) ok 2 dX6_lot_15 rfl rfl rfl ?_
      refine g_callS (n := 19) (rest := [vr 52]) (av := [vi push, vi lean]) ok (kX6_wrongTwo K5 push lean) knX6_wrongTwo q845 q846 dX6_lot_16 rfl rfl (Nat.le_of_ble_eq_true rfl) (by decide) (by decide) rfl ?_
      refine g_callV (n := 22) (rest := []) (av := [vi (fX6_wrongTwo push lean)]) (j := 52) ok (kX6_refuse K5 (fX6_wrongTwo push lean) wrongTwo_in) knX6_refuse q770 q772 qs25 clsX6 rfl dX6_lot_19 rfl rfl (Nat.le_of_ble_eq_true rfl) (by decide) (by decide) rfl ?_
      exact g_iret ok hr dX6_lot_22
  exact C5_8 _ (by rw [up_k (by omega)]; exact hd)

noncomputable def fX6_isRowBy_x6 (x6_5 : Int32) : Int32 :=
  x6_5
noncomputable def fX6_isRowBy_52 (I : HI) (i6 : Nat) (v9 : Int32) : (Int32) ⊕ (Int32) :=
  if I 67 i6 = v9 then Sum.inr 1 else Sum.inr 0
noncomputable def fX6_isRowBy_b6 (I : HI) (kind : Int32) (foot : Nat) (push : Int32) (lean : Int32) (i6 : Nat) (x6_5 : Int32) : (Int32) ⊕ (Int32) :=
  if x6_5 = 0 then Sum.inl x6_5 else fX6_isRowBy_52 I i6 (if fX6_radiusBy I kind foot push lean i6 ≤ 99 then fX6_radiusBy I kind foot push lean i6 else 99)
noncomputable def fX6_isRowBy (I : HI) (kind : Int32) (foot : Nat) (push : Int32) (lean : Int32) : Int32 :=
  fX6_isRowBy_x6 (foE 12 0 (fun (i : Nat) (s : Int32) => fX6_isRowBy_b6 I kind foot push lean i s) id 1)
theorem knX6_isRowBy : Kn yX6_isRowBy cX6_isRowBy 8 (some .boolean) 4 := ⟨q1031, q8, ⟨by decide, by decide⟩, by decide +kernel⟩
set_option maxHeartbeats 400000 in
set_option maxRecDepth 100000 in
theorem kX6_isRowBy (I : HI) (kind : Int32) (foot : Nat) (push : Int32) (lean : Int32) (hq : vp_in (I 52 5) 27) (hf : foot < 2) (hl : ¬ lean = 0) : Cx yX6_isRowBy cX6_isRowBy 8 (some .boolean) 3 74 [vr 52, vi kind, vi (nI foot), vi push, vi lean] I ((some (vi ((fX6_isRowBy I kind foot push lean))), I)) := by
  refine Cx.mk (lv := [(0, vr 52), (1, vi kind), (2, vi (nI foot)), (3, vi push), (4, vi lean)]) (by decide) (Nat.le_of_ble_eq_true rfl) rfl (fun E ok hr => ?_)
  rw [fX6_isRowBy]
  refine g_iconst (n := 1) (v := 1) ok dX6_isRowBy_0 rfl rfl ?_
  refine g_istore (n := 3) (lv' := [(5, vi 1), (0, vr 52), (1, vi kind), (2, vi (nI foot)), (3, vi push), (4, vi lean)]) ok dX6_isRowBy_1 (by decide) rfl rfl ?_
  refine g_iconst (n := 4) (v := 0) ok dX6_isRowBy_3 rfl rfl ?_
  refine g_istore (n := 6) (lv' := [(6, vi 0), (5, vi 1), (0, vr 52), (1, vi kind), (2, vi (nI foot)), (3, vi push), (4, vi lean)]) ok dX6_isRowBy_4 (by decide) rfl rfl ?_
  have X6 : ∀ (x6_5 : Int32) (hz5 : x6_5 = 0 ∨ x6_5 = 1), G E 8 ((some (vi ((fX6_isRowBy_x6 x6_5))), I)) I 68 [(5, vi x6_5)] [] := by
    intro x6_5 hz5
    rw [fX6_isRowBy_x6]
    refine g_iload (n := 70) ok 0 dX6_isRowBy_68 rfl rfl ?_
    exact g_zret (x := x6_5) ok hr dX6_isRowBy_70 hz5
  have L6 : ∀ (n6 i6 : Nat) (x6_5 : Int32) (hz5 : x6_5 = 0 ∨ x6_5 = 1) (hi : i6 + n6 = 12), G E 8 ((some (vi ((fX6_isRowBy_x6 (foE n6 i6 (fun (i : Nat) (s : Int32) => fX6_isRowBy_b6 I kind foot push lean i s) id x6_5)))), I)) I 6 [(6, vi (nI i6)), (5, vi x6_5), (0, vr 52), (1, vi kind), (2, vi (nI foot)), (3, vi push), (4, vi lean)] [] := by
    intro n6
    induction n6 with
    | zero =>
      intro i6 x6_5 hz5 hi
      rw [foE_0]
      refine g_iload (n := 8) ok 0 dX6_isRowBy_6 rfl rfl ?_
      refine g_bipush (n := 10) (v := 12) ok dX6_isRowBy_8 rfl rfl ?_
      refine g_icmp_ge (n := 13) (tgt := 68) ok dX6_isRowBy_10 (by decide) rfl (fun c => ?_) (fun c => absurd (nle (a := 12) (b := i6) rfl rfl (by omega) (by omega)) c)
      refine g_sub [1] rfl ?_
      exact X6 _ hz5
    | succ n6 ih =>
      intro i6 x6_5 hz5 hi
      refine g_iload (n := 8) ok 0 dX6_isRowBy_6 rfl rfl ?_
      refine g_bipush (n := 10) (v := 12) ok dX6_isRowBy_8 rfl rfl ?_
      refine g_icmp_ge (n := 13) (tgt := 68) ok dX6_isRowBy_10 (by decide) rfl (fun c => absurd c (nnle (a := 12) (b := i6) rfl rfl (by omega) (by omega))) (fun c => ?_)
      rw [foE_s]
      show G E 8 ((some (vi ((fX6_isRowBy_x6 (Sum.elim id (fun (s : Int32) => foE n6 (i6 + 1) (fun (i : Nat) (s : Int32) => fX6_isRowBy_b6 I kind foot push lean i s) id s) (fX6_isRowBy_b6 I kind foot push lean i6 x6_5))))), I)) _ _ _ _
      rw [fX6_isRowBy_b6]
      refine g_iload (n := 15) ok 1 dX6_isRowBy_13 rfl rfl ?_
      refine g_if_eq (n := 18) (tgt := 68) ok dX6_isRowBy_15 (by decide) rfl (fun c1 => ?_) (fun c1 => ?_)
      · rw [if_pos c1]
        refine g_sub [1] rfl ?_
        exact X6 x6_5 hz5
      · rw [if_neg c1]
        refine g_aload_n (n := 19) ok 2 dX6_isRowBy_18 rfl rfl rfl ?_
        refine g_iload_n (n := 20) ok 3 dX6_isRowBy_19 rfl rfl rfl ?_
        refine g_iload_n (n := 21) ok 4 dX6_isRowBy_20 rfl rfl rfl ?_
        refine g_iload_n (n := 22) ok 5 dX6_isRowBy_21 rfl rfl rfl ?_
        refine g_iload (n := 24) ok 6 dX6_isRowBy_22 rfl rfl ?_
        refine g_iload (n := 26) ok 0 dX6_isRowBy_24 rfl rfl ?_
        refine g_callV (n := 29) (rest := []) (av := [vi kind, vi (nI foot), vi push, vi lean, vi (nI i6)]) (j := 52) ok (kX6_radiusBy I kind foot push lean i6 (by first | with_reducible assumption | exact vp_mono (by with_reducible assumption) (by omega)) (by first | with_reducible assumption | omega) (by first | with_reducible assumption | omega) (by first | with_reducible assumption | omega)) knX6_radiusBy q852 q854 qs39 clsX6 rfl dX6_isRowBy_26 rfl rfl (Nat.le_of_ble_eq_true rfl) (by decide) (by decide) rfl ?_
        refine g_istore (n := 31) (lv' := [(7, vi (fX6_radiusBy I kind foot push lean i6)), (6, vi (nI i6)), (5, vi x6_5), (0, vr 52), (1, vi kind), (2, vi (nI foot)), (3, vi push), (4, vi lean)]) ok dX6_isRowBy_29 (by decide) rfl rfl ?_
        refine g_aload_n (n := 32) ok 3 dX6_isRowBy_31 rfl rfl rfl ?_
        refine g_get (n := 35) (v := vr 67) (c := 6) (k := 26) ok dX6_isRowBy_32 clsX6 (by decide) q704 rfl rfl rfl ?_
        refine g_iload (n := 37) ok 1 dX6_isRowBy_35 rfl rfl ?_
        refine g_iald (n := 38) (i := i6) (L := 12) ok dX6_isRowBy_37 rfl rfl rfl (by omega) rfl ?_
        refine g_iload (n := 40) ok 0 dX6_isRowBy_38 rfl rfl ?_
        refine g_bipush (n := 42) (v := 99) ok dX6_isRowBy_40 rfl rfl ?_
        have J52_11 : ∀ (v9 : Int32), G E 8 ((some (vi ((fX6_isRowBy_x6 (Sum.elim id (fun (s : Int32) => foE n6 (i6 + 1) (fun (i : Nat) (s : Int32) => fX6_isRowBy_b6 I kind foot push lean i s) id s) (fX6_isRowBy_52 I i6 v9))))), I)) I 52 [(6, vi (nI i6)), (0, vr 52), (1, vi kind), (2, vi (nI foot)), (3, vi push), (4, vi lean)] [vi v9, vi (I 67 i6)] := by
          intro v9
          rw [fX6_isRowBy_52]
          refine g_icmp_ne (n := 55) (tgt := 59) ok dX6_isRowBy_52 (by decide) rfl (fun c12 => ?_) (fun c12 => ?_)
          · rw [if_neg c12]
            refine g_iconst (n := 60) (v := 0) ok dX6_isRowBy_59 rfl rfl ?_
            refine g_istore (n := 62) (lv' := [(5, vi 0), (6, vi (nI i6)), (0, vr 52), (1, vi kind), (2, vi (nI foot)), (3, vi push), (4, vi lean)]) ok dX6_isRowBy_60 (by decide) rfl rfl ?_
            refine g_iinc (n := 65) (v := nI (i6 + 1)) (lv' := [(6, vi (nI (i6 + 1))), (5, vi 0), (0, vr 52), (1, vi kind), (2, vi (nI foot)), (3, vi push), (4, vi lean)]) ok 1 dX6_isRowBy_62 rfl (iinc_n (a := i6) rfl) (by decide) rfl rfl ?_
            refine g_goto (tgt := 6) ok dX6_isRowBy_65 (by decide) ?_
            exact ih (i6 + 1) 0 (by decide) (by omega)
          · rw [if_pos c12]
            refine g_iconst (n := 56) (v := 1) ok dX6_isRowBy_55 rfl rfl ?_
            refine g_goto (tgt := 60) ok dX6_isRowBy_56 (by decide) ?_
            refine g_istore (n := 62) (lv' := [(5, vi 1), (6, vi (nI i6)), (0, vr 52), (1, vi kind), (2, vi (nI foot)), (3, vi push), (4, vi lean)]) ok dX6_isRowBy_60 (by decide) rfl rfl ?_
            refine g_iinc (n := 65) (v := nI (i6 + 1)) (lv' := [(6, vi (nI (i6 + 1))), (5, vi 1), (0, vr 52), (1, vi kind), (2, vi (nI foot)), (3, vi push), (4, vi lean)]) ok 1 dX6_isRowBy_62 rfl (iinc_n (a := i6) rfl) (by decide) rfl rfl ?_
            refine g_goto (tgt := 6) ok dX6_isRowBy_65 (by decide) ?_
            exact ih (i6 + 1) 1 (by decide) (by omega)
        refine g_icmp_le (n := 45) (tgt := 50) ok dX6_isRowBy_42 (by decide) rfl (fun c2 => ?_) (fun c2 => ?_)
        · try simp only [if_pos c2]
          refine g_iload (n := 52) ok 0 dX6_isRowBy_50 rfl rfl ?_
          refine g_sub [1, 3, 4, 5, 6, 7] rfl ?_
          exact J52_11 _
        · try simp only [if_neg c2]
          refine g_bipush (n := 47) (v := 99) ok dX6_isRowBy_45 rfl rfl ?_
          refine g_goto (tgt := 52) ok dX6_isRowBy_47 (by decide) ?_
          refine g_sub [1, 3, 4, 5, 6, 7] rfl ?_
          exact J52_11 _
  exact L6 12 0 1 (by decide) (by omega)

noncomputable def fX6_byWhich_x2 : Int32 :=
  (-9)
noncomputable def fX6_byWhich_x11 : (Int32) ⊕ (Unit) :=
  Sum.inr ()
noncomputable def fX6_byWhich_b11 (I : HI) (kind : Int32) (foot : Nat) (i2 : Nat) (i11 : Nat) : ((Int32) ⊕ (Unit)) ⊕ (Unit) :=
  if fX6_isRowBy I kind foot (nI i2) (nI i11) = 0 then Sum.inr () else Sum.inl (Sum.inl (nI ((10 * i2) + i11)))
noncomputable def fX6_byWhich_b2 (I : HI) (kind : Int32) (foot : Nat) (i2 : Nat) : (Int32) ⊕ (Unit) :=
  foE 9 1 (fun (i : Nat) (_ : Unit) => fX6_byWhich_b11 I kind foot i2 i) (fun (_ : Unit) => fX6_byWhich_x11) ()
noncomputable def fX6_byWhich (I : HI) (kind : Int32) (foot : Nat) : Int32 :=
  foE 9 1 (fun (i : Nat) (_ : Unit) => fX6_byWhich_b2 I kind foot i) (fun (_ : Unit) => fX6_byWhich_x2) ()
theorem knX6_byWhich : Kn yX6_byWhich cX6_byWhich 5 (some .int) 2 := ⟨q1027, q8, ⟨by decide, by decide⟩, by decide +kernel⟩
set_option maxHeartbeats 400000 in
set_option maxRecDepth 100000 in
theorem kX6_byWhich (I : HI) (kind : Int32) (foot : Nat) (hq : vp_in (I 52 5) 27) (hf : foot < 2) : Cx yX6_byWhich cX6_byWhich 5 (some .int) 4 101 [vr 52, vi kind, vi (nI foot)] I ((some (vi ((fX6_byWhich I kind foot))), I)) := by
  refine Cx.mk (lv := [(0, vr 52), (1, vi kind), (2, vi (nI foot))]) (by decide) (Nat.le_of_ble_eq_true rfl) rfl (fun E ok hr => ?_)
  rw [fX6_byWhich]
  refine g_iconst (n := 1) (v := 1) ok dX6_byWhich_0 rfl rfl ?_
  refine g_istore_n (n := 2) (lv' := [(3, vi 1), (0, vr 52), (1, vi kind), (2, vi (nI foot))]) ok dX6_byWhich_1 rfl (by decide) rfl rfl ?_
  have X2 : ∀ (_ : True), G E 5 ((some (vi (fX6_byWhich_x2)), I)) I 50 [] [] := by
    intro _
    rw [fX6_byWhich_x2]
    refine g_bipush (n := 52) (v := -9) ok dX6_byWhich_50 rfl rfl ?_
    exact g_iret ok hr dX6_byWhich_52
  have L2 : ∀ (n2 i2 : Nat) (hge2 : 1 ≤ i2) (hi : i2 + n2 = 10), G E 5 ((some (vi ((foE n2 i2 (fun (i : Nat) (_ : Unit) => fX6_byWhich_b2 I kind foot i) (fun (_ : Unit) => fX6_byWhich_x2) ()))), I)) I 2 [(3, vi (nI i2)), (0, vr 52), (1, vi kind), (2, vi (nI foot))] [] := by
    intro n2
    induction n2 with
    | zero =>
      intro i2 hge2 hi
      rw [foE_0]
      refine g_iload_n (n := 3) ok 0 dX6_byWhich_2 rfl rfl rfl ?_
      refine g_bipush (n := 5) (v := 10) ok dX6_byWhich_3 rfl rfl ?_
      refine g_icmp_ge (n := 8) (tgt := 50) ok dX6_byWhich_5 (by decide) rfl (fun c => ?_) (fun c => absurd (nle (a := 10) (b := i2) rfl rfl (by omega) (by omega)) c)
      refine g_sub [] rfl ?_
      exact X2 trivial
    | succ n2 ih =>
      intro i2 hge2 hi
      refine g_iload_n (n := 3) ok 0 dX6_byWhich_2 rfl rfl rfl ?_
      refine g_bipush (n := 5) (v := 10) ok dX6_byWhich_3 rfl rfl ?_
      refine g_icmp_ge (n := 8) (tgt := 50) ok dX6_byWhich_5 (by decide) rfl (fun c => absurd c (nnle (a := 10) (b := i2) rfl rfl (by omega) (by omega))) (fun c => ?_)
      rw [foE_s]
      show G E 5 ((some (vi ((Sum.elim id (fun (s : Unit) => foE n2 (i2 + 1) (fun (i : Nat) (_ : Unit) => fX6_byWhich_b2 I kind foot i) (fun (_ : Unit) => fX6_byWhich_x2) s) (fX6_byWhich_b2 I kind foot i2)))), I)) _ _ _ _
      rw [fX6_byWhich_b2]
      refine g_iconst (n := 9) (v := 1) ok dX6_byWhich_8 rfl rfl ?_
      refine g_istore (n := 11) (lv' := [(4, vi 1), (3, vi (nI i2)), (0, vr 52), (1, vi kind), (2, vi (nI foot))]) ok dX6_byWhich_9 (by decide) rfl rfl ?_
      have X11 : ∀ (_ : True), G E 5 ((some (vi ((Sum.elim id (fun (s : Unit) => foE n2 (i2 + 1) (fun (i : Nat) (_ : Unit) => fX6_byWhich_b2 I kind foot i) (fun (_ : Unit) => fX6_byWhich_x2) s) fX6_byWhich_x11))), I)) I 44 [(3, vi (nI i2)), (0, vr 52), (1, vi kind), (2, vi (nI foot))] [] := by
        intro _
        rw [fX6_byWhich_x11]
        refine g_iinc (n := 47) (v := nI (i2 + 1)) (lv' := [(3, vi (nI (i2 + 1))), (0, vr 52), (1, vi kind), (2, vi (nI foot))]) ok 0 dX6_byWhich_44 rfl (iinc_n (a := i2) rfl) (by decide) rfl rfl ?_
        refine g_goto (tgt := 2) ok dX6_byWhich_47 (by decide) ?_
        exact ih (i2 + 1) (by omega) (by omega)
      have L11 : ∀ (n11 i11 : Nat) (hge11 : 1 ≤ i11) (hi : i11 + n11 = 10), G E 5 ((some (vi ((Sum.elim id (fun (s : Unit) => foE n2 (i2 + 1) (fun (i : Nat) (_ : Unit) => fX6_byWhich_b2 I kind foot i) (fun (_ : Unit) => fX6_byWhich_x2) s) (foE n11 i11 (fun (i : Nat) (_ : Unit) => fX6_byWhich_b11 I kind foot i2 i) (fun (_ : Unit) => fX6_byWhich_x11) ())))), I)) I 11 [(4, vi (nI i11)), (3, vi (nI i2)), (0, vr 52), (1, vi kind), (2, vi (nI foot))] [] := by
        intro n11
        induction n11 with
        | zero =>
          intro i11 hge11 hi
          rw [foE_0]
          refine g_iload (n := 13) ok 0 dX6_byWhich_11 rfl rfl ?_
          refine g_bipush (n := 15) (v := 10) ok dX6_byWhich_13 rfl rfl ?_
          refine g_icmp_ge (n := 18) (tgt := 44) ok dX6_byWhich_15 (by decide) rfl (fun c => ?_) (fun c => absurd (nle (a := 10) (b := i11) rfl rfl (by omega) (by omega)) c)
          refine g_sub [1, 2, 3, 4] rfl ?_
          exact X11 trivial
        | succ n11 ih =>
          intro i11 hge11 hi
          refine g_iload (n := 13) ok 0 dX6_byWhich_11 rfl rfl ?_
          refine g_bipush (n := 15) (v := 10) ok dX6_byWhich_13 rfl rfl ?_
          refine g_icmp_ge (n := 18) (tgt := 44) ok dX6_byWhich_15 (by decide) rfl (fun c => absurd c (nnle (a := 10) (b := i11) rfl rfl (by omega) (by omega))) (fun c => ?_)
          rw [foE_s]
          show G E 5 ((some (vi ((Sum.elim id (fun (s : Unit) => foE n2 (i2 + 1) (fun (i : Nat) (_ : Unit) => fX6_byWhich_b2 I kind foot i) (fun (_ : Unit) => fX6_byWhich_x2) s) (Sum.elim id (fun (s : Unit) => foE n11 (i11 + 1) (fun (i : Nat) (_ : Unit) => fX6_byWhich_b11 I kind foot i2 i) (fun (_ : Unit) => fX6_byWhich_x11) s) (fX6_byWhich_b11 I kind foot i2 i11))))), I)) _ _ _ _
          rw [fX6_byWhich_b11]
          refine g_aload_n (n := 19) ok 2 dX6_byWhich_18 rfl rfl rfl ?_
          refine g_iload_n (n := 20) ok 3 dX6_byWhich_19 rfl rfl rfl ?_
          refine g_iload_n (n := 21) ok 4 dX6_byWhich_20 rfl rfl rfl ?_
          refine g_iload_n (n := 22) ok 1 dX6_byWhich_21 rfl rfl rfl ?_
          refine g_iload (n := 24) ok 0 dX6_byWhich_22 rfl rfl ?_
          refine g_callV (n := 27) (rest := []) (av := [vi kind, vi (nI foot), vi (nI i2), vi (nI i11)]) (j := 52) ok (kX6_isRowBy I kind foot (nI i2) (nI i11) (by first | with_reducible assumption | omega) (by first | with_reducible assumption | omega) (nI_ne0 (by omega) (by omega))) knX6_isRowBy q1028 q1030 qs57 clsX6 rfl dX6_byWhich_24 rfl rfl (Nat.le_of_ble_eq_true rfl) (by decide) (by decide) rfl ?_
          refine g_if_eq (n := 30) (tgt := 38) ok dX6_byWhich_27 (by decide) rfl (fun c1 => ?_) (fun c1 => ?_)
          · rw [if_pos c1]
            refine g_iinc (n := 41) (v := nI (i11 + 1)) (lv' := [(4, vi (nI (i11 + 1))), (3, vi (nI i2)), (0, vr 52), (1, vi kind), (2, vi (nI foot))]) ok 0 dX6_byWhich_38 rfl (iinc_n (a := i11) rfl) (by decide) rfl rfl ?_
            refine g_goto (tgt := 11) ok dX6_byWhich_41 (by decide) ?_
            exact ih (i11 + 1) (by omega) (by omega)
          · rw [if_neg c1]
            refine g_bipush (n := 32) (v := 10) ok dX6_byWhich_30 rfl rfl ?_
            refine g_iload_n (n := 33) ok 1 dX6_byWhich_32 rfl rfl rfl ?_
            refine g_imul (n := 34) ok dX6_byWhich_33 rfl ?_
            refine g_top (nv_imul (a := 10) (b := i2) rfl rfl) ?_
            refine g_iload (n := 36) ok 0 dX6_byWhich_34 rfl rfl ?_
            refine g_iadd (n := 37) ok dX6_byWhich_36 rfl ?_
            refine g_top (nv_iadd (a := 10 * i2) (b := i11) rfl rfl) ?_
            exact g_iret ok hr dX6_byWhich_37
      exact L11 9 1 (by omega) (by omega)
  exact L2 9 1 (by omega) (by omega)

noncomputable def fX6_whose_x78 (K5 : HI) (x78_4 : Int32) : Int32 × HI :=
  (x78_4, K5)
noncomputable def fX6_whose_b78 (foot : Int32) (K5 : HI) (i78 : Nat) (x78_4 : Int32) : Int32 :=
  if 0 ≤ fX6_byWhich K5 (nI i78) (ix foot) then x78_4 ||| (1 <<< ((nI i78) &&& 31)) else x78_4 ||| 0
noncomputable def fX6_whose_c5 (foot : Int32) (kind : Int32) (K5 : HI) : Int32 × HI :=
  if fX6_isFoot foot = 0 then ((fX6_refuse K5 (-1)).1, ((fX6_refuse K5 (-1)).2)) else (if fX6_in kind.toInt64 (-1) 6 = 0 then ((fX6_refuse K5 (-2)).1, ((fX6_refuse K5 (-2)).2)) else (if 12 ≤ K5 52 27 then (if kind < 0 then fX6_whose_x78 K5 (fo 7 0 (fun (i : Nat) (s : Int32) => fX6_whose_b78 foot K5 i s) 0) else (fX6_byWhich K5 kind (ix foot), K5)) else ((fX6_refuse K5 (-3)).1, ((fX6_refuse K5 (-3)).2))))
noncomputable def fX6_whose (I : HI) (foot : Int32) (kind : Int32) : Int32 × HI :=
  fX6_whose_c5 foot kind (up I 52 10 0)
theorem knX6_whose : Kn yX6_whose cX6_whose 6 (some .int) 2 := ⟨q1023, q8, ⟨by decide, by decide⟩, by decide +kernel⟩
set_option maxHeartbeats 400000 in
set_option maxRecDepth 100000 in
theorem kX6_whose (I : HI) (foot : Int32) (kind : Int32) (hd : vp_in (I 52 5) 7) : Cx yX6_whose cX6_whose 6 (some .int) 5 125 [vr 52, vi foot, vi kind] I ((some (vi (((fX6_whose I foot kind).1))), (fX6_whose I foot kind).2)) := by
  refine Cx.mk (lv := [(0, vr 52), (1, vi foot), (2, vi kind)]) (by decide) (Nat.le_of_ble_eq_true rfl) rfl (fun E ok hr => ?_)
  rw [fX6_whose]
  refine g_aload_n (n := 1) ok 0 dX6_whose_0 rfl rfl rfl ?_
  refine g_iconst (n := 2) (v := 0) ok dX6_whose_1 rfl rfl ?_
  refine g_put (n := 5) (J := up I 52 10 0) (c := 6) (k := 10) ok dX6_whose_2 clsX6 tyX6 tyX6_ok nmX6 (by decide) q688 rfl rfl (fun _ => rfl) (fun _ => rfl) (Nat.le_of_ble_eq_true rfl) (fs_6_10 _ _ _) up_ne rfl ?_
  have C5_14 : ∀ (K5 : HI) (hd2 : vp_in (K5 52 5) 7), G E 6 ((some (vi (((fX6_whose_c5 foot kind K5).1))), (fX6_whose_c5 foot kind K5).2)) K5 5 [(0, vr 52), (1, vi foot), (2, vi kind)] [] := by
    intro K5 hd2
    rw [fX6_whose_c5]
    have hd3 := vb hd2
    refine g_iload_n (n := 6) ok 1 dX6_whose_5 rfl rfl rfl ?_
    refine g_callS (n := 9) (rest := []) (av := [vi foot]) ok (kX6_isFoot K5 foot) knX6_isFoot q834 q835 dX6_whose_6 rfl rfl (Nat.le_of_ble_eq_true rfl) (by decide) (by decide) rfl ?_
    refine g_if_ne (n := 12) (tgt := 16) ok dX6_whose_9 (by decide) rfl (fun c4 => ?_) (fun c4 => ?_)
    · rw [if_neg c4]
      have ha5 : vp_in foot 2 := isFoot6_in c4
      have ha5b := vb ha5
      refine g_iload_n (n := 17) ok 2 dX6_whose_16 rfl rfl rfl ?_
      refine g_i2l (n := 18) ok dX6_whose_17 rfl ?_
      refine g_ldc2_w (n := 21) ok dX6_whose_18 q982 rfl ?_
      refine g_ldc2_w (n := 24) ok dX6_whose_21 q906 rfl ?_
      refine g_callS (n := 27) (rest := []) (av := [vl kind.toInt64, vl (-1), vl 6]) ok (kX6_in K5 kind.toInt64 (-1) 6) knX6_in q792 q793 dX6_whose_24 rfl rfl (Nat.le_of_ble_eq_true rfl) (by decide) (by decide) rfl ?_
      refine g_if_ne (n := 30) (tgt := 35) ok dX6_whose_27 (by decide) rfl (fun c6 => ?_) (fun c6 => ?_)
      · rw [if_neg c6]
        refine g_aload_n (n := 36) ok 0 dX6_whose_35 rfl rfl rfl ?_
        refine g_get (n := 39) (v := vi (K5 52 27)) (c := 6) (k := 27) ok dX6_whose_36 clsX6 (by decide) q705 rfl rfl rfl ?_
        refine g_bipush (n := 41) (v := 12) ok dX6_whose_39 rfl rfl ?_
        refine g_icmp_ge (n := 44) (tgt := 49) ok dX6_whose_41 (by decide) rfl (fun c7 => ?_) (fun c7 => ?_)
        · rw [if_pos c7]
          refine g_iconst (n := 50) (v := 0) ok dX6_whose_49 rfl rfl ?_
          refine g_istore_n (n := 51) (lv' := [(3, vi 0), (0, vr 52), (1, vi foot), (2, vi kind)]) ok dX6_whose_50 rfl (by decide) rfl rfl ?_
          refine g_iload_n (n := 52) ok 0 dX6_whose_51 rfl rfl rfl ?_
          refine g_if_ge (n := 55) (tgt := 61) ok dX6_whose_52 (by decide) rfl (fun c8 => ?_) (fun c8 => ?_)
          · refine g_iload_n (n := 62) ok 3 dX6_whose_61 rfl rfl rfl ?_
            refine g_if_lt (n := 65) (tgt := 72) ok dX6_whose_62 (by decide) rfl (fun c9 => ?_) (fun c9 => ?_)
            · rw [if_pos c9]
              refine g_iconst (n := 73) (v := 0) ok dX6_whose_72 rfl rfl ?_
              refine g_istore (n := 75) (lv' := [(4, vi 0), (3, vi 0), (0, vr 52), (1, vi foot), (2, vi kind)]) ok dX6_whose_73 (by decide) rfl rfl ?_
              refine g_iconst (n := 76) (v := 0) ok dX6_whose_75 rfl rfl ?_
              refine g_istore (n := 78) (lv' := [(5, vi 0), (4, vi 0), (3, vi 0), (0, vr 52), (1, vi foot), (2, vi kind)]) ok dX6_whose_76 (by decide) rfl rfl ?_
              have X78 : ∀ (x78_4 : Int32), G E 6 ((some (vi (((fX6_whose_x78 K5 x78_4).1))), (fX6_whose_x78 K5 x78_4).2)) K5 114 [(4, vi x78_4)] [] := by
                intro x78_4
                rw [fX6_whose_x78]
                refine g_iload (n := 116) ok 0 dX6_whose_114 rfl rfl ?_
                exact g_iret ok hr dX6_whose_116
              have L78 : ∀ (n78 i78 : Nat) (x78_4 : Int32) (hi : i78 + n78 = 7), G E 6 ((some (vi (((fX6_whose_x78 K5 (fo n78 i78 (fun (i : Nat) (s : Int32) => fX6_whose_b78 foot K5 i s) x78_4)).1))), (fX6_whose_x78 K5 (fo n78 i78 (fun (i : Nat) (s : Int32) => fX6_whose_b78 foot K5 i s) x78_4)).2)) K5 78 [(5, vi (nI i78)), (4, vi x78_4), (0, vr 52), (1, vi foot)] [] := by
                intro n78
                induction n78 with
                | zero =>
                  intro i78 x78_4 hi
                  rw [fo_0]
                  refine g_iload (n := 80) ok 0 dX6_whose_78 rfl rfl ?_
                  refine g_bipush (n := 82) (v := 7) ok dX6_whose_80 rfl rfl ?_
                  refine g_icmp_ge (n := 85) (tgt := 114) ok dX6_whose_82 (by decide) rfl (fun c => ?_) (fun c => absurd (nle (a := 7) (b := i78) rfl rfl (by omega) (by omega)) c)
                  refine g_sub [1] rfl ?_
                  exact X78 _
                | succ n78 ih =>
                  intro i78 x78_4 hi
                  refine g_iload (n := 80) ok 0 dX6_whose_78 rfl rfl ?_
                  refine g_bipush (n := 82) (v := 7) ok dX6_whose_80 rfl rfl ?_
                  refine g_icmp_ge (n := 85) (tgt := 114) ok dX6_whose_82 (by decide) rfl (fun c => absurd c (nnle (a := 7) (b := i78) rfl rfl (by omega) (by omega))) (fun c => ?_)
                  rw [fo_s]
                  show G E 6 ((some (vi (((fX6_whose_x78 K5 (fo n78 (i78 + 1) (fun (i : Nat) (s : Int32) => fX6_whose_b78 foot K5 i s) (fX6_whose_b78 foot K5 i78 x78_4))).1))), (fX6_whose_x78 K5 (fo n78 (i78 + 1) (fun (i : Nat) (s : Int32) => fX6_whose_b78 foot K5 i s) (fX6_whose_b78 foot K5 i78 x78_4))).2)) _ _ _ _
                  rw [fX6_whose_b78]
                  refine g_iload (n := 87) ok 1 dX6_whose_85 rfl rfl ?_
                  refine g_aload_n (n := 88) ok 2 dX6_whose_87 rfl rfl rfl ?_
                  refine g_iload (n := 90) ok 0 dX6_whose_88 rfl rfl ?_
                  refine g_iload_n (n := 91) ok 3 dX6_whose_90 rfl rfl rfl ?_
                  refine g_callV (n := 94) (rest := [vi x78_4]) (av := [vi (nI i78), vi (nI (ix foot))]) (j := 52) ok (kX6_byWhich K5 (nI i78) (ix foot) (by first | with_reducible assumption | exact vp_mono (by with_reducible assumption) (by omega)) (by first | with_reducible assumption | omega)) knX6_byWhich q1024 q1026 qs56 clsX6 rfl dX6_whose_91 (lcons (congrArg vi (vx ha5)) (lcons rfl (lcons rfl rfl))) rfl (Nat.le_of_ble_eq_true rfl) (by decide) (by decide) rfl ?_
                  refine g_if_ge (n := 97) (tgt := 101) ok dX6_whose_94 (by decide) rfl (fun c10 => ?_) (fun c10 => ?_)
                  · rw [if_pos c10]
                    refine g_iconst (n := 102) (v := 1) ok dX6_whose_101 rfl rfl ?_
                    refine g_iload (n := 104) ok 0 dX6_whose_102 rfl rfl ?_
                    refine g_ishl (n := 105) ok dX6_whose_104 rfl ?_
                    refine g_ior (n := 106) ok dX6_whose_105 rfl ?_
                    refine g_istore (n := 108) (lv' := [(4, vi (x78_4 ||| (1 <<< ((nI i78) &&& 31)))), (5, vi (nI i78)), (0, vr 52), (1, vi foot)]) ok dX6_whose_106 (by decide) rfl rfl ?_
                    refine g_iinc (n := 111) (v := nI (i78 + 1)) (lv' := [(5, vi (nI (i78 + 1))), (4, vi (x78_4 ||| (1 <<< ((nI i78) &&& 31)))), (0, vr 52), (1, vi foot)]) ok 1 dX6_whose_108 rfl (iinc_n (a := i78) rfl) (by decide) rfl rfl ?_
                    refine g_goto (tgt := 78) ok dX6_whose_111 (by decide) ?_
                    exact ih (i78 + 1) (x78_4 ||| (1 <<< ((nI i78) &&& 31))) (by omega)
                  · rw [if_neg c10]
                    refine g_iconst (n := 98) (v := 0) ok dX6_whose_97 rfl rfl ?_
                    refine g_goto (tgt := 105) ok dX6_whose_98 (by decide) ?_
                    refine g_ior (n := 106) ok dX6_whose_105 rfl ?_
                    refine g_istore (n := 108) (lv' := [(4, vi (x78_4 ||| 0)), (5, vi (nI i78)), (0, vr 52), (1, vi foot)]) ok dX6_whose_106 (by decide) rfl rfl ?_
                    refine g_iinc (n := 111) (v := nI (i78 + 1)) (lv' := [(5, vi (nI (i78 + 1))), (4, vi (x78_4 ||| 0)), (0, vr 52), (1, vi foot)]) ok 1 dX6_whose_108 rfl (iinc_n (a := i78) rfl) (by decide) rfl rfl ?_
                    refine g_goto (tgt := 78) ok dX6_whose_111 (by decide) ?_
                    exact ih (i78 + 1) (x78_4 ||| 0) (by omega)
              refine g_sub [0, 1, 3, 4] rfl ?_
              exact L78 7 0 0 (by omega)
            · rw [if_neg c9]
              refine g_aload_n (n := 66) ok 1 dX6_whose_65 rfl rfl rfl ?_
              refine g_iload_n (n := 67) ok 3 dX6_whose_66 rfl rfl rfl ?_
              refine g_iload_n (n := 68) ok 2 dX6_whose_67 rfl rfl rfl ?_
              refine g_callV (n := 71) (rest := []) (av := [vi kind, vi (nI (ix foot))]) (j := 52) ok (kX6_byWhich K5 kind (ix foot) (by first | with_reducible assumption | exact vp_mono (by with_reducible assumption) (by omega)) (by first | with_reducible assumption | omega)) knX6_byWhich q1024 q1026 qs56 clsX6 rfl dX6_whose_68 (lcons (congrArg vi (vx ha5)) (lcons rfl (lcons rfl rfl))) rfl (Nat.le_of_ble_eq_true rfl) (by decide) (by decide) rfl ?_
              exact g_iret ok hr dX6_whose_71
          · exact absurd (by decide) c8
        · rw [if_neg c7]
          refine g_bipush (n := 46) (v := -3) ok dX6_whose_44 rfl rfl ?_
          refine g_goto (tgt := 50) ok dX6_whose_46 (by decide) ?_
          refine g_istore_n (n := 51) (lv' := [(3, vi (-3)), (0, vr 52), (1, vi foot), (2, vi kind)]) ok dX6_whose_50 rfl (by decide) rfl rfl ?_
          refine g_iload_n (n := 52) ok 0 dX6_whose_51 rfl rfl rfl ?_
          refine g_if_ge (n := 55) (tgt := 61) ok dX6_whose_52 (by decide) rfl (fun c11 => ?_) (fun c11 => ?_)
          · exact absurd c11 (by decide)
          · refine g_aload_n (n := 56) ok 1 dX6_whose_55 rfl rfl rfl ?_
            refine g_iload_n (n := 57) ok 0 dX6_whose_56 rfl rfl rfl ?_
            refine g_callV (n := 60) (rest := []) (av := [vi (-3)]) (j := 52) ok (kX6_refuse K5 (-3) (vp_b (by decide +kernel))) knX6_refuse q770 q772 qs25 clsX6 rfl dX6_whose_57 rfl rfl (Nat.le_of_ble_eq_true rfl) (by decide) (by decide) rfl ?_
            exact g_iret ok hr dX6_whose_60
      · rw [if_pos c6]
        refine g_bipush (n := 32) (v := -2) ok dX6_whose_30 rfl rfl ?_
        refine g_goto (tgt := 50) ok dX6_whose_32 (by decide) ?_
        refine g_istore_n (n := 51) (lv' := [(3, vi (-2)), (0, vr 52), (1, vi foot), (2, vi kind)]) ok dX6_whose_50 rfl (by decide) rfl rfl ?_
        refine g_iload_n (n := 52) ok 0 dX6_whose_51 rfl rfl rfl ?_
        refine g_if_ge (n := 55) (tgt := 61) ok dX6_whose_52 (by decide) rfl (fun c12 => ?_) (fun c12 => ?_)
        · exact absurd c12 (by decide)
        · refine g_aload_n (n := 56) ok 1 dX6_whose_55 rfl rfl rfl ?_
          refine g_iload_n (n := 57) ok 0 dX6_whose_56 rfl rfl rfl ?_
          refine g_callV (n := 60) (rest := []) (av := [vi (-2)]) (j := 52) ok (kX6_refuse K5 (-2) (vp_b (by decide +kernel))) knX6_refuse q770 q772 qs25 clsX6 rfl dX6_whose_57 rfl rfl (Nat.le_of_ble_eq_true rfl) (by decide) (by decide) rfl ?_
          exact g_iret ok hr dX6_whose_60
    · rw [if_pos c4]
      refine g_iconst (n := 13) (v := -1) ok dX6_whose_12 rfl rfl ?_
      refine g_goto (tgt := 50) ok dX6_whose_13 (by decide) ?_
      refine g_istore_n (n := 51) (lv' := [(3, vi (-1)), (0, vr 52), (1, vi foot), (2, vi kind)]) ok dX6_whose_50 rfl (by decide) rfl rfl ?_
      refine g_iload_n (n := 52) ok 0 dX6_whose_51 rfl rfl rfl ?_
      refine g_if_ge (n := 55) (tgt := 61) ok dX6_whose_52 (by decide) rfl (fun c13 => ?_) (fun c13 => ?_)
      · exact absurd c13 (by decide)
      · refine g_aload_n (n := 56) ok 1 dX6_whose_55 rfl rfl rfl ?_
        refine g_iload_n (n := 57) ok 0 dX6_whose_56 rfl rfl rfl ?_
        refine g_callV (n := 60) (rest := []) (av := [vi (-1)]) (j := 52) ok (kX6_refuse K5 (-1) (vp_b (by decide +kernel))) knX6_refuse q770 q772 qs25 clsX6 rfl dX6_whose_57 rfl rfl (Nat.le_of_ble_eq_true rfl) (by decide) (by decide) rfl ?_
        exact g_iret ok hr dX6_whose_60
  exact C5_14 _ (by rw [up_k (by omega)]; exact hd)

noncomputable def fX6_markBy (I : HI) (judge : Int32) (t : Nat) : Int32 :=
  if judge = 0 then fX6_held ((60 - ((fX6_offOf I t) / 4)) - (fX6_gapOf I t)) 60 else (if judge = 1 then fX6_held ((fX6_held ((60 - ((fX6_offOf I t) / 4)) - (fX6_gapOf I t)) 60) - (2 * (fX6_ones (ix (fX6_flatsOf I t))))) 60 else (if judge = 2 then fX6_held ((fX6_held ((60 - ((fX6_offOf I t) / 4)) - (fX6_gapOf I t)) 60) + (3 * (I 55 3))) 60 else (if judge = 3 then fX6_held ((fX6_held ((fX6_held ((60 - ((fX6_offOf I t) / 4)) - (fX6_gapOf I t)) 60) + (3 * (I 55 3))) 60) + (I 55 4)) 60 else (if 0 ≤ nI (fX6_latestAhead I (I 56 t) t) - 1 then fX6_held ((fX6_held ((fX6_held ((60 - ((fX6_offOf I t) / 4)) - (fX6_gapOf I t)) 60) - (2 * (fX6_ones (ix (fX6_flatsOf I t))))) 60) - ((fX6_closeOf I t ((fX6_latestAhead I (I 56 t) t) - 1)) / 8)) 60 else fX6_held ((fX6_held ((60 - ((fX6_offOf I t) / 4)) - (fX6_gapOf I t)) 60) - (2 * (fX6_ones (ix (fX6_flatsOf I t))))) 60))))
theorem knX6_markBy : Kn yX6_markBy cX6_markBy 7 (some .int) 2 := ⟨q1039, q8, ⟨by decide, by decide⟩, by decide +kernel⟩
set_option maxHeartbeats 400000 in
set_option maxRecDepth 100000 in
theorem kX6_markBy (I : HI) (judge : Int32) (t : Nat) (ht : t < 27) (hF : ∀ n, n < 27 → vp_in (I 56 n) 2) : Cx yX6_markBy cX6_markBy 7 (some .int) 2 44 [vr 52, vi judge, vi (nI t)] I ((some (vi ((fX6_markBy I judge t))), I)) := by
  refine Cx.mk (lv := [(0, vr 52), (1, vi judge), (2, vi (nI t))]) (by decide) (Nat.le_of_ble_eq_true rfl) rfl (fun E ok hr => ?_)
  rw [fX6_markBy]
  refine g_bipush (n := 2) (v := 60) ok dX6_markBy_0 rfl rfl ?_
  refine g_aload_n (n := 3) ok 0 dX6_markBy_2 rfl rfl rfl ?_
  refine g_iload_n (n := 4) ok 2 dX6_markBy_3 rfl rfl rfl ?_
  refine g_callV (n := 7) (rest := [vi 60]) (av := [vi (nI t)]) (j := 52) ok (kX6_offOf I t (by first | with_reducible assumption | omega)) knX6_offOf q939 q941 qs48 clsX6 rfl dX6_markBy_4 rfl rfl (Nat.le_of_ble_eq_true rfl) (by decide) (by decide) rfl ?_
  refine g_iconst (n := 8) (v := 4) ok dX6_markBy_7 rfl rfl ?_
  refine g_idiv (n := 9) ok dX6_markBy_8 (by decide) rfl ?_
  refine g_isub (n := 10) ok dX6_markBy_9 rfl ?_
  refine g_aload_n (n := 11) ok 0 dX6_markBy_10 rfl rfl rfl ?_
  refine g_iload_n (n := 12) ok 2 dX6_markBy_11 rfl rfl rfl ?_
  refine g_callV (n := 15) (rest := [vi (60 - ((fX6_offOf I t) / 4))]) (av := [vi (nI t)]) (j := 52) ok (kX6_gapOf I t (by first | with_reducible assumption | omega)) knX6_gapOf q932 q934 qs47 clsX6 rfl dX6_markBy_12 rfl rfl (Nat.le_of_ble_eq_true rfl) (by decide) (by decide) rfl ?_
  refine g_isub (n := 16) ok dX6_markBy_15 rfl ?_
  refine g_bipush (n := 18) (v := 60) ok dX6_markBy_16 rfl rfl ?_
  refine g_callS (n := 21) (rest := []) (av := [vi ((60 - ((fX6_offOf I t) / 4)) - (fX6_gapOf I t)), vi 60]) ok (kX6_held I ((60 - ((fX6_offOf I t) / 4)) - (fX6_gapOf I t)) 60) knX6_held q860 q861 dX6_markBy_18 rfl rfl (Nat.le_of_ble_eq_true rfl) (by decide) (by decide) rfl ?_
  refine g_istore_n (n := 22) (lv' := [(3, vi (fX6_held ((60 - ((fX6_offOf I t) / 4)) - (fX6_gapOf I t)) 60)), (0, vr 52), (1, vi judge), (2, vi (nI t))]) ok dX6_markBy_21 rfl (by decide) rfl rfl ?_
  refine g_iload_n (n := 23) ok 0 dX6_markBy_22 rfl rfl rfl ?_
  refine g_iconst (n := 24) (v := 2) ok dX6_markBy_23 rfl rfl ?_
  refine g_aload_n (n := 25) ok 1 dX6_markBy_24 rfl rfl rfl ?_
  refine g_iload_n (n := 26) ok 3 dX6_markBy_25 rfl rfl rfl ?_
  refine g_callV (n := 29) (rest := [vi 2, vi (fX6_held ((60 - ((fX6_offOf I t) / 4)) - (fX6_gapOf I t)) 60)]) (av := [vi (nI t)]) (j := 52) ok (kX6_flatsOf I t (by first | with_reducible assumption | omega) (by first | with_reducible assumption | omega)) knX6_flatsOf q951 q953 qs51 clsX6 rfl dX6_markBy_26 rfl rfl (Nat.le_of_ble_eq_true rfl) (by decide) (by decide) rfl ?_
  have hq1 : vp_in (fX6_flatsOf I t) 4096 := flats6_in
  have hq1b := vb hq1
  refine g_top (vx hq1) ?_
  refine g_callS (n := 32) (rest := [vi 2, vi (fX6_held ((60 - ((fX6_offOf I t) / 4)) - (fX6_gapOf I t)) 60)]) (av := [vi (nI (ix (fX6_flatsOf I t)))]) ok (kX6_ones I (ix (fX6_flatsOf I t)) (by first | with_reducible assumption | omega)) knX6_ones q1040 q1041 dX6_markBy_29 rfl rfl (Nat.le_of_ble_eq_true rfl) (by decide) (by decide) rfl ?_
  refine g_imul (n := 33) ok dX6_markBy_32 rfl ?_
  refine g_isub (n := 34) ok dX6_markBy_33 rfl ?_
  refine g_bipush (n := 36) (v := 60) ok dX6_markBy_34 rfl rfl ?_
  refine g_callS (n := 39) (rest := []) (av := [vi ((fX6_held ((60 - ((fX6_offOf I t) / 4)) - (fX6_gapOf I t)) 60) - (2 * (fX6_ones (ix (fX6_flatsOf I t))))), vi 60]) ok (kX6_held I ((fX6_held ((60 - ((fX6_offOf I t) / 4)) - (fX6_gapOf I t)) 60) - (2 * (fX6_ones (ix (fX6_flatsOf I t))))) 60) knX6_held q860 q861 dX6_markBy_36 rfl rfl (Nat.le_of_ble_eq_true rfl) (by decide) (by decide) rfl ?_
  refine g_istore (n := 41) (lv' := [(4, vi (fX6_held ((fX6_held ((60 - ((fX6_offOf I t) / 4)) - (fX6_gapOf I t)) 60) - (2 * (fX6_ones (ix (fX6_flatsOf I t))))) 60)), (3, vi (fX6_held ((60 - ((fX6_offOf I t) / 4)) - (fX6_gapOf I t)) 60)), (0, vr 52), (1, vi judge), (2, vi (nI t))]) ok dX6_markBy_39 (by decide) rfl rfl ?_
  refine g_iload_n (n := 42) ok 1 dX6_markBy_41 rfl rfl rfl ?_
  refine g_iconst (n := 43) (v := 3) ok dX6_markBy_42 rfl rfl ?_
  refine g_aload_n (n := 44) ok 2 dX6_markBy_43 rfl rfl rfl ?_
  refine g_get (n := 47) (v := vr 55) (c := 6) (k := 2) ok dX6_markBy_44 clsX6 (by decide) q680 rfl rfl rfl ?_
  refine g_iconst (n := 48) (v := 3) ok dX6_markBy_47 rfl rfl ?_
  refine g_iald (n := 49) (i := 3) (L := 5) ok dX6_markBy_48 rfl rfl rfl (by omega) rfl ?_
  refine g_imul (n := 50) ok dX6_markBy_49 rfl ?_
  refine g_iadd (n := 51) ok dX6_markBy_50 rfl ?_
  refine g_bipush (n := 53) (v := 60) ok dX6_markBy_51 rfl rfl ?_
  refine g_callS (n := 56) (rest := []) (av := [vi ((fX6_held ((60 - ((fX6_offOf I t) / 4)) - (fX6_gapOf I t)) 60) + (3 * (I 55 3))), vi 60]) ok (kX6_held I ((fX6_held ((60 - ((fX6_offOf I t) / 4)) - (fX6_gapOf I t)) 60) + (3 * (I 55 3))) 60) knX6_held q860 q861 dX6_markBy_53 rfl rfl (Nat.le_of_ble_eq_true rfl) (by decide) (by decide) rfl ?_
  refine g_istore (n := 58) (lv' := [(5, vi (fX6_held ((fX6_held ((60 - ((fX6_offOf I t) / 4)) - (fX6_gapOf I t)) 60) + (3 * (I 55 3))) 60)), (4, vi (fX6_held ((fX6_held ((60 - ((fX6_offOf I t) / 4)) - (fX6_gapOf I t)) 60) - (2 * (fX6_ones (ix (fX6_flatsOf I t))))) 60)), (3, vi (fX6_held ((60 - ((fX6_offOf I t) / 4)) - (fX6_gapOf I t)) 60)), (0, vr 52), (1, vi judge), (2, vi (nI t))]) ok dX6_markBy_56 (by decide) rfl rfl ?_
  refine g_aload_n (n := 59) ok 3 dX6_markBy_58 rfl rfl rfl ?_
  refine g_aload_n (n := 60) ok 3 dX6_markBy_59 rfl rfl rfl ?_
  refine g_get (n := 63) (v := vr 56) (c := 6) (k := 6) ok dX6_markBy_60 clsX6 (by decide) q684 rfl rfl rfl ?_
  refine g_iload_n (n := 64) ok 5 dX6_markBy_63 rfl rfl rfl ?_
  refine g_iald (n := 65) (i := t) (L := 27) ok dX6_markBy_64 rfl rfl rfl (by omega) rfl ?_
  refine g_iload_n (n := 66) ok 5 dX6_markBy_65 rfl rfl rfl ?_
  refine g_callV (n := 69) (rest := []) (av := [vi (I 56 t), vi (nI t)]) (j := 52) ok (kX6_latestAhead I (I 56 t) t (by first | with_reducible assumption | omega)) knX6_latestAhead q867 q869 qs42 clsX6 rfl dX6_markBy_66 rfl rfl (Nat.le_of_ble_eq_true rfl) (by decide) (by decide) rfl ?_
  have hp2 : fX6_latestAhead I (I 56 t) t ≤ t := latestAhead6_le
  refine g_istore (n := 71) (lv' := [(6, vi (nI (fX6_latestAhead I (I 56 t) t) - 1)), (5, vi (fX6_held ((fX6_held ((60 - ((fX6_offOf I t) / 4)) - (fX6_gapOf I t)) 60) + (3 * (I 55 3))) 60)), (4, vi (fX6_held ((fX6_held ((60 - ((fX6_offOf I t) / 4)) - (fX6_gapOf I t)) 60) - (2 * (fX6_ones (ix (fX6_flatsOf I t))))) 60)), (3, vi (fX6_held ((60 - ((fX6_offOf I t) / 4)) - (fX6_gapOf I t)) 60)), (0, vr 52), (1, vi judge), (2, vi (nI t))]) ok dX6_markBy_69 (by decide) rfl rfl ?_
  refine g_iload_n (n := 72) ok 5 dX6_markBy_71 rfl rfl rfl ?_
  by_cases c3 : judge = 0
  · rw [if_pos c3]
    refine g_tabIn (off := 32) (tgt := 104) ok dX6_markBy_72 (by rw [c3]; decide) (by rw [c3]; decide) (by rw [c3]; rfl) (by decide) ?_
    refine g_iload_n (n := 105) ok 3 dX6_markBy_104 rfl rfl rfl ?_
    exact g_iret ok hr dX6_markBy_105
  · rw [if_neg c3]
    by_cases c4 : judge = 1
    · rw [if_pos c4]
      refine g_tabIn (off := 34) (tgt := 106) ok dX6_markBy_72 (by rw [c4]; decide) (by rw [c4]; decide) (by rw [c4]; rfl) (by decide) ?_
      refine g_iload (n := 108) ok 2 dX6_markBy_106 rfl rfl ?_
      exact g_iret ok hr dX6_markBy_108
    · rw [if_neg c4]
      by_cases c5 : judge = 2
      · rw [if_pos c5]
        refine g_tabIn (off := 37) (tgt := 109) ok dX6_markBy_72 (by rw [c5]; decide) (by rw [c5]; decide) (by rw [c5]; rfl) (by decide) ?_
        refine g_iload (n := 111) ok 1 dX6_markBy_109 rfl rfl ?_
        exact g_iret ok hr dX6_markBy_111
      · rw [if_neg c5]
        by_cases c6 : judge = 3
        · rw [if_pos c6]
          refine g_tabIn (off := 40) (tgt := 112) ok dX6_markBy_72 (by rw [c6]; decide) (by rw [c6]; decide) (by rw [c6]; rfl) (by decide) ?_
          refine g_iload (n := 114) ok 1 dX6_markBy_112 rfl rfl ?_
          refine g_aload_n (n := 115) ok 4 dX6_markBy_114 rfl rfl rfl ?_
          refine g_get (n := 118) (v := vr 55) (c := 6) (k := 2) ok dX6_markBy_115 clsX6 (by decide) q680 rfl rfl rfl ?_
          refine g_iconst (n := 119) (v := 4) ok dX6_markBy_118 rfl rfl ?_
          refine g_iald (n := 120) (i := 4) (L := 5) ok dX6_markBy_119 rfl rfl rfl (by omega) rfl ?_
          refine g_iadd (n := 121) ok dX6_markBy_120 rfl ?_
          refine g_bipush (n := 123) (v := 60) ok dX6_markBy_121 rfl rfl ?_
          refine g_callS (n := 126) (rest := []) (av := [vi ((fX6_held ((fX6_held ((60 - ((fX6_offOf I t) / 4)) - (fX6_gapOf I t)) 60) + (3 * (I 55 3))) 60) + (I 55 4)), vi 60]) ok (kX6_held I ((fX6_held ((fX6_held ((60 - ((fX6_offOf I t) / 4)) - (fX6_gapOf I t)) 60) + (3 * (I 55 3))) 60) + (I 55 4)) 60) knX6_held q860 q861 dX6_markBy_123 rfl rfl (Nat.le_of_ble_eq_true rfl) (by decide) (by decide) rfl ?_
          exact g_iret ok hr dX6_markBy_126
        · rw [if_neg c6]
          refine g_tabOut (tgt := 127) ok dX6_markBy_72 (by have h0 : judge.toInt ≠ 0 := ne_toInt c3; have h1 : judge.toInt ≠ 1 := ne_toInt c4; have h2 : judge.toInt ≠ 2 := ne_toInt c5; have h3 : judge.toInt ≠ 3 := ne_toInt c6; omega) (by decide) ?_
          refine g_iload (n := 129) ok 0 dX6_markBy_127 rfl rfl ?_
          refine g_if_ge (n := 132) (tgt := 137) ok dX6_markBy_129 (by decide) rfl (fun c7 => ?_) (fun c7 => ?_)
          · rw [if_pos c7]
            have hp8 : 0 < (fX6_latestAhead I (I 56 t) t) := pred_pos2 c7
            refine g_iload (n := 139) ok 2 dX6_markBy_137 rfl rfl ?_
            refine g_aload_n (n := 140) ok 4 dX6_markBy_139 rfl rfl rfl ?_
            refine g_iload_n (n := 141) ok 6 dX6_markBy_140 rfl rfl rfl ?_
            refine g_iload (n := 143) ok 0 dX6_markBy_141 rfl rfl ?_
            refine g_callV (n := 146) (rest := [vi (fX6_held ((fX6_held ((60 - ((fX6_offOf I t) / 4)) - (fX6_gapOf I t)) 60) - (2 * (fX6_ones (ix (fX6_flatsOf I t))))) 60)]) (av := [vi (nI t), vi (nI ((fX6_latestAhead I (I 56 t) t) - 1))]) (j := 52) ok (kX6_closeOf I t ((fX6_latestAhead I (I 56 t) t) - 1) (by first | with_reducible assumption | omega) (by first | with_reducible assumption | omega)) knX6_closeOf q970 q972 qs52 clsX6 rfl dX6_markBy_143 (lcons (congrArg vi (nv_isub (a := fX6_latestAhead I (I 56 t) t) (b := 1) rfl rfl (by omega))) (lcons rfl (lcons rfl rfl))) rfl (Nat.le_of_ble_eq_true rfl) (by decide) (by decide) rfl ?_
            refine g_bipush (n := 148) (v := 8) ok dX6_markBy_146 rfl rfl ?_
            refine g_idiv (n := 149) ok dX6_markBy_148 (by decide) rfl ?_
            refine g_isub (n := 150) ok dX6_markBy_149 rfl ?_
            refine g_bipush (n := 152) (v := 60) ok dX6_markBy_150 rfl rfl ?_
            refine g_callS (n := 155) (rest := []) (av := [vi ((fX6_held ((fX6_held ((60 - ((fX6_offOf I t) / 4)) - (fX6_gapOf I t)) 60) - (2 * (fX6_ones (ix (fX6_flatsOf I t))))) 60) - ((fX6_closeOf I t ((fX6_latestAhead I (I 56 t) t) - 1)) / 8)), vi 60]) ok (kX6_held I ((fX6_held ((fX6_held ((60 - ((fX6_offOf I t) / 4)) - (fX6_gapOf I t)) 60) - (2 * (fX6_ones (ix (fX6_flatsOf I t))))) 60) - ((fX6_closeOf I t ((fX6_latestAhead I (I 56 t) t) - 1)) / 8)) 60) knX6_held q860 q861 dX6_markBy_152 rfl rfl (Nat.le_of_ble_eq_true rfl) (by decide) (by decide) rfl ?_
            exact g_iret ok hr dX6_markBy_155
          · rw [if_neg c7]
            refine g_iload (n := 134) ok 2 dX6_markBy_132 rfl rfl ?_
            refine g_goto (tgt := 155) ok dX6_markBy_134 (by decide) ?_
            exact g_iret ok hr dX6_markBy_155

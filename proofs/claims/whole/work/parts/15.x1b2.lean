noncomputable def fX1_bestClosing_x11 (x11_4 : Int32) (x11_3 : Int32) (x11_2 : Int32) (J11 : HI) : Int32 × HI :=
  (x11_2, J11)
noncomputable def fX1_bestClosing_x21 (x21_4 : Int32) (x21_3 : Int32) (x21_2 : Int32) (J21 : HI) : Int32 × Int32 × Int32 × HI :=
  (x21_4, x21_3, x21_2, J21)
noncomputable def fX1_bestClosing_88 (foot : Nat) (i11 : Nat) (x21_4 : Int32) (x21_3 : Int32) (x21_2 : Int32) (J21 : HI) (i21 : Nat) (v14 : Int32) : Int32 × Int32 × Int32 × HI :=
  if x21_2 = (-9) then (fX3_offOf ((fX1_nextBy J21 (J21 1 3) foot (nI i11) (nI i21)).2) ((fX1_nextBy J21 (J21 1 3) foot (nI i11) (nI i21)).1), fX4_gap ((fX1_nextBy J21 (J21 1 3) foot (nI i11) (nI i21)).2) ((fX1_nextBy J21 (J21 1 3) foot (nI i11) (nI i21)).1), nI ((10 * i11) + i21), ((fX1_nextBy J21 (J21 1 3) foot (nI i11) (nI i21)).2)) else (if v14 = 0 then (x21_4, x21_3, x21_2, ((fX1_nextBy J21 (J21 1 3) foot (nI i11) (nI i21)).2)) else (fX3_offOf ((fX1_nextBy J21 (J21 1 3) foot (nI i11) (nI i21)).2) ((fX1_nextBy J21 (J21 1 3) foot (nI i11) (nI i21)).1), fX4_gap ((fX1_nextBy J21 (J21 1 3) foot (nI i11) (nI i21)).2) ((fX1_nextBy J21 (J21 1 3) foot (nI i11) (nI i21)).1), nI ((10 * i11) + i21), ((fX1_nextBy J21 (J21 1 3) foot (nI i11) (nI i21)).2)))
noncomputable def fX1_bestClosing_b21 (foot : Nat) (i11 : Nat) (i21 : Nat) (x21_4 : Int32) (x21_3 : Int32) (x21_2 : Int32) (J21 : HI) : Int32 × Int32 × Int32 × HI :=
  fX1_bestClosing_88 foot i11 x21_4 x21_3 x21_2 J21 i21 (if fX4_gap ((fX1_nextBy J21 (J21 1 3) foot (nI i11) (nI i21)).2) ((fX1_nextBy J21 (J21 1 3) foot (nI i11) (nI i21)).1) < x21_3 then 1 else (if fX4_gap ((fX1_nextBy J21 (J21 1 3) foot (nI i11) (nI i21)).2) ((fX1_nextBy J21 (J21 1 3) foot (nI i11) (nI i21)).1) = x21_3 then (if x21_4 ≤ fX3_offOf ((fX1_nextBy J21 (J21 1 3) foot (nI i11) (nI i21)).2) ((fX1_nextBy J21 (J21 1 3) foot (nI i11) (nI i21)).1) then 0 else 1) else 0))
noncomputable def fX1_bestClosing_b11 (foot : Nat) (i11 : Nat) (x11_4 : Int32) (x11_3 : Int32) (x11_2 : Int32) (J11 : HI) : Int32 × Int32 × Int32 × HI :=
  (fun (s : Int32 × Int32 × Int32 × HI) => fX1_bestClosing_x21 s.1 s.2.1 s.2.2.1 s.2.2.2) (fo 9 1 (fun (i : Nat) (s : Int32 × Int32 × Int32 × HI) => fX1_bestClosing_b21 foot i11 i s.1 s.2.1 s.2.2.1 s.2.2.2) (x11_4, x11_3, x11_2, J11))
noncomputable def fX1_bestClosing (I : HI) (foot : Nat) : Int32 × HI :=
  (fun (s : Int32 × Int32 × Int32 × HI) => fX1_bestClosing_x11 s.1 s.2.1 s.2.2.1 s.2.2.2) (fo 9 1 (fun (i : Nat) (s : Int32 × Int32 × Int32 × HI) => fX1_bestClosing_b11 foot i s.1 s.2.1 s.2.2.1 s.2.2.2) (0, 0, (-9), I))
theorem knX1_bestClosing : Kn yX1_bestClosing cX1_bestClosing 11 (some .int) 1 := ⟨q499, q6, ⟨by decide, by decide⟩, by decide +kernel⟩
set_option maxHeartbeats 400000 in
set_option maxRecDepth 100000 in
theorem kX1_bestClosing (I : HI) (foot : Nat) (hd : vp_in (I 1 6) 7) (hf : foot < 2) : Cx yX1_bestClosing cX1_bestClosing 11 (some .int) 5 125 [vr 37, vi (nI foot)] I ((some (vi (((fX1_bestClosing I foot).1))), (fX1_bestClosing I foot).2)) := by
  refine Cx.mk (lv := [(0, vr 37), (1, vi (nI foot))]) (by decide) (Nat.le_of_ble_eq_true rfl) rfl (fun E ok hr => ?_)
  rw [fX1_bestClosing]
  refine g_bipush (n := 2) (v := -9) ok dX1_bestClosing_0 rfl rfl ?_
  refine g_istore_n (n := 3) (lv' := [(2, vi (-9)), (0, vr 37), (1, vi (nI foot))]) ok dX1_bestClosing_2 rfl (by decide) rfl rfl ?_
  refine g_iconst (n := 4) (v := 0) ok dX1_bestClosing_3 rfl rfl ?_
  refine g_istore_n (n := 5) (lv' := [(3, vi 0), (2, vi (-9)), (0, vr 37), (1, vi (nI foot))]) ok dX1_bestClosing_4 rfl (by decide) rfl rfl ?_
  refine g_iconst (n := 6) (v := 0) ok dX1_bestClosing_5 rfl rfl ?_
  refine g_istore (n := 8) (lv' := [(4, vi 0), (3, vi 0), (2, vi (-9)), (0, vr 37), (1, vi (nI foot))]) ok dX1_bestClosing_6 (by decide) rfl rfl ?_
  refine g_iconst (n := 9) (v := 1) ok dX1_bestClosing_8 rfl rfl ?_
  refine g_istore (n := 11) (lv' := [(5, vi 1), (4, vi 0), (3, vi 0), (2, vi (-9)), (0, vr 37), (1, vi (nI foot))]) ok dX1_bestClosing_9 (by decide) rfl rfl ?_
  have X11 : ∀ (x11_4 : Int32) (x11_3 : Int32) (x11_2 : Int32) (J11 : HI) (hd2 : vp_in (J11 1 6) 7), G E 11 ((some (vi (((fX1_bestClosing_x11 x11_4 x11_3 x11_2 J11).1))), (fX1_bestClosing_x11 x11_4 x11_3 x11_2 J11).2)) J11 129 [(2, vi x11_2)] [] := by
    intro x11_4 x11_3 x11_2 J11 hd2
    rw [fX1_bestClosing_x11]
    refine g_iload_n (n := 130) ok 0 dX1_bestClosing_129 rfl rfl rfl ?_
    exact g_iret ok hr dX1_bestClosing_130
  have L11 : ∀ (n11 i11 : Nat) (x11_4 : Int32) (x11_3 : Int32) (x11_2 : Int32) (J11 : HI) (hd2 : vp_in (J11 1 6) 7) (hi : i11 + n11 = 10), G E 11 ((some (vi ((((fun (s : Int32 × Int32 × Int32 × HI) => fX1_bestClosing_x11 s.1 s.2.1 s.2.2.1 s.2.2.2) (fo n11 i11 (fun (i : Nat) (s : Int32 × Int32 × Int32 × HI) => fX1_bestClosing_b11 foot i s.1 s.2.1 s.2.2.1 s.2.2.2) (x11_4, x11_3, x11_2, J11))).1))), ((fun (s : Int32 × Int32 × Int32 × HI) => fX1_bestClosing_x11 s.1 s.2.1 s.2.2.1 s.2.2.2) (fo n11 i11 (fun (i : Nat) (s : Int32 × Int32 × Int32 × HI) => fX1_bestClosing_b11 foot i s.1 s.2.1 s.2.2.1 s.2.2.2) (x11_4, x11_3, x11_2, J11))).2)) J11 11 [(5, vi (nI i11)), (4, vi x11_4), (3, vi x11_3), (2, vi x11_2), (0, vr 37), (1, vi (nI foot))] [] := by
    intro n11
    induction n11 with
    | zero =>
      intro i11 x11_4 x11_3 x11_2 J11 hd2 hi
      rw [fo_0]
      refine g_iload (n := 13) ok 0 dX1_bestClosing_11 rfl rfl ?_
      refine g_bipush (n := 15) (v := 9) ok dX1_bestClosing_13 rfl rfl ?_
      refine g_icmp_gt (n := 18) (tgt := 129) ok dX1_bestClosing_15 (by decide) rfl (fun c => ?_) (fun c => absurd (nlt (a := 9) (b := i11) rfl rfl (by omega) (by omega)) c)
      refine g_sub [3] rfl ?_
      exact X11 _ _ _ _ hd2
    | succ n11 ih =>
      intro i11 x11_4 x11_3 x11_2 J11 hd2 hi
      refine g_iload (n := 13) ok 0 dX1_bestClosing_11 rfl rfl ?_
      refine g_bipush (n := 15) (v := 9) ok dX1_bestClosing_13 rfl rfl ?_
      refine g_icmp_gt (n := 18) (tgt := 129) ok dX1_bestClosing_15 (by decide) rfl (fun c => absurd c (nnlt (a := 9) (b := i11) rfl rfl (by omega) (by omega))) (fun c => ?_)
      rw [fo_s]
      show G E 11 ((some (vi ((((fun (s : Int32 × Int32 × Int32 × HI) => fX1_bestClosing_x11 s.1 s.2.1 s.2.2.1 s.2.2.2) (fo n11 (i11 + 1) (fun (i : Nat) (s : Int32 × Int32 × Int32 × HI) => fX1_bestClosing_b11 foot i s.1 s.2.1 s.2.2.1 s.2.2.2) (fX1_bestClosing_b11 foot i11 x11_4 x11_3 x11_2 J11))).1))), ((fun (s : Int32 × Int32 × Int32 × HI) => fX1_bestClosing_x11 s.1 s.2.1 s.2.2.1 s.2.2.2) (fo n11 (i11 + 1) (fun (i : Nat) (s : Int32 × Int32 × Int32 × HI) => fX1_bestClosing_b11 foot i s.1 s.2.1 s.2.2.1 s.2.2.2) (fX1_bestClosing_b11 foot i11 x11_4 x11_3 x11_2 J11))).2)) _ _ _ _
      rw [fX1_bestClosing_b11]
      refine g_iconst (n := 19) (v := 1) ok dX1_bestClosing_18 rfl rfl ?_
      refine g_istore (n := 21) (lv' := [(6, vi 1), (5, vi (nI i11)), (4, vi x11_4), (3, vi x11_3), (2, vi x11_2), (0, vr 37), (1, vi (nI foot))]) ok dX1_bestClosing_19 (by decide) rfl rfl ?_
      have X21 : ∀ (x21_4 : Int32) (x21_3 : Int32) (x21_2 : Int32) (J21 : HI) (hd3 : vp_in (J21 1 6) 7), G E 11 ((some (vi ((((fun (s : Int32 × Int32 × Int32 × HI) => fX1_bestClosing_x11 s.1 s.2.1 s.2.2.1 s.2.2.2) (fo n11 (i11 + 1) (fun (i : Nat) (s : Int32 × Int32 × Int32 × HI) => fX1_bestClosing_b11 foot i s.1 s.2.1 s.2.2.1 s.2.2.2) (fX1_bestClosing_x21 x21_4 x21_3 x21_2 J21))).1))), ((fun (s : Int32 × Int32 × Int32 × HI) => fX1_bestClosing_x11 s.1 s.2.1 s.2.2.1 s.2.2.2) (fo n11 (i11 + 1) (fun (i : Nat) (s : Int32 × Int32 × Int32 × HI) => fX1_bestClosing_b11 foot i s.1 s.2.1 s.2.2.1 s.2.2.2) (fX1_bestClosing_x21 x21_4 x21_3 x21_2 J21))).2)) J21 123 [(5, vi (nI i11)), (4, vi x21_4), (3, vi x21_3), (2, vi x21_2), (0, vr 37), (1, vi (nI foot))] [] := by
        intro x21_4 x21_3 x21_2 J21 hd3
        rw [fX1_bestClosing_x21]
        refine g_iinc (n := 126) (v := nI (i11 + 1)) (lv' := [(5, vi (nI (i11 + 1))), (4, vi x21_4), (3, vi x21_3), (2, vi x21_2), (0, vr 37), (1, vi (nI foot))]) ok 0 dX1_bestClosing_123 rfl (iinc_n (a := i11) rfl) (by decide) rfl rfl ?_
        refine g_goto (tgt := 11) ok dX1_bestClosing_126 (by decide) ?_
        exact ih (i11 + 1) x21_4 x21_3 x21_2 _ hd3 (by omega)
      have L21 : ∀ (n21 i21 : Nat) (x21_4 : Int32) (x21_3 : Int32) (x21_2 : Int32) (J21 : HI) (hd3 : vp_in (J21 1 6) 7) (hi : i21 + n21 = 10), G E 11 ((some (vi ((((fun (s : Int32 × Int32 × Int32 × HI) => fX1_bestClosing_x11 s.1 s.2.1 s.2.2.1 s.2.2.2) (fo n11 (i11 + 1) (fun (i : Nat) (s : Int32 × Int32 × Int32 × HI) => fX1_bestClosing_b11 foot i s.1 s.2.1 s.2.2.1 s.2.2.2) ((fun (s : Int32 × Int32 × Int32 × HI) => fX1_bestClosing_x21 s.1 s.2.1 s.2.2.1 s.2.2.2) (fo n21 i21 (fun (i : Nat) (s : Int32 × Int32 × Int32 × HI) => fX1_bestClosing_b21 foot i11 i s.1 s.2.1 s.2.2.1 s.2.2.2) (x21_4, x21_3, x21_2, J21))))).1))), ((fun (s : Int32 × Int32 × Int32 × HI) => fX1_bestClosing_x11 s.1 s.2.1 s.2.2.1 s.2.2.2) (fo n11 (i11 + 1) (fun (i : Nat) (s : Int32 × Int32 × Int32 × HI) => fX1_bestClosing_b11 foot i s.1 s.2.1 s.2.2.1 s.2.2.2) ((fun (s : Int32 × Int32 × Int32 × HI) => fX1_bestClosing_x21 s.1 s.2.1 s.2.2.1 s.2.2.2) (fo n21 i21 (fun (i : Nat) (s : Int32 × Int32 × Int32 × HI) => fX1_bestClosing_b21 foot i11 i s.1 s.2.1 s.2.2.1 s.2.2.2) (x21_4, x21_3, x21_2, J21))))).2)) J21 21 [(6, vi (nI i21)), (5, vi (nI i11)), (4, vi x21_4), (3, vi x21_3), (2, vi x21_2), (0, vr 37), (1, vi (nI foot))] [] := by
        intro n21
        induction n21 with
        | zero =>
          intro i21 x21_4 x21_3 x21_2 J21 hd3 hi
          rw [fo_0]
          refine g_iload (n := 23) ok 0 dX1_bestClosing_21 rfl rfl ?_
          refine g_bipush (n := 25) (v := 9) ok dX1_bestClosing_23 rfl rfl ?_
          refine g_icmp_gt (n := 28) (tgt := 123) ok dX1_bestClosing_25 (by decide) rfl (fun c => ?_) (fun c => absurd (nlt (a := 9) (b := i21) rfl rfl (by omega) (by omega)) c)
          refine g_sub [1, 2, 3, 4, 5, 6] rfl ?_
          exact X21 _ _ _ _ hd3
        | succ n21 ih =>
          intro i21 x21_4 x21_3 x21_2 J21 hd3 hi
          refine g_iload (n := 23) ok 0 dX1_bestClosing_21 rfl rfl ?_
          refine g_bipush (n := 25) (v := 9) ok dX1_bestClosing_23 rfl rfl ?_
          refine g_icmp_gt (n := 28) (tgt := 123) ok dX1_bestClosing_25 (by decide) rfl (fun c => absurd c (nnlt (a := 9) (b := i21) rfl rfl (by omega) (by omega))) (fun c => ?_)
          rw [fo_s]
          show G E 11 ((some (vi ((((fun (s : Int32 × Int32 × Int32 × HI) => fX1_bestClosing_x11 s.1 s.2.1 s.2.2.1 s.2.2.2) (fo n11 (i11 + 1) (fun (i : Nat) (s : Int32 × Int32 × Int32 × HI) => fX1_bestClosing_b11 foot i s.1 s.2.1 s.2.2.1 s.2.2.2) ((fun (s : Int32 × Int32 × Int32 × HI) => fX1_bestClosing_x21 s.1 s.2.1 s.2.2.1 s.2.2.2) (fo n21 (i21 + 1) (fun (i : Nat) (s : Int32 × Int32 × Int32 × HI) => fX1_bestClosing_b21 foot i11 i s.1 s.2.1 s.2.2.1 s.2.2.2) (fX1_bestClosing_b21 foot i11 i21 x21_4 x21_3 x21_2 J21))))).1))), ((fun (s : Int32 × Int32 × Int32 × HI) => fX1_bestClosing_x11 s.1 s.2.1 s.2.2.1 s.2.2.2) (fo n11 (i11 + 1) (fun (i : Nat) (s : Int32 × Int32 × Int32 × HI) => fX1_bestClosing_b11 foot i s.1 s.2.1 s.2.2.1 s.2.2.2) ((fun (s : Int32 × Int32 × Int32 × HI) => fX1_bestClosing_x21 s.1 s.2.1 s.2.2.1 s.2.2.2) (fo n21 (i21 + 1) (fun (i : Nat) (s : Int32 × Int32 × Int32 × HI) => fX1_bestClosing_b21 foot i11 i s.1 s.2.1 s.2.2.1 s.2.2.2) (fX1_bestClosing_b21 foot i11 i21 x21_4 x21_3 x21_2 J21))))).2)) _ _ _ _
          rw [fX1_bestClosing_b21]
          refine g_aload_n (n := 29) ok 5 dX1_bestClosing_28 rfl rfl rfl ?_
          refine g_aload_n (n := 30) ok 5 dX1_bestClosing_29 rfl rfl rfl ?_
          refine g_get (n := 33) (v := vr 1) (c := 1) (k := 0) ok dX1_bestClosing_30 clsX1 (by decide) q121 rfl rfl rfl ?_
          refine g_get (n := 36) (v := vi (J21 1 3)) (c := 3) (k := 3) ok dX1_bestClosing_33 clsX3 (by decide) q72 rfl rfl rfl ?_
          refine g_iload_n (n := 37) ok 6 dX1_bestClosing_36 rfl rfl rfl ?_
          refine g_iload (n := 39) ok 1 dX1_bestClosing_37 rfl rfl ?_
          refine g_iload (n := 41) ok 0 dX1_bestClosing_39 rfl rfl ?_
          refine g_callV (n := 44) (rest := []) (av := [vi (J21 1 3), vi (nI foot), vi (nI i11), vi (nI i21)]) (j := 37) ok (kX1_nextBy J21 (J21 1 3) foot (nI i11) (nI i21) hd3 (by first | with_reducible assumption | omega)) knX1_nextBy q483 q461 q462 clsX1 rfl dX1_bestClosing_41 rfl rfl (Nat.le_of_ble_eq_true rfl) (by decide) (by decide) rfl ?_
          have hT1 := nextBy_tr (I := J21) (kind := (J21 1 3)) (push := (nI i11)) (lean := (nI i21)) (foot := foot) (by omega)
          refine g_astore (n := 46) (lv' := [(7, vr ((fX1_nextBy J21 (J21 1 3) foot (nI i11) (nI i21)).1)), (6, vi (nI i21)), (5, vi (nI i11)), (4, vi x21_4), (3, vi x21_3), (2, vi x21_2), (0, vr 37), (1, vi (nI foot))]) ok dX1_bestClosing_44 (by decide) rfl rfl ?_
          refine g_aload (n := 48) ok 0 dX1_bestClosing_46 rfl rfl ?_
          refine g_callV (n := 51) (rest := []) (av := []) (j := (fX1_nextBy J21 (J21 1 3) foot (nI i11) (nI i21)).1) ok (kX4_gap ((fX1_nextBy J21 (J21 1 3) foot (nI i11) (nI i21)).2) ((fX1_nextBy J21 (J21 1 3) foot (nI i11) (nI i21)).1) hT1) knX4_gap q500 q386 q387 clsX4 hT1.1 dX1_bestClosing_48 rfl rfl (Nat.le_of_ble_eq_true rfl) (by decide) (by decide) rfl ?_
          refine g_istore (n := 53) (lv' := [(8, vi (fX4_gap ((fX1_nextBy J21 (J21 1 3) foot (nI i11) (nI i21)).2) ((fX1_nextBy J21 (J21 1 3) foot (nI i11) (nI i21)).1))), (7, vr ((fX1_nextBy J21 (J21 1 3) foot (nI i11) (nI i21)).1)), (6, vi (nI i21)), (5, vi (nI i11)), (4, vi x21_4), (3, vi x21_3), (2, vi x21_2), (0, vr 37), (1, vi (nI foot))]) ok dX1_bestClosing_51 (by decide) rfl rfl ?_
          refine g_aload_n (n := 54) ok 7 dX1_bestClosing_53 rfl rfl rfl ?_
          refine g_get (n := 57) (v := vr 1) (c := 1) (k := 0) ok dX1_bestClosing_54 clsX1 (by decide) q121 rfl rfl rfl ?_
          refine g_aload (n := 59) ok 1 dX1_bestClosing_57 rfl rfl ?_
          refine g_callV (n := 62) (rest := []) (av := [vr ((fX1_nextBy J21 (J21 1 3) foot (nI i11) (nI i21)).1)]) (j := 1) ok (kX3_offOf ((fX1_nextBy J21 (J21 1 3) foot (nI i11) (nI i21)).2) ((fX1_nextBy J21 (J21 1 3) foot (nI i11) (nI i21)).1) hT1) knX3_offOf q484 q393 q394 clsX3 rfl dX1_bestClosing_59 rfl rfl (Nat.le_of_ble_eq_true rfl) (by decide) (by decide) rfl ?_
          refine g_istore (n := 64) (lv' := [(9, vi (fX3_offOf ((fX1_nextBy J21 (J21 1 3) foot (nI i11) (nI i21)).2) ((fX1_nextBy J21 (J21 1 3) foot (nI i11) (nI i21)).1))), (8, vi (fX4_gap ((fX1_nextBy J21 (J21 1 3) foot (nI i11) (nI i21)).2) ((fX1_nextBy J21 (J21 1 3) foot (nI i11) (nI i21)).1))), (7, vr ((fX1_nextBy J21 (J21 1 3) foot (nI i11) (nI i21)).1)), (6, vi (nI i21)), (5, vi (nI i11)), (4, vi x21_4), (3, vi x21_3), (2, vi x21_2), (0, vr 37), (1, vi (nI foot))]) ok dX1_bestClosing_62 (by decide) rfl rfl ?_
          refine g_iload (n := 66) ok 1 dX1_bestClosing_64 rfl rfl ?_
          refine g_iload_n (n := 67) ok 6 dX1_bestClosing_66 rfl rfl rfl ?_
          have J88_15 : ∀ (v14 : Int32), G E 11 ((some (vi ((((fun (s : Int32 × Int32 × Int32 × HI) => fX1_bestClosing_x11 s.1 s.2.1 s.2.2.1 s.2.2.2) (fo n11 (i11 + 1) (fun (i : Nat) (s : Int32 × Int32 × Int32 × HI) => fX1_bestClosing_b11 foot i s.1 s.2.1 s.2.2.1 s.2.2.2) ((fun (s : Int32 × Int32 × Int32 × HI) => fX1_bestClosing_x21 s.1 s.2.1 s.2.2.1 s.2.2.2) (fo n21 (i21 + 1) (fun (i : Nat) (s : Int32 × Int32 × Int32 × HI) => fX1_bestClosing_b21 foot i11 i s.1 s.2.1 s.2.2.1 s.2.2.2) (fX1_bestClosing_88 foot i11 x21_4 x21_3 x21_2 J21 i21 v14))))).1))), ((fun (s : Int32 × Int32 × Int32 × HI) => fX1_bestClosing_x11 s.1 s.2.1 s.2.2.1 s.2.2.2) (fo n11 (i11 + 1) (fun (i : Nat) (s : Int32 × Int32 × Int32 × HI) => fX1_bestClosing_b11 foot i s.1 s.2.1 s.2.2.1 s.2.2.2) ((fun (s : Int32 × Int32 × Int32 × HI) => fX1_bestClosing_x21 s.1 s.2.1 s.2.2.1 s.2.2.2) (fo n21 (i21 + 1) (fun (i : Nat) (s : Int32 × Int32 × Int32 × HI) => fX1_bestClosing_b21 foot i11 i s.1 s.2.1 s.2.2.1 s.2.2.2) (fX1_bestClosing_88 foot i11 x21_4 x21_3 x21_2 J21 i21 v14))))).2)) ((fX1_nextBy J21 (J21 1 3) foot (nI i11) (nI i21)).2) 88 [(9, vi (fX3_offOf ((fX1_nextBy J21 (J21 1 3) foot (nI i11) (nI i21)).2) ((fX1_nextBy J21 (J21 1 3) foot (nI i11) (nI i21)).1))), (8, vi (fX4_gap ((fX1_nextBy J21 (J21 1 3) foot (nI i11) (nI i21)).2) ((fX1_nextBy J21 (J21 1 3) foot (nI i11) (nI i21)).1))), (6, vi (nI i21)), (5, vi (nI i11)), (4, vi x21_4), (3, vi x21_3), (2, vi x21_2), (0, vr 37), (1, vi (nI foot))] [vi v14] := by
            intro v14
            rw [fX1_bestClosing_88]
            refine g_istore (n := 90) (lv' := [(10, vi v14), (9, vi (fX3_offOf ((fX1_nextBy J21 (J21 1 3) foot (nI i11) (nI i21)).2) ((fX1_nextBy J21 (J21 1 3) foot (nI i11) (nI i21)).1))), (8, vi (fX4_gap ((fX1_nextBy J21 (J21 1 3) foot (nI i11) (nI i21)).2) ((fX1_nextBy J21 (J21 1 3) foot (nI i11) (nI i21)).1))), (6, vi (nI i21)), (5, vi (nI i11)), (4, vi x21_4), (3, vi x21_3), (2, vi x21_2), (0, vr 37), (1, vi (nI foot))]) ok dX1_bestClosing_88 (by decide) rfl rfl ?_
            refine g_iload_n (n := 91) ok 7 dX1_bestClosing_90 rfl rfl rfl ?_
            refine g_bipush (n := 93) (v := -9) ok dX1_bestClosing_91 rfl rfl ?_
            refine g_icmp_eq (n := 96) (tgt := 101) ok dX1_bestClosing_93 (by decide) rfl (fun c16 => ?_) (fun c16 => ?_)
            · rw [if_pos c16]
              refine g_bipush (n := 103) (v := 10) ok dX1_bestClosing_101 rfl rfl ?_
              refine g_iload (n := 105) ok 4 dX1_bestClosing_103 rfl rfl ?_
              refine g_imul (n := 106) ok dX1_bestClosing_105 rfl ?_
              refine g_top (nv_imul (a := 10) (b := i11) rfl rfl) ?_
              refine g_iload (n := 108) ok 3 dX1_bestClosing_106 rfl rfl ?_
              refine g_iadd (n := 109) ok dX1_bestClosing_108 rfl ?_
              refine g_top (nv_iadd (a := 10 * i11) (b := i21) rfl rfl) ?_
              refine g_istore_n (n := 110) (lv' := [(2, vi (nI ((10 * i11) + i21))), (10, vi v14), (9, vi (fX3_offOf ((fX1_nextBy J21 (J21 1 3) foot (nI i11) (nI i21)).2) ((fX1_nextBy J21 (J21 1 3) foot (nI i11) (nI i21)).1))), (8, vi (fX4_gap ((fX1_nextBy J21 (J21 1 3) foot (nI i11) (nI i21)).2) ((fX1_nextBy J21 (J21 1 3) foot (nI i11) (nI i21)).1))), (6, vi (nI i21)), (5, vi (nI i11)), (4, vi x21_4), (3, vi x21_3), (0, vr 37), (1, vi (nI foot))]) ok dX1_bestClosing_109 rfl (by decide) rfl rfl ?_
              refine g_iload (n := 112) ok 3 dX1_bestClosing_110 rfl rfl ?_
              refine g_istore_n (n := 113) (lv' := [(3, vi (fX4_gap ((fX1_nextBy J21 (J21 1 3) foot (nI i11) (nI i21)).2) ((fX1_nextBy J21 (J21 1 3) foot (nI i11) (nI i21)).1))), (2, vi (nI ((10 * i11) + i21))), (10, vi v14), (9, vi (fX3_offOf ((fX1_nextBy J21 (J21 1 3) foot (nI i11) (nI i21)).2) ((fX1_nextBy J21 (J21 1 3) foot (nI i11) (nI i21)).1))), (8, vi (fX4_gap ((fX1_nextBy J21 (J21 1 3) foot (nI i11) (nI i21)).2) ((fX1_nextBy J21 (J21 1 3) foot (nI i11) (nI i21)).1))), (6, vi (nI i21)), (5, vi (nI i11)), (4, vi x21_4), (0, vr 37), (1, vi (nI foot))]) ok dX1_bestClosing_112 rfl (by decide) rfl rfl ?_
              refine g_iload (n := 115) ok 3 dX1_bestClosing_113 rfl rfl ?_
              refine g_istore (n := 117) (lv' := [(4, vi (fX3_offOf ((fX1_nextBy J21 (J21 1 3) foot (nI i11) (nI i21)).2) ((fX1_nextBy J21 (J21 1 3) foot (nI i11) (nI i21)).1))), (3, vi (fX4_gap ((fX1_nextBy J21 (J21 1 3) foot (nI i11) (nI i21)).2) ((fX1_nextBy J21 (J21 1 3) foot (nI i11) (nI i21)).1))), (2, vi (nI ((10 * i11) + i21))), (10, vi v14), (9, vi (fX3_offOf ((fX1_nextBy J21 (J21 1 3) foot (nI i11) (nI i21)).2) ((fX1_nextBy J21 (J21 1 3) foot (nI i11) (nI i21)).1))), (8, vi (fX4_gap ((fX1_nextBy J21 (J21 1 3) foot (nI i11) (nI i21)).2) ((fX1_nextBy J21 (J21 1 3) foot (nI i11) (nI i21)).1))), (6, vi (nI i21)), (5, vi (nI i11)), (0, vr 37), (1, vi (nI foot))]) ok dX1_bestClosing_115 (by decide) rfl rfl ?_
              refine g_iinc (n := 120) (v := nI (i21 + 1)) (lv' := [(6, vi (nI (i21 + 1))), (4, vi (fX3_offOf ((fX1_nextBy J21 (J21 1 3) foot (nI i11) (nI i21)).2) ((fX1_nextBy J21 (J21 1 3) foot (nI i11) (nI i21)).1))), (3, vi (fX4_gap ((fX1_nextBy J21 (J21 1 3) foot (nI i11) (nI i21)).2) ((fX1_nextBy J21 (J21 1 3) foot (nI i11) (nI i21)).1))), (2, vi (nI ((10 * i11) + i21))), (10, vi v14), (9, vi (fX3_offOf ((fX1_nextBy J21 (J21 1 3) foot (nI i11) (nI i21)).2) ((fX1_nextBy J21 (J21 1 3) foot (nI i11) (nI i21)).1))), (8, vi (fX4_gap ((fX1_nextBy J21 (J21 1 3) foot (nI i11) (nI i21)).2) ((fX1_nextBy J21 (J21 1 3) foot (nI i11) (nI i21)).1))), (5, vi (nI i11)), (0, vr 37), (1, vi (nI foot))]) ok 6 dX1_bestClosing_117 rfl (iinc_n (a := i21) rfl) (by decide) rfl rfl ?_
              refine g_goto (tgt := 21) ok dX1_bestClosing_120 (by decide) ?_
              refine g_sub [0, 7, 1, 2, 3, 8, 9] rfl ?_
              exact ih (i21 + 1) (fX3_offOf ((fX1_nextBy J21 (J21 1 3) foot (nI i11) (nI i21)).2) ((fX1_nextBy J21 (J21 1 3) foot (nI i11) (nI i21)).1)) (fX4_gap ((fX1_nextBy J21 (J21 1 3) foot (nI i11) (nI i21)).2) ((fX1_nextBy J21 (J21 1 3) foot (nI i11) (nI i21)).1)) (nI ((10 * i11) + i21)) _ (by rw [nextBy_ne (by omega)]; exact hd3) (by omega)
            · rw [if_neg c16]
              refine g_iload (n := 98) ok 0 dX1_bestClosing_96 rfl rfl ?_
              refine g_if_eq (n := 101) (tgt := 117) ok dX1_bestClosing_98 (by decide) rfl (fun c17 => ?_) (fun c17 => ?_)
              · rw [if_pos c17]
                refine g_iinc (n := 120) (v := nI (i21 + 1)) (lv' := [(6, vi (nI (i21 + 1))), (10, vi v14), (9, vi (fX3_offOf ((fX1_nextBy J21 (J21 1 3) foot (nI i11) (nI i21)).2) ((fX1_nextBy J21 (J21 1 3) foot (nI i11) (nI i21)).1))), (8, vi (fX4_gap ((fX1_nextBy J21 (J21 1 3) foot (nI i11) (nI i21)).2) ((fX1_nextBy J21 (J21 1 3) foot (nI i11) (nI i21)).1))), (5, vi (nI i11)), (4, vi x21_4), (3, vi x21_3), (2, vi x21_2), (0, vr 37), (1, vi (nI foot))]) ok 3 dX1_bestClosing_117 rfl (iinc_n (a := i21) rfl) (by decide) rfl rfl ?_
                refine g_goto (tgt := 21) ok dX1_bestClosing_120 (by decide) ?_
                refine g_sub [0, 4, 5, 6, 7, 8, 9] rfl ?_
                exact ih (i21 + 1) x21_4 x21_3 x21_2 _ (by rw [nextBy_ne (by omega)]; exact hd3) (by omega)
              · rw [if_neg c17]
                refine g_bipush (n := 103) (v := 10) ok dX1_bestClosing_101 rfl rfl ?_
                refine g_iload (n := 105) ok 4 dX1_bestClosing_103 rfl rfl ?_
                refine g_imul (n := 106) ok dX1_bestClosing_105 rfl ?_
                refine g_top (nv_imul (a := 10) (b := i11) rfl rfl) ?_
                refine g_iload (n := 108) ok 3 dX1_bestClosing_106 rfl rfl ?_
                refine g_iadd (n := 109) ok dX1_bestClosing_108 rfl ?_
                refine g_top (nv_iadd (a := 10 * i11) (b := i21) rfl rfl) ?_
                refine g_istore_n (n := 110) (lv' := [(2, vi (nI ((10 * i11) + i21))), (10, vi v14), (9, vi (fX3_offOf ((fX1_nextBy J21 (J21 1 3) foot (nI i11) (nI i21)).2) ((fX1_nextBy J21 (J21 1 3) foot (nI i11) (nI i21)).1))), (8, vi (fX4_gap ((fX1_nextBy J21 (J21 1 3) foot (nI i11) (nI i21)).2) ((fX1_nextBy J21 (J21 1 3) foot (nI i11) (nI i21)).1))), (6, vi (nI i21)), (5, vi (nI i11)), (4, vi x21_4), (3, vi x21_3), (0, vr 37), (1, vi (nI foot))]) ok dX1_bestClosing_109 rfl (by decide) rfl rfl ?_
                refine g_iload (n := 112) ok 3 dX1_bestClosing_110 rfl rfl ?_
                refine g_istore_n (n := 113) (lv' := [(3, vi (fX4_gap ((fX1_nextBy J21 (J21 1 3) foot (nI i11) (nI i21)).2) ((fX1_nextBy J21 (J21 1 3) foot (nI i11) (nI i21)).1))), (2, vi (nI ((10 * i11) + i21))), (10, vi v14), (9, vi (fX3_offOf ((fX1_nextBy J21 (J21 1 3) foot (nI i11) (nI i21)).2) ((fX1_nextBy J21 (J21 1 3) foot (nI i11) (nI i21)).1))), (8, vi (fX4_gap ((fX1_nextBy J21 (J21 1 3) foot (nI i11) (nI i21)).2) ((fX1_nextBy J21 (J21 1 3) foot (nI i11) (nI i21)).1))), (6, vi (nI i21)), (5, vi (nI i11)), (4, vi x21_4), (0, vr 37), (1, vi (nI foot))]) ok dX1_bestClosing_112 rfl (by decide) rfl rfl ?_
                refine g_iload (n := 115) ok 3 dX1_bestClosing_113 rfl rfl ?_
                refine g_istore (n := 117) (lv' := [(4, vi (fX3_offOf ((fX1_nextBy J21 (J21 1 3) foot (nI i11) (nI i21)).2) ((fX1_nextBy J21 (J21 1 3) foot (nI i11) (nI i21)).1))), (3, vi (fX4_gap ((fX1_nextBy J21 (J21 1 3) foot (nI i11) (nI i21)).2) ((fX1_nextBy J21 (J21 1 3) foot (nI i11) (nI i21)).1))), (2, vi (nI ((10 * i11) + i21))), (10, vi v14), (9, vi (fX3_offOf ((fX1_nextBy J21 (J21 1 3) foot (nI i11) (nI i21)).2) ((fX1_nextBy J21 (J21 1 3) foot (nI i11) (nI i21)).1))), (8, vi (fX4_gap ((fX1_nextBy J21 (J21 1 3) foot (nI i11) (nI i21)).2) ((fX1_nextBy J21 (J21 1 3) foot (nI i11) (nI i21)).1))), (6, vi (nI i21)), (5, vi (nI i11)), (0, vr 37), (1, vi (nI foot))]) ok dX1_bestClosing_115 (by decide) rfl rfl ?_
                refine g_iinc (n := 120) (v := nI (i21 + 1)) (lv' := [(6, vi (nI (i21 + 1))), (4, vi (fX3_offOf ((fX1_nextBy J21 (J21 1 3) foot (nI i11) (nI i21)).2) ((fX1_nextBy J21 (J21 1 3) foot (nI i11) (nI i21)).1))), (3, vi (fX4_gap ((fX1_nextBy J21 (J21 1 3) foot (nI i11) (nI i21)).2) ((fX1_nextBy J21 (J21 1 3) foot (nI i11) (nI i21)).1))), (2, vi (nI ((10 * i11) + i21))), (10, vi v14), (9, vi (fX3_offOf ((fX1_nextBy J21 (J21 1 3) foot (nI i11) (nI i21)).2) ((fX1_nextBy J21 (J21 1 3) foot (nI i11) (nI i21)).1))), (8, vi (fX4_gap ((fX1_nextBy J21 (J21 1 3) foot (nI i11) (nI i21)).2) ((fX1_nextBy J21 (J21 1 3) foot (nI i11) (nI i21)).1))), (5, vi (nI i11)), (0, vr 37), (1, vi (nI foot))]) ok 6 dX1_bestClosing_117 rfl (iinc_n (a := i21) rfl) (by decide) rfl rfl ?_
                refine g_goto (tgt := 21) ok dX1_bestClosing_120 (by decide) ?_
                refine g_sub [0, 7, 1, 2, 3, 8, 9] rfl ?_
                exact ih (i21 + 1) (fX3_offOf ((fX1_nextBy J21 (J21 1 3) foot (nI i11) (nI i21)).2) ((fX1_nextBy J21 (J21 1 3) foot (nI i11) (nI i21)).1)) (fX4_gap ((fX1_nextBy J21 (J21 1 3) foot (nI i11) (nI i21)).2) ((fX1_nextBy J21 (J21 1 3) foot (nI i11) (nI i21)).1)) (nI ((10 * i11) + i21)) _ (by rw [nextBy_ne (by omega)]; exact hd3) (by omega)
          refine g_icmp_lt (n := 70) (tgt := 83) ok dX1_bestClosing_67 (by decide) rfl (fun c2 => ?_) (fun c2 => ?_)
          · try simp only [if_pos c2]
            refine g_iconst (n := 84) (v := 1) ok dX1_bestClosing_83 rfl rfl ?_
            refine g_goto (tgt := 88) ok dX1_bestClosing_84 (by decide) ?_
            refine g_sub [0, 1, 3, 4, 5, 6, 7, 8, 9] rfl ?_
            exact J88_15 _
          · try simp only [if_neg c2]
            refine g_iload (n := 72) ok 1 dX1_bestClosing_70 rfl rfl ?_
            refine g_iload_n (n := 73) ok 6 dX1_bestClosing_72 rfl rfl rfl ?_
            refine g_icmp_ne (n := 76) (tgt := 87) ok dX1_bestClosing_73 (by decide) rfl (fun c3 => ?_) (fun c3 => ?_)
            · rw [if_neg c3]
              refine g_iconst (n := 88) (v := 0) ok dX1_bestClosing_87 rfl rfl ?_
              refine g_sub [0, 1, 3, 4, 5, 6, 7, 8, 9] rfl ?_
              exact J88_15 _
            · rw [if_pos c3]
              refine g_iload (n := 78) ok 0 dX1_bestClosing_76 rfl rfl ?_
              refine g_iload (n := 80) ok 5 dX1_bestClosing_78 rfl rfl ?_
              refine g_icmp_ge (n := 83) (tgt := 87) ok dX1_bestClosing_80 (by decide) rfl (fun c4 => ?_) (fun c4 => ?_)
              · rw [if_pos c4]
                refine g_iconst (n := 88) (v := 0) ok dX1_bestClosing_87 rfl rfl ?_
                refine g_sub [0, 1, 3, 4, 5, 6, 7, 8, 9] rfl ?_
                exact J88_15 _
              · rw [if_neg c4]
                refine g_iconst (n := 84) (v := 1) ok dX1_bestClosing_83 rfl rfl ?_
                refine g_goto (tgt := 88) ok dX1_bestClosing_84 (by decide) ?_
                refine g_sub [0, 1, 3, 4, 5, 6, 7, 8, 9] rfl ?_
                exact J88_15 _
      exact L21 9 1 x11_4 x11_3 x11_2 _ hd2 (by omega)
  exact L11 9 1 0 0 (-9) _ hd (by omega)

noncomputable def fX1_strokeOf_x3 (J3 : HI) : Int32 × HI :=
  ((-9), J3)
noncomputable def fX1_strokeOf_x13 (J13 : HI) : (Int32 × HI) ⊕ (HI) :=
  Sum.inr J13
noncomputable def fX1_strokeOf_b13 (kind : Int32) (foot : Nat) (i3 : Nat) (i13 : Nat) (J13 : HI) : ((Int32 × HI) ⊕ (HI)) ⊕ (HI) :=
  if fX1_isTold ((fX1_nextBy J13 kind foot (nI i3) (nI i13)).2) ((fX1_nextBy J13 kind foot (nI i3) (nI i13)).1) = 0 then Sum.inr ((fX1_nextBy J13 kind foot (nI i3) (nI i13)).2) else Sum.inl (Sum.inl (nI ((10 * i3) + i13), ((fX1_nextBy J13 kind foot (nI i3) (nI i13)).2)))
noncomputable def fX1_strokeOf_b3 (kind : Int32) (foot : Nat) (i3 : Nat) (J3 : HI) : (Int32 × HI) ⊕ (HI) :=
  foE 9 1 (fun (i : Nat) (s : HI) => fX1_strokeOf_b13 kind foot i3 i s) (fun (s : HI) => fX1_strokeOf_x13 s) J3
noncomputable def fX1_strokeOf (I : HI) (kind : Int32) (foot : Nat) : Int32 × HI :=
  foE 9 1 (fun (i : Nat) (s : HI) => fX1_strokeOf_b3 kind foot i s) (fun (s : HI) => fX1_strokeOf_x3 s) I
theorem knX1_strokeOf : Kn yX1_strokeOf cX1_strokeOf 6 (some .int) 3 := ⟨q529, q6, ⟨by decide, by decide⟩, by decide +kernel⟩
set_option maxHeartbeats 400000 in
set_option maxRecDepth 100000 in
theorem kX1_strokeOf (I : HI) (kind : Int32) (foot : Nat) (hd : vp_in (I 1 6) 7) (hf : foot < 2) : Cx yX1_strokeOf cX1_strokeOf 6 (some .int) 5 125 [vr 37, vi kind, vi (nI foot), vr 50] I ((some (vi (((fX1_strokeOf I kind foot).1))), (fX1_strokeOf I kind foot).2)) := by
  refine Cx.mk (lv := [(0, vr 37), (1, vi kind), (2, vi (nI foot)), (3, vr 50)]) (by decide) (Nat.le_of_ble_eq_true rfl) rfl (fun E ok hr => ?_)
  rw [fX1_strokeOf]
  refine g_iconst (n := 1) (v := 1) ok dX1_strokeOf_0 rfl rfl ?_
  refine g_istore (n := 3) (lv' := [(4, vi 1), (0, vr 37), (1, vi kind), (2, vi (nI foot)), (3, vr 50)]) ok dX1_strokeOf_1 (by decide) rfl rfl ?_
  have X3 : ∀ (J3 : HI) (hd2 : vp_in (J3 1 6) 7), G E 6 ((some (vi (((fX1_strokeOf_x3 J3).1))), (fX1_strokeOf_x3 J3).2)) J3 59 [] [] := by
    intro J3 hd2
    rw [fX1_strokeOf_x3]
    refine g_bipush (n := 61) (v := -9) ok dX1_strokeOf_59 rfl rfl ?_
    exact g_iret ok hr dX1_strokeOf_61
  have L3 : ∀ (n3 i3 : Nat) (J3 : HI) (hd2 : vp_in (J3 1 6) 7) (hi : i3 + n3 = 10), G E 6 ((some (vi (((foE n3 i3 (fun (i : Nat) (s : HI) => fX1_strokeOf_b3 kind foot i s) (fun (s : HI) => fX1_strokeOf_x3 s) J3).1))), (foE n3 i3 (fun (i : Nat) (s : HI) => fX1_strokeOf_b3 kind foot i s) (fun (s : HI) => fX1_strokeOf_x3 s) J3).2)) J3 3 [(4, vi (nI i3)), (0, vr 37), (1, vi kind), (2, vi (nI foot)), (3, vr 50)] [] := by
    intro n3
    induction n3 with
    | zero =>
      intro i3 J3 hd2 hi
      rw [foE_0]
      refine g_iload (n := 5) ok 0 dX1_strokeOf_3 rfl rfl ?_
      refine g_bipush (n := 7) (v := 9) ok dX1_strokeOf_5 rfl rfl ?_
      refine g_icmp_gt (n := 10) (tgt := 59) ok dX1_strokeOf_7 (by decide) rfl (fun c => ?_) (fun c => absurd (nlt (a := 9) (b := i3) rfl rfl (by omega) (by omega)) c)
      refine g_sub [] rfl ?_
      exact X3 _ hd2
    | succ n3 ih =>
      intro i3 J3 hd2 hi
      refine g_iload (n := 5) ok 0 dX1_strokeOf_3 rfl rfl ?_
      refine g_bipush (n := 7) (v := 9) ok dX1_strokeOf_5 rfl rfl ?_
      refine g_icmp_gt (n := 10) (tgt := 59) ok dX1_strokeOf_7 (by decide) rfl (fun c => absurd c (nnlt (a := 9) (b := i3) rfl rfl (by omega) (by omega))) (fun c => ?_)
      rw [foE_s]
      show G E 6 ((some (vi (((Sum.elim id (fun (s : HI) => foE n3 (i3 + 1) (fun (i : Nat) (s : HI) => fX1_strokeOf_b3 kind foot i s) (fun (s : HI) => fX1_strokeOf_x3 s) s) (fX1_strokeOf_b3 kind foot i3 J3)).1))), (Sum.elim id (fun (s : HI) => foE n3 (i3 + 1) (fun (i : Nat) (s : HI) => fX1_strokeOf_b3 kind foot i s) (fun (s : HI) => fX1_strokeOf_x3 s) s) (fX1_strokeOf_b3 kind foot i3 J3)).2)) _ _ _ _
      rw [fX1_strokeOf_b3]
      refine g_iconst (n := 11) (v := 1) ok dX1_strokeOf_10 rfl rfl ?_
      refine g_istore (n := 13) (lv' := [(5, vi 1), (4, vi (nI i3)), (0, vr 37), (1, vi kind), (2, vi (nI foot)), (3, vr 50)]) ok dX1_strokeOf_11 (by decide) rfl rfl ?_
      have X13 : ∀ (J13 : HI) (hd3 : vp_in (J13 1 6) 7), G E 6 ((some (vi (((Sum.elim id (fun (s : HI) => foE n3 (i3 + 1) (fun (i : Nat) (s : HI) => fX1_strokeOf_b3 kind foot i s) (fun (s : HI) => fX1_strokeOf_x3 s) s) (fX1_strokeOf_x13 J13)).1))), (Sum.elim id (fun (s : HI) => foE n3 (i3 + 1) (fun (i : Nat) (s : HI) => fX1_strokeOf_b3 kind foot i s) (fun (s : HI) => fX1_strokeOf_x3 s) s) (fX1_strokeOf_x13 J13)).2)) J13 53 [(4, vi (nI i3)), (0, vr 37), (1, vi kind), (2, vi (nI foot)), (3, vr 50)] [] := by
        intro J13 hd3
        rw [fX1_strokeOf_x13]
        refine g_iinc (n := 56) (v := nI (i3 + 1)) (lv' := [(4, vi (nI (i3 + 1))), (0, vr 37), (1, vi kind), (2, vi (nI foot)), (3, vr 50)]) ok 0 dX1_strokeOf_53 rfl (iinc_n (a := i3) rfl) (by decide) rfl rfl ?_
        refine g_goto (tgt := 3) ok dX1_strokeOf_56 (by decide) ?_
        exact ih (i3 + 1) _ hd3 (by omega)
      have L13 : ∀ (n13 i13 : Nat) (J13 : HI) (hd3 : vp_in (J13 1 6) 7) (hi : i13 + n13 = 10), G E 6 ((some (vi (((Sum.elim id (fun (s : HI) => foE n3 (i3 + 1) (fun (i : Nat) (s : HI) => fX1_strokeOf_b3 kind foot i s) (fun (s : HI) => fX1_strokeOf_x3 s) s) (foE n13 i13 (fun (i : Nat) (s : HI) => fX1_strokeOf_b13 kind foot i3 i s) (fun (s : HI) => fX1_strokeOf_x13 s) J13)).1))), (Sum.elim id (fun (s : HI) => foE n3 (i3 + 1) (fun (i : Nat) (s : HI) => fX1_strokeOf_b3 kind foot i s) (fun (s : HI) => fX1_strokeOf_x3 s) s) (foE n13 i13 (fun (i : Nat) (s : HI) => fX1_strokeOf_b13 kind foot i3 i s) (fun (s : HI) => fX1_strokeOf_x13 s) J13)).2)) J13 13 [(5, vi (nI i13)), (4, vi (nI i3)), (0, vr 37), (1, vi kind), (2, vi (nI foot)), (3, vr 50)] [] := by
        intro n13
        induction n13 with
        | zero =>
          intro i13 J13 hd3 hi
          rw [foE_0]
          refine g_iload (n := 15) ok 0 dX1_strokeOf_13 rfl rfl ?_
          refine g_bipush (n := 17) (v := 9) ok dX1_strokeOf_15 rfl rfl ?_
          refine g_icmp_gt (n := 20) (tgt := 53) ok dX1_strokeOf_17 (by decide) rfl (fun c => ?_) (fun c => absurd (nlt (a := 9) (b := i13) rfl rfl (by omega) (by omega)) c)
          refine g_sub [1, 2, 3, 4, 5] rfl ?_
          exact X13 _ hd3
        | succ n13 ih =>
          intro i13 J13 hd3 hi
          refine g_iload (n := 15) ok 0 dX1_strokeOf_13 rfl rfl ?_
          refine g_bipush (n := 17) (v := 9) ok dX1_strokeOf_15 rfl rfl ?_
          refine g_icmp_gt (n := 20) (tgt := 53) ok dX1_strokeOf_17 (by decide) rfl (fun c => absurd c (nnlt (a := 9) (b := i13) rfl rfl (by omega) (by omega))) (fun c => ?_)
          rw [foE_s]
          show G E 6 ((some (vi (((Sum.elim id (fun (s : HI) => foE n3 (i3 + 1) (fun (i : Nat) (s : HI) => fX1_strokeOf_b3 kind foot i s) (fun (s : HI) => fX1_strokeOf_x3 s) s) (Sum.elim id (fun (s : HI) => foE n13 (i13 + 1) (fun (i : Nat) (s : HI) => fX1_strokeOf_b13 kind foot i3 i s) (fun (s : HI) => fX1_strokeOf_x13 s) s) (fX1_strokeOf_b13 kind foot i3 i13 J13))).1))), (Sum.elim id (fun (s : HI) => foE n3 (i3 + 1) (fun (i : Nat) (s : HI) => fX1_strokeOf_b3 kind foot i s) (fun (s : HI) => fX1_strokeOf_x3 s) s) (Sum.elim id (fun (s : HI) => foE n13 (i13 + 1) (fun (i : Nat) (s : HI) => fX1_strokeOf_b13 kind foot i3 i s) (fun (s : HI) => fX1_strokeOf_x13 s) s) (fX1_strokeOf_b13 kind foot i3 i13 J13))).2)) _ _ _ _
          rw [fX1_strokeOf_b13]
          refine g_aload_n (n := 21) ok 2 dX1_strokeOf_20 rfl rfl rfl ?_
          refine g_aload_n (n := 22) ok 2 dX1_strokeOf_21 rfl rfl rfl ?_
          refine g_iload_n (n := 23) ok 3 dX1_strokeOf_22 rfl rfl rfl ?_
          refine g_iload_n (n := 24) ok 4 dX1_strokeOf_23 rfl rfl rfl ?_
          refine g_iload (n := 26) ok 1 dX1_strokeOf_24 rfl rfl ?_
          refine g_iload (n := 28) ok 0 dX1_strokeOf_26 rfl rfl ?_
          refine g_callV (n := 31) (rest := [vr 37]) (av := [vi kind, vi (nI foot), vi (nI i3), vi (nI i13)]) (j := 37) ok (kX1_nextBy J13 kind foot (nI i3) (nI i13) hd3 (by first | with_reducible assumption | omega)) knX1_nextBy q483 q461 q462 clsX1 rfl dX1_strokeOf_28 rfl rfl (Nat.le_of_ble_eq_true rfl) (by decide) (by decide) rfl ?_
          have hT1 := nextBy_tr (I := J13) (kind := kind) (push := (nI i3)) (lean := (nI i13)) (foot := foot) (by omega)
          refine g_aload_n (n := 32) ok 5 dX1_strokeOf_31 rfl rfl rfl ?_
          refine g_callV (n := 35) (rest := []) (av := [vr ((fX1_nextBy J13 kind foot (nI i3) (nI i13)).1), vr 50]) (j := 37) ok (kX1_isTold ((fX1_nextBy J13 kind foot (nI i3) (nI i13)).2) ((fX1_nextBy J13 kind foot (nI i3) (nI i13)).1) hT1) knX1_isTold q530 q532 qs15 clsX1 rfl dX1_strokeOf_32 rfl rfl (Nat.le_of_ble_eq_true rfl) (by decide) (by decide) rfl ?_
          refine g_if_eq (n := 38) (tgt := 47) ok dX1_strokeOf_35 (by decide) rfl (fun c2 => ?_) (fun c2 => ?_)
          · rw [if_pos c2]
            refine g_iinc (n := 50) (v := nI (i13 + 1)) (lv' := [(5, vi (nI (i13 + 1))), (4, vi (nI i3)), (0, vr 37), (1, vi kind), (2, vi (nI foot)), (3, vr 50)]) ok 0 dX1_strokeOf_47 rfl (iinc_n (a := i13) rfl) (by decide) rfl rfl ?_
            refine g_goto (tgt := 13) ok dX1_strokeOf_50 (by decide) ?_
            exact ih (i13 + 1) _ (by rw [nextBy_ne (by omega)]; exact hd3) (by omega)
          · rw [if_neg c2]
            refine g_bipush (n := 40) (v := 10) ok dX1_strokeOf_38 rfl rfl ?_
            refine g_iload (n := 42) ok 1 dX1_strokeOf_40 rfl rfl ?_
            refine g_imul (n := 43) ok dX1_strokeOf_42 rfl ?_
            refine g_top (nv_imul (a := 10) (b := i3) rfl rfl) ?_
            refine g_iload (n := 45) ok 0 dX1_strokeOf_43 rfl rfl ?_
            refine g_iadd (n := 46) ok dX1_strokeOf_45 rfl ?_
            refine g_top (nv_iadd (a := 10 * i3) (b := i13) rfl rfl) ?_
            exact g_iret ok hr dX1_strokeOf_46
      exact L13 9 1 _ hd2 (by omega)
  exact L3 9 1 _ hd (by omega)
theorem strokeOf_ne {I : HI} {kind : Int32} {foot a : Nat} (h : a < 39) : (fX1_strokeOf I kind foot).2 a = I a := by
  unfold fX1_strokeOf
  have inner : ∀ i J, J a = I a → (∀ r, fX1_strokeOf_b3 kind foot i J = .inl r → r.2 a = I a) ∧ ∀ t, fX1_strokeOf_b3 kind foot i J = .inr t → t a = I a := by
    intro i J hJ
    unfold fX1_strokeOf_b3
    have key := foE_inv (fun J : HI => J a = I a) (fun r : (Int32 × HI) ⊕ HI => Sum.elim (fun (x : Int32 × HI) => x.2 a = I a) (fun (x : HI) => x a = I a) r) (fun (i2 : Nat) (s : HI) => fX1_strokeOf_b13 kind foot i i2 s) (fun (s : HI) => fX1_strokeOf_x13 s)
      (fun i2 s r hs hr => by
        unfold fX1_strokeOf_b13 at hr
        split at hr
        · cases hr
        · cases hr
          exact (nextBy_ne h).trans hs)
      (fun i2 s t hs hr => by
        unfold fX1_strokeOf_b13 at hr
        split at hr
        · cases hr
          exact (nextBy_ne h).trans hs
        · cases hr)
      (fun s hs => hs) 9 1 J hJ
    exact ⟨fun r hr => by rw [hr] at key; exact key, fun t ht => by rw [ht] at key; exact key⟩
  exact foE_inv (fun J : HI => J a = I a) (fun r : Int32 × HI => r.2 a = I a) (fun (i : Nat) (s : HI) => fX1_strokeOf_b3 kind foot i s) (fun (s : HI) => fX1_strokeOf_x3 s) (fun i s r hs hr => (inner i s hs).1 r hr) (fun i s t hs hr => (inner i s hs).2 t hr) (fun s hs => hs) 9 1 I rfl

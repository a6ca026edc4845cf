noncomputable def fX2_fewestTelling_x57 (J2 : HI) (x57_2 : Int32) (x57_1 : Int32) : Int32 × HI :=
  (x57_1, J2)
noncomputable def fX2_fewestTelling_b57 (J2 : HI) (i57 : Nat) (x57_2 : Int32) (x57_1 : Int32) : Int32 × Int32 :=
  if x57_2 ≤ fJ6_bitCount_0f7a4 (nI i57) then (x57_2, x57_1) else (if fX2_tellsAllApart J2 (nI i57) = 0 then (x57_2, x57_1) else (fJ6_bitCount_0f7a4 (nI i57), nI i57))
noncomputable def fX2_fewestTelling_x2 (J2 : HI) : Int32 × HI :=
  (fun (s : Int32 × Int32) => fX2_fewestTelling_x57 J2 s.1 s.2) (fo (2 ^ ix (J2 1 6)) 0 (fun (i : Nat) (s : Int32 × Int32) => fX2_fewestTelling_b57 J2 i s.1 s.2) (7, (-9)))
noncomputable def fX2_fewestTelling_x9 (J9 : HI) : HI :=
  J9
noncomputable def fX2_fewestTelling_b9 (i2 : Nat) (i9 : Nat) (J9 : HI) : HI :=
  (up J9 36 ((i2 * 6) + i9) (fX2_markBy J9 (nI i2) i9))
noncomputable def fX2_fewestTelling_b2 (I : HI) (i2 : Nat) (J2 : HI) : HI :=
  fX2_fewestTelling_x9 (fo (ix (I 1 6)) 0 (fun (i : Nat) (s : HI) => fX2_fewestTelling_b9 i2 i s) J2)
noncomputable def fX2_fewestTelling (I : HI) : Int32 × HI :=
  fX2_fewestTelling_x2 (fo 5 0 (fun (i : Nat) (s : HI) => fX2_fewestTelling_b2 I i s) I)
theorem knX2_fewestTelling : Kn yX2_fewestTelling cX2_fewestTelling 4 (some .int) 0 := ⟨q583, q5, ⟨by decide, by decide⟩, by decide +kernel⟩
set_option maxHeartbeats 400000 in
set_option maxRecDepth 100000 in
theorem kX2_fewestTelling (I : HI) (hd : vp_in (I 1 6) 7) (hF : ∀ n, n < 6 → vp_in (I (6 + 2 * n) 0) 2) : Cx yX2_fewestTelling cX2_fewestTelling 4 (some .int) 4 92 [vr 35] I ((some (vi (((fX2_fewestTelling I).1))), (fX2_fewestTelling I).2)) := by
  refine Cx.mk (lv := [(0, vr 35)]) (by decide) (Nat.le_of_ble_eq_true rfl) rfl (fun E ok hr => ?_)
  have hd1 := vb hd
  have hd2 : ∀ K : HI, (∀ a, a ≠ 36 → K a = I a) → vp_in (K 1 6) 7 := fun K h => by rw [h 1 (by omega)]; exact hd
  have hF2 : ∀ K : HI, (∀ a, a ≠ 36 → K a = I a) → ∀ n, n < 6 → vp_in (K (6 + 2 * n) 0) 2 := fun K h n hn => by rw [h (6 + 2 * n) (by omega)]; exact hF n hn
  rw [fX2_fewestTelling]
  refine g_iconst (n := 1) (v := 0) ok dX2_fewestTelling_0 rfl rfl ?_
  refine g_istore_n (n := 2) (lv' := [(1, vi 0), (0, vr 35)]) ok dX2_fewestTelling_1 rfl (by decide) rfl rfl ?_
  have X2 : ∀ (J2 : HI) (hJ : ∀ a, a ≠ 36 → J2 a = I a), G E 4 ((some (vi (((fX2_fewestTelling_x2 J2).1))), (fX2_fewestTelling_x2 J2).2)) J2 49 [(0, vr 35)] [] := by
    intro J2 hJ
    rw [fX2_fewestTelling_x2]
    refine g_bipush (n := 51) (v := -9) ok dX2_fewestTelling_49 rfl rfl ?_
    refine g_istore_n (n := 52) (lv' := [(1, vi (-9)), (0, vr 35)]) ok dX2_fewestTelling_51 rfl (by decide) rfl rfl ?_
    refine g_bipush (n := 54) (v := 7) ok dX2_fewestTelling_52 rfl rfl ?_
    refine g_istore_n (n := 55) (lv' := [(2, vi 7), (1, vi (-9)), (0, vr 35)]) ok dX2_fewestTelling_54 rfl (by decide) rfl rfl ?_
    refine g_iconst (n := 56) (v := 0) ok dX2_fewestTelling_55 rfl rfl ?_
    refine g_istore_n (n := 57) (lv' := [(3, vi 0), (2, vi 7), (1, vi (-9)), (0, vr 35)]) ok dX2_fewestTelling_56 rfl (by decide) rfl rfl ?_
    have X57 : ∀ (x57_2 : Int32) (x57_1 : Int32), G E 4 ((some (vi (((fX2_fewestTelling_x57 J2 x57_2 x57_1).1))), (fX2_fewestTelling_x57 J2 x57_2 x57_1).2)) J2 99 [(1, vi x57_1)] [] := by
      intro x57_2 x57_1
      rw [fX2_fewestTelling_x57]
      refine g_iload_n (n := 100) ok 0 dX2_fewestTelling_99 rfl rfl rfl ?_
      exact g_iret ok hr dX2_fewestTelling_100
    have L57 : ∀ (n57 i57 : Nat) (x57_2 : Int32) (x57_1 : Int32) (hi : i57 + n57 = 2 ^ ix (J2 1 6)), G E 4 ((some (vi ((((fun (s : Int32 × Int32) => fX2_fewestTelling_x57 J2 s.1 s.2) (fo n57 i57 (fun (i : Nat) (s : Int32 × Int32) => fX2_fewestTelling_b57 J2 i s.1 s.2) (x57_2, x57_1))).1))), ((fun (s : Int32 × Int32) => fX2_fewestTelling_x57 J2 s.1 s.2) (fo n57 i57 (fun (i : Nat) (s : Int32 × Int32) => fX2_fewestTelling_b57 J2 i s.1 s.2) (x57_2, x57_1))).2)) J2 57 [(3, vi (nI i57)), (2, vi x57_2), (1, vi x57_1), (0, vr 35)] [] := by
      intro n57
      induction n57 with
      | zero =>
        intro i57 x57_2 x57_1 hi
        rw [fo_0]
        have hb57 := shl_le (hd2 J2 hJ)
        refine g_iload_n (n := 58) ok 0 dX2_fewestTelling_57 rfl rfl rfl ?_
        refine g_iconst (n := 59) (v := 1) ok dX2_fewestTelling_58 rfl rfl ?_
        refine g_aload_n (n := 60) ok 3 dX2_fewestTelling_59 rfl rfl rfl ?_
        refine g_get (n := 63) (v := vr 1) (c := 2) (k := 0) ok dX2_fewestTelling_60 clsX2 (by decide) q106 rfl rfl rfl ?_
        refine g_get (n := 66) (v := vi (J2 1 6)) (c := 3) (k := 6) ok dX2_fewestTelling_63 clsX3 (by decide) q83 rfl rfl rfl ?_
        refine g_ishl (n := 67) ok dX2_fewestTelling_66 rfl ?_
        refine g_icmp_ge (n := 70) (tgt := 99) ok dX2_fewestTelling_67 (by decide) rfl (fun c => ?_) (fun c => absurd (nle (a := 2 ^ ix (J2 1 6)) (b := i57) (shl_n (hd2 J2 hJ)) rfl (by omega) (by omega)) c)
        refine g_sub [2] rfl ?_
        exact X57 _ _
      | succ n57 ih =>
        intro i57 x57_2 x57_1 hi
        have hb57 := shl_le (hd2 J2 hJ)
        refine g_iload_n (n := 58) ok 0 dX2_fewestTelling_57 rfl rfl rfl ?_
        refine g_iconst (n := 59) (v := 1) ok dX2_fewestTelling_58 rfl rfl ?_
        refine g_aload_n (n := 60) ok 3 dX2_fewestTelling_59 rfl rfl rfl ?_
        refine g_get (n := 63) (v := vr 1) (c := 2) (k := 0) ok dX2_fewestTelling_60 clsX2 (by decide) q106 rfl rfl rfl ?_
        refine g_get (n := 66) (v := vi (J2 1 6)) (c := 3) (k := 6) ok dX2_fewestTelling_63 clsX3 (by decide) q83 rfl rfl rfl ?_
        refine g_ishl (n := 67) ok dX2_fewestTelling_66 rfl ?_
        refine g_icmp_ge (n := 70) (tgt := 99) ok dX2_fewestTelling_67 (by decide) rfl (fun c => absurd c (nnle (a := 2 ^ ix (J2 1 6)) (b := i57) (shl_n (hd2 J2 hJ)) rfl (by omega) (by omega))) (fun c => ?_)
        rw [fo_s]
        show G E 4 ((some (vi ((((fun (s : Int32 × Int32) => fX2_fewestTelling_x57 J2 s.1 s.2) (fo n57 (i57 + 1) (fun (i : Nat) (s : Int32 × Int32) => fX2_fewestTelling_b57 J2 i s.1 s.2) (fX2_fewestTelling_b57 J2 i57 x57_2 x57_1))).1))), ((fun (s : Int32 × Int32) => fX2_fewestTelling_x57 J2 s.1 s.2) (fo n57 (i57 + 1) (fun (i : Nat) (s : Int32 × Int32) => fX2_fewestTelling_b57 J2 i s.1 s.2) (fX2_fewestTelling_b57 J2 i57 x57_2 x57_1))).2)) _ _ _ _
        rw [fX2_fewestTelling_b57]
        refine g_iload_n (n := 71) ok 0 dX2_fewestTelling_70 rfl rfl rfl ?_
        refine g_callS (n := 74) (rest := []) (av := [vi (nI i57)]) ok (kJ6_bitCount_0f7a4 J2 (nI i57)) knJ6_bitCount_0f7a4 q551 q552 dX2_fewestTelling_71 rfl rfl (Nat.le_of_ble_eq_true rfl) (by decide) (by decide) rfl ?_
        refine g_iload_n (n := 75) ok 1 dX2_fewestTelling_74 rfl rfl rfl ?_
        refine g_icmp_ge (n := 78) (tgt := 93) ok dX2_fewestTelling_75 (by decide) rfl (fun c1 => ?_) (fun c1 => ?_)
        · rw [if_pos c1]
          refine g_iinc (n := 96) (v := nI (i57 + 1)) (lv' := [(3, vi (nI (i57 + 1))), (2, vi x57_2), (1, vi x57_1), (0, vr 35)]) ok 0 dX2_fewestTelling_93 rfl (iinc_n (a := i57) rfl) (by decide) rfl rfl ?_
          refine g_goto (tgt := 57) ok dX2_fewestTelling_96 (by decide) ?_
          exact ih (i57 + 1) x57_2 x57_1 (by omega)
        · rw [if_neg c1]
          refine g_aload_n (n := 79) ok 3 dX2_fewestTelling_78 rfl rfl rfl ?_
          refine g_iload_n (n := 80) ok 0 dX2_fewestTelling_79 rfl rfl rfl ?_
          refine g_callV (n := 83) (rest := []) (av := [vi (nI i57)]) (j := 35) ok (kX2_tellsAllApart J2 (nI i57) (hd2 J2 hJ)) knX2_tellsAllApart q584 q586 qs19 clsX2 rfl dX2_fewestTelling_80 rfl rfl (Nat.le_of_ble_eq_true rfl) (by decide) (by decide) rfl ?_
          refine g_if_eq (n := 86) (tgt := 93) ok dX2_fewestTelling_83 (by decide) rfl (fun c2 => ?_) (fun c2 => ?_)
          · rw [if_pos c2]
            refine g_iinc (n := 96) (v := nI (i57 + 1)) (lv' := [(3, vi (nI (i57 + 1))), (2, vi x57_2), (1, vi x57_1), (0, vr 35)]) ok 0 dX2_fewestTelling_93 rfl (iinc_n (a := i57) rfl) (by decide) rfl rfl ?_
            refine g_goto (tgt := 57) ok dX2_fewestTelling_96 (by decide) ?_
            exact ih (i57 + 1) x57_2 x57_1 (by omega)
          · rw [if_neg c2]
            refine g_iload_n (n := 87) ok 0 dX2_fewestTelling_86 rfl rfl rfl ?_
            refine g_istore_n (n := 88) (lv' := [(1, vi (nI i57)), (3, vi (nI i57)), (2, vi x57_2), (0, vr 35)]) ok dX2_fewestTelling_87 rfl (by decide) rfl rfl ?_
            refine g_iload_n (n := 89) ok 1 dX2_fewestTelling_88 rfl rfl rfl ?_
            refine g_callS (n := 92) (rest := []) (av := [vi (nI i57)]) ok (kJ6_bitCount_0f7a4 J2 (nI i57)) knJ6_bitCount_0f7a4 q551 q552 dX2_fewestTelling_89 rfl rfl (Nat.le_of_ble_eq_true rfl) (by decide) (by decide) rfl ?_
            refine g_istore_n (n := 93) (lv' := [(2, vi (fJ6_bitCount_0f7a4 (nI i57))), (1, vi (nI i57)), (3, vi (nI i57)), (0, vr 35)]) ok dX2_fewestTelling_92 rfl (by decide) rfl rfl ?_
            refine g_iinc (n := 96) (v := nI (i57 + 1)) (lv' := [(3, vi (nI (i57 + 1))), (2, vi (fJ6_bitCount_0f7a4 (nI i57))), (1, vi (nI i57)), (0, vr 35)]) ok 2 dX2_fewestTelling_93 rfl (iinc_n (a := i57) rfl) (by decide) rfl rfl ?_
            refine g_goto (tgt := 57) ok dX2_fewestTelling_96 (by decide) ?_
            exact ih (i57 + 1) (fJ6_bitCount_0f7a4 (nI i57)) (nI i57) (by omega)
    exact L57 (2 ^ ix (J2 1 6)) 0 7 (-9) (by omega)
  have L2 : ∀ (n2 i2 : Nat) (J2 : HI) (hJ : ∀ a, a ≠ 36 → J2 a = I a) (hi : i2 + n2 = 5), G E 4 ((some (vi (((fX2_fewestTelling_x2 (fo n2 i2 (fun (i : Nat) (s : HI) => fX2_fewestTelling_b2 I i s) J2)).1))), (fX2_fewestTelling_x2 (fo n2 i2 (fun (i : Nat) (s : HI) => fX2_fewestTelling_b2 I i s) J2)).2)) J2 2 [(1, vi (nI i2)), (0, vr 35)] [] := by
    intro n2
    induction n2 with
    | zero =>
      intro i2 J2 hJ hi
      rw [fo_0]
      refine g_iload_n (n := 3) ok 0 dX2_fewestTelling_2 rfl rfl rfl ?_
      refine g_iconst (n := 4) (v := 5) ok dX2_fewestTelling_3 rfl rfl ?_
      refine g_icmp_ge (n := 7) (tgt := 49) ok dX2_fewestTelling_4 (by decide) rfl (fun c => ?_) (fun c => absurd (nle (a := 5) (b := i2) rfl rfl (by omega) (by omega)) c)
      refine g_sub [1] rfl ?_
      exact X2 _ hJ
    | succ n2 ih =>
      intro i2 J2 hJ hi
      refine g_iload_n (n := 3) ok 0 dX2_fewestTelling_2 rfl rfl rfl ?_
      refine g_iconst (n := 4) (v := 5) ok dX2_fewestTelling_3 rfl rfl ?_
      refine g_icmp_ge (n := 7) (tgt := 49) ok dX2_fewestTelling_4 (by decide) rfl (fun c => absurd c (nnle (a := 5) (b := i2) rfl rfl (by omega) (by omega))) (fun c => ?_)
      rw [fo_s]
      show G E 4 ((some (vi (((fX2_fewestTelling_x2 (fo n2 (i2 + 1) (fun (i : Nat) (s : HI) => fX2_fewestTelling_b2 I i s) (fX2_fewestTelling_b2 I i2 J2))).1))), (fX2_fewestTelling_x2 (fo n2 (i2 + 1) (fun (i : Nat) (s : HI) => fX2_fewestTelling_b2 I i s) (fX2_fewestTelling_b2 I i2 J2))).2)) _ _ _ _
      rw [fX2_fewestTelling_b2]
      refine g_iconst (n := 8) (v := 0) ok dX2_fewestTelling_7 rfl rfl ?_
      refine g_istore_n (n := 9) (lv' := [(2, vi 0), (1, vi (nI i2)), (0, vr 35)]) ok dX2_fewestTelling_8 rfl (by decide) rfl rfl ?_
      have X9 : ∀ (J9 : HI) (hJ2 : ∀ a, a ≠ 36 → J9 a = I a), G E 4 ((some (vi (((fX2_fewestTelling_x2 (fo n2 (i2 + 1) (fun (i : Nat) (s : HI) => fX2_fewestTelling_b2 I i s) (fX2_fewestTelling_x9 J9))).1))), (fX2_fewestTelling_x2 (fo n2 (i2 + 1) (fun (i : Nat) (s : HI) => fX2_fewestTelling_b2 I i s) (fX2_fewestTelling_x9 J9))).2)) J9 43 [(1, vi (nI i2)), (0, vr 35)] [] := by
        intro J9 hJ2
        rw [fX2_fewestTelling_x9]
        refine g_iinc (n := 46) (v := nI (i2 + 1)) (lv' := [(1, vi (nI (i2 + 1))), (0, vr 35)]) ok 0 dX2_fewestTelling_43 rfl (iinc_n (a := i2) rfl) (by decide) rfl rfl ?_
        refine g_goto (tgt := 2) ok dX2_fewestTelling_46 (by decide) ?_
        exact ih (i2 + 1) _ hJ2 (by omega)
      have L9 : ∀ (n9 i9 : Nat) (J9 : HI) (hJ2 : ∀ a, a ≠ 36 → J9 a = I a) (hi : i9 + n9 = ix (I 1 6)), G E 4 ((some (vi (((fX2_fewestTelling_x2 (fo n2 (i2 + 1) (fun (i : Nat) (s : HI) => fX2_fewestTelling_b2 I i s) (fX2_fewestTelling_x9 (fo n9 i9 (fun (i : Nat) (s : HI) => fX2_fewestTelling_b9 i2 i s) J9)))).1))), (fX2_fewestTelling_x2 (fo n2 (i2 + 1) (fun (i : Nat) (s : HI) => fX2_fewestTelling_b2 I i s) (fX2_fewestTelling_x9 (fo n9 i9 (fun (i : Nat) (s : HI) => fX2_fewestTelling_b9 i2 i s) J9)))).2)) J9 9 [(2, vi (nI i9)), (1, vi (nI i2)), (0, vr 35)] [] := by
        intro n9
        induction n9 with
        | zero =>
          intro i9 J9 hJ2 hi
          rw [fo_0]
          refine g_iload_n (n := 10) ok 0 dX2_fewestTelling_9 rfl rfl rfl ?_
          refine g_aload_n (n := 11) ok 2 dX2_fewestTelling_10 rfl rfl rfl ?_
          refine g_get (n := 14) (v := vr 1) (c := 2) (k := 0) ok dX2_fewestTelling_11 clsX2 (by decide) q106 rfl rfl rfl ?_
          refine g_get (n := 17) (v := vi (J9 1 6)) (c := 3) (k := 6) ok dX2_fewestTelling_14 clsX3 (by decide) q83 rfl rfl rfl ?_
          refine g_icmp_ge (n := 20) (tgt := 43) ok dX2_fewestTelling_17 (by decide) rfl (fun c => ?_) (fun c => absurd (nle (a := ix (I 1 6)) (b := i9) (by rw [hJ2 1 (by omega)]; exact vx hd) rfl (by omega) (by omega)) c)
          refine g_sub [1, 2] rfl ?_
          exact X9 _ hJ2
        | succ n9 ih =>
          intro i9 J9 hJ2 hi
          refine g_iload_n (n := 10) ok 0 dX2_fewestTelling_9 rfl rfl rfl ?_
          refine g_aload_n (n := 11) ok 2 dX2_fewestTelling_10 rfl rfl rfl ?_
          refine g_get (n := 14) (v := vr 1) (c := 2) (k := 0) ok dX2_fewestTelling_11 clsX2 (by decide) q106 rfl rfl rfl ?_
          refine g_get (n := 17) (v := vi (J9 1 6)) (c := 3) (k := 6) ok dX2_fewestTelling_14 clsX3 (by decide) q83 rfl rfl rfl ?_
          refine g_icmp_ge (n := 20) (tgt := 43) ok dX2_fewestTelling_17 (by decide) rfl (fun c => absurd c (nnle (a := ix (I 1 6)) (b := i9) (by rw [hJ2 1 (by omega)]; exact vx hd) rfl (by omega) (by omega))) (fun c => ?_)
          rw [fo_s]
          show G E 4 ((some (vi (((fX2_fewestTelling_x2 (fo n2 (i2 + 1) (fun (i : Nat) (s : HI) => fX2_fewestTelling_b2 I i s) (fX2_fewestTelling_x9 (fo n9 (i9 + 1) (fun (i : Nat) (s : HI) => fX2_fewestTelling_b9 i2 i s) (fX2_fewestTelling_b9 i2 i9 J9))))).1))), (fX2_fewestTelling_x2 (fo n2 (i2 + 1) (fun (i : Nat) (s : HI) => fX2_fewestTelling_b2 I i s) (fX2_fewestTelling_x9 (fo n9 (i9 + 1) (fun (i : Nat) (s : HI) => fX2_fewestTelling_b9 i2 i s) (fX2_fewestTelling_b9 i2 i9 J9))))).2)) _ _ _ _
          rw [fX2_fewestTelling_b9]
          refine g_aload_n (n := 21) ok 2 dX2_fewestTelling_20 rfl rfl rfl ?_
          refine g_get (n := 24) (v := vr 36) (c := 2) (k := 1) ok dX2_fewestTelling_21 clsX2 (by decide) q107 rfl rfl rfl ?_
          refine g_iload_n (n := 25) ok 1 dX2_fewestTelling_24 rfl rfl rfl ?_
          refine g_bipush (n := 27) (v := 6) ok dX2_fewestTelling_25 rfl rfl ?_
          refine g_imul (n := 28) ok dX2_fewestTelling_27 rfl ?_
          refine g_top (nv_imul (a := i2) (b := 6) rfl rfl) ?_
          refine g_iload_n (n := 29) ok 0 dX2_fewestTelling_28 rfl rfl rfl ?_
          refine g_iadd (n := 30) ok dX2_fewestTelling_29 rfl ?_
          refine g_top (nv_iadd (a := i2 * 6) (b := i9) rfl rfl) ?_
          refine g_aload_n (n := 31) ok 2 dX2_fewestTelling_30 rfl rfl rfl ?_
          refine g_iload_n (n := 32) ok 1 dX2_fewestTelling_31 rfl rfl rfl ?_
          refine g_iload_n (n := 33) ok 0 dX2_fewestTelling_32 rfl rfl rfl ?_
          refine g_callV (n := 36) (rest := [vi (nI ((i2 * 6) + i9)), vr 36]) (av := [vi (nI i2), vi (nI i9)]) (j := 35) ok (kX2_markBy J9 (nI i2) i9 (hd2 _ hJ2) (by first | with_reducible assumption | omega) (hF2 _ hJ2)) knX2_markBy q575 q540 q541 clsX2 rfl dX2_fewestTelling_33 rfl rfl (Nat.le_of_ble_eq_true rfl) (by decide) (by decide) rfl ?_
          refine g_iast (n := 37) (i := (i2 * 6) + i9) (L := 30) ok dX2_fewestTelling_36 rfl rfl rfl (by omega) rfl ?_
          refine g_iinc (n := 40) (v := nI (i9 + 1)) (lv' := [(2, vi (nI (i9 + 1))), (1, vi (nI i2)), (0, vr 35)]) ok 0 dX2_fewestTelling_37 rfl (iinc_n (a := i9) rfl) (by decide) rfl rfl ?_
          refine g_goto (tgt := 9) ok dX2_fewestTelling_40 (by decide) ?_
          exact ih (i9 + 1) _ (fun a h => (up_ne a h).trans (hJ2 a h)) (by omega)
      exact L9 (ix (I 1 6)) 0 _ hJ (by omega)
  exact L2 5 0 _ (fun _ _ => rfl) (by omega)

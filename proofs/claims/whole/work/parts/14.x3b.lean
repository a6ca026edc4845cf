noncomputable def fX3_skate_x12 (x12_4 : Int32) (J12 : HI) : HI :=
  J12
noncomputable def fX3_skate_78 (j : Nat) (kind : Int32) (o : Option Nat) (J12 : HI) (i12 : Nat) (v4 : Int32) (v17 : Int32) : Int32 × HI :=
  (v4, (up J12 (j + 1) i12 (fX5_bounded (fX3_radiusBy J12 kind (ix (J12 j 0)) i12 v17 o) 999)))
noncomputable def fX3_skate_60 (j : Nat) (kind : Int32) (o : Option Nat) (J12 : HI) (i12 : Nat) (v4 : Int32) : Int32 × HI :=
  fX3_skate_78 j kind o J12 i12 v4 (if J12 j 2 ≤ 0 then 0 else v4 / (J12 j 2))
noncomputable def fX3_skate_b12 (j : Nat) (kind : Int32) (o : Option Nat) (i12 : Nat) (x12_4 : Int32) (J12 : HI) : Int32 × HI :=
  fX3_skate_60 j kind o J12 i12 (if nI i12 ≤ 0 then x12_4 else iMax 0 (x12_4 - (3 * ((J12 4 1) + (J12 2 (fX5_spot (ix (J12 j 0)) i12))))))
noncomputable def fX3_skate (I : HI) (j : Nat) (kind : Int32) (o : Option Nat) : HI :=
  (fun (s : Int32 × HI) => fX3_skate_x12 s.1 s.2) (fo 12 0 (fun (i : Nat) (s : Int32 × HI) => fX3_skate_b12 j kind o i s.1 s.2) (60 * (I j 1), I))
theorem knX3_skate : Kn yX3_skate cX3_skate 8 none 3 := ⟨q302, q2, ⟨by decide, by decide⟩, by decide +kernel⟩
set_option maxHeartbeats 400000 in
set_option maxRecDepth 100000 in
theorem kX3_skate (I : HI) (j : Nat) (kind : Int32) (o : Option Nat) (hT : Tr j) (hf : vp_in (I j 0) 2) (ho : ∀ t, o = some t → Tr t) : Cx yX3_skate cX3_skate 8 none 2 48 [vr 1, vr j, vi kind, vo o] I ((none, fX3_skate I j kind o)) := by
  refine Cx.mk (lv := [(0, vr 1), (1, vr j), (2, vi kind), (3, vo o)]) (by decide) (Nat.le_of_ble_eq_true rfl) rfl (fun E ok hr => ?_)
  have hf2 : ∀ K : HI, (∀ a, a ≠ j + 1 → K a = I a) → vp_in (K j 0) 2 := fun K h => by rw [h j (by omega)]; exact hf
  rw [fX3_skate]
  refine g_bipush (n := 2) (v := 60) ok dX3_skate_0 rfl rfl ?_
  refine g_aload_n (n := 3) ok 1 dX3_skate_2 rfl rfl rfl ?_
  refine g_get (n := 6) (v := vi (I j 1)) (c := 4) (k := 1) ok dX3_skate_3 clsX4 (by decide) q42 hT.1 rfl rfl ?_
  refine g_imul (n := 7) ok dX3_skate_6 rfl ?_
  refine g_istore (n := 9) (lv' := [(4, vi (60 * (I j 1))), (0, vr 1), (1, vr j), (2, vi kind), (3, vo o)]) ok dX3_skate_7 (by decide) rfl rfl ?_
  refine g_iconst (n := 10) (v := 0) ok dX3_skate_9 rfl rfl ?_
  refine g_istore (n := 12) (lv' := [(5, vi 0), (4, vi (60 * (I j 1))), (0, vr 1), (1, vr j), (2, vi kind), (3, vo o)]) ok dX3_skate_10 (by decide) rfl rfl ?_
  have X12 : ∀ (x12_4 : Int32) (J12 : HI) (hJ : ∀ a, a ≠ j + 1 → J12 a = I a), G E 8 ((none, fX3_skate_x12 x12_4 J12)) J12 117 [] [] := by
    intro x12_4 J12 hJ
    rw [fX3_skate_x12]
    exact g_vret ok hr dX3_skate_117
  have L12 : ∀ (n12 i12 : Nat) (x12_4 : Int32) (J12 : HI) (hJ : ∀ a, a ≠ j + 1 → J12 a = I a) (hi : i12 + n12 = 12), G E 8 ((none, (fun (s : Int32 × HI) => fX3_skate_x12 s.1 s.2) (fo n12 i12 (fun (i : Nat) (s : Int32 × HI) => fX3_skate_b12 j kind o i s.1 s.2) (x12_4, J12)))) J12 12 [(5, vi (nI i12)), (4, vi x12_4), (0, vr 1), (1, vr j), (2, vi kind), (3, vo o)] [] := by
    intro n12
    induction n12 with
    | zero =>
      intro i12 x12_4 J12 hJ hi
      rw [fo_0]
      refine g_iload (n := 14) ok 0 dX3_skate_12 rfl rfl ?_
      refine g_bipush (n := 16) (v := 12) ok dX3_skate_14 rfl rfl ?_
      refine g_icmp_ge (n := 19) (tgt := 117) ok dX3_skate_16 (by decide) rfl (fun c => ?_) (fun c => absurd (nle (a := 12) (b := i12) rfl rfl (by omega) (by omega)) c)
      refine g_sub [] rfl ?_
      exact X12 _ _ hJ
    | succ n12 ih =>
      intro i12 x12_4 J12 hJ hi
      refine g_iload (n := 14) ok 0 dX3_skate_12 rfl rfl ?_
      refine g_bipush (n := 16) (v := 12) ok dX3_skate_14 rfl rfl ?_
      refine g_icmp_ge (n := 19) (tgt := 117) ok dX3_skate_16 (by decide) rfl (fun c => absurd c (nnle (a := 12) (b := i12) rfl rfl (by omega) (by omega))) (fun c => ?_)
      rw [fo_s]
      show G E 8 ((none, (fun (s : Int32 × HI) => fX3_skate_x12 s.1 s.2) (fo n12 (i12 + 1) (fun (i : Nat) (s : Int32 × HI) => fX3_skate_b12 j kind o i s.1 s.2) (fX3_skate_b12 j kind o i12 x12_4 J12)))) _ _ _ _
      rw [fX3_skate_b12]
      refine g_iload (n := 21) ok 0 dX3_skate_19 rfl rfl ?_
      have J60_9 : ∀ (v4 : Int32), G E 8 ((none, (fun (s : Int32 × HI) => fX3_skate_x12 s.1 s.2) (fo n12 (i12 + 1) (fun (i : Nat) (s : Int32 × HI) => fX3_skate_b12 j kind o i s.1 s.2) (fX3_skate_60 j kind o J12 i12 v4)))) J12 60 [(5, vi (nI i12)), (4, vi v4), (0, vr 1), (1, vr j), (2, vi kind), (3, vo o)] [] := by
        intro v4
        rw [fX3_skate_60]
        refine g_aload_n (n := 61) ok 3 dX3_skate_60 rfl rfl rfl ?_
        refine g_get (n := 64) (v := vi (J12 j 2)) (c := 4) (k := 2) ok dX3_skate_61 clsX4 (by decide) q45 hT.1 rfl rfl ?_
        have J78_18 : ∀ (v17 : Int32), G E 8 ((none, (fun (s : Int32 × HI) => fX3_skate_x12 s.1 s.2) (fo n12 (i12 + 1) (fun (i : Nat) (s : Int32 × HI) => fX3_skate_b12 j kind o i s.1 s.2) (fX3_skate_78 j kind o J12 i12 v4 v17)))) J12 78 [(5, vi (nI i12)), (4, vi v4), (0, vr 1), (1, vr j), (2, vi kind), (3, vo o)] [vi v17] := by
          intro v17
          rw [fX3_skate_78]
          refine g_istore (n := 80) (lv' := [(6, vi v17), (5, vi (nI i12)), (4, vi v4), (0, vr 1), (1, vr j), (2, vi kind), (3, vo o)]) ok dX3_skate_78 (by decide) rfl rfl ?_
          refine g_aload_n (n := 81) ok 3 dX3_skate_80 rfl rfl rfl ?_
          refine g_iload_n (n := 82) ok 5 dX3_skate_81 rfl rfl rfl ?_
          refine g_aload_n (n := 83) ok 4 dX3_skate_82 rfl rfl rfl ?_
          refine g_get (n := 86) (v := vi (J12 j 0)) (c := 4) (k := 0) ok dX3_skate_83 clsX4 (by decide) q38 hT.1 rfl rfl ?_
          refine g_iload (n := 88) ok 1 dX3_skate_86 rfl rfl ?_
          refine g_iload (n := 90) ok 0 dX3_skate_88 rfl rfl ?_
          refine g_aload_n (n := 91) ok 6 dX3_skate_90 rfl rfl rfl ?_
          have hb91 := vb (hf2 J12 hJ)
          refine g_callV (n := 94) (rest := []) (av := [vi kind, vi (nI (ix (J12 j 0))), vi (nI i12), vi v17, vo o]) (j := 1) ok (kX3_radiusBy J12 kind (ix (J12 j 0)) i12 v17 o (by first | with_reducible assumption | omega) (by first | with_reducible assumption | omega) (by first | with_reducible assumption | omega)) knX3_radiusBy q307 q308 q309 clsX3 rfl dX3_skate_91 (lcons rfl (lcons rfl (lcons rfl (lcons (congrArg vi (vx (L := 2) (hf2 J12 hJ))) (lcons rfl (lcons rfl rfl)))))) rfl (Nat.le_of_ble_eq_true rfl) (by decide) (by decide) rfl ?_
          refine g_istore (n := 96) (lv' := [(7, vi (fX3_radiusBy J12 kind (ix (J12 j 0)) i12 v17 o)), (6, vi v17), (5, vi (nI i12)), (4, vi v4), (0, vr 1), (1, vr j), (2, vi kind), (3, vo o)]) ok dX3_skate_94 (by decide) rfl rfl ?_
          refine g_aload_n (n := 97) ok 5 dX3_skate_96 rfl rfl rfl ?_
          refine g_get (n := 100) (v := vr (j + 1)) (c := 4) (k := 3) ok dX3_skate_97 clsX4 (by decide) q48 hT.1 rfl rfl ?_
          refine g_iload (n := 102) ok 2 dX3_skate_100 rfl rfl ?_
          refine g_iload (n := 104) ok 0 dX3_skate_102 rfl rfl ?_
          refine g_sipush (n := 107) (v := 999) ok dX3_skate_104 rfl rfl ?_
          refine g_callSN (n := 110) (rest := [vi (nI i12), vr (j + 1)]) (av := [vi (fX3_radiusBy J12 kind (ix (J12 j 0)) i12 v17 o), vi 999]) ok (kX5_bounded J12 (fX3_radiusBy J12 kind (ix (J12 j 0)) i12 v17 o) 999) knX5_bounded q330 q331 dX3_skate_107 rfl rfl (Nat.le_of_ble_eq_true rfl) (by decide) (by decide) rfl ?_
          refine g_iast (n := 111) (i := i12) (L := 12) ok dX3_skate_110 hT.2.1 hT.2.2 rfl (by omega) rfl ?_
          refine g_iinc (n := 114) (v := nI (i12 + 1)) (lv' := [(5, vi (nI (i12 + 1))), (7, vi (fX3_radiusBy J12 kind (ix (J12 j 0)) i12 v17 o)), (6, vi v17), (4, vi v4), (0, vr 1), (1, vr j), (2, vi kind), (3, vo o)]) ok 2 dX3_skate_111 rfl (iinc_n (a := i12) rfl) (by decide) rfl rfl ?_
          refine g_goto (tgt := 12) ok dX3_skate_114 (by decide) ?_
          refine g_sub [0, 3, 4, 5, 6, 7] rfl ?_
          exact ih (i12 + 1) v4 _ (fun a h => (up_ne a h).trans (hJ a h)) (by omega)
        refine g_if_le (n := 67) (tgt := 77) ok dX3_skate_64 (by decide) rfl (fun c10 => ?_) (fun c10 => ?_)
        · try simp only [if_pos c10]
          refine g_iconst (n := 78) (v := 0) ok dX3_skate_77 rfl rfl ?_
          exact J78_18 _
        · try simp only [if_neg c10]
          have c73 := ne_of_npos c10
          refine g_iload (n := 69) ok 1 dX3_skate_67 rfl rfl ?_
          refine g_aload_n (n := 70) ok 3 dX3_skate_69 rfl rfl rfl ?_
          refine g_get (n := 73) (v := vi (J12 j 2)) (c := 4) (k := 2) ok dX3_skate_70 clsX4 (by decide) q45 hT.1 rfl rfl ?_
          refine g_idiv (n := 74) ok dX3_skate_73 c73 rfl ?_
          refine g_goto (tgt := 78) ok dX3_skate_74 (by decide) ?_
          exact J78_18 _
      refine g_if_le (n := 24) (tgt := 60) ok dX3_skate_21 (by decide) rfl (fun c1 => ?_) (fun c1 => ?_)
      · try simp only [if_pos c1]
        exact J60_9 _
      · try simp only [if_neg c1]
        refine g_aload_n (n := 25) ok 2 dX3_skate_24 rfl rfl rfl ?_
        refine g_get (n := 28) (v := vr 4) (c := 3) (k := 2) ok dX3_skate_25 clsX3 (by decide) q67 rfl rfl rfl ?_
        refine g_iconst (n := 29) (v := 1) ok dX3_skate_28 rfl rfl ?_
        refine g_iald (n := 30) (i := 1) (L := 5) ok dX3_skate_29 rfl rfl rfl (by omega) rfl ?_
        refine g_aload_n (n := 31) ok 2 dX3_skate_30 rfl rfl rfl ?_
        refine g_get (n := 34) (v := vr 2) (c := 3) (k := 0) ok dX3_skate_31 clsX3 (by decide) q61 rfl rfl rfl ?_
        refine g_aload_n (n := 35) ok 3 dX3_skate_34 rfl rfl rfl ?_
        refine g_get (n := 38) (v := vi (J12 j 0)) (c := 4) (k := 0) ok dX3_skate_35 clsX4 (by decide) q38 hT.1 rfl rfl ?_
        refine g_iload (n := 40) ok 0 dX3_skate_38 rfl rfl ?_
        have hb40 := vb (hf2 J12 hJ)
        refine g_callSN (n := 43) (rest := [vr 2, vi (J12 4 1)]) (av := [vi (nI (ix (J12 j 0))), vi (nI i12)]) ok (kX5_spot J12 (ix (J12 j 0)) i12) knX5_spot q303 q278 dX3_skate_40 (lcons rfl (lcons (congrArg vi (vx (L := 2) (hf2 J12 hJ))) rfl)) rfl (Nat.le_of_ble_eq_true rfl) (by decide) (by decide) rfl ?_
        have hp2 : fX5_spot (ix (J12 j 0)) i12 = (ix (J12 j 0)) * 12 + i12 := rfl
        refine g_iald (n := 44) (i := (fX5_spot (ix (J12 j 0)) i12)) (L := 24) ok dX3_skate_43 rfl rfl rfl (by omega) rfl ?_
        refine g_iadd (n := 45) ok dX3_skate_44 rfl ?_
        refine g_istore (n := 47) (lv' := [(6, vi ((J12 4 1) + (J12 2 (fX5_spot (ix (J12 j 0)) i12)))), (5, vi (nI i12)), (4, vi x12_4), (0, vr 1), (1, vr j), (2, vi kind), (3, vo o)]) ok dX3_skate_45 (by decide) rfl rfl ?_
        refine g_iconst (n := 48) (v := 0) ok dX3_skate_47 rfl rfl ?_
        refine g_iload (n := 50) ok 2 dX3_skate_48 rfl rfl ?_
        refine g_iconst (n := 51) (v := 3) ok dX3_skate_50 rfl rfl ?_
        refine g_iload (n := 53) ok 0 dX3_skate_51 rfl rfl ?_
        refine g_imul (n := 54) ok dX3_skate_53 rfl ?_
        refine g_isub (n := 55) ok dX3_skate_54 rfl ?_
        refine g_mmax (n := 58) (rest := []) ok dX3_skate_55 q304 q305 q306 (Nat.le_of_ble_eq_true rfl) (by decide) (by decide) rfl ?_
        refine g_istore (n := 60) (lv' := [(4, vi (iMax 0 (x12_4 - (3 * ((J12 4 1) + (J12 2 (fX5_spot (ix (J12 j 0)) i12))))))), (6, vi ((J12 4 1) + (J12 2 (fX5_spot (ix (J12 j 0)) i12)))), (5, vi (nI i12)), (0, vr 1), (1, vr j), (2, vi kind), (3, vo o)]) ok dX3_skate_58 (by decide) rfl rfl ?_
        refine g_sub [2, 0, 3, 4, 5, 6] rfl ?_
        exact J60_9 _
  exact L12 12 0 (60 * (I j 1)) _ (fun _ _ => rfl) (by omega)
theorem skate_ne {I : HI} {j : Nat} {kind : Int32} {o : Option Nat} {a : Nat} (h : a ≠ j + 1) : fX3_skate I j kind o a = I a := by
  have h2 := fo_inv (fun _ s => s.2 a = I a) (fun i s => fX3_skate_b12 j kind o i s.1 s.2) 12 0 (60 * (I j 1), I) rfl (fun k s _ _ hs => by
    show (up s.2 (j + 1) k _) a = I a
    rw [up_ne a h]
    exact hs)
  unfold fX3_skate fX3_skate_x12
  exact h2

noncomputable def fX3_addTrace_c31 (I : HI) (foot : Nat) (K31 : HI) : Int32 × HI :=
  (((up (fX3_skate K31 (6 + 2 * (ix (I 1 6))) (K31 1 3) (fX3_latestOf K31 (nI foot))) 1 6 (((fX3_skate K31 (6 + 2 * (ix (I 1 6))) (K31 1 3) (fX3_latestOf K31 (nI foot))) 1 6) + 1)) 1 6) - 1, (up (fX3_skate K31 (6 + 2 * (ix (I 1 6))) (K31 1 3) (fX3_latestOf K31 (nI foot))) 1 6 (((fX3_skate K31 (6 + 2 * (ix (I 1 6))) (K31 1 3) (fX3_latestOf K31 (nI foot))) 1 6) + 1)))
noncomputable def fX3_addTrace (I : HI) (foot : Nat) (push : Int32) (lean : Int32) : Int32 × HI :=
  if I 1 6 < 6 then fX3_addTrace_c31 I foot (fX4_begin I (6 + 2 * (ix (I 1 6))) (nI foot) push lean) else ((-6), I)
theorem knX3_addTrace : Kn yX3_addTrace cX3_addTrace 5 (some .int) 3 := ⟨q283, q2, ⟨by decide, by decide⟩, by decide +kernel⟩
set_option maxHeartbeats 400000 in
set_option maxRecDepth 100000 in
theorem kX3_addTrace (I : HI) (foot : Nat) (push : Int32) (lean : Int32) (hd : vp_in (I 1 6) 7) (hf : foot < 2) : Cx yX3_addTrace cX3_addTrace 5 (some .int) 3 75 [vr 1, vi (nI foot), vi push, vi lean] I ((some (vi (((fX3_addTrace I foot push lean).1))), (fX3_addTrace I foot push lean).2)) := by
  refine Cx.mk (lv := [(0, vr 1), (1, vi (nI foot)), (2, vi push), (3, vi lean)]) (by decide) (Nat.le_of_ble_eq_true rfl) rfl (fun E ok hr => ?_)
  have hd1 := vb hd
  rw [fX3_addTrace]
  refine g_aload_n (n := 1) ok 0 dX3_addTrace_0 rfl rfl rfl ?_
  refine g_get (n := 4) (v := vi (I 1 6)) (c := 3) (k := 6) ok dX3_addTrace_1 clsX3 (by decide) q81 rfl rfl rfl ?_
  refine g_bipush (n := 6) (v := 6) ok dX3_addTrace_4 rfl rfl ?_
  refine g_icmp_lt (n := 9) (tgt := 12) ok dX3_addTrace_6 (by decide) rfl (fun c1 => ?_) (fun c1 => ?_)
  · rw [if_pos c1]
    have hz2 := ixlt (n := 6) hd c1 (by omega) (by omega)
    have h6 : ix (I 1 6) < 6 := lt_ix (n := 6) hd c1 (by omega) (by omega)
    refine g_aload_n (n := 13) ok 0 dX3_addTrace_12 rfl rfl rfl ?_
    refine g_get (n := 16) (v := vr 5) (c := 3) (k := 5) ok dX3_addTrace_13 clsX3 (by decide) q78 rfl rfl rfl ?_
    refine g_aload_n (n := 17) ok 0 dX3_addTrace_16 rfl rfl rfl ?_
    refine g_get (n := 20) (v := vi (I 1 6)) (c := 3) (k := 6) ok dX3_addTrace_17 clsX3 (by decide) q81 rfl rfl rfl ?_
    refine g_aald (n := 21) (i := ix (I 1 6)) (L := 6) ok dX3_addTrace_20 rfl rfl (vx hd) (by omega) rfl ?_
    have hT3 : Tr (6 + 2 * (ix (I 1 6))) := tr_now (n := ix (I 1 6)) (by omega)
    refine g_astore (n := 23) (lv' := [(4, vr (6 + 2 * (ix (I 1 6)))), (0, vr 1), (1, vi (nI foot)), (2, vi push), (3, vi lean)]) ok dX3_addTrace_21 (by decide) rfl rfl ?_
    refine g_aload (n := 25) ok 0 dX3_addTrace_23 rfl rfl ?_
    refine g_iload_n (n := 26) ok 2 dX3_addTrace_25 rfl rfl rfl ?_
    refine g_iload_n (n := 27) ok 3 dX3_addTrace_26 rfl rfl rfl ?_
    refine g_iload_n (n := 28) ok 4 dX3_addTrace_27 rfl rfl rfl ?_
    refine g_callVv (n := 31) (rest := []) (av := [vi (nI foot), vi push, vi lean]) (j := 6 + 2 * (ix (I 1 6))) ok (kX4_begin I (6 + 2 * (ix (I 1 6))) (nI foot) push lean hT3) knX4_begin q284 q285 q286 clsX4 hT3.1 dX3_addTrace_28 rfl rfl (Nat.le_of_ble_eq_true rfl) (by decide) (by decide) rfl ?_
    have C31_7 : ∀ (K31 : HI) (hB : ∀ i, i ≠ 6 + 2 * ix (I 1 6) → K31 i = I i) (h0 : K31 (6 + 2 * ix (I 1 6)) 0 = nI foot), G E 5 ((some (vi (((fX3_addTrace_c31 I foot K31).1))), (fX3_addTrace_c31 I foot K31).2)) K31 31 [(4, vr (6 + 2 * (ix (I 1 6)))), (0, vr 1), (1, vi (nI foot))] [] := by
      intro K31 hB h0
      rw [fX3_addTrace_c31]
      refine g_aload_n (n := 32) ok 1 dX3_addTrace_31 rfl rfl rfl ?_
      refine g_aload (n := 34) ok 0 dX3_addTrace_32 rfl rfl ?_
      refine g_aload_n (n := 35) ok 1 dX3_addTrace_34 rfl rfl rfl ?_
      refine g_get (n := 38) (v := vi (K31 1 3)) (c := 3) (k := 3) ok dX3_addTrace_35 clsX3 (by decide) q71 rfl rfl rfl ?_
      refine g_aload_n (n := 39) ok 1 dX3_addTrace_38 rfl rfl rfl ?_
      refine g_iload_n (n := 40) ok 2 dX3_addTrace_39 rfl rfl rfl ?_
      refine g_callV (n := 43) (rest := [vi (K31 1 3), vr (6 + 2 * (ix (I 1 6))), vr 1]) (av := [vi (nI foot)]) (j := 1) ok (kX3_latestOf K31 (nI foot) (by rw [hB 1 (by omega)]; exact hd)) knX3_latestOf q288 q289 q290 clsX3 rfl dX3_addTrace_40 rfl rfl (Nat.le_of_ble_eq_true rfl) (by decide) (by decide) rfl ?_
      refine g_callVv (n := 46) (rest := []) (av := [vr (6 + 2 * (ix (I 1 6))), vi (K31 1 3), vo (fX3_latestOf K31 (nI foot))]) (j := 1) ok (kX3_skate K31 (6 + 2 * (ix (I 1 6))) (K31 1 3) (fX3_latestOf K31 (nI foot)) hT3 (by rw [h0]; exact vp_in_nI (by omega) (by omega)) (latestOf_tr (by rw [hB 1 (by omega)]; exact hd))) knX3_skate q299 q300 q301 clsX3 rfl dX3_addTrace_43 rfl rfl (Nat.le_of_ble_eq_true rfl) (by decide) (by decide) rfl ?_
      refine g_aload_n (n := 47) ok 1 dX3_addTrace_46 rfl rfl rfl ?_
      refine g_dup (n := 48) ok dX3_addTrace_47 rfl rfl ?_
      refine g_get (n := 51) (v := vi ((fX3_skate K31 (6 + 2 * (ix (I 1 6))) (K31 1 3) (fX3_latestOf K31 (nI foot))) 1 6)) (c := 3) (k := 6) ok dX3_addTrace_48 clsX3 (by decide) q81 rfl rfl rfl ?_
      refine g_iconst (n := 52) (v := 1) ok dX3_addTrace_51 rfl rfl ?_
      refine g_iadd (n := 53) ok dX3_addTrace_52 rfl ?_
      refine g_put (n := 56) (J := up (fX3_skate K31 (6 + 2 * (ix (I 1 6))) (K31 1 3) (fX3_latestOf K31 (nI foot))) 1 6 (((fX3_skate K31 (6 + 2 * (ix (I 1 6))) (K31 1 3) (fX3_latestOf K31 (nI foot))) 1 6) + 1)) (c := 3) (k := 6) ok dX3_addTrace_53 clsX3 tyX3 tyX3_ok nmX3 (by decide) q81 rfl rfl (fun _ => rfl) (fun _ => rfl) (Nat.le_of_ble_eq_true rfl) (fs_3_6 _ _ _) up_ne rfl ?_
      refine g_aload_n (n := 57) ok 1 dX3_addTrace_56 rfl rfl rfl ?_
      refine g_get (n := 60) (v := vi ((up (fX3_skate K31 (6 + 2 * (ix (I 1 6))) (K31 1 3) (fX3_latestOf K31 (nI foot))) 1 6 (((fX3_skate K31 (6 + 2 * (ix (I 1 6))) (K31 1 3) (fX3_latestOf K31 (nI foot))) 1 6) + 1)) 1 6)) (c := 3) (k := 6) ok dX3_addTrace_57 clsX3 (by decide) q81 rfl rfl rfl ?_
      refine g_iconst (n := 61) (v := 1) ok dX3_addTrace_60 rfl rfl ?_
      refine g_isub (n := 62) ok dX3_addTrace_61 rfl ?_
      exact g_iret ok hr dX3_addTrace_62
    refine g_sub [0, 1, 2] rfl ?_
    exact C31_7 _ (fun i h => begin_ne h) begin_0
  · rw [if_neg c1]
    have hz8 := ixnlt (n := 6) hd c1 (by omega) (by omega)
    refine g_bipush (n := 11) (v := -6) ok dX3_addTrace_9 rfl rfl ?_
    exact g_iret ok hr dX3_addTrace_11

noncomputable def fX3_flatsOf_x4 (x4_2 : Int32) : Int32 :=
  x4_2
noncomputable def fX3_flatsOf_33 (I : HI) (j : Nat) (x4_2 : Int32) (i4 : Nat) (v7 : Int32) : Int32 :=
  if v7 = 0 then x4_2 else (if I 2 (fX5_spot (ix (I j 0)) i4) ≤ 0 then x4_2 else x4_2 ||| (1 <<< ((nI i4) &&& 31)))
noncomputable def fX3_flatsOf_b4 (I : HI) (j : Nat) (i4 : Nat) (x4_2 : Int32) : Int32 :=
  fX3_flatsOf_33 I j x4_2 i4 (if I (j + 1) i4 = I (j + 1) (fX5_hourAhead i4) then 1 else 0)
noncomputable def fX3_flatsOf (I : HI) (j : Nat) : Int32 :=
  fX3_flatsOf_x4 (fo 12 0 (fun (i : Nat) (s : Int32) => fX3_flatsOf_b4 I j i s) 0)
theorem knX3_flatsOf : Kn yX3_flatsOf cX3_flatsOf 5 (some .int) 1 := ⟨q416, q2, ⟨by decide, by decide⟩, by decide +kernel⟩
set_option maxHeartbeats 400000 in
set_option maxRecDepth 100000 in
theorem kX3_flatsOf (I : HI) (j : Nat) (hT : Tr j) (hf : vp_in (I j 0) 2) : Cx yX3_flatsOf cX3_flatsOf 5 (some .int) 1 21 [vr 1, vr j] I ((some (vi ((fX3_flatsOf I j))), I)) := by
  refine Cx.mk (lv := [(0, vr 1), (1, vr j)]) (by decide) (Nat.le_of_ble_eq_true rfl) rfl (fun E ok hr => ?_)
  have hf1 := vb hf
  rw [fX3_flatsOf]
  refine g_iconst (n := 1) (v := 0) ok dX3_flatsOf_0 rfl rfl ?_
  refine g_istore_n (n := 2) (lv' := [(2, vi 0), (0, vr 1), (1, vr j)]) ok dX3_flatsOf_1 rfl (by decide) rfl rfl ?_
  refine g_iconst (n := 3) (v := 0) ok dX3_flatsOf_2 rfl rfl ?_
  refine g_istore_n (n := 4) (lv' := [(3, vi 0), (2, vi 0), (0, vr 1), (1, vr j)]) ok dX3_flatsOf_3 rfl (by decide) rfl rfl ?_
  have X4 : ∀ (x4_2 : Int32), G E 5 ((some (vi ((fX3_flatsOf_x4 x4_2))), I)) I 68 [(2, vi x4_2)] [] := by
    intro x4_2
    rw [fX3_flatsOf_x4]
    refine g_iload_n (n := 69) ok 0 dX3_flatsOf_68 rfl rfl rfl ?_
    exact g_iret ok hr dX3_flatsOf_69
  have L4 : ∀ (n4 i4 : Nat) (x4_2 : Int32) (hi : i4 + n4 = 12), G E 5 ((some (vi ((fX3_flatsOf_x4 (fo n4 i4 (fun (i : Nat) (s : Int32) => fX3_flatsOf_b4 I j i s) x4_2)))), I)) I 4 [(3, vi (nI i4)), (2, vi x4_2), (0, vr 1), (1, vr j)] [] := by
    intro n4
    induction n4 with
    | zero =>
      intro i4 x4_2 hi
      rw [fo_0]
      refine g_iload_n (n := 5) ok 0 dX3_flatsOf_4 rfl rfl rfl ?_
      refine g_bipush (n := 7) (v := 12) ok dX3_flatsOf_5 rfl rfl ?_
      refine g_icmp_ge (n := 10) (tgt := 68) ok dX3_flatsOf_7 (by decide) rfl (fun c => ?_) (fun c => absurd (nle (a := 12) (b := i4) rfl rfl (by omega) (by omega)) c)
      refine g_sub [1] rfl ?_
      exact X4 _
    | succ n4 ih =>
      intro i4 x4_2 hi
      refine g_iload_n (n := 5) ok 0 dX3_flatsOf_4 rfl rfl rfl ?_
      refine g_bipush (n := 7) (v := 12) ok dX3_flatsOf_5 rfl rfl ?_
      refine g_icmp_ge (n := 10) (tgt := 68) ok dX3_flatsOf_7 (by decide) rfl (fun c => absurd c (nnle (a := 12) (b := i4) rfl rfl (by omega) (by omega))) (fun c => ?_)
      rw [fo_s]
      show G E 5 ((some (vi ((fX3_flatsOf_x4 (fo n4 (i4 + 1) (fun (i : Nat) (s : Int32) => fX3_flatsOf_b4 I j i s) (fX3_flatsOf_b4 I j i4 x4_2))))), I)) _ _ _ _
      rw [fX3_flatsOf_b4]
      refine g_aload_n (n := 11) ok 3 dX3_flatsOf_10 rfl rfl rfl ?_
      refine g_get (n := 14) (v := vr (j + 1)) (c := 4) (k := 3) ok dX3_flatsOf_11 clsX4 (by decide) q48 hT.1 rfl rfl ?_
      refine g_iload_n (n := 15) ok 0 dX3_flatsOf_14 rfl rfl rfl ?_
      refine g_iald (n := 16) (i := i4) (L := 12) ok dX3_flatsOf_15 hT.2.1 hT.2.2 rfl (by omega) rfl ?_
      refine g_aload_n (n := 17) ok 3 dX3_flatsOf_16 rfl rfl rfl ?_
      refine g_get (n := 20) (v := vr (j + 1)) (c := 4) (k := 3) ok dX3_flatsOf_17 clsX4 (by decide) q48 hT.1 rfl rfl ?_
      refine g_iload_n (n := 21) ok 0 dX3_flatsOf_20 rfl rfl rfl ?_
      refine g_callSN (n := 24) (rest := [vr (j + 1), vi (I (j + 1) i4)]) (av := [vi (nI i4)]) ok (kX5_hourAhead I i4 (by first | with_reducible assumption | omega)) knX5_hourAhead q319 q320 dX3_flatsOf_21 rfl rfl (Nat.le_of_ble_eq_true rfl) (by decide) (by decide) rfl ?_
      have hp1 := fX5_hourAhead_lt i4 (by omega)
      refine g_iald (n := 25) (i := (fX5_hourAhead i4)) (L := 12) ok dX3_flatsOf_24 hT.2.1 hT.2.2 rfl (by omega) rfl ?_
      have J33_8 : ∀ (v7 : Int32), G E 5 ((some (vi ((fX3_flatsOf_x4 (fo n4 (i4 + 1) (fun (i : Nat) (s : Int32) => fX3_flatsOf_b4 I j i s) (fX3_flatsOf_33 I j x4_2 i4 v7))))), I)) I 33 [(3, vi (nI i4)), (2, vi x4_2), (0, vr 1), (1, vr j)] [vi v7] := by
        intro v7
        rw [fX3_flatsOf_33]
        refine g_istore (n := 35) (lv' := [(4, vi v7), (3, vi (nI i4)), (2, vi x4_2), (0, vr 1), (1, vr j)]) ok dX3_flatsOf_33 (by decide) rfl rfl ?_
        refine g_iload (n := 37) ok 0 dX3_flatsOf_35 rfl rfl ?_
        refine g_if_eq (n := 40) (tgt := 62) ok dX3_flatsOf_37 (by decide) rfl (fun c9 => ?_) (fun c9 => ?_)
        · rw [if_pos c9]
          refine g_iinc (n := 65) (v := nI (i4 + 1)) (lv' := [(3, vi (nI (i4 + 1))), (4, vi v7), (2, vi x4_2), (0, vr 1), (1, vr j)]) ok 1 dX3_flatsOf_62 rfl (iinc_n (a := i4) rfl) (by decide) rfl rfl ?_
          refine g_goto (tgt := 4) ok dX3_flatsOf_65 (by decide) ?_
          refine g_sub [0, 2, 3, 4] rfl ?_
          exact ih (i4 + 1) x4_2 (by omega)
        · rw [if_neg c9]
          refine g_aload_n (n := 41) ok 3 dX3_flatsOf_40 rfl rfl rfl ?_
          refine g_get (n := 44) (v := vr 2) (c := 3) (k := 0) ok dX3_flatsOf_41 clsX3 (by decide) q61 rfl rfl rfl ?_
          refine g_aload_n (n := 45) ok 4 dX3_flatsOf_44 rfl rfl rfl ?_
          refine g_get (n := 48) (v := vi (I j 0)) (c := 4) (k := 0) ok dX3_flatsOf_45 clsX4 (by decide) q38 hT.1 rfl rfl ?_
          refine g_iload_n (n := 49) ok 1 dX3_flatsOf_48 rfl rfl rfl ?_
          refine g_callSN (n := 52) (rest := [vr 2]) (av := [vi (nI (ix (I j 0))), vi (nI i4)]) ok (kX5_spot I (ix (I j 0)) i4) knX5_spot q303 q278 dX3_flatsOf_49 (lcons rfl (lcons (congrArg vi (vx hf)) rfl)) rfl (Nat.le_of_ble_eq_true rfl) (by decide) (by decide) rfl ?_
          have hp10 : fX5_spot (ix (I j 0)) i4 = (ix (I j 0)) * 12 + i4 := rfl
          refine g_iald (n := 53) (i := (fX5_spot (ix (I j 0)) i4)) (L := 24) ok dX3_flatsOf_52 rfl rfl rfl (by omega) rfl ?_
          refine g_if_le (n := 56) (tgt := 62) ok dX3_flatsOf_53 (by decide) rfl (fun c11 => ?_) (fun c11 => ?_)
          · rw [if_pos c11]
            refine g_iinc (n := 65) (v := nI (i4 + 1)) (lv' := [(3, vi (nI (i4 + 1))), (4, vi v7), (2, vi x4_2), (0, vr 1), (1, vr j)]) ok 1 dX3_flatsOf_62 rfl (iinc_n (a := i4) rfl) (by decide) rfl rfl ?_
            refine g_goto (tgt := 4) ok dX3_flatsOf_65 (by decide) ?_
            refine g_sub [0, 2, 3, 4] rfl ?_
            exact ih (i4 + 1) x4_2 (by omega)
          · rw [if_neg c11]
            refine g_iload_n (n := 57) ok 2 dX3_flatsOf_56 rfl rfl rfl ?_
            refine g_iconst (n := 58) (v := 1) ok dX3_flatsOf_57 rfl rfl ?_
            refine g_iload_n (n := 59) ok 1 dX3_flatsOf_58 rfl rfl rfl ?_
            refine g_ishl (n := 60) ok dX3_flatsOf_59 rfl ?_
            refine g_ior (n := 61) ok dX3_flatsOf_60 rfl ?_
            refine g_istore_n (n := 62) (lv' := [(2, vi (x4_2 ||| (1 <<< ((nI i4) &&& 31)))), (4, vi v7), (3, vi (nI i4)), (0, vr 1), (1, vr j)]) ok dX3_flatsOf_61 rfl (by decide) rfl rfl ?_
            refine g_iinc (n := 65) (v := nI (i4 + 1)) (lv' := [(3, vi (nI (i4 + 1))), (2, vi (x4_2 ||| (1 <<< ((nI i4) &&& 31)))), (4, vi v7), (0, vr 1), (1, vr j)]) ok 2 dX3_flatsOf_62 rfl (iinc_n (a := i4) rfl) (by decide) rfl rfl ?_
            refine g_goto (tgt := 4) ok dX3_flatsOf_65 (by decide) ?_
            refine g_sub [0, 1, 3, 4] rfl ?_
            exact ih (i4 + 1) (x4_2 ||| (1 <<< ((nI i4) &&& 31))) (by omega)
      refine g_icmp_ne (n := 28) (tgt := 32) ok dX3_flatsOf_25 (by decide) rfl (fun c2 => ?_) (fun c2 => ?_)
      · try simp only [if_neg c2]
        refine g_iconst (n := 33) (v := 0) ok dX3_flatsOf_32 rfl rfl ?_
        exact J33_8 _
      · try simp only [if_pos c2]
        refine g_iconst (n := 29) (v := 1) ok dX3_flatsOf_28 rfl rfl ?_
        refine g_goto (tgt := 33) ok dX3_flatsOf_29 (by decide) ?_
        exact J33_8 _
  exact L4 12 0 0 (by omega)

noncomputable def fX3_offOf (I : HI) (j : Nat) : Int32 :=
  fX4_offBy I j (I 4 0)
theorem knX3_offOf : Kn yX3_offOf cX3_offOf 2 (some .int) 1 := ⟨q395, q2, ⟨by decide, by decide⟩, by decide +kernel⟩
set_option maxHeartbeats 400000 in
set_option maxRecDepth 100000 in
theorem kX3_offOf (I : HI) (j : Nat) (hT : Tr j) : Cx yX3_offOf cX3_offOf 2 (some .int) 2 44 [vr 1, vr j] I ((some (vi ((fX3_offOf I j))), I)) := by
  refine Cx.mk (lv := [(0, vr 1), (1, vr j)]) (by decide) (Nat.le_of_ble_eq_true rfl) rfl (fun E ok hr => ?_)
  rw [fX3_offOf]
  refine g_aload_n (n := 1) ok 1 dX3_offOf_0 rfl rfl rfl ?_
  refine g_aload_n (n := 2) ok 0 dX3_offOf_1 rfl rfl rfl ?_
  refine g_get (n := 5) (v := vr 4) (c := 3) (k := 2) ok dX3_offOf_2 clsX3 (by decide) q67 rfl rfl rfl ?_
  refine g_iconst (n := 6) (v := 0) ok dX3_offOf_5 rfl rfl ?_
  refine g_iald (n := 7) (i := 0) (L := 5) ok dX3_offOf_6 rfl rfl rfl (by omega) rfl ?_
  refine g_callV (n := 10) (rest := []) (av := [vi (I 4 0)]) (j := j) ok (kX4_offBy I j (I 4 0) hT) knX4_offBy q396 q397 q398 clsX4 hT.1 dX3_offOf_7 rfl rfl (Nat.le_of_ble_eq_true rfl) (by decide) (by decide) rfl ?_
  exact g_iret ok hr dX3_offOf_10

noncomputable def fX3_wobblersAt_x5 (x5_3 : Int32) : Int32 :=
  x5_3
noncomputable def fX3_wobblersAt_b5 (I : HI) (foot : Int32) (h : Nat) (i5 : Nat) (x5_3 : Int32) : Int32 :=
  if I (6 + 2 * i5) 0 = foot then (if fX4_bendAt I (6 + 2 * i5) h < 4 then x5_3 else x5_3 + 1) else x5_3
noncomputable def fX3_wobblersAt (I : HI) (foot : Int32) (h : Nat) : Int32 :=
  fX3_wobblersAt_x5 (fo (ix (I 1 6)) 0 (fun (i : Nat) (s : Int32) => fX3_wobblersAt_b5 I foot h i s) 0)
theorem knX3_wobblersAt : Kn yX3_wobblersAt cX3_wobblersAt 5 (some .int) 2 := ⟨q520, q2, ⟨by decide, by decide⟩, by decide +kernel⟩
set_option maxHeartbeats 400000 in
set_option maxRecDepth 100000 in
theorem kX3_wobblersAt (I : HI) (foot : Int32) (h : Nat) (hd : vp_in (I 1 6) 7) (hh : h < 12) : Cx yX3_wobblersAt cX3_wobblersAt 5 (some .int) 2 42 [vr 1, vi foot, vi (nI h)] I ((some (vi ((fX3_wobblersAt I foot h))), I)) := by
  refine Cx.mk (lv := [(0, vr 1), (1, vi foot), (2, vi (nI h))]) (by decide) (Nat.le_of_ble_eq_true rfl) rfl (fun E ok hr => ?_)
  have hd1 := vb hd
  rw [fX3_wobblersAt]
  refine g_iconst (n := 1) (v := 0) ok dX3_wobblersAt_0 rfl rfl ?_
  refine g_istore_n (n := 2) (lv' := [(3, vi 0), (0, vr 1), (1, vi foot), (2, vi (nI h))]) ok dX3_wobblersAt_1 rfl (by decide) rfl rfl ?_
  refine g_iconst (n := 3) (v := 0) ok dX3_wobblersAt_2 rfl rfl ?_
  refine g_istore (n := 5) (lv' := [(4, vi 0), (3, vi 0), (0, vr 1), (1, vi foot), (2, vi (nI h))]) ok dX3_wobblersAt_3 (by decide) rfl rfl ?_
  have X5 : ∀ (x5_3 : Int32), G E 5 ((some (vi ((fX3_wobblersAt_x5 x5_3))), I)) I 52 [(3, vi x5_3)] [] := by
    intro x5_3
    rw [fX3_wobblersAt_x5]
    refine g_iload_n (n := 53) ok 0 dX3_wobblersAt_52 rfl rfl rfl ?_
    exact g_iret ok hr dX3_wobblersAt_53
  have L5 : ∀ (n5 i5 : Nat) (x5_3 : Int32) (hi : i5 + n5 = ix (I 1 6)), G E 5 ((some (vi ((fX3_wobblersAt_x5 (fo n5 i5 (fun (i : Nat) (s : Int32) => fX3_wobblersAt_b5 I foot h i s) x5_3)))), I)) I 5 [(4, vi (nI i5)), (3, vi x5_3), (0, vr 1), (1, vi foot), (2, vi (nI h))] [] := by
    intro n5
    induction n5 with
    | zero =>
      intro i5 x5_3 hi
      rw [fo_0]
      refine g_iload (n := 7) ok 0 dX3_wobblersAt_5 rfl rfl ?_
      refine g_aload_n (n := 8) ok 2 dX3_wobblersAt_7 rfl rfl rfl ?_
      refine g_get (n := 11) (v := vi (I 1 6)) (c := 3) (k := 6) ok dX3_wobblersAt_8 clsX3 (by decide) q81 rfl rfl rfl ?_
      refine g_icmp_ge (n := 14) (tgt := 52) ok dX3_wobblersAt_11 (by decide) rfl (fun c => ?_) (fun c => absurd (nle (a := ix (I 1 6)) (b := i5) (vx hd) rfl (by omega) (by omega)) c)
      refine g_sub [1] rfl ?_
      exact X5 _
    | succ n5 ih =>
      intro i5 x5_3 hi
      refine g_iload (n := 7) ok 0 dX3_wobblersAt_5 rfl rfl ?_
      refine g_aload_n (n := 8) ok 2 dX3_wobblersAt_7 rfl rfl rfl ?_
      refine g_get (n := 11) (v := vi (I 1 6)) (c := 3) (k := 6) ok dX3_wobblersAt_8 clsX3 (by decide) q81 rfl rfl rfl ?_
      refine g_icmp_ge (n := 14) (tgt := 52) ok dX3_wobblersAt_11 (by decide) rfl (fun c => absurd c (nnle (a := ix (I 1 6)) (b := i5) (vx hd) rfl (by omega) (by omega))) (fun c => ?_)
      rw [fo_s]
      show G E 5 ((some (vi ((fX3_wobblersAt_x5 (fo n5 (i5 + 1) (fun (i : Nat) (s : Int32) => fX3_wobblersAt_b5 I foot h i s) (fX3_wobblersAt_b5 I foot h i5 x5_3))))), I)) _ _ _ _
      rw [fX3_wobblersAt_b5]
      refine g_aload_n (n := 15) ok 2 dX3_wobblersAt_14 rfl rfl rfl ?_
      refine g_get (n := 18) (v := vr 5) (c := 3) (k := 5) ok dX3_wobblersAt_15 clsX3 (by decide) q78 rfl rfl rfl ?_
      refine g_iload (n := 20) ok 0 dX3_wobblersAt_18 rfl rfl ?_
      refine g_aald (n := 21) (i := i5) (L := 6) ok dX3_wobblersAt_20 rfl rfl rfl (by omega) rfl ?_
      have hT1 : Tr (6 + 2 * i5) := tr_now (n := i5) (by omega)
      refine g_get (n := 24) (v := vi (I (6 + 2 * i5) 0)) (c := 4) (k := 0) ok dX3_wobblersAt_21 clsX4 (by decide) q38 hT1.1 rfl rfl ?_
      refine g_iload_n (n := 25) ok 3 dX3_wobblersAt_24 rfl rfl rfl ?_
      refine g_icmp_ne (n := 28) (tgt := 46) ok dX3_wobblersAt_25 (by decide) rfl (fun c2 => ?_) (fun c2 => ?_)
      · rw [if_neg c2]
        refine g_iinc (n := 49) (v := nI (i5 + 1)) (lv' := [(4, vi (nI (i5 + 1))), (3, vi x5_3), (0, vr 1), (1, vi foot), (2, vi (nI h))]) ok 0 dX3_wobblersAt_46 rfl (iinc_n (a := i5) rfl) (by decide) rfl rfl ?_
        refine g_goto (tgt := 5) ok dX3_wobblersAt_49 (by decide) ?_
        exact ih (i5 + 1) x5_3 (by omega)
      · rw [if_pos c2]
        refine g_aload_n (n := 29) ok 2 dX3_wobblersAt_28 rfl rfl rfl ?_
        refine g_get (n := 32) (v := vr 5) (c := 3) (k := 5) ok dX3_wobblersAt_29 clsX3 (by decide) q78 rfl rfl rfl ?_
        refine g_iload (n := 34) ok 0 dX3_wobblersAt_32 rfl rfl ?_
        refine g_aald (n := 35) (i := i5) (L := 6) ok dX3_wobblersAt_34 rfl rfl rfl (by omega) rfl ?_
        have hT3 : Tr (6 + 2 * i5) := tr_now (n := i5) (by omega)
        refine g_iload_n (n := 36) ok 4 dX3_wobblersAt_35 rfl rfl rfl ?_
        refine g_callV (n := 39) (rest := []) (av := [vi (nI h)]) (j := 6 + 2 * i5) ok (kX4_bendAt I (6 + 2 * i5) h hT3 (by first | with_reducible assumption | omega)) knX4_bendAt q521 q405 q406 clsX4 hT3.1 dX3_wobblersAt_36 rfl rfl (Nat.le_of_ble_eq_true rfl) (by decide) (by decide) rfl ?_
        refine g_iconst (n := 40) (v := 4) ok dX3_wobblersAt_39 rfl rfl ?_
        refine g_icmp_lt (n := 43) (tgt := 46) ok dX3_wobblersAt_40 (by decide) rfl (fun c4 => ?_) (fun c4 => ?_)
        · rw [if_pos c4]
          refine g_iinc (n := 49) (v := nI (i5 + 1)) (lv' := [(4, vi (nI (i5 + 1))), (3, vi x5_3), (0, vr 1), (1, vi foot), (2, vi (nI h))]) ok 0 dX3_wobblersAt_46 rfl (iinc_n (a := i5) rfl) (by decide) rfl rfl ?_
          refine g_goto (tgt := 5) ok dX3_wobblersAt_49 (by decide) ?_
          exact ih (i5 + 1) x5_3 (by omega)
        · rw [if_neg c4]
          refine g_iinc (n := 46) (v := x5_3 + 1) (lv' := [(3, vi (x5_3 + 1)), (4, vi (nI i5)), (0, vr 1), (1, vi foot), (2, vi (nI h))]) ok 1 dX3_wobblersAt_43 rfl rfl (by decide) rfl rfl ?_
          refine g_iinc (n := 49) (v := nI (i5 + 1)) (lv' := [(4, vi (nI (i5 + 1))), (3, vi (x5_3 + 1)), (0, vr 1), (1, vi foot), (2, vi (nI h))]) ok 1 dX3_wobblersAt_46 rfl (iinc_n (a := i5) rfl) (by decide) rfl rfl ?_
          refine g_goto (tgt := 5) ok dX3_wobblersAt_49 (by decide) ?_
          exact ih (i5 + 1) (x5_3 + 1) (by omega)
  exact L5 (ix (I 1 6)) 0 0 (by omega)

noncomputable def fX3_shareOf_104 (v8 : Int32) (v11 : Int32) : Int32 :=
  v8 + v11
noncomputable def fX3_shareOf_89 (I : HI) (h : Nat) (v8 : Int32) : Int32 :=
  fX3_shareOf_104 v8 (if I 3 (fX5_spot 1 h) ≤ 0 then 0 else 2)
noncomputable def fX3_shareOf (I : HI) (what : Int32) (h : Nat) : Int32 :=
  if what = 0 then (if fX3_wobblersAt I 0 h ≤ 0 then 0 else (if fX3_wobblersAt I 1 h ≤ 0 then 0 else (fX3_wobblersAt I 0 h) + (fX3_wobblersAt I 1 h))) else (if what = 1 then 3 * ((I 2 (fX5_spot 0 h)) + (I 2 (fX5_spot 1 h))) else fX3_shareOf_89 I h (if I 3 (fX5_spot 0 h) ≤ 0 then 0 else 2))
theorem knX3_shareOf : Kn yX3_shareOf cX3_shareOf 7 (some .int) 2 := ⟨q516, q2, ⟨by decide, by decide⟩, by decide +kernel⟩
set_option maxHeartbeats 400000 in
set_option maxRecDepth 100000 in
theorem kX3_shareOf (I : HI) (what : Int32) (h : Nat) (hd : vp_in (I 1 6) 7) (hh : h < 12) : Cx yX3_shareOf cX3_shareOf 7 (some .int) 3 66 [vr 1, vi what, vi (nI h)] I ((some (vi ((fX3_shareOf I what h))), I)) := by
  refine Cx.mk (lv := [(0, vr 1), (1, vi what), (2, vi (nI h))]) (by decide) (Nat.le_of_ble_eq_true rfl) rfl (fun E ok hr => ?_)
  have hd1 := vb hd
  rw [fX3_shareOf]
  refine g_iconst (n := 1) (v := 0) ok dX3_shareOf_0 rfl rfl ?_
  refine g_iload_n (n := 2) ok 2 dX3_shareOf_1 rfl rfl rfl ?_
  refine g_callSN (n := 5) (rest := []) (av := [vi (nI 0), vi (nI h)]) ok (kX5_spot I 0 h) knX5_spot q303 q278 dX3_shareOf_2 rfl rfl (Nat.le_of_ble_eq_true rfl) (by decide) (by decide) rfl ?_
  have hp1 : fX5_spot 0 h = 0 * 12 + h := rfl
  refine g_istore_n (n := 6) (lv' := [(3, vi (nI (fX5_spot 0 h))), (0, vr 1), (1, vi what), (2, vi (nI h))]) ok dX3_shareOf_5 rfl (by decide) rfl rfl ?_
  refine g_iconst (n := 7) (v := 1) ok dX3_shareOf_6 rfl rfl ?_
  refine g_iload_n (n := 8) ok 3 dX3_shareOf_7 rfl rfl rfl ?_
  refine g_callSN (n := 11) (rest := []) (av := [vi (nI 1), vi (nI h)]) ok (kX5_spot I 1 h) knX5_spot q303 q278 dX3_shareOf_8 rfl rfl (Nat.le_of_ble_eq_true rfl) (by decide) (by decide) rfl ?_
  have hp2 : fX5_spot 1 h = 1 * 12 + h := rfl
  refine g_istore (n := 13) (lv' := [(4, vi (nI (fX5_spot 1 h))), (3, vi (nI (fX5_spot 0 h))), (0, vr 1), (1, vi what), (2, vi (nI h))]) ok dX3_shareOf_11 (by decide) rfl rfl ?_
  refine g_iload_n (n := 14) ok 3 dX3_shareOf_13 rfl rfl rfl ?_
  refine g_if_ne (n := 17) (tgt := 53) ok dX3_shareOf_14 (by decide) rfl (fun c3 => ?_) (fun c3 => ?_)
  · rw [if_neg c3]
    refine g_iload_n (n := 54) ok 3 dX3_shareOf_53 rfl rfl rfl ?_
    refine g_iconst (n := 55) (v := 1) ok dX3_shareOf_54 rfl rfl ?_
    refine g_icmp_ne (n := 58) (tgt := 75) ok dX3_shareOf_55 (by decide) rfl (fun c4 => ?_) (fun c4 => ?_)
    · rw [if_neg c4]
      refine g_aload_n (n := 76) ok 2 dX3_shareOf_75 rfl rfl rfl ?_
      refine g_get (n := 79) (v := vr 3) (c := 3) (k := 1) ok dX3_shareOf_76 clsX3 (by decide) q64 rfl rfl rfl ?_
      refine g_iload_n (n := 80) ok 1 dX3_shareOf_79 rfl rfl rfl ?_
      refine g_iald (n := 81) (i := (fX5_spot 0 h)) (L := 24) ok dX3_shareOf_80 rfl rfl rfl (by omega) rfl ?_
      have J89_9 : ∀ (v8 : Int32), G E 7 ((some (vi ((fX3_shareOf_89 I h v8))), I)) I 89 [(4, vi (nI (fX5_spot 1 h))), (0, vr 1)] [vi v8] := by
        intro v8
        rw [fX3_shareOf_89]
        refine g_aload_n (n := 90) ok 1 dX3_shareOf_89 rfl rfl rfl ?_
        refine g_get (n := 93) (v := vr 3) (c := 3) (k := 1) ok dX3_shareOf_90 clsX3 (by decide) q64 rfl rfl rfl ?_
        refine g_iload (n := 95) ok 0 dX3_shareOf_93 rfl rfl ?_
        refine g_iald (n := 96) (i := (fX5_spot 1 h)) (L := 24) ok dX3_shareOf_95 rfl rfl rfl (by omega) rfl ?_
        have J104_13 : ∀ (v11 : Int32), G E 7 ((some (vi ((fX3_shareOf_104 v8 v11))), I)) I 104 [] [vi v11, vi v8] := by
          intro v11
          rw [fX3_shareOf_104]
          refine g_iadd (n := 105) ok dX3_shareOf_104 rfl ?_
          exact g_iret ok hr dX3_shareOf_105
        refine g_if_le (n := 99) (tgt := 103) ok dX3_shareOf_96 (by decide) rfl (fun c10 => ?_) (fun c10 => ?_)
        · try simp only [if_pos c10]
          refine g_iconst (n := 104) (v := 0) ok dX3_shareOf_103 rfl rfl ?_
          refine g_sub [] rfl ?_
          exact J104_13 _
        · try simp only [if_neg c10]
          refine g_iconst (n := 100) (v := 2) ok dX3_shareOf_99 rfl rfl ?_
          refine g_goto (tgt := 104) ok dX3_shareOf_100 (by decide) ?_
          refine g_sub [] rfl ?_
          exact J104_13 _
      refine g_if_le (n := 84) (tgt := 88) ok dX3_shareOf_81 (by decide) rfl (fun c5 => ?_) (fun c5 => ?_)
      · try simp only [if_pos c5]
        refine g_iconst (n := 89) (v := 0) ok dX3_shareOf_88 rfl rfl ?_
        refine g_sub [0, 2] rfl ?_
        exact J89_9 _
      · try simp only [if_neg c5]
        refine g_iconst (n := 85) (v := 2) ok dX3_shareOf_84 rfl rfl ?_
        refine g_goto (tgt := 89) ok dX3_shareOf_85 (by decide) ?_
        refine g_sub [0, 2] rfl ?_
        exact J89_9 _
    · rw [if_pos c4]
      refine g_iconst (n := 59) (v := 3) ok dX3_shareOf_58 rfl rfl ?_
      refine g_aload_n (n := 60) ok 2 dX3_shareOf_59 rfl rfl rfl ?_
      refine g_get (n := 63) (v := vr 2) (c := 3) (k := 0) ok dX3_shareOf_60 clsX3 (by decide) q61 rfl rfl rfl ?_
      refine g_iload_n (n := 64) ok 1 dX3_shareOf_63 rfl rfl rfl ?_
      refine g_iald (n := 65) (i := (fX5_spot 0 h)) (L := 24) ok dX3_shareOf_64 rfl rfl rfl (by omega) rfl ?_
      refine g_aload_n (n := 66) ok 2 dX3_shareOf_65 rfl rfl rfl ?_
      refine g_get (n := 69) (v := vr 2) (c := 3) (k := 0) ok dX3_shareOf_66 clsX3 (by decide) q61 rfl rfl rfl ?_
      refine g_iload (n := 71) ok 0 dX3_shareOf_69 rfl rfl ?_
      refine g_iald (n := 72) (i := (fX5_spot 1 h)) (L := 24) ok dX3_shareOf_71 rfl rfl rfl (by omega) rfl ?_
      refine g_iadd (n := 73) ok dX3_shareOf_72 rfl ?_
      refine g_imul (n := 74) ok dX3_shareOf_73 rfl ?_
      exact g_iret ok hr dX3_shareOf_74
  · rw [if_pos c3]
    refine g_aload_n (n := 18) ok 2 dX3_shareOf_17 rfl rfl rfl ?_
    refine g_iconst (n := 19) (v := 0) ok dX3_shareOf_18 rfl rfl ?_
    refine g_iload_n (n := 20) ok 4 dX3_shareOf_19 rfl rfl rfl ?_
    refine g_callV (n := 23) (rest := []) (av := [vi 0, vi (nI h)]) (j := 1) ok (kX3_wobblersAt I 0 h (by first | with_reducible assumption | omega) (by first | with_reducible assumption | omega)) knX3_wobblersAt q517 q518 q519 clsX3 rfl dX3_shareOf_20 rfl rfl (Nat.le_of_ble_eq_true rfl) (by decide) (by decide) rfl ?_
    refine g_istore (n := 25) (lv' := [(5, vi (fX3_wobblersAt I 0 h)), (4, vi (nI (fX5_spot 1 h))), (3, vi (nI (fX5_spot 0 h))), (0, vr 1), (1, vi what), (2, vi (nI h))]) ok dX3_shareOf_23 (by decide) rfl rfl ?_
    refine g_aload_n (n := 26) ok 3 dX3_shareOf_25 rfl rfl rfl ?_
    refine g_iconst (n := 27) (v := 1) ok dX3_shareOf_26 rfl rfl ?_
    refine g_iload_n (n := 28) ok 5 dX3_shareOf_27 rfl rfl rfl ?_
    refine g_callV (n := 31) (rest := []) (av := [vi 1, vi (nI h)]) (j := 1) ok (kX3_wobblersAt I 1 h (by first | with_reducible assumption | omega) (by first | with_reducible assumption | omega)) knX3_wobblersAt q517 q518 q519 clsX3 rfl dX3_shareOf_28 rfl rfl (Nat.le_of_ble_eq_true rfl) (by decide) (by decide) rfl ?_
    refine g_istore (n := 33) (lv' := [(6, vi (fX3_wobblersAt I 1 h)), (5, vi (fX3_wobblersAt I 0 h)), (4, vi (nI (fX5_spot 1 h))), (3, vi (nI (fX5_spot 0 h))), (0, vr 1), (1, vi what), (2, vi (nI h))]) ok dX3_shareOf_31 (by decide) rfl rfl ?_
    refine g_iload (n := 35) ok 1 dX3_shareOf_33 rfl rfl ?_
    refine g_if_le (n := 38) (tgt := 51) ok dX3_shareOf_35 (by decide) rfl (fun c14 => ?_) (fun c14 => ?_)
    · rw [if_pos c14]
      refine g_iconst (n := 52) (v := 0) ok dX3_shareOf_51 rfl rfl ?_
      exact g_iret ok hr dX3_shareOf_52
    · rw [if_neg c14]
      refine g_iload (n := 40) ok 0 dX3_shareOf_38 rfl rfl ?_
      refine g_if_le (n := 43) (tgt := 51) ok dX3_shareOf_40 (by decide) rfl (fun c15 => ?_) (fun c15 => ?_)
      · rw [if_pos c15]
        refine g_iconst (n := 52) (v := 0) ok dX3_shareOf_51 rfl rfl ?_
        exact g_iret ok hr dX3_shareOf_52
      · rw [if_neg c15]
        refine g_iload (n := 45) ok 1 dX3_shareOf_43 rfl rfl ?_
        refine g_iload (n := 47) ok 0 dX3_shareOf_45 rfl rfl ?_
        refine g_iadd (n := 48) ok dX3_shareOf_47 rfl ?_
        refine g_goto (tgt := 52) ok dX3_shareOf_48 (by decide) ?_
        exact g_iret ok hr dX3_shareOf_52

noncomputable def fX3_spreadAt_x11 (x11_4 : Int32) (x11_3 : Int32) : Int32 :=
  if x11_4 = (-9) then (-9) else x11_4 - x11_3
noncomputable def fX3_spreadAt_b11 (I : HI) (foot : Int32) (h : Nat) (i11 : Nat) (x11_4 : Int32) (x11_3 : Int32) : Int32 × Int32 :=
  if I (6 + 2 * i11) 0 = foot then (iMax x11_4 (I (6 + 2 * i11 + 1) h), iMin x11_3 (I (6 + 2 * i11 + 1) h)) else (x11_4, x11_3)
noncomputable def fX3_spreadAt (I : HI) (foot : Int32) (h : Nat) : Int32 :=
  (fun (s : Int32 × Int32) => fX3_spreadAt_x11 s.1 s.2) (fo (ix (I 1 6)) 0 (fun (i : Nat) (s : Int32 × Int32) => fX3_spreadAt_b11 I foot h i s.1 s.2) ((-9), 999))
theorem knX3_spreadAt : Kn yX3_spreadAt cX3_spreadAt 6 (some .int) 2 := ⟨q455, q2, ⟨by decide, by decide⟩, by decide +kernel⟩
set_option maxHeartbeats 400000 in
set_option maxRecDepth 100000 in
theorem kX3_spreadAt (I : HI) (foot : Int32) (h : Nat) (hd : vp_in (I 1 6) 7) (hh : h < 12) : Cx yX3_spreadAt cX3_spreadAt 6 (some .int) 1 21 [vr 1, vi foot, vi (nI h)] I ((some (vi ((fX3_spreadAt I foot h))), I)) := by
  refine Cx.mk (lv := [(0, vr 1), (1, vi foot), (2, vi (nI h))]) (by decide) (Nat.le_of_ble_eq_true rfl) rfl (fun E ok hr => ?_)
  have hd1 := vb hd
  rw [fX3_spreadAt]
  refine g_sipush (n := 3) (v := 999) ok dX3_spreadAt_0 rfl rfl ?_
  refine g_istore_n (n := 4) (lv' := [(3, vi 999), (0, vr 1), (1, vi foot), (2, vi (nI h))]) ok dX3_spreadAt_3 rfl (by decide) rfl rfl ?_
  refine g_bipush (n := 6) (v := -9) ok dX3_spreadAt_4 rfl rfl ?_
  refine g_istore (n := 8) (lv' := [(4, vi (-9)), (3, vi 999), (0, vr 1), (1, vi foot), (2, vi (nI h))]) ok dX3_spreadAt_6 (by decide) rfl rfl ?_
  refine g_iconst (n := 9) (v := 0) ok dX3_spreadAt_8 rfl rfl ?_
  refine g_istore (n := 11) (lv' := [(5, vi 0), (4, vi (-9)), (3, vi 999), (0, vr 1), (1, vi foot), (2, vi (nI h))]) ok dX3_spreadAt_9 (by decide) rfl rfl ?_
  have X11 : ∀ (x11_4 : Int32) (x11_3 : Int32), G E 6 ((some (vi ((fX3_spreadAt_x11 x11_4 x11_3))), I)) I 76 [(4, vi x11_4), (3, vi x11_3)] [] := by
    intro x11_4 x11_3
    rw [fX3_spreadAt_x11]
    refine g_iload (n := 78) ok 0 dX3_spreadAt_76 rfl rfl ?_
    refine g_bipush (n := 80) (v := -9) ok dX3_spreadAt_78 rfl rfl ?_
    refine g_icmp_ne (n := 83) (tgt := 88) ok dX3_spreadAt_80 (by decide) rfl (fun c1 => ?_) (fun c1 => ?_)
    · rw [if_neg c1]
      refine g_iload (n := 90) ok 0 dX3_spreadAt_88 rfl rfl ?_
      refine g_iload_n (n := 91) ok 1 dX3_spreadAt_90 rfl rfl rfl ?_
      refine g_isub (n := 92) ok dX3_spreadAt_91 rfl ?_
      exact g_iret ok hr dX3_spreadAt_92
    · rw [if_pos c1]
      refine g_bipush (n := 85) (v := -9) ok dX3_spreadAt_83 rfl rfl ?_
      refine g_goto (tgt := 92) ok dX3_spreadAt_85 (by decide) ?_
      exact g_iret ok hr dX3_spreadAt_92
  have L11 : ∀ (n11 i11 : Nat) (x11_4 : Int32) (x11_3 : Int32) (hi : i11 + n11 = ix (I 1 6)), G E 6 ((some (vi (((fun (s : Int32 × Int32) => fX3_spreadAt_x11 s.1 s.2) (fo n11 i11 (fun (i : Nat) (s : Int32 × Int32) => fX3_spreadAt_b11 I foot h i s.1 s.2) (x11_4, x11_3))))), I)) I 11 [(5, vi (nI i11)), (4, vi x11_4), (3, vi x11_3), (0, vr 1), (1, vi foot), (2, vi (nI h))] [] := by
    intro n11
    induction n11 with
    | zero =>
      intro i11 x11_4 x11_3 hi
      rw [fo_0]
      refine g_iload (n := 13) ok 0 dX3_spreadAt_11 rfl rfl ?_
      refine g_aload_n (n := 14) ok 3 dX3_spreadAt_13 rfl rfl rfl ?_
      refine g_get (n := 17) (v := vi (I 1 6)) (c := 3) (k := 6) ok dX3_spreadAt_14 clsX3 (by decide) q81 rfl rfl rfl ?_
      refine g_icmp_ge (n := 20) (tgt := 76) ok dX3_spreadAt_17 (by decide) rfl (fun c => ?_) (fun c => absurd (nle (a := ix (I 1 6)) (b := i11) (vx hd) rfl (by omega) (by omega)) c)
      refine g_sub [1, 2] rfl ?_
      exact X11 _ _
    | succ n11 ih =>
      intro i11 x11_4 x11_3 hi
      refine g_iload (n := 13) ok 0 dX3_spreadAt_11 rfl rfl ?_
      refine g_aload_n (n := 14) ok 3 dX3_spreadAt_13 rfl rfl rfl ?_
      refine g_get (n := 17) (v := vi (I 1 6)) (c := 3) (k := 6) ok dX3_spreadAt_14 clsX3 (by decide) q81 rfl rfl rfl ?_
      refine g_icmp_ge (n := 20) (tgt := 76) ok dX3_spreadAt_17 (by decide) rfl (fun c => absurd c (nnle (a := ix (I 1 6)) (b := i11) (vx hd) rfl (by omega) (by omega))) (fun c => ?_)
      rw [fo_s]
      show G E 6 ((some (vi (((fun (s : Int32 × Int32) => fX3_spreadAt_x11 s.1 s.2) (fo n11 (i11 + 1) (fun (i : Nat) (s : Int32 × Int32) => fX3_spreadAt_b11 I foot h i s.1 s.2) (fX3_spreadAt_b11 I foot h i11 x11_4 x11_3))))), I)) _ _ _ _
      rw [fX3_spreadAt_b11]
      refine g_aload_n (n := 21) ok 3 dX3_spreadAt_20 rfl rfl rfl ?_
      refine g_get (n := 24) (v := vr 5) (c := 3) (k := 5) ok dX3_spreadAt_21 clsX3 (by decide) q78 rfl rfl rfl ?_
      refine g_iload (n := 26) ok 0 dX3_spreadAt_24 rfl rfl ?_
      refine g_aald (n := 27) (i := i11) (L := 6) ok dX3_spreadAt_26 rfl rfl rfl (by omega) rfl ?_
      have hT2 : Tr (6 + 2 * i11) := tr_now (n := i11) (by omega)
      refine g_get (n := 30) (v := vi (I (6 + 2 * i11) 0)) (c := 4) (k := 0) ok dX3_spreadAt_27 clsX4 (by decide) q38 hT2.1 rfl rfl ?_
      refine g_iload_n (n := 31) ok 4 dX3_spreadAt_30 rfl rfl rfl ?_
      refine g_icmp_ne (n := 34) (tgt := 70) ok dX3_spreadAt_31 (by decide) rfl (fun c3 => ?_) (fun c3 => ?_)
      · rw [if_neg c3]
        refine g_iinc (n := 73) (v := nI (i11 + 1)) (lv' := [(5, vi (nI (i11 + 1))), (4, vi x11_4), (3, vi x11_3), (0, vr 1), (1, vi foot), (2, vi (nI h))]) ok 0 dX3_spreadAt_70 rfl (iinc_n (a := i11) rfl) (by decide) rfl rfl ?_
        refine g_goto (tgt := 11) ok dX3_spreadAt_73 (by decide) ?_
        exact ih (i11 + 1) x11_4 x11_3 (by omega)
      · rw [if_pos c3]
        refine g_iload_n (n := 35) ok 2 dX3_spreadAt_34 rfl rfl rfl ?_
        refine g_aload_n (n := 36) ok 3 dX3_spreadAt_35 rfl rfl rfl ?_
        refine g_get (n := 39) (v := vr 5) (c := 3) (k := 5) ok dX3_spreadAt_36 clsX3 (by decide) q78 rfl rfl rfl ?_
        refine g_iload (n := 41) ok 0 dX3_spreadAt_39 rfl rfl ?_
        refine g_aald (n := 42) (i := i11) (L := 6) ok dX3_spreadAt_41 rfl rfl rfl (by omega) rfl ?_
        have hT4 : Tr (6 + 2 * i11) := tr_now (n := i11) (by omega)
        refine g_get (n := 45) (v := vr (6 + 2 * i11 + 1)) (c := 4) (k := 3) ok dX3_spreadAt_42 clsX4 (by decide) q48 hT4.1 rfl rfl ?_
        refine g_iload_n (n := 46) ok 5 dX3_spreadAt_45 rfl rfl rfl ?_
        refine g_iald (n := 47) (i := h) (L := 12) ok dX3_spreadAt_46 hT4.2.1 hT4.2.2 rfl (by omega) rfl ?_
        refine g_mmin (n := 50) (rest := []) ok dX3_spreadAt_47 q296 q297 q298 (Nat.le_of_ble_eq_true rfl) (by decide) (by decide) rfl ?_
        refine g_istore_n (n := 51) (lv' := [(3, vi (iMin x11_3 (I (6 + 2 * i11 + 1) h))), (5, vi (nI i11)), (4, vi x11_4), (0, vr 1), (1, vi foot), (2, vi (nI h))]) ok dX3_spreadAt_50 rfl (by decide) rfl rfl ?_
        refine g_iload (n := 53) ok 2 dX3_spreadAt_51 rfl rfl ?_
        refine g_aload_n (n := 54) ok 3 dX3_spreadAt_53 rfl rfl rfl ?_
        refine g_get (n := 57) (v := vr 5) (c := 3) (k := 5) ok dX3_spreadAt_54 clsX3 (by decide) q78 rfl rfl rfl ?_
        refine g_iload (n := 59) ok 1 dX3_spreadAt_57 rfl rfl ?_
        refine g_aald (n := 60) (i := i11) (L := 6) ok dX3_spreadAt_59 rfl rfl rfl (by omega) rfl ?_
        have hT5 : Tr (6 + 2 * i11) := tr_now (n := i11) (by omega)
        refine g_get (n := 63) (v := vr (6 + 2 * i11 + 1)) (c := 4) (k := 3) ok dX3_spreadAt_60 clsX4 (by decide) q48 hT5.1 rfl rfl ?_
        refine g_iload_n (n := 64) ok 5 dX3_spreadAt_63 rfl rfl rfl ?_
        refine g_iald (n := 65) (i := h) (L := 12) ok dX3_spreadAt_64 hT5.2.1 hT5.2.2 rfl (by omega) rfl ?_
        refine g_mmax (n := 68) (rest := []) ok dX3_spreadAt_65 q304 q305 q306 (Nat.le_of_ble_eq_true rfl) (by decide) (by decide) rfl ?_
        refine g_istore (n := 70) (lv' := [(4, vi (iMax x11_4 (I (6 + 2 * i11 + 1) h))), (3, vi (iMin x11_3 (I (6 + 2 * i11 + 1) h))), (5, vi (nI i11)), (0, vr 1), (1, vi foot), (2, vi (nI h))]) ok dX3_spreadAt_68 (by decide) rfl rfl ?_
        refine g_iinc (n := 73) (v := nI (i11 + 1)) (lv' := [(5, vi (nI (i11 + 1))), (4, vi (iMax x11_4 (I (6 + 2 * i11 + 1) h))), (3, vi (iMin x11_3 (I (6 + 2 * i11 + 1) h))), (0, vr 1), (1, vi foot), (2, vi (nI h))]) ok 2 dX3_spreadAt_70 rfl (iinc_n (a := i11) rfl) (by decide) rfl rfl ?_
        refine g_goto (tgt := 11) ok dX3_spreadAt_73 (by decide) ?_
        exact ih (i11 + 1) (iMax x11_4 (I (6 + 2 * i11 + 1) h)) (iMin x11_3 (I (6 + 2 * i11 + 1) h)) (by omega)
  exact L11 (ix (I 1 6)) 0 (-9) 999 (by omega)

noncomputable def fX3_tracesOf_x4 (x4_2 : Int32) : Int32 :=
  x4_2
noncomputable def fX3_tracesOf_b4 (I : HI) (foot : Int32) (i4 : Nat) (x4_2 : Int32) : Int32 :=
  if I (6 + 2 * i4) 0 = foot then x4_2 + 1 else x4_2
noncomputable def fX3_tracesOf (I : HI) (foot : Int32) : Int32 :=
  fX3_tracesOf_x4 (fo (ix (I 1 6)) 0 (fun (i : Nat) (s : Int32) => fX3_tracesOf_b4 I foot i s) 0)
theorem knX3_tracesOf : Kn yX3_tracesOf cX3_tracesOf 4 (some .int) 1 := ⟨q451, q2, ⟨by decide, by decide⟩, by decide +kernel⟩
set_option maxHeartbeats 400000 in
set_option maxRecDepth 100000 in
theorem kX3_tracesOf (I : HI) (foot : Int32) (hd : vp_in (I 1 6) 7) : Cx yX3_tracesOf cX3_tracesOf 4 (some .int) 0 0 [vr 1, vi foot] I ((some (vi ((fX3_tracesOf I foot))), I)) := by
  refine Cx.mk (lv := [(0, vr 1), (1, vi foot)]) (by decide) (Nat.le_of_ble_eq_true rfl) rfl (fun E ok hr => ?_)
  have hd1 := vb hd
  rw [fX3_tracesOf]
  refine g_iconst (n := 1) (v := 0) ok dX3_tracesOf_0 rfl rfl ?_
  refine g_istore_n (n := 2) (lv' := [(2, vi 0), (0, vr 1), (1, vi foot)]) ok dX3_tracesOf_1 rfl (by decide) rfl rfl ?_
  refine g_iconst (n := 3) (v := 0) ok dX3_tracesOf_2 rfl rfl ?_
  refine g_istore_n (n := 4) (lv' := [(3, vi 0), (2, vi 0), (0, vr 1), (1, vi foot)]) ok dX3_tracesOf_3 rfl (by decide) rfl rfl ?_
  have X4 : ∀ (x4_2 : Int32), G E 4 ((some (vi ((fX3_tracesOf_x4 x4_2))), I)) I 34 [(2, vi x4_2)] [] := by
    intro x4_2
    rw [fX3_tracesOf_x4]
    refine g_iload_n (n := 35) ok 0 dX3_tracesOf_34 rfl rfl rfl ?_
    exact g_iret ok hr dX3_tracesOf_35
  have L4 : ∀ (n4 i4 : Nat) (x4_2 : Int32) (hi : i4 + n4 = ix (I 1 6)), G E 4 ((some (vi ((fX3_tracesOf_x4 (fo n4 i4 (fun (i : Nat) (s : Int32) => fX3_tracesOf_b4 I foot i s) x4_2)))), I)) I 4 [(3, vi (nI i4)), (2, vi x4_2), (0, vr 1), (1, vi foot)] [] := by
    intro n4
    induction n4 with
    | zero =>
      intro i4 x4_2 hi
      rw [fo_0]
      refine g_iload_n (n := 5) ok 0 dX3_tracesOf_4 rfl rfl rfl ?_
      refine g_aload_n (n := 6) ok 2 dX3_tracesOf_5 rfl rfl rfl ?_
      refine g_get (n := 9) (v := vi (I 1 6)) (c := 3) (k := 6) ok dX3_tracesOf_6 clsX3 (by decide) q81 rfl rfl rfl ?_
      refine g_icmp_ge (n := 12) (tgt := 34) ok dX3_tracesOf_9 (by decide) rfl (fun c => ?_) (fun c => absurd (nle (a := ix (I 1 6)) (b := i4) (vx hd) rfl (by omega) (by omega)) c)
      refine g_sub [1] rfl ?_
      exact X4 _
    | succ n4 ih =>
      intro i4 x4_2 hi
      refine g_iload_n (n := 5) ok 0 dX3_tracesOf_4 rfl rfl rfl ?_
      refine g_aload_n (n := 6) ok 2 dX3_tracesOf_5 rfl rfl rfl ?_
      refine g_get (n := 9) (v := vi (I 1 6)) (c := 3) (k := 6) ok dX3_tracesOf_6 clsX3 (by decide) q81 rfl rfl rfl ?_
      refine g_icmp_ge (n := 12) (tgt := 34) ok dX3_tracesOf_9 (by decide) rfl (fun c => absurd c (nnle (a := ix (I 1 6)) (b := i4) (vx hd) rfl (by omega) (by omega))) (fun c => ?_)
      rw [fo_s]
      show G E 4 ((some (vi ((fX3_tracesOf_x4 (fo n4 (i4 + 1) (fun (i : Nat) (s : Int32) => fX3_tracesOf_b4 I foot i s) (fX3_tracesOf_b4 I foot i4 x4_2))))), I)) _ _ _ _
      rw [fX3_tracesOf_b4]
      refine g_aload_n (n := 13) ok 2 dX3_tracesOf_12 rfl rfl rfl ?_
      refine g_get (n := 16) (v := vr 5) (c := 3) (k := 5) ok dX3_tracesOf_13 clsX3 (by decide) q78 rfl rfl rfl ?_
      refine g_iload_n (n := 17) ok 0 dX3_tracesOf_16 rfl rfl rfl ?_
      refine g_aald (n := 18) (i := i4) (L := 6) ok dX3_tracesOf_17 rfl rfl rfl (by omega) rfl ?_
      have hT1 : Tr (6 + 2 * i4) := tr_now (n := i4) (by omega)
      refine g_get (n := 21) (v := vi (I (6 + 2 * i4) 0)) (c := 4) (k := 0) ok dX3_tracesOf_18 clsX4 (by decide) q38 hT1.1 rfl rfl ?_
      refine g_iload_n (n := 22) ok 3 dX3_tracesOf_21 rfl rfl rfl ?_
      refine g_icmp_ne (n := 25) (tgt := 28) ok dX3_tracesOf_22 (by decide) rfl (fun c2 => ?_) (fun c2 => ?_)
      · rw [if_neg c2]
        refine g_iinc (n := 31) (v := nI (i4 + 1)) (lv' := [(3, vi (nI (i4 + 1))), (2, vi x4_2), (0, vr 1), (1, vi foot)]) ok 0 dX3_tracesOf_28 rfl (iinc_n (a := i4) rfl) (by decide) rfl rfl ?_
        refine g_goto (tgt := 4) ok dX3_tracesOf_31 (by decide) ?_
        exact ih (i4 + 1) x4_2 (by omega)
      · rw [if_pos c2]
        refine g_iinc (n := 28) (v := x4_2 + 1) (lv' := [(2, vi (x4_2 + 1)), (3, vi (nI i4)), (0, vr 1), (1, vi foot)]) ok 1 dX3_tracesOf_25 rfl rfl (by decide) rfl rfl ?_
        refine g_iinc (n := 31) (v := nI (i4 + 1)) (lv' := [(3, vi (nI (i4 + 1))), (2, vi (x4_2 + 1)), (0, vr 1), (1, vi foot)]) ok 1 dX3_tracesOf_28 rfl (iinc_n (a := i4) rfl) (by decide) rfl rfl ?_
        refine g_goto (tgt := 4) ok dX3_tracesOf_31 (by decide) ?_
        exact ih (i4 + 1) (x4_2 + 1) (by omega)
  exact L4 (ix (I 1 6)) 0 0 (by omega)

noncomputable def fX3_copyFrom_k_x70 (J70 : HI) : HI :=
  J70
noncomputable def fX3_copyFrom_k_b70 (i70 : Nat) (J70 : HI) : HI :=
  (fX4_copyFrom J70 (23 + 2 * i70) (6 + 2 * i70))
noncomputable def fX3_copyFrom_k_c68 (K68 : HI) : HI :=
  fX3_copyFrom_k_x70 (fo 6 0 (fun (i : Nat) (s : HI) => fX3_copyFrom_k_b70 i s) K68)
noncomputable def fX3_copyFrom_k (I : HI) : HI :=
  fX3_copyFrom_k_c68 (up (up (up (cpy (cpy (cpy I 2 19 24) 3 20 24) 4 21 5) 18 3 ((cpy (cpy (cpy I 2 19 24) 3 20 24) 4 21 5) 1 3)) 18 4 ((up (cpy (cpy (cpy I 2 19 24) 3 20 24) 4 21 5) 18 3 ((cpy (cpy (cpy I 2 19 24) 3 20 24) 4 21 5) 1 3)) 1 4)) 18 6 ((up (up (cpy (cpy (cpy I 2 19 24) 3 20 24) 4 21 5) 18 3 ((cpy (cpy (cpy I 2 19 24) 3 20 24) 4 21 5) 1 3)) 18 4 ((up (cpy (cpy (cpy I 2 19 24) 3 20 24) 4 21 5) 18 3 ((cpy (cpy (cpy I 2 19 24) 3 20 24) 4 21 5) 1 3)) 1 4)) 1 6))
theorem knX3_copyFrom : Kn yX3_copyFrom cX3_copyFrom 3 none 1 := ⟨q649, q2, ⟨by decide, by decide⟩, by decide +kernel⟩
set_option maxHeartbeats 400000 in
set_option maxRecDepth 100000 in
theorem kX3_copyFrom_k (I : HI) : Cx yX3_copyFrom cX3_copyFrom 3 none 2 61 [vr 18, vr 1] I ((none, fX3_copyFrom_k I)) := by
  refine Cx.mk (lv := [(0, vr 18), (1, vr 1)]) (by decide) (Nat.le_of_ble_eq_true rfl) rfl (fun E ok hr => ?_)
  rw [fX3_copyFrom_k]
  refine g_aload_n (n := 1) ok 1 dX3_copyFrom_0 rfl rfl rfl ?_
  refine g_get (n := 4) (v := vr 2) (c := 3) (k := 0) ok dX3_copyFrom_1 clsX3 (by decide) q61 rfl rfl rfl ?_
  refine g_iconst (n := 5) (v := 0) ok dX3_copyFrom_4 rfl rfl ?_
  refine g_aload_n (n := 6) ok 0 dX3_copyFrom_5 rfl rfl rfl ?_
  refine g_get (n := 9) (v := vr 19) (c := 3) (k := 0) ok dX3_copyFrom_6 clsX3 (by decide) q61 rfl rfl rfl ?_
  refine g_iconst (n := 10) (v := 0) ok dX3_copyFrom_9 rfl rfl ?_
  refine g_bipush (n := 12) (v := 24) ok dX3_copyFrom_10 rfl rfl ?_
  refine g_copy (n := 15) (n0 := 24) (n1 := 24) (m := 24) ok dX3_copyFrom_12 q29 q31 q30 rfl rfl rfl rfl rfl (by omega) (by omega) (Nat.le_of_ble_eq_true rfl) (by decide) (by decide) rfl ?_
  refine g_aload_n (n := 16) ok 1 dX3_copyFrom_15 rfl rfl rfl ?_
  refine g_get (n := 19) (v := vr 3) (c := 3) (k := 1) ok dX3_copyFrom_16 clsX3 (by decide) q64 rfl rfl rfl ?_
  refine g_iconst (n := 20) (v := 0) ok dX3_copyFrom_19 rfl rfl ?_
  refine g_aload_n (n := 21) ok 0 dX3_copyFrom_20 rfl rfl rfl ?_
  refine g_get (n := 24) (v := vr 20) (c := 3) (k := 1) ok dX3_copyFrom_21 clsX3 (by decide) q64 rfl rfl rfl ?_
  refine g_iconst (n := 25) (v := 0) ok dX3_copyFrom_24 rfl rfl ?_
  refine g_bipush (n := 27) (v := 24) ok dX3_copyFrom_25 rfl rfl ?_
  refine g_copy (n := 30) (n0 := 24) (n1 := 24) (m := 24) ok dX3_copyFrom_27 q29 q31 q30 rfl rfl rfl rfl rfl (by omega) (by omega) (Nat.le_of_ble_eq_true rfl) (by decide) (by decide) rfl ?_
  refine g_aload_n (n := 31) ok 1 dX3_copyFrom_30 rfl rfl rfl ?_
  refine g_get (n := 34) (v := vr 4) (c := 3) (k := 2) ok dX3_copyFrom_31 clsX3 (by decide) q67 rfl rfl rfl ?_
  refine g_iconst (n := 35) (v := 0) ok dX3_copyFrom_34 rfl rfl ?_
  refine g_aload_n (n := 36) ok 0 dX3_copyFrom_35 rfl rfl rfl ?_
  refine g_get (n := 39) (v := vr 21) (c := 3) (k := 2) ok dX3_copyFrom_36 clsX3 (by decide) q67 rfl rfl rfl ?_
  refine g_iconst (n := 40) (v := 0) ok dX3_copyFrom_39 rfl rfl ?_
  refine g_iconst (n := 41) (v := 5) ok dX3_copyFrom_40 rfl rfl ?_
  refine g_copy (n := 44) (n0 := 5) (n1 := 5) (m := 5) ok dX3_copyFrom_41 q29 q31 q30 rfl rfl rfl rfl rfl (by omega) (by omega) (Nat.le_of_ble_eq_true rfl) (by decide) (by decide) rfl ?_
  refine g_aload_n (n := 45) ok 0 dX3_copyFrom_44 rfl rfl rfl ?_
  refine g_aload_n (n := 46) ok 1 dX3_copyFrom_45 rfl rfl rfl ?_
  refine g_get (n := 49) (v := vi ((cpy (cpy (cpy I 2 19 24) 3 20 24) 4 21 5) 1 3)) (c := 3) (k := 3) ok dX3_copyFrom_46 clsX3 (by decide) q71 rfl rfl rfl ?_
  refine g_put (n := 52) (J := up (cpy (cpy (cpy I 2 19 24) 3 20 24) 4 21 5) 18 3 ((cpy (cpy (cpy I 2 19 24) 3 20 24) 4 21 5) 1 3)) (c := 3) (k := 3) ok dX3_copyFrom_49 clsX3 tyX3 tyX3_ok nmX3 (by decide) q71 rfl rfl (fun _ => rfl) (fun _ => rfl) (Nat.le_of_ble_eq_true rfl) (fs_3_3 _ _ _) up_ne rfl ?_
  refine g_aload_n (n := 53) ok 0 dX3_copyFrom_52 rfl rfl rfl ?_
  refine g_aload_n (n := 54) ok 1 dX3_copyFrom_53 rfl rfl rfl ?_
  refine g_get (n := 57) (v := vi ((up (cpy (cpy (cpy I 2 19 24) 3 20 24) 4 21 5) 18 3 ((cpy (cpy (cpy I 2 19 24) 3 20 24) 4 21 5) 1 3)) 1 4)) (c := 3) (k := 4) ok dX3_copyFrom_54 clsX3 (by decide) q75 rfl rfl rfl ?_
  refine g_put (n := 60) (J := up (up (cpy (cpy (cpy I 2 19 24) 3 20 24) 4 21 5) 18 3 ((cpy (cpy (cpy I 2 19 24) 3 20 24) 4 21 5) 1 3)) 18 4 ((up (cpy (cpy (cpy I 2 19 24) 3 20 24) 4 21 5) 18 3 ((cpy (cpy (cpy I 2 19 24) 3 20 24) 4 21 5) 1 3)) 1 4)) (c := 3) (k := 4) ok dX3_copyFrom_57 clsX3 tyX3 tyX3_ok nmX3 (by decide) q75 rfl rfl (fun _ => rfl) (fun _ => rfl) (Nat.le_of_ble_eq_true rfl) (fs_3_4 _ _ _) up_ne rfl ?_
  refine g_aload_n (n := 61) ok 0 dX3_copyFrom_60 rfl rfl rfl ?_
  refine g_aload_n (n := 62) ok 1 dX3_copyFrom_61 rfl rfl rfl ?_
  refine g_get (n := 65) (v := vi ((up (up (cpy (cpy (cpy I 2 19 24) 3 20 24) 4 21 5) 18 3 ((cpy (cpy (cpy I 2 19 24) 3 20 24) 4 21 5) 1 3)) 18 4 ((up (cpy (cpy (cpy I 2 19 24) 3 20 24) 4 21 5) 18 3 ((cpy (cpy (cpy I 2 19 24) 3 20 24) 4 21 5) 1 3)) 1 4)) 1 6)) (c := 3) (k := 6) ok dX3_copyFrom_62 clsX3 (by decide) q81 rfl rfl rfl ?_
  refine g_put (n := 68) (J := up (up (up (cpy (cpy (cpy I 2 19 24) 3 20 24) 4 21 5) 18 3 ((cpy (cpy (cpy I 2 19 24) 3 20 24) 4 21 5) 1 3)) 18 4 ((up (cpy (cpy (cpy I 2 19 24) 3 20 24) 4 21 5) 18 3 ((cpy (cpy (cpy I 2 19 24) 3 20 24) 4 21 5) 1 3)) 1 4)) 18 6 ((up (up (cpy (cpy (cpy I 2 19 24) 3 20 24) 4 21 5) 18 3 ((cpy (cpy (cpy I 2 19 24) 3 20 24) 4 21 5) 1 3)) 18 4 ((up (cpy (cpy (cpy I 2 19 24) 3 20 24) 4 21 5) 18 3 ((cpy (cpy (cpy I 2 19 24) 3 20 24) 4 21 5) 1 3)) 1 4)) 1 6)) (c := 3) (k := 6) ok dX3_copyFrom_65 clsX3 tyX3 tyX3_ok nmX3 (by decide) q81 rfl rfl (fun _ => rfl) (fun _ => rfl) (Nat.le_of_ble_eq_true rfl) (fs_3_6 _ _ _) up_ne rfl ?_
  have C68_5 : ∀ (K68 : HI), G E 3 ((none, fX3_copyFrom_k_c68 K68)) K68 68 [(0, vr 18), (1, vr 1)] [] := by
    intro K68
    rw [fX3_copyFrom_k_c68]
    refine g_iconst (n := 69) (v := 0) ok dX3_copyFrom_68 rfl rfl ?_
    refine g_istore_n (n := 70) (lv' := [(2, vi 0), (0, vr 18), (1, vr 1)]) ok dX3_copyFrom_69 rfl (by decide) rfl rfl ?_
    have X70 : ∀ (J70 : HI), G E 3 ((none, fX3_copyFrom_k_x70 J70)) J70 97 [] [] := by
      intro J70
      rw [fX3_copyFrom_k_x70]
      exact g_vret ok hr dX3_copyFrom_97
    have L70 : ∀ (n70 i70 : Nat) (J70 : HI) (hi : i70 + n70 = 6), G E 3 ((none, fX3_copyFrom_k_x70 (fo n70 i70 (fun (i : Nat) (s : HI) => fX3_copyFrom_k_b70 i s) J70))) J70 70 [(2, vi (nI i70)), (0, vr 18), (1, vr 1)] [] := by
      intro n70
      induction n70 with
      | zero =>
        intro i70 J70 hi
        rw [fo_0]
        refine g_iload_n (n := 71) ok 0 dX3_copyFrom_70 rfl rfl rfl ?_
        refine g_bipush (n := 73) (v := 6) ok dX3_copyFrom_71 rfl rfl ?_
        refine g_icmp_ge (n := 76) (tgt := 97) ok dX3_copyFrom_73 (by decide) rfl (fun c => ?_) (fun c => absurd (nle (a := 6) (b := i70) rfl rfl (by omega) (by omega)) c)
        refine g_sub [] rfl ?_
        exact X70 _
      | succ n70 ih =>
        intro i70 J70 hi
        refine g_iload_n (n := 71) ok 0 dX3_copyFrom_70 rfl rfl rfl ?_
        refine g_bipush (n := 73) (v := 6) ok dX3_copyFrom_71 rfl rfl ?_
        refine g_icmp_ge (n := 76) (tgt := 97) ok dX3_copyFrom_73 (by decide) rfl (fun c => absurd c (nnle (a := 6) (b := i70) rfl rfl (by omega) (by omega))) (fun c => ?_)
        rw [fo_s]
        show G E 3 ((none, fX3_copyFrom_k_x70 (fo n70 (i70 + 1) (fun (i : Nat) (s : HI) => fX3_copyFrom_k_b70 i s) (fX3_copyFrom_k_b70 i70 J70)))) _ _ _ _
        rw [fX3_copyFrom_k_b70]
        refine g_aload_n (n := 77) ok 1 dX3_copyFrom_76 rfl rfl rfl ?_
        refine g_get (n := 80) (v := vr 22) (c := 3) (k := 5) ok dX3_copyFrom_77 clsX3 (by decide) q78 rfl rfl rfl ?_
        refine g_iload_n (n := 81) ok 0 dX3_copyFrom_80 rfl rfl rfl ?_
        refine g_aald (n := 82) (i := i70) (L := 6) ok dX3_copyFrom_81 rfl rfl rfl (by omega) rfl ?_
        have hT3 : Tr (23 + 2 * i70) := tr_kept (n := i70) (by omega)
        refine g_aload_n (n := 83) ok 2 dX3_copyFrom_82 rfl rfl rfl ?_
        refine g_get (n := 86) (v := vr 5) (c := 3) (k := 5) ok dX3_copyFrom_83 clsX3 (by decide) q78 rfl rfl rfl ?_
        refine g_iload_n (n := 87) ok 0 dX3_copyFrom_86 rfl rfl rfl ?_
        refine g_aald (n := 88) (i := i70) (L := 6) ok dX3_copyFrom_87 rfl rfl rfl (by omega) rfl ?_
        have hT4 : Tr (6 + 2 * i70) := tr_now (n := i70) (by omega)
        refine g_callVv (n := 91) (rest := []) (av := [vr (6 + 2 * i70)]) (j := 23 + 2 * i70) ok (kX4_copyFrom J70 (23 + 2 * i70) (6 + 2 * i70) hT3 hT4) knX4_copyFrom q650 q651 q652 clsX4 hT3.1 dX3_copyFrom_88 rfl rfl (Nat.le_of_ble_eq_true rfl) (by decide) (by decide) rfl ?_
        refine g_iinc (n := 94) (v := nI (i70 + 1)) (lv' := [(2, vi (nI (i70 + 1))), (0, vr 18), (1, vr 1)]) ok 0 dX3_copyFrom_91 rfl (iinc_n (a := i70) rfl) (by decide) rfl rfl ?_
        refine g_goto (tgt := 70) ok dX3_copyFrom_94 (by decide) ?_
        exact ih (i70 + 1) _ (by omega)
    exact L70 6 0 _ (by omega)
  exact C68_5 _

noncomputable def fX3_copyFrom_n_x70 (J70 : HI) : HI :=
  J70
noncomputable def fX3_copyFrom_n_b70 (i70 : Nat) (J70 : HI) : HI :=
  (fX4_copyFrom J70 (6 + 2 * i70) (23 + 2 * i70))
noncomputable def fX3_copyFrom_n_c68 (K68 : HI) : HI :=
  fX3_copyFrom_n_x70 (fo 6 0 (fun (i : Nat) (s : HI) => fX3_copyFrom_n_b70 i s) K68)
noncomputable def fX3_copyFrom_n (I : HI) : HI :=
  fX3_copyFrom_n_c68 (up (up (up (cpy (cpy (cpy I 19 2 24) 20 3 24) 21 4 5) 1 3 ((cpy (cpy (cpy I 19 2 24) 20 3 24) 21 4 5) 18 3)) 1 4 ((up (cpy (cpy (cpy I 19 2 24) 20 3 24) 21 4 5) 1 3 ((cpy (cpy (cpy I 19 2 24) 20 3 24) 21 4 5) 18 3)) 18 4)) 1 6 ((up (up (cpy (cpy (cpy I 19 2 24) 20 3 24) 21 4 5) 1 3 ((cpy (cpy (cpy I 19 2 24) 20 3 24) 21 4 5) 18 3)) 1 4 ((up (cpy (cpy (cpy I 19 2 24) 20 3 24) 21 4 5) 1 3 ((cpy (cpy (cpy I 19 2 24) 20 3 24) 21 4 5) 18 3)) 18 4)) 18 6))
set_option maxHeartbeats 400000 in
set_option maxRecDepth 100000 in
theorem kX3_copyFrom_n (I : HI) : Cx yX3_copyFrom cX3_copyFrom 3 none 2 61 [vr 1, vr 18] I ((none, fX3_copyFrom_n I)) := by
  refine Cx.mk (lv := [(0, vr 1), (1, vr 18)]) (by decide) (Nat.le_of_ble_eq_true rfl) rfl (fun E ok hr => ?_)
  rw [fX3_copyFrom_n]
  refine g_aload_n (n := 1) ok 1 dX3_copyFrom_0 rfl rfl rfl ?_
  refine g_get (n := 4) (v := vr 19) (c := 3) (k := 0) ok dX3_copyFrom_1 clsX3 (by decide) q61 rfl rfl rfl ?_
  refine g_iconst (n := 5) (v := 0) ok dX3_copyFrom_4 rfl rfl ?_
  refine g_aload_n (n := 6) ok 0 dX3_copyFrom_5 rfl rfl rfl ?_
  refine g_get (n := 9) (v := vr 2) (c := 3) (k := 0) ok dX3_copyFrom_6 clsX3 (by decide) q61 rfl rfl rfl ?_
  refine g_iconst (n := 10) (v := 0) ok dX3_copyFrom_9 rfl rfl ?_
  refine g_bipush (n := 12) (v := 24) ok dX3_copyFrom_10 rfl rfl ?_
  refine g_copy (n := 15) (n0 := 24) (n1 := 24) (m := 24) ok dX3_copyFrom_12 q29 q31 q30 rfl rfl rfl rfl rfl (by omega) (by omega) (Nat.le_of_ble_eq_true rfl) (by decide) (by decide) rfl ?_
  refine g_aload_n (n := 16) ok 1 dX3_copyFrom_15 rfl rfl rfl ?_
  refine g_get (n := 19) (v := vr 20) (c := 3) (k := 1) ok dX3_copyFrom_16 clsX3 (by decide) q64 rfl rfl rfl ?_
  refine g_iconst (n := 20) (v := 0) ok dX3_copyFrom_19 rfl rfl ?_
  refine g_aload_n (n := 21) ok 0 dX3_copyFrom_20 rfl rfl rfl ?_
  refine g_get (n := 24) (v := vr 3) (c := 3) (k := 1) ok dX3_copyFrom_21 clsX3 (by decide) q64 rfl rfl rfl ?_
  refine g_iconst (n := 25) (v := 0) ok dX3_copyFrom_24 rfl rfl ?_
  refine g_bipush (n := 27) (v := 24) ok dX3_copyFrom_25 rfl rfl ?_
  refine g_copy (n := 30) (n0 := 24) (n1 := 24) (m := 24) ok dX3_copyFrom_27 q29 q31 q30 rfl rfl rfl rfl rfl (by omega) (by omega) (Nat.le_of_ble_eq_true rfl) (by decide) (by decide) rfl ?_
  refine g_aload_n (n := 31) ok 1 dX3_copyFrom_30 rfl rfl rfl ?_
  refine g_get (n := 34) (v := vr 21) (c := 3) (k := 2) ok dX3_copyFrom_31 clsX3 (by decide) q67 rfl rfl rfl ?_
  refine g_iconst (n := 35) (v := 0) ok dX3_copyFrom_34 rfl rfl ?_
  refine g_aload_n (n := 36) ok 0 dX3_copyFrom_35 rfl rfl rfl ?_
  refine g_get (n := 39) (v := vr 4) (c := 3) (k := 2) ok dX3_copyFrom_36 clsX3 (by decide) q67 rfl rfl rfl ?_
  refine g_iconst (n := 40) (v := 0) ok dX3_copyFrom_39 rfl rfl ?_
  refine g_iconst (n := 41) (v := 5) ok dX3_copyFrom_40 rfl rfl ?_
  refine g_copy (n := 44) (n0 := 5) (n1 := 5) (m := 5) ok dX3_copyFrom_41 q29 q31 q30 rfl rfl rfl rfl rfl (by omega) (by omega) (Nat.le_of_ble_eq_true rfl) (by decide) (by decide) rfl ?_
  refine g_aload_n (n := 45) ok 0 dX3_copyFrom_44 rfl rfl rfl ?_
  refine g_aload_n (n := 46) ok 1 dX3_copyFrom_45 rfl rfl rfl ?_
  refine g_get (n := 49) (v := vi ((cpy (cpy (cpy I 19 2 24) 20 3 24) 21 4 5) 18 3)) (c := 3) (k := 3) ok dX3_copyFrom_46 clsX3 (by decide) q71 rfl rfl rfl ?_
  refine g_put (n := 52) (J := up (cpy (cpy (cpy I 19 2 24) 20 3 24) 21 4 5) 1 3 ((cpy (cpy (cpy I 19 2 24) 20 3 24) 21 4 5) 18 3)) (c := 3) (k := 3) ok dX3_copyFrom_49 clsX3 tyX3 tyX3_ok nmX3 (by decide) q71 rfl rfl (fun _ => rfl) (fun _ => rfl) (Nat.le_of_ble_eq_true rfl) (fs_3_3 _ _ _) up_ne rfl ?_
  refine g_aload_n (n := 53) ok 0 dX3_copyFrom_52 rfl rfl rfl ?_
  refine g_aload_n (n := 54) ok 1 dX3_copyFrom_53 rfl rfl rfl ?_
  refine g_get (n := 57) (v := vi ((up (cpy (cpy (cpy I 19 2 24) 20 3 24) 21 4 5) 1 3 ((cpy (cpy (cpy I 19 2 24) 20 3 24) 21 4 5) 18 3)) 18 4)) (c := 3) (k := 4) ok dX3_copyFrom_54 clsX3 (by decide) q75 rfl rfl rfl ?_
  refine g_put (n := 60) (J := up (up (cpy (cpy (cpy I 19 2 24) 20 3 24) 21 4 5) 1 3 ((cpy (cpy (cpy I 19 2 24) 20 3 24) 21 4 5) 18 3)) 1 4 ((up (cpy (cpy (cpy I 19 2 24) 20 3 24) 21 4 5) 1 3 ((cpy (cpy (cpy I 19 2 24) 20 3 24) 21 4 5) 18 3)) 18 4)) (c := 3) (k := 4) ok dX3_copyFrom_57 clsX3 tyX3 tyX3_ok nmX3 (by decide) q75 rfl rfl (fun _ => rfl) (fun _ => rfl) (Nat.le_of_ble_eq_true rfl) (fs_3_4 _ _ _) up_ne rfl ?_
  refine g_aload_n (n := 61) ok 0 dX3_copyFrom_60 rfl rfl rfl ?_
  refine g_aload_n (n := 62) ok 1 dX3_copyFrom_61 rfl rfl rfl ?_
  refine g_get (n := 65) (v := vi ((up (up (cpy (cpy (cpy I 19 2 24) 20 3 24) 21 4 5) 1 3 ((cpy (cpy (cpy I 19 2 24) 20 3 24) 21 4 5) 18 3)) 1 4 ((up (cpy (cpy (cpy I 19 2 24) 20 3 24) 21 4 5) 1 3 ((cpy (cpy (cpy I 19 2 24) 20 3 24) 21 4 5) 18 3)) 18 4)) 18 6)) (c := 3) (k := 6) ok dX3_copyFrom_62 clsX3 (by decide) q81 rfl rfl rfl ?_
  refine g_put (n := 68) (J := up (up (up (cpy (cpy (cpy I 19 2 24) 20 3 24) 21 4 5) 1 3 ((cpy (cpy (cpy I 19 2 24) 20 3 24) 21 4 5) 18 3)) 1 4 ((up (cpy (cpy (cpy I 19 2 24) 20 3 24) 21 4 5) 1 3 ((cpy (cpy (cpy I 19 2 24) 20 3 24) 21 4 5) 18 3)) 18 4)) 1 6 ((up (up (cpy (cpy (cpy I 19 2 24) 20 3 24) 21 4 5) 1 3 ((cpy (cpy (cpy I 19 2 24) 20 3 24) 21 4 5) 18 3)) 1 4 ((up (cpy (cpy (cpy I 19 2 24) 20 3 24) 21 4 5) 1 3 ((cpy (cpy (cpy I 19 2 24) 20 3 24) 21 4 5) 18 3)) 18 4)) 18 6)) (c := 3) (k := 6) ok dX3_copyFrom_65 clsX3 tyX3 tyX3_ok nmX3 (by decide) q81 rfl rfl (fun _ => rfl) (fun _ => rfl) (Nat.le_of_ble_eq_true rfl) (fs_3_6 _ _ _) up_ne rfl ?_
  have C68_5 : ∀ (K68 : HI), G E 3 ((none, fX3_copyFrom_n_c68 K68)) K68 68 [(0, vr 1), (1, vr 18)] [] := by
    intro K68
    rw [fX3_copyFrom_n_c68]
    refine g_iconst (n := 69) (v := 0) ok dX3_copyFrom_68 rfl rfl ?_
    refine g_istore_n (n := 70) (lv' := [(2, vi 0), (0, vr 1), (1, vr 18)]) ok dX3_copyFrom_69 rfl (by decide) rfl rfl ?_
    have X70 : ∀ (J70 : HI), G E 3 ((none, fX3_copyFrom_n_x70 J70)) J70 97 [] [] := by
      intro J70
      rw [fX3_copyFrom_n_x70]
      exact g_vret ok hr dX3_copyFrom_97
    have L70 : ∀ (n70 i70 : Nat) (J70 : HI) (hi : i70 + n70 = 6), G E 3 ((none, fX3_copyFrom_n_x70 (fo n70 i70 (fun (i : Nat) (s : HI) => fX3_copyFrom_n_b70 i s) J70))) J70 70 [(2, vi (nI i70)), (0, vr 1), (1, vr 18)] [] := by
      intro n70
      induction n70 with
      | zero =>
        intro i70 J70 hi
        rw [fo_0]
        refine g_iload_n (n := 71) ok 0 dX3_copyFrom_70 rfl rfl rfl ?_
        refine g_bipush (n := 73) (v := 6) ok dX3_copyFrom_71 rfl rfl ?_
        refine g_icmp_ge (n := 76) (tgt := 97) ok dX3_copyFrom_73 (by decide) rfl (fun c => ?_) (fun c => absurd (nle (a := 6) (b := i70) rfl rfl (by omega) (by omega)) c)
        refine g_sub [] rfl ?_
        exact X70 _
      | succ n70 ih =>
        intro i70 J70 hi
        refine g_iload_n (n := 71) ok 0 dX3_copyFrom_70 rfl rfl rfl ?_
        refine g_bipush (n := 73) (v := 6) ok dX3_copyFrom_71 rfl rfl ?_
        refine g_icmp_ge (n := 76) (tgt := 97) ok dX3_copyFrom_73 (by decide) rfl (fun c => absurd c (nnle (a := 6) (b := i70) rfl rfl (by omega) (by omega))) (fun c => ?_)
        rw [fo_s]
        show G E 3 ((none, fX3_copyFrom_n_x70 (fo n70 (i70 + 1) (fun (i : Nat) (s : HI) => fX3_copyFrom_n_b70 i s) (fX3_copyFrom_n_b70 i70 J70)))) _ _ _ _
        rw [fX3_copyFrom_n_b70]
        refine g_aload_n (n := 77) ok 1 dX3_copyFrom_76 rfl rfl rfl ?_
        refine g_get (n := 80) (v := vr 5) (c := 3) (k := 5) ok dX3_copyFrom_77 clsX3 (by decide) q78 rfl rfl rfl ?_
        refine g_iload_n (n := 81) ok 0 dX3_copyFrom_80 rfl rfl rfl ?_
        refine g_aald (n := 82) (i := i70) (L := 6) ok dX3_copyFrom_81 rfl rfl rfl (by omega) rfl ?_
        have hT3 : Tr (6 + 2 * i70) := tr_now (n := i70) (by omega)
        refine g_aload_n (n := 83) ok 2 dX3_copyFrom_82 rfl rfl rfl ?_
        refine g_get (n := 86) (v := vr 22) (c := 3) (k := 5) ok dX3_copyFrom_83 clsX3 (by decide) q78 rfl rfl rfl ?_
        refine g_iload_n (n := 87) ok 0 dX3_copyFrom_86 rfl rfl rfl ?_
        refine g_aald (n := 88) (i := i70) (L := 6) ok dX3_copyFrom_87 rfl rfl rfl (by omega) rfl ?_
        have hT4 : Tr (23 + 2 * i70) := tr_kept (n := i70) (by omega)
        refine g_callVv (n := 91) (rest := []) (av := [vr (23 + 2 * i70)]) (j := 6 + 2 * i70) ok (kX4_copyFrom J70 (6 + 2 * i70) (23 + 2 * i70) hT3 hT4) knX4_copyFrom q650 q651 q652 clsX4 hT3.1 dX3_copyFrom_88 rfl rfl (Nat.le_of_ble_eq_true rfl) (by decide) (by decide) rfl ?_
        refine g_iinc (n := 94) (v := nI (i70 + 1)) (lv' := [(2, vi (nI (i70 + 1))), (0, vr 1), (1, vr 18)]) ok 0 dX3_copyFrom_91 rfl (iinc_n (a := i70) rfl) (by decide) rfl rfl ?_
        refine g_goto (tgt := 70) ok dX3_copyFrom_94 (by decide) ?_
        exact ih (i70 + 1) _ (by omega)
    exact L70 6 0 _ (by omega)
  exact C68_5 _

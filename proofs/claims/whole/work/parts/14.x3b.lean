def fX3_skate_x12 (x12_4 : Int32) (J12 : HI) : HI :=
  J12
def fX3_skate_78 (j : Nat) (kind : Int32) (o : Option Nat) (J12 : HI) (i12 : Nat) (v4 : Int32) (v17 : Int32) : Int32 × HI :=
  (v4, (up J12 (j + 1) i12 (fX5_bounded (fX3_radiusBy J12 kind (ix (J12 j 0)) i12 v17 o) 999)))
def fX3_skate_60 (j : Nat) (kind : Int32) (o : Option Nat) (J12 : HI) (i12 : Nat) (v4 : Int32) : Int32 × HI :=
  fX3_skate_78 j kind o J12 i12 v4 (if J12 j 2 ≤ 0 then 0 else v4 / (J12 j 2))
def fX3_skate_b12 (j : Nat) (kind : Int32) (o : Option Nat) (i12 : Nat) (x12_4 : Int32) (J12 : HI) : Int32 × HI :=
  fX3_skate_60 j kind o J12 i12 (if nI i12 ≤ 0 then x12_4 else iMax 0 (x12_4 - (3 * ((J12 4 1) + (J12 2 (fX5_spot (ix (J12 j 0)) i12))))))
def fX3_skate (I : HI) (j : Nat) (kind : Int32) (o : Option Nat) : HI :=
  (fun s => fX3_skate_x12 s.1 s.2) (fo 12 0 (fun i s => fX3_skate_b12 j kind o i s.1 s.2) (60 * (I j 1), I))
theorem knX3_skate : Kn yX3_skate cX3_skate 8 none 3 := ⟨q302, q2, ⟨by decide, by decide⟩, by decide +kernel⟩
set_option maxHeartbeats 4000000 in
set_option maxRecDepth 100000 in
theorem kX3_skate (I : HI) (j : Nat) (kind : Int32) (o : Option Nat) (hT : Tr j) (hf : vp_in (I j 0) 2) (ho : ∀ t, o = some t → Tr t) : Cx yX3_skate cX3_skate 8 none 2 48 [vr 1, vr j, vi kind, vo o] I ((none, fX3_skate I j kind o)) := by
  refine Cx.mk (lv := [(0, vr 1), (1, vr j), (2, vi kind), (3, vo o)]) (by decide) (Nat.le_of_ble_eq_true rfl) rfl (fun E ok hr => ?_)
  have hf2 : ∀ K : HI, (∀ a, a ≠ j + 1 → K a = I a) → vp_in (K j 0) 2 := fun K h => by rw [h j (by omega)]; exact hf
  rw [fX3_skate]
  refine g_bipush (n := 2) (v := 60) ok dX3_skate_0 rfl rfl ?_
  refine g_aload_n (n := 3) ok 1 dX3_skate_2 rfl rfl rfl ?_
  refine g_get (n := 6) (v := vi (I j 1)) (c := 4) (k := 1) ok dX3_skate_3 clsX4 (by decide) q42 hT.1 rfl rfl ?_
  refine g_imul (n := 7) ok dX3_skate_6 rfl ?_
  refine g_istore (n := 9) (lv' := [(4, vi (60 * (I j 1))), (0, vr 1), (1, vr j), (2, vi kind), (3, vo o)]) ok dX3_skate_7 (by decide) rfl rfl ?_
  refine g_iconst (n := 10) (v := 0) ok dX3_skate_9 rfl rfl ?_
  refine g_istore (n := 12) (lv' := [(5, vi 0), (4, vi (60 * (I j 1))), (0, vr 1), (1, vr j), (2, vi kind), (3, vo o)]) ok dX3_skate_10 (by decide) rfl rfl ?_
  have X12 : ∀ (x12_4 : Int32) (J12 : HI) (hJ : ∀ a, a ≠ j + 1 → J12 a = I a), G E 8 ((none, fX3_skate_x12 x12_4 J12)) J12 117 [] [] := by
    intro x12_4 J12 hJ
    rw [fX3_skate_x12]
    exact g_vret ok hr dX3_skate_117
  have L12 : ∀ (n12 i12 : Nat) (x12_4 : Int32) (J12 : HI) (hJ : ∀ a, a ≠ j + 1 → J12 a = I a) (hi : i12 + n12 = 12), G E 8 ((none, (fun s => fX3_skate_x12 s.1 s.2) (fo n12 i12 (fun i s => fX3_skate_b12 j kind o i s.1 s.2) (x12_4, J12)))) J12 12 [(5, vi (nI i12)), (4, vi x12_4), (0, vr 1), (1, vr j), (2, vi kind), (3, vo o)] [] := by
    intro n12
    induction n12 with
    | zero =>
      intro i12 x12_4 J12 hJ hi
      refine g_iload (n := 14) ok 0 dX3_skate_12 rfl rfl ?_
      refine g_bipush (n := 16) (v := 12) ok dX3_skate_14 rfl rfl ?_
      refine g_icmp_ge (n := 19) (tgt := 117) ok dX3_skate_16 (by decide) rfl (fun c => ?_) (fun c => absurd (nle (a := 12) (b := i12) rfl rfl (by omega) (by omega)) c)
      refine g_sub [] rfl ?_
      exact X12 _ _ hJ
    | succ n12 ih =>
      intro i12 x12_4 J12 hJ hi
      refine g_iload (n := 14) ok 0 dX3_skate_12 rfl rfl ?_
      refine g_bipush (n := 16) (v := 12) ok dX3_skate_14 rfl rfl ?_
      refine g_icmp_ge (n := 19) (tgt := 117) ok dX3_skate_16 (by decide) rfl (fun c => absurd c (nnle (a := 12) (b := i12) rfl rfl (by omega) (by omega))) (fun c => ?_)
      show G E 8 ((none, (fun s => fX3_skate_x12 s.1 s.2) (fo n12 (i12 + 1) (fun i s => fX3_skate_b12 j kind o i s.1 s.2) (fX3_skate_b12 j kind o i12 x12_4 J12)))) _ _ _ _
      rw [fX3_skate_b12]
      refine g_iload (n := 21) ok 0 dX3_skate_19 rfl rfl ?_
      have J60_9 : ∀ (v4 : Int32), G E 8 ((none, (fun s => fX3_skate_x12 s.1 s.2) (fo n12 (i12 + 1) (fun i s => fX3_skate_b12 j kind o i s.1 s.2) (fX3_skate_60 j kind o J12 i12 v4)))) J12 60 [(5, vi (nI i12)), (4, vi v4), (0, vr 1), (1, vr j), (2, vi kind), (3, vo o)] [] := by
        intro v4
        rw [fX3_skate_60]
        refine g_aload_n (n := 61) ok 3 dX3_skate_60 rfl rfl rfl ?_
        refine g_get (n := 64) (v := vi (J12 j 2)) (c := 4) (k := 2) ok dX3_skate_61 clsX4 (by decide) q45 hT.1 rfl rfl ?_
        have J78_18 : ∀ (v17 : Int32), G E 8 ((none, (fun s => fX3_skate_x12 s.1 s.2) (fo n12 (i12 + 1) (fun i s => fX3_skate_b12 j kind o i s.1 s.2) (fX3_skate_78 j kind o J12 i12 v4 v17)))) J12 78 [(5, vi (nI i12)), (4, vi v4), (0, vr 1), (1, vr j), (2, vi kind), (3, vo o)] [vi v17] := by
          intro v17
          rw [fX3_skate_78]
          refine g_istore (n := 80) (lv' := [(6, vi v17), (5, vi (nI i12)), (4, vi v4), (0, vr 1), (1, vr j), (2, vi kind), (3, vo o)]) ok dX3_skate_78 (by decide) rfl rfl ?_
          refine g_aload_n (n := 81) ok 3 dX3_skate_80 rfl rfl rfl ?_
          refine g_iload_n (n := 82) ok 5 dX3_skate_81 rfl rfl rfl ?_
          refine g_aload_n (n := 83) ok 4 dX3_skate_82 rfl rfl rfl ?_
          refine g_get (n := 86) (v := vi (J12 j 0)) (c := 4) (k := 0) ok dX3_skate_83 clsX4 (by decide) q38 hT.1 rfl rfl ?_
          refine g_iload (n := 88) ok 1 dX3_skate_86 rfl rfl ?_
          refine g_iload (n := 90) ok 0 dX3_skate_88 rfl rfl ?_
          refine g_aload_n (n := 91) ok 6 dX3_skate_90 rfl rfl rfl ?_
          have hb91 := vb (hf2 J12 hJ)
          refine g_callV (n := 94) (rest := []) (av := [vi kind, vi (nI (ix (J12 j 0))), vi (nI i12), vi v17, vo o]) (j := 1) ok (kX3_radiusBy J12 kind (ix (J12 j 0)) i12 v17 o (by first | assumption | omega) (by first | assumption | omega) (by first | assumption | omega)) knX3_radiusBy q307 q308 q309 clsX3 rfl dX3_skate_91 (lcons rfl (lcons rfl (lcons rfl (lcons (congrArg vi (vx (L := 2) (hf2 J12 hJ))) (lcons rfl (lcons rfl rfl)))))) rfl (Nat.le_of_ble_eq_true rfl) (by decide) (by decide) rfl ?_
          refine g_istore (n := 96) (lv' := [(7, vi (fX3_radiusBy J12 kind (ix (J12 j 0)) i12 v17 o)), (6, vi v17), (5, vi (nI i12)), (4, vi v4), (0, vr 1), (1, vr j), (2, vi kind), (3, vo o)]) ok dX3_skate_94 (by decide) rfl rfl ?_
          refine g_aload_n (n := 97) ok 5 dX3_skate_96 rfl rfl rfl ?_
          refine g_get (n := 100) (v := vr (j + 1)) (c := 4) (k := 3) ok dX3_skate_97 clsX4 (by decide) q48 hT.1 rfl rfl ?_
          refine g_iload (n := 102) ok 2 dX3_skate_100 rfl rfl ?_
          refine g_iload (n := 104) ok 0 dX3_skate_102 rfl rfl ?_
          refine g_sipush (n := 107) (v := 999) ok dX3_skate_104 rfl rfl ?_
          refine g_callSN (n := 110) (rest := [vi (nI i12), vr (j + 1)]) (av := [vi (fX3_radiusBy J12 kind (ix (J12 j 0)) i12 v17 o), vi 999]) ok (kX5_bounded J12 (fX3_radiusBy J12 kind (ix (J12 j 0)) i12 v17 o) 999) knX5_bounded q330 q331 dX3_skate_107 rfl rfl (Nat.le_of_ble_eq_true rfl) (by decide) (by decide) rfl ?_
          refine g_iast (n := 111) (i := i12) (L := 12) ok dX3_skate_110 hT.2.1 hT.2.2 rfl (by omega) rfl ?_
          refine g_iinc (n := 114) (v := nI (i12 + 1)) (lv' := [(5, vi (nI (i12 + 1))), (7, vi (fX3_radiusBy J12 kind (ix (J12 j 0)) i12 v17 o)), (6, vi v17), (4, vi v4), (0, vr 1), (1, vr j), (2, vi kind), (3, vo o)]) ok 2 dX3_skate_111 rfl (iinc_n (a := i12) rfl) (by decide) rfl rfl ?_
          refine g_goto (tgt := 12) ok dX3_skate_114 (by decide) ?_
          refine g_sub [0, 3, 4, 5, 6, 7] rfl ?_
          exact ih (i12 + 1) v4 _ (fun a h => (up_ne a h).trans (hJ a h)) (by omega)
        refine g_if_le (n := 67) (tgt := 77) ok dX3_skate_64 (by decide) rfl (fun c10 => ?_) (fun c10 => ?_)
        · try simp only [if_pos c10]
          refine g_iconst (n := 78) (v := 0) ok dX3_skate_77 rfl rfl ?_
          exact J78_18 _
        · try simp only [if_neg c10]
          have c73 := ne_of_npos c10
          refine g_iload (n := 69) ok 1 dX3_skate_67 rfl rfl ?_
          refine g_aload_n (n := 70) ok 3 dX3_skate_69 rfl rfl rfl ?_
          refine g_get (n := 73) (v := vi (J12 j 2)) (c := 4) (k := 2) ok dX3_skate_70 clsX4 (by decide) q45 hT.1 rfl rfl ?_
          refine g_idiv (n := 74) ok dX3_skate_73 c73 rfl ?_
          refine g_goto (tgt := 78) ok dX3_skate_74 (by decide) ?_
          exact J78_18 _
      refine g_if_le (n := 24) (tgt := 60) ok dX3_skate_21 (by decide) rfl (fun c1 => ?_) (fun c1 => ?_)
      · try simp only [if_pos c1]
        exact J60_9 _
      · try simp only [if_neg c1]
        refine g_aload_n (n := 25) ok 2 dX3_skate_24 rfl rfl rfl ?_
        refine g_get (n := 28) (v := vr 4) (c := 3) (k := 2) ok dX3_skate_25 clsX3 (by decide) q67 rfl rfl rfl ?_
        refine g_iconst (n := 29) (v := 1) ok dX3_skate_28 rfl rfl ?_
        refine g_iald (n := 30) (i := 1) (L := 5) ok dX3_skate_29 rfl rfl rfl (by omega) rfl ?_
        refine g_aload_n (n := 31) ok 2 dX3_skate_30 rfl rfl rfl ?_
        refine g_get (n := 34) (v := vr 2) (c := 3) (k := 0) ok dX3_skate_31 clsX3 (by decide) q61 rfl rfl rfl ?_
        refine g_aload_n (n := 35) ok 3 dX3_skate_34 rfl rfl rfl ?_
        refine g_get (n := 38) (v := vi (J12 j 0)) (c := 4) (k := 0) ok dX3_skate_35 clsX4 (by decide) q38 hT.1 rfl rfl ?_
        refine g_iload (n := 40) ok 0 dX3_skate_38 rfl rfl ?_
        have hb40 := vb (hf2 J12 hJ)
        refine g_callSN (n := 43) (rest := [vr 2, vi (J12 4 1)]) (av := [vi (nI (ix (J12 j 0))), vi (nI i12)]) ok (kX5_spot J12 (ix (J12 j 0)) i12) knX5_spot q303 q278 dX3_skate_40 (lcons rfl (lcons (congrArg vi (vx (L := 2) (hf2 J12 hJ))) rfl)) rfl (Nat.le_of_ble_eq_true rfl) (by decide) (by decide) rfl ?_
        have hp2 : fX5_spot (ix (J12 j 0)) i12 = (ix (J12 j 0)) * 12 + i12 := rfl
        refine g_iald (n := 44) (i := (fX5_spot (ix (J12 j 0)) i12)) (L := 24) ok dX3_skate_43 rfl rfl rfl (by omega) rfl ?_
        refine g_iadd (n := 45) ok dX3_skate_44 rfl ?_
        refine g_istore (n := 47) (lv' := [(6, vi ((J12 4 1) + (J12 2 (fX5_spot (ix (J12 j 0)) i12)))), (5, vi (nI i12)), (4, vi x12_4), (0, vr 1), (1, vr j), (2, vi kind), (3, vo o)]) ok dX3_skate_45 (by decide) rfl rfl ?_
        refine g_iconst (n := 48) (v := 0) ok dX3_skate_47 rfl rfl ?_
        refine g_iload (n := 50) ok 2 dX3_skate_48 rfl rfl ?_
        refine g_iconst (n := 51) (v := 3) ok dX3_skate_50 rfl rfl ?_
        refine g_iload (n := 53) ok 0 dX3_skate_51 rfl rfl ?_
        refine g_imul (n := 54) ok dX3_skate_53 rfl ?_
        refine g_isub (n := 55) ok dX3_skate_54 rfl ?_
        refine g_mmax (n := 58) (rest := []) ok dX3_skate_55 q304 q305 q306 (Nat.le_of_ble_eq_true rfl) (by decide) (by decide) rfl ?_
        refine g_istore (n := 60) (lv' := [(4, vi (iMax 0 (x12_4 - (3 * ((J12 4 1) + (J12 2 (fX5_spot (ix (J12 j 0)) i12))))))), (6, vi ((J12 4 1) + (J12 2 (fX5_spot (ix (J12 j 0)) i12)))), (5, vi (nI i12)), (0, vr 1), (1, vr j), (2, vi kind), (3, vo o)]) ok dX3_skate_58 (by decide) rfl rfl ?_
        refine g_sub [2, 0, 3, 4, 5, 6] rfl ?_
        exact J60_9 _
  exact L12 12 0 (60 * (I j 1)) _ (fun _ _ => rfl) (by omega)

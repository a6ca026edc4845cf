noncomputable def fX1_lineBehind_33 (I : HI) (o : Option Nat) (kind : Int32) (foot : Nat) (push : Int32) (lean : Int32) (v11 : Nat) : Nat × HI :=
  (v11, (fX3_skate (fX4_begin I v11 (nI foot) push lean) v11 kind o))
noncomputable def fX1_lineBehind (I : HI) (o : Option Nat) (kind : Int32) (foot : Nat) (push : Int32) (lean : Int32) : Nat × HI :=
  fX1_lineBehind_33 I o kind foot push lean (if o = some (39 + 2 * (2 * foot)) then 39 + 2 * ((2 * foot) + 1) else 39 + 2 * (2 * foot))
theorem knX1_lineBehind : Kn yX1_lineBehind cX1_lineBehind 7 (some (.object "EightOnIce$Trace")) 5 := ⟨q468, q6, ⟨by decide, by decide⟩, by decide +kernel⟩
set_option maxHeartbeats 400000 in
set_option maxRecDepth 100000 in
theorem kX1_lineBehind (I : HI) (o : Option Nat) (kind : Int32) (foot : Nat) (push : Int32) (lean : Int32) (ho : ∀ t, o = some t → Tr t) (hf : foot < 2) : Cx yX1_lineBehind cX1_lineBehind 7 (some (.object "EightOnIce$Trace")) 3 75 [vr 37, vo o, vi kind, vi (nI foot), vi push, vi lean] I ((some (vr (((fX1_lineBehind I o kind foot push lean).1))), (fX1_lineBehind I o kind foot push lean).2)) := by
  refine Cx.mk (lv := [(0, vr 37), (1, vo o), (2, vi kind), (3, vi (nI foot)), (4, vi push), (5, vi lean)]) (by decide) (Nat.le_of_ble_eq_true rfl) rfl (fun E ok hr => ?_)
  rw [fX1_lineBehind]
  refine g_aload_n (n := 1) ok 1 dX1_lineBehind_0 rfl rfl rfl ?_
  refine g_aload_n (n := 2) ok 0 dX1_lineBehind_1 rfl rfl rfl ?_
  refine g_get (n := 5) (v := vr 38) (c := 1) (k := 1) ok dX1_lineBehind_2 clsX1 (by decide) q122 rfl rfl rfl ?_
  refine g_iconst (n := 6) (v := 2) ok dX1_lineBehind_5 rfl rfl ?_
  refine g_iload_n (n := 7) ok 3 dX1_lineBehind_6 rfl rfl rfl ?_
  refine g_imul (n := 8) ok dX1_lineBehind_7 rfl ?_
  refine g_top (nv_imul (a := 2) (b := foot) rfl rfl) ?_
  refine g_aald (n := 9) (i := 2 * foot) (L := 4) ok dX1_lineBehind_8 rfl rfl rfl (by omega) rfl ?_
  have hT1 : Tr (39 + 2 * (2 * foot)) := tr_line (n := 2 * foot) (by omega)
  have J33_12 : ∀ (v11 : Nat) (hv11 : Tr v11), G E 7 ((some (vr (((fX1_lineBehind_33 I o kind foot push lean v11).1))), (fX1_lineBehind_33 I o kind foot push lean v11).2)) I 33 [(0, vr 37), (1, vo o), (2, vi kind), (3, vi (nI foot)), (4, vi push), (5, vi lean)] [vr v11] := by
    intro v11 hv11
    rw [fX1_lineBehind_33]
    refine g_astore (n := 35) (lv' := [(6, vr v11), (0, vr 37), (1, vo o), (2, vi kind), (3, vi (nI foot)), (4, vi push), (5, vi lean)]) ok dX1_lineBehind_33 (by decide) rfl rfl ?_
    refine g_aload (n := 37) ok 0 dX1_lineBehind_35 rfl rfl ?_
    refine g_iload_n (n := 38) ok 4 dX1_lineBehind_37 rfl rfl rfl ?_
    refine g_iload (n := 40) ok 5 dX1_lineBehind_38 rfl rfl ?_
    refine g_iload (n := 42) ok 6 dX1_lineBehind_40 rfl rfl ?_
    refine g_callVv (n := 45) (rest := []) (av := [vi (nI foot), vi push, vi lean]) (j := v11) ok (kX4_begin I v11 (nI foot) push lean hv11) knX4_begin q469 q285 q286 clsX4 hv11.1 dX1_lineBehind_42 rfl rfl (Nat.le_of_ble_eq_true rfl) (by decide) (by decide) rfl ?_
    refine g_aload_n (n := 46) ok 1 dX1_lineBehind_45 rfl rfl rfl ?_
    refine g_get (n := 49) (v := vr 1) (c := 1) (k := 0) ok dX1_lineBehind_46 clsX1 (by decide) q121 rfl rfl rfl ?_
    refine g_aload (n := 51) ok 0 dX1_lineBehind_49 rfl rfl ?_
    refine g_iload_n (n := 52) ok 3 dX1_lineBehind_51 rfl rfl rfl ?_
    refine g_aload_n (n := 53) ok 2 dX1_lineBehind_52 rfl rfl rfl ?_
    refine g_callVv (n := 56) (rest := []) (av := [vr v11, vi kind, vo o]) (j := 1) ok (kX3_skate (fX4_begin I v11 (nI foot) push lean) v11 kind o hv11 (by rw [begin_0]; exact vp_in_nI (by omega) (by omega)) (by first | with_reducible assumption | omega)) knX3_skate q470 q300 q301 clsX3 rfl dX1_lineBehind_53 rfl rfl (Nat.le_of_ble_eq_true rfl) (by decide) (by decide) rfl ?_
    refine g_aload (n := 58) ok 0 dX1_lineBehind_56 rfl rfl ?_
    exact g_aret ok hr dX1_lineBehind_58
  refine g_acmp_ne (n := 12) (tgt := 25) ok dX1_lineBehind_9 (by decide) rfl (fun c2 => ?_) (fun c2 => ?_)
  · try simp only [if_neg c2]
    refine g_aload_n (n := 26) ok 0 dX1_lineBehind_25 rfl rfl rfl ?_
    refine g_get (n := 29) (v := vr 38) (c := 1) (k := 1) ok dX1_lineBehind_26 clsX1 (by decide) q122 rfl rfl rfl ?_
    refine g_iconst (n := 30) (v := 2) ok dX1_lineBehind_29 rfl rfl ?_
    refine g_iload_n (n := 31) ok 3 dX1_lineBehind_30 rfl rfl rfl ?_
    refine g_imul (n := 32) ok dX1_lineBehind_31 rfl ?_
    refine g_top (nv_imul (a := 2) (b := foot) rfl rfl) ?_
    refine g_aald (n := 33) (i := 2 * foot) (L := 4) ok dX1_lineBehind_32 rfl rfl rfl (by omega) rfl ?_
    have hT3 : Tr (39 + 2 * (2 * foot)) := tr_line (n := 2 * foot) (by omega)
    exact J33_12 _ (by with_reducible assumption)
  · try simp only [if_pos c2]
    refine g_aload_n (n := 13) ok 0 dX1_lineBehind_12 rfl rfl rfl ?_
    refine g_get (n := 16) (v := vr 38) (c := 1) (k := 1) ok dX1_lineBehind_13 clsX1 (by decide) q122 rfl rfl rfl ?_
    refine g_iconst (n := 17) (v := 2) ok dX1_lineBehind_16 rfl rfl ?_
    refine g_iload_n (n := 18) ok 3 dX1_lineBehind_17 rfl rfl rfl ?_
    refine g_imul (n := 19) ok dX1_lineBehind_18 rfl ?_
    refine g_top (nv_imul (a := 2) (b := foot) rfl rfl) ?_
    refine g_iconst (n := 20) (v := 1) ok dX1_lineBehind_19 rfl rfl ?_
    refine g_iadd (n := 21) ok dX1_lineBehind_20 rfl ?_
    refine g_top (nv_iadd (a := 2 * foot) (b := 1) rfl rfl) ?_
    refine g_aald (n := 22) (i := (2 * foot) + 1) (L := 4) ok dX1_lineBehind_21 rfl rfl rfl (by omega) rfl ?_
    have hT4 : Tr (39 + 2 * ((2 * foot) + 1)) := tr_line (n := (2 * foot) + 1) (by omega)
    refine g_goto (tgt := 33) ok dX1_lineBehind_22 (by decide) ?_
    exact J33_12 _ (by with_reducible assumption)
theorem lineBehind_tr {I : HI} {o : Option Nat} {kind push lean : Int32} {foot : Nat} (h : foot < 2) : Tr (fX1_lineBehind I o kind foot push lean).1 := by
  unfold fX1_lineBehind
  split
  · exact tr_line (n := 2 * foot + 1) (by omega)
  · exact tr_line (n := 2 * foot) (by omega)
theorem lineBehind_ne {I : HI} {o : Option Nat} {kind push lean : Int32} {foot a : Nat} (h : a < 39) : (fX1_lineBehind I o kind foot push lean).2 a = I a := by
  unfold fX1_lineBehind
  split
  · unfold fX1_lineBehind_33
    dsimp only
    rw [skate_ne (by omega), begin_ne (by omega)]
  · unfold fX1_lineBehind_33
    dsimp only
    rw [skate_ne (by omega), begin_ne (by omega)]

noncomputable def fX1_nextBy (I : HI) (kind : Int32) (foot : Nat) (push : Int32) (lean : Int32) : Nat × HI :=
  ((fX1_lineBehind I (fX3_latestOf I (nI foot)) kind foot push lean).1, ((fX1_lineBehind I (fX3_latestOf I (nI foot)) kind foot push lean).2))
theorem knX1_nextBy : Kn yX1_nextBy cX1_nextBy 5 (some (.object "EightOnIce$Trace")) 4 := ⟨q463, q6, ⟨by decide, by decide⟩, by decide +kernel⟩
set_option maxHeartbeats 400000 in
set_option maxRecDepth 100000 in
theorem kX1_nextBy (I : HI) (kind : Int32) (foot : Nat) (push : Int32) (lean : Int32) (hd : vp_in (I 1 6) 7) (hf : foot < 2) : Cx yX1_nextBy cX1_nextBy 5 (some (.object "EightOnIce$Trace")) 4 101 [vr 37, vi kind, vi (nI foot), vi push, vi lean] I ((some (vr (((fX1_nextBy I kind foot push lean).1))), (fX1_nextBy I kind foot push lean).2)) := by
  refine Cx.mk (lv := [(0, vr 37), (1, vi kind), (2, vi (nI foot)), (3, vi push), (4, vi lean)]) (by decide) (Nat.le_of_ble_eq_true rfl) rfl (fun E ok hr => ?_)
  rw [fX1_nextBy]
  refine g_aload_n (n := 1) ok 0 dX1_nextBy_0 rfl rfl rfl ?_
  refine g_aload_n (n := 2) ok 0 dX1_nextBy_1 rfl rfl rfl ?_
  refine g_get (n := 5) (v := vr 1) (c := 1) (k := 0) ok dX1_nextBy_2 clsX1 (by decide) q121 rfl rfl rfl ?_
  refine g_iload_n (n := 6) ok 2 dX1_nextBy_5 rfl rfl rfl ?_
  refine g_callV (n := 9) (rest := [vr 37]) (av := [vi (nI foot)]) (j := 1) ok (kX3_latestOf I (nI foot) (by first | with_reducible assumption | omega)) knX3_latestOf q464 q289 q290 clsX3 rfl dX1_nextBy_6 rfl rfl (Nat.le_of_ble_eq_true rfl) (by decide) (by decide) rfl ?_
  refine g_iload_n (n := 10) ok 1 dX1_nextBy_9 rfl rfl rfl ?_
  refine g_iload_n (n := 11) ok 2 dX1_nextBy_10 rfl rfl rfl ?_
  refine g_iload_n (n := 12) ok 3 dX1_nextBy_11 rfl rfl rfl ?_
  refine g_iload (n := 14) ok 4 dX1_nextBy_12 rfl rfl ?_
  refine g_callV (n := 17) (rest := []) (av := [vo (fX3_latestOf I (nI foot)), vi kind, vi (nI foot), vi push, vi lean]) (j := 37) ok (kX1_lineBehind I (fX3_latestOf I (nI foot)) kind foot push lean (latestOf_tr hd) (by first | with_reducible assumption | omega)) knX1_lineBehind q465 q467 qs14 clsX1 rfl dX1_nextBy_14 rfl rfl (Nat.le_of_ble_eq_true rfl) (by decide) (by decide) rfl ?_
  have hT1 := lineBehind_tr (I := I) (o := (fX3_latestOf I (nI foot))) (kind := kind) (push := push) (lean := lean) (foot := foot) (by omega)
  exact g_aret ok hr dX1_nextBy_17
theorem nextBy_tr {I : HI} {kind push lean : Int32} {foot : Nat} (h : foot < 2) : Tr (fX1_nextBy I kind foot push lean).1 := lineBehind_tr h
theorem nextBy_ne {I : HI} {kind push lean : Int32} {foot a : Nat} (h : a < 39) : (fX1_nextBy I kind foot push lean).2 a = I a := lineBehind_ne h

noncomputable def fX1_nextOff (I : HI) (kind : Int32) (foot : Nat) (push : Int32) (lean : Int32) : Int32 × HI :=
  (fX3_offOf ((fX1_nextBy I kind foot push lean).2) ((fX1_nextBy I kind foot push lean).1), ((fX1_nextBy I kind foot push lean).2))
theorem knX1_nextOff : Kn yX1_nextOff cX1_nextOff 5 (some .int) 4 := ⟨q508, q6, ⟨by decide, by decide⟩, by decide +kernel⟩
set_option maxHeartbeats 400000 in
set_option maxRecDepth 100000 in
theorem kX1_nextOff (I : HI) (kind : Int32) (foot : Nat) (push : Int32) (lean : Int32) (hd : vp_in (I 1 6) 7) (hf : foot < 2) : Cx yX1_nextOff cX1_nextOff 5 (some .int) 5 125 [vr 37, vi kind, vi (nI foot), vi push, vi lean] I ((some (vi (((fX1_nextOff I kind foot push lean).1))), (fX1_nextOff I kind foot push lean).2)) := by
  refine Cx.mk (lv := [(0, vr 37), (1, vi kind), (2, vi (nI foot)), (3, vi push), (4, vi lean)]) (by decide) (Nat.le_of_ble_eq_true rfl) rfl (fun E ok hr => ?_)
  rw [fX1_nextOff]
  refine g_aload_n (n := 1) ok 0 dX1_nextOff_0 rfl rfl rfl ?_
  refine g_get (n := 4) (v := vr 1) (c := 1) (k := 0) ok dX1_nextOff_1 clsX1 (by decide) q121 rfl rfl rfl ?_
  refine g_aload_n (n := 5) ok 0 dX1_nextOff_4 rfl rfl rfl ?_
  refine g_iload_n (n := 6) ok 1 dX1_nextOff_5 rfl rfl rfl ?_
  refine g_iload_n (n := 7) ok 2 dX1_nextOff_6 rfl rfl rfl ?_
  refine g_iload_n (n := 8) ok 3 dX1_nextOff_7 rfl rfl rfl ?_
  refine g_iload (n := 10) ok 4 dX1_nextOff_8 rfl rfl ?_
  refine g_callV (n := 13) (rest := [vr 1]) (av := [vi kind, vi (nI foot), vi push, vi lean]) (j := 37) ok (kX1_nextBy I kind foot push lean (by first | with_reducible assumption | omega) (by first | with_reducible assumption | omega)) knX1_nextBy q483 q461 q462 clsX1 rfl dX1_nextOff_10 rfl rfl (Nat.le_of_ble_eq_true rfl) (by decide) (by decide) rfl ?_
  have hT1 := nextBy_tr (I := I) (kind := kind) (push := push) (lean := lean) (foot := foot) (by omega)
  refine g_callV (n := 16) (rest := []) (av := [vr ((fX1_nextBy I kind foot push lean).1)]) (j := 1) ok (kX3_offOf ((fX1_nextBy I kind foot push lean).2) ((fX1_nextBy I kind foot push lean).1) hT1) knX3_offOf q484 q393 q394 clsX3 rfl dX1_nextOff_13 rfl rfl (Nat.le_of_ble_eq_true rfl) (by decide) (by decide) rfl ?_
  exact g_iret ok hr dX1_nextOff_16
theorem nextOff_ne {I : HI} {kind push lean : Int32} {foot a : Nat} (h : a < 39) : (fX1_nextOff I kind foot push lean).2 a = I a := nextBy_ne h

noncomputable def fX1_isTold_x2 : Int32 :=
  1
noncomputable def fX1_isTold_b2 (I : HI) (j : Nat) (i2 : Nat) : (Int32) ⊕ (Unit) :=
  if iMin (I (j + 1) i2) 99 = I 50 i2 then Sum.inr () else Sum.inl 0
noncomputable def fX1_isTold (I : HI) (j : Nat) : Int32 :=
  foE 12 0 (fun (i : Nat) (_ : Unit) => fX1_isTold_b2 I j i) (fun (_ : Unit) => fX1_isTold_x2) ()
theorem knX1_isTold : Kn yX1_isTold cX1_isTold 4 (some .boolean) 2 := ⟨q533, q6, ⟨by decide, by decide⟩, by decide +kernel⟩
set_option maxHeartbeats 400000 in
set_option maxRecDepth 100000 in
theorem kX1_isTold (I : HI) (j : Nat) (hT : Tr j) : Cx yX1_isTold cX1_isTold 4 (some .boolean) 1 21 [vr 37, vr j, vr 50] I ((some (vi ((fX1_isTold I j))), I)) := by
  refine Cx.mk (lv := [(0, vr 37), (1, vr j), (2, vr 50)]) (by decide) (Nat.le_of_ble_eq_true rfl) rfl (fun E ok hr => ?_)
  rw [fX1_isTold]
  refine g_iconst (n := 1) (v := 0) ok dX1_isTold_0 rfl rfl ?_
  refine g_istore_n (n := 2) (lv' := [(3, vi 0), (0, vr 37), (1, vr j), (2, vr 50)]) ok dX1_isTold_1 rfl (by decide) rfl rfl ?_
  have X2 : ∀ (_ : True), G E 4 ((some (vi (fX1_isTold_x2)), I)) I 39 [] [] := by
    intro _
    rw [fX1_isTold_x2]
    refine g_iconst (n := 40) (v := 1) ok dX1_isTold_39 rfl rfl ?_
    exact g_zret (x := 1) ok hr dX1_isTold_40 (by decide)
  have L2 : ∀ (n2 i2 : Nat) (hi : i2 + n2 = 12), G E 4 ((some (vi ((foE n2 i2 (fun (i : Nat) (_ : Unit) => fX1_isTold_b2 I j i) (fun (_ : Unit) => fX1_isTold_x2) ()))), I)) I 2 [(3, vi (nI i2)), (1, vr j), (2, vr 50)] [] := by
    intro n2
    induction n2 with
    | zero =>
      intro i2 hi
      rw [foE_0]
      refine g_iload_n (n := 3) ok 0 dX1_isTold_2 rfl rfl rfl ?_
      refine g_bipush (n := 5) (v := 12) ok dX1_isTold_3 rfl rfl ?_
      refine g_icmp_ge (n := 8) (tgt := 39) ok dX1_isTold_5 (by decide) rfl (fun c => ?_) (fun c => absurd (nle (a := 12) (b := i2) rfl rfl (by omega) (by omega)) c)
      refine g_sub [] rfl ?_
      exact X2 trivial
    | succ n2 ih =>
      intro i2 hi
      refine g_iload_n (n := 3) ok 0 dX1_isTold_2 rfl rfl rfl ?_
      refine g_bipush (n := 5) (v := 12) ok dX1_isTold_3 rfl rfl ?_
      refine g_icmp_ge (n := 8) (tgt := 39) ok dX1_isTold_5 (by decide) rfl (fun c => absurd c (nnle (a := 12) (b := i2) rfl rfl (by omega) (by omega))) (fun c => ?_)
      rw [foE_s]
      show G E 4 ((some (vi ((Sum.elim id (fun (s : Unit) => foE n2 (i2 + 1) (fun (i : Nat) (_ : Unit) => fX1_isTold_b2 I j i) (fun (_ : Unit) => fX1_isTold_x2) s) (fX1_isTold_b2 I j i2)))), I)) _ _ _ _
      rw [fX1_isTold_b2]
      refine g_iload_n (n := 9) ok 0 dX1_isTold_8 rfl rfl rfl ?_
      refine g_aload_n (n := 10) ok 2 dX1_isTold_9 rfl rfl rfl ?_
      refine g_alen (n := 11) (v := 12) ok dX1_isTold_10 rfl rfl rfl ?_
      refine g_icmp_ge (n := 14) (tgt := 39) ok dX1_isTold_11 (by decide) rfl (fun c1 => ?_) (fun c1 => ?_)
      · exact absurd c1 (nnle (a := 12) (b := i2) rfl rfl (by omega) (by omega))
      · refine g_aload_n (n := 15) ok 1 dX1_isTold_14 rfl rfl rfl ?_
        refine g_get (n := 18) (v := vr (j + 1)) (c := 4) (k := 3) ok dX1_isTold_15 clsX4 (by decide) q49 hT.1 rfl rfl ?_
        refine g_iload_n (n := 19) ok 0 dX1_isTold_18 rfl rfl rfl ?_
        refine g_iald (n := 20) (i := i2) (L := 12) ok dX1_isTold_19 hT.2.1 hT.2.2 rfl (by omega) rfl ?_
        refine g_bipush (n := 22) (v := 99) ok dX1_isTold_20 rfl rfl ?_
        refine g_mmin (n := 25) (rest := []) ok dX1_isTold_22 q534 q297 q298 (Nat.le_of_ble_eq_true rfl) (by decide) (by decide) rfl ?_
        refine g_aload_n (n := 26) ok 2 dX1_isTold_25 rfl rfl rfl ?_
        refine g_iload_n (n := 27) ok 0 dX1_isTold_26 rfl rfl rfl ?_
        refine g_iald (n := 28) (i := i2) (L := 12) ok dX1_isTold_27 rfl rfl rfl (by omega) rfl ?_
        refine g_icmp_eq (n := 31) (tgt := 33) ok dX1_isTold_28 (by decide) rfl (fun c2 => ?_) (fun c2 => ?_)
        · rw [if_pos c2]
          refine g_iinc (n := 36) (v := nI (i2 + 1)) (lv' := [(3, vi (nI (i2 + 1))), (1, vr j), (2, vr 50)]) ok 0 dX1_isTold_33 rfl (iinc_n (a := i2) rfl) (by decide) rfl rfl ?_
          refine g_goto (tgt := 2) ok dX1_isTold_36 (by decide) ?_
          exact ih (i2 + 1) (by omega)
        · rw [if_neg c2]
          refine g_iconst (n := 32) (v := 0) ok dX1_isTold_31 rfl rfl ?_
          exact g_zret (x := 0) ok hr dX1_isTold_32 (by decide)
  refine g_sub [0, 2, 3] rfl ?_
  exact L2 12 0 (by omega)

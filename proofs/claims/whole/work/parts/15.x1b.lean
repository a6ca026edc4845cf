noncomputable def fX1_growth_x25 (I : HI) (kind : Int32) (foot : Nat) (push : Int32) (lean : Int32) (x25_6 : Nat) (J25 : HI) : Int32 × HI :=
  (fJ6_compare_7cf53 (fX3_offOf J25 x25_6) (fX3_offOf ((fX1_nextBy I kind foot push lean).2) ((fX1_nextBy I kind foot push lean).1)), J25)
noncomputable def fX1_growth_b25 (kind : Int32) (foot : Nat) (push : Int32) (lean : Int32) (i25 : Nat) (x25_6 : Nat) (J25 : HI) : Nat × HI :=
  ((fX1_lineBehind J25 (some x25_6) kind foot push lean).1, ((fX1_lineBehind J25 (some x25_6) kind foot push lean).2))
noncomputable def fX1_growth (I : HI) (kind : Int32) (foot : Nat) (push : Int32) (lean : Int32) (m : Nat) : Int32 × HI :=
  (fun (s : Nat × HI) => fX1_growth_x25 I kind foot push lean s.1 s.2) (fo (m - 1) 1 (fun (i : Nat) (s : Nat × HI) => fX1_growth_b25 kind foot push lean i s.1 s.2) ((fX1_nextBy I kind foot push lean).1, ((fX1_nextBy I kind foot push lean).2)))
theorem knX1_growth : Kn yX1_growth cX1_growth 9 (some .int) 5 := ⟨q482, q6, ⟨by decide, by decide⟩, by decide +kernel⟩
set_option maxHeartbeats 400000 in
set_option maxRecDepth 100000 in
theorem kX1_growth (I : HI) (kind : Int32) (foot : Nat) (push : Int32) (lean : Int32) (m : Nat) (hd : vp_in (I 1 6) 7) (hf : foot < 2) (hm1 : 2 ≤ m) (hm2 : m ≤ 9) : Cx yX1_growth cX1_growth 9 (some .int) 5 125 [vr 37, vi kind, vi (nI foot), vi push, vi lean, vi (nI m)] I ((some (vi (((fX1_growth I kind foot push lean m).1))), (fX1_growth I kind foot push lean m).2)) := by
  refine Cx.mk (lv := [(0, vr 37), (1, vi kind), (2, vi (nI foot)), (3, vi push), (4, vi lean), (5, vi (nI m))]) (by decide) (Nat.le_of_ble_eq_true rfl) rfl (fun E ok hr => ?_)
  rw [fX1_growth]
  refine g_aload_n (n := 1) ok 0 dX1_growth_0 rfl rfl rfl ?_
  refine g_iload_n (n := 2) ok 1 dX1_growth_1 rfl rfl rfl ?_
  refine g_iload_n (n := 3) ok 2 dX1_growth_2 rfl rfl rfl ?_
  refine g_iload_n (n := 4) ok 3 dX1_growth_3 rfl rfl rfl ?_
  refine g_iload (n := 6) ok 4 dX1_growth_4 rfl rfl ?_
  refine g_callV (n := 9) (rest := []) (av := [vi kind, vi (nI foot), vi push, vi lean]) (j := 37) ok (kX1_nextBy I kind foot push lean (by first | with_reducible assumption | omega) (by first | with_reducible assumption | omega)) knX1_nextBy q483 q461 q462 clsX1 rfl dX1_growth_6 rfl rfl (Nat.le_of_ble_eq_true rfl) (by decide) (by decide) rfl ?_
  have hT1 := nextBy_tr (I := I) (kind := kind) (push := push) (lean := lean) (foot := foot) (by omega)
  refine g_astore (n := 11) (lv' := [(6, vr ((fX1_nextBy I kind foot push lean).1)), (0, vr 37), (1, vi kind), (2, vi (nI foot)), (3, vi push), (4, vi lean), (5, vi (nI m))]) ok dX1_growth_9 (by decide) rfl rfl ?_
  refine g_aload_n (n := 12) ok 1 dX1_growth_11 rfl rfl rfl ?_
  refine g_get (n := 15) (v := vr 1) (c := 1) (k := 0) ok dX1_growth_12 clsX1 (by decide) q121 rfl rfl rfl ?_
  refine g_aload (n := 17) ok 0 dX1_growth_15 rfl rfl ?_
  refine g_callV (n := 20) (rest := []) (av := [vr ((fX1_nextBy I kind foot push lean).1)]) (j := 1) ok (kX3_offOf ((fX1_nextBy I kind foot push lean).2) ((fX1_nextBy I kind foot push lean).1) hT1) knX3_offOf q484 q393 q394 clsX3 rfl dX1_growth_17 rfl rfl (Nat.le_of_ble_eq_true rfl) (by decide) (by decide) rfl ?_
  refine g_istore (n := 22) (lv' := [(7, vi (fX3_offOf ((fX1_nextBy I kind foot push lean).2) ((fX1_nextBy I kind foot push lean).1))), (6, vr ((fX1_nextBy I kind foot push lean).1)), (0, vr 37), (1, vi kind), (2, vi (nI foot)), (3, vi push), (4, vi lean), (5, vi (nI m))]) ok dX1_growth_20 (by decide) rfl rfl ?_
  refine g_iconst (n := 23) (v := 1) ok dX1_growth_22 rfl rfl ?_
  refine g_istore (n := 25) (lv' := [(8, vi 1), (7, vi (fX3_offOf ((fX1_nextBy I kind foot push lean).2) ((fX1_nextBy I kind foot push lean).1))), (6, vr ((fX1_nextBy I kind foot push lean).1)), (0, vr 37), (1, vi kind), (2, vi (nI foot)), (3, vi push), (4, vi lean), (5, vi (nI m))]) ok dX1_growth_23 (by decide) rfl rfl ?_
  have X25 : ∀ (x25_6 : Nat) (J25 : HI) (hl : Tr x25_6), G E 9 ((some (vi (((fX1_growth_x25 I kind foot push lean x25_6 J25).1))), (fX1_growth_x25 I kind foot push lean x25_6 J25).2)) J25 51 [(7, vi (fX3_offOf ((fX1_nextBy I kind foot push lean).2) ((fX1_nextBy I kind foot push lean).1))), (6, vr x25_6), (0, vr 37)] [] := by
    intro x25_6 J25 hl
    rw [fX1_growth_x25]
    refine g_aload_n (n := 52) ok 2 dX1_growth_51 rfl rfl rfl ?_
    refine g_get (n := 55) (v := vr 1) (c := 1) (k := 0) ok dX1_growth_52 clsX1 (by decide) q121 rfl rfl rfl ?_
    refine g_aload (n := 57) ok 1 dX1_growth_55 rfl rfl ?_
    refine g_callV (n := 60) (rest := []) (av := [vr x25_6]) (j := 1) ok (kX3_offOf J25 x25_6 hl) knX3_offOf q484 q393 q394 clsX3 rfl dX1_growth_57 rfl rfl (Nat.le_of_ble_eq_true rfl) (by decide) (by decide) rfl ?_
    refine g_iload (n := 62) ok 0 dX1_growth_60 rfl rfl ?_
    refine g_callS (n := 65) (rest := []) (av := [vi (fX3_offOf J25 x25_6), vi (fX3_offOf ((fX1_nextBy I kind foot push lean).2) ((fX1_nextBy I kind foot push lean).1))]) ok (kJ6_compare_7cf53 J25 (fX3_offOf J25 x25_6) (fX3_offOf ((fX1_nextBy I kind foot push lean).2) ((fX1_nextBy I kind foot push lean).1))) knJ6_compare_7cf53 q485 q486 dX1_growth_62 rfl rfl (Nat.le_of_ble_eq_true rfl) (by decide) (by decide) rfl ?_
    exact g_iret ok hr dX1_growth_65
  have L25 : ∀ (n25 i25 : Nat) (x25_6 : Nat) (J25 : HI) (hl : Tr x25_6) (hi : i25 + n25 = m), G E 9 ((some (vi ((((fun (s : Nat × HI) => fX1_growth_x25 I kind foot push lean s.1 s.2) (fo n25 i25 (fun (i : Nat) (s : Nat × HI) => fX1_growth_b25 kind foot push lean i s.1 s.2) (x25_6, J25))).1))), ((fun (s : Nat × HI) => fX1_growth_x25 I kind foot push lean s.1 s.2) (fo n25 i25 (fun (i : Nat) (s : Nat × HI) => fX1_growth_b25 kind foot push lean i s.1 s.2) (x25_6, J25))).2)) J25 25 [(8, vi (nI i25)), (7, vi (fX3_offOf ((fX1_nextBy I kind foot push lean).2) ((fX1_nextBy I kind foot push lean).1))), (6, vr x25_6), (0, vr 37), (1, vi kind), (2, vi (nI foot)), (3, vi push), (4, vi lean), (5, vi (nI m))] [] := by
    intro n25
    induction n25 with
    | zero =>
      intro i25 x25_6 J25 hl hi
      rw [fo_0]
      refine g_iload (n := 27) ok 0 dX1_growth_25 rfl rfl ?_
      refine g_iload (n := 29) ok 8 dX1_growth_27 rfl rfl ?_
      refine g_icmp_ge (n := 32) (tgt := 51) ok dX1_growth_29 (by decide) rfl (fun c => ?_) (fun c => absurd (nle (a := m) (b := i25) rfl rfl (by omega) (by omega)) c)
      refine g_sub [1, 2, 3] rfl ?_
      exact X25 _ _ hl
    | succ n25 ih =>
      intro i25 x25_6 J25 hl hi
      refine g_iload (n := 27) ok 0 dX1_growth_25 rfl rfl ?_
      refine g_iload (n := 29) ok 8 dX1_growth_27 rfl rfl ?_
      refine g_icmp_ge (n := 32) (tgt := 51) ok dX1_growth_29 (by decide) rfl (fun c => absurd c (nnle (a := m) (b := i25) rfl rfl (by omega) (by omega))) (fun c => ?_)
      rw [fo_s]
      show G E 9 ((some (vi ((((fun (s : Nat × HI) => fX1_growth_x25 I kind foot push lean s.1 s.2) (fo n25 (i25 + 1) (fun (i : Nat) (s : Nat × HI) => fX1_growth_b25 kind foot push lean i s.1 s.2) (fX1_growth_b25 kind foot push lean i25 x25_6 J25))).1))), ((fun (s : Nat × HI) => fX1_growth_x25 I kind foot push lean s.1 s.2) (fo n25 (i25 + 1) (fun (i : Nat) (s : Nat × HI) => fX1_growth_b25 kind foot push lean i s.1 s.2) (fX1_growth_b25 kind foot push lean i25 x25_6 J25))).2)) _ _ _ _
      rw [fX1_growth_b25]
      refine g_aload_n (n := 33) ok 3 dX1_growth_32 rfl rfl rfl ?_
      refine g_aload (n := 35) ok 2 dX1_growth_33 rfl rfl ?_
      refine g_iload_n (n := 36) ok 4 dX1_growth_35 rfl rfl rfl ?_
      refine g_iload_n (n := 37) ok 5 dX1_growth_36 rfl rfl rfl ?_
      refine g_iload_n (n := 38) ok 6 dX1_growth_37 rfl rfl rfl ?_
      refine g_iload (n := 40) ok 7 dX1_growth_38 rfl rfl ?_
      refine g_callV (n := 43) (rest := []) (av := [vo (some x25_6), vi kind, vi (nI foot), vi push, vi lean]) (j := 37) ok (kX1_lineBehind J25 (some x25_6) kind foot push lean (fun t h => by cases h; exact hl) (by first | with_reducible assumption | omega)) knX1_lineBehind q465 q467 qs14 clsX1 rfl dX1_growth_40 rfl rfl (Nat.le_of_ble_eq_true rfl) (by decide) (by decide) rfl ?_
      have hT2 := lineBehind_tr (I := J25) (o := (some x25_6)) (kind := kind) (push := push) (lean := lean) (foot := foot) (by omega)
      refine g_astore (n := 45) (lv' := [(6, vr ((fX1_lineBehind J25 (some x25_6) kind foot push lean).1)), (8, vi (nI i25)), (7, vi (fX3_offOf ((fX1_nextBy I kind foot push lean).2) ((fX1_nextBy I kind foot push lean).1))), (0, vr 37), (1, vi kind), (2, vi (nI foot)), (3, vi push), (4, vi lean), (5, vi (nI m))]) ok dX1_growth_43 (by decide) rfl rfl ?_
      refine g_iinc (n := 48) (v := nI (i25 + 1)) (lv' := [(8, vi (nI (i25 + 1))), (6, vr ((fX1_lineBehind J25 (some x25_6) kind foot push lean).1)), (7, vi (fX3_offOf ((fX1_nextBy I kind foot push lean).2) ((fX1_nextBy I kind foot push lean).1))), (0, vr 37), (1, vi kind), (2, vi (nI foot)), (3, vi push), (4, vi lean), (5, vi (nI m))]) ok 1 dX1_growth_45 rfl (iinc_n (a := i25) rfl) (by decide) rfl rfl ?_
      refine g_goto (tgt := 25) ok dX1_growth_48 (by decide) ?_
      refine g_sub [0, 2, 1, 3, 4, 5, 6, 7, 8] rfl ?_
      exact ih (i25 + 1) ((fX1_lineBehind J25 (some x25_6) kind foot push lean).1) _ (lineBehind_tr (by omega)) (by omega)
  exact L25 (m - 1) 1 ((fX1_nextBy I kind foot push lean).1) _ (nextBy_tr (by omega)) (by omega)
theorem growth_ne {I : HI} {kind push lean : Int32} {foot m a : Nat} (h : a < 39) : (fX1_growth I kind foot push lean m).2 a = I a := by
  have h2 := fo_inv (fun _ (s : Nat × HI) => s.2 a = I a) (fun (i : Nat) (s : Nat × HI) => fX1_growth_b25 kind foot push lean i s.1 s.2) (m - 1) 1 ((fX1_nextBy I kind foot push lean).1, ((fX1_nextBy I kind foot push lean).2)) (nextBy_ne h) (fun k s _ _ hs => (lineBehind_ne h).trans hs)
  unfold fX1_growth fX1_growth_x25
  exact h2

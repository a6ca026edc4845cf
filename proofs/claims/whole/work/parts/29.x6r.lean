theorem rink_step {J : HI} (hA : vp_in (J 52 14) 97) (hm : vp_in (J 52 13) 97) (hs : vp_in (J 52 16) 49 ∧ (J 52 15 = 0 → 2 * ix (J 52 16) ≤ ix (J 52 14))) (hb : J 52 15 = 0) (hc : J 52 16 = 0 ∨ ¬ J 52 13 ≤ J 52 14) : ix (fX6_readStatement J 52 16) = ix (J 52 16) + 1 ∧ vp_in (fX6_readStatement J 52 16) 49 ∧ (fX6_readStatement J 52 15 = 0 → 2 * ix (fX6_readStatement J 52 16) ≤ ix (fX6_readStatement J 52 14)) := by
  obtain ⟨_, f2, f3, f4⟩ := readStatement_facts hA hm
  have b1 := vb hs.1
  have b2 := hs.2 hb
  have b3 := vb hA
  have b4 := vb hm
  have e : fX6_readStatement J 52 16 = nI (ix (J 52 16) + 1) := by rw [f2]; exact nv_iadd (y := 1) (a := ix (J 52 16)) (b := 1) (vx hs.1) rfl
  have e2 : ix (fX6_readStatement J 52 16) = ix (J 52 16) + 1 := by rw [e]; exact ix_nI (by omega)
  have b5 : ix (J 52 16) + 1 < 49 := by
    rcases hc with c | c
    · rw [c, show ix (0 : Int32) = 0 from ix_nI (n := 0) (by omega)]; omega
    · rw [vx hm, vx hA] at c
      have := lt_of_nnle c (by omega)
      omega
  refine ⟨e2, ?_, fun h => ?_⟩
  · rw [e]; exact vp_nI b5 (by omega)
  · have := f4 h
    rw [e2]; omega
noncomputable def fX6_rink_x84 (J84 : HI) : Int32 × HI :=
  (J84 52 16, J84)
noncomputable def fX6_rink_b84 (i84 : Nat) (J84 : HI) : (Int32 × HI) ⊕ (HI) :=
  if (fX6_comes J84 i84).1 = 0 then Sum.inl ((-2000) - ((fX6_carryAll_a ((fX6_comes J84 i84).2) 0) 62 i84), (fX6_carryAll_a ((fX6_comes J84 i84).2) 0)) else Sum.inr ((fX6_comes J84 i84).2)
noncomputable def fX6_rink_c82 (K82 : HI) : Int32 × HI :=
  foE (ix (K82 52 16)) 0 (fun (i : Nat) (s : HI) => fX6_rink_b84 i s) (fun (s : HI) => fX6_rink_x84 s) K82
noncomputable def fX6_rink_c57 (K57 : HI) : Int32 × HI :=
  if K57 52 15 = 0 then fX6_rink_c82 (fX6_carryAll_a K57 1) else ((-1000) - (K57 52 14), K57)
noncomputable def fX6_rink_x20 (J20 : HI) : Int32 × HI :=
  fX6_rink_c57 (up J20 52 13 0)
noncomputable def fX6_rink_b20 (J20 : HI) : (HI) ⊕ (HI) :=
  if J20 52 15 = 0 then (if J20 52 16 = 0 then Sum.inr (fX6_readStatement J20) else (if J20 52 13 ≤ J20 52 14 then Sum.inl J20 else Sum.inr (fX6_readStatement J20))) else Sum.inl J20
noncomputable def fX6_rink_c15 (K15 : HI) : Int32 × HI :=
  fX6_rink_x20 (wh 50 (fun (s : HI) => fX6_rink_b20 s) (up K15 52 16 0))
noncomputable def fX6_rink (I : HI) : Int32 × HI :=
  fX6_rink_c15 (up (up (up I 52 10 0) 52 14 0) 52 15 0)
theorem knX6_rink : Kn yX6_rink cX6_rink 2 (some .int) 0 := ⟨q777, q8, ⟨by decide, by decide⟩, by decide +kernel⟩
set_option maxHeartbeats 400000 in
set_option maxRecDepth 100000 in
theorem kX6_rink (I : HI) (hm : vp_in (I 52 13) 97) (hd : vp_in (I 52 5) 7) : Cx yX6_rink cX6_rink 2 (some .int) 6 148 [vr 52] I ((some (vi (((fX6_rink I).1))), (fX6_rink I).2)) := by
  refine Cx.mk (lv := [(0, vr 52)]) (by decide) (Nat.le_of_ble_eq_true rfl) rfl (fun E ok hr => ?_)
  rw [fX6_rink]
  refine g_aload_n (n := 1) ok 0 dX6_rink_0 rfl rfl rfl ?_
  refine g_iconst (n := 2) (v := 0) ok dX6_rink_1 rfl rfl ?_
  refine g_put (n := 5) (J := up I 52 10 0) (c := 6) (k := 10) ok dX6_rink_2 clsX6 tyX6 tyX6_ok nmX6 (by decide) q688 rfl rfl (fun _ => rfl) (fun _ => rfl) (Nat.le_of_ble_eq_true rfl) (fs_6_10 _ _ _) up_ne rfl ?_
  refine g_aload_n (n := 6) ok 0 dX6_rink_5 rfl rfl rfl ?_
  refine g_iconst (n := 7) (v := 0) ok dX6_rink_6 rfl rfl ?_
  refine g_put (n := 10) (J := up (up I 52 10 0) 52 14 0) (c := 6) (k := 14) ok dX6_rink_7 clsX6 tyX6 tyX6_ok nmX6 (by decide) q692 rfl rfl (fun _ => rfl) (fun _ => rfl) (Nat.le_of_ble_eq_true rfl) (fs_6_14 _ _ _) up_ne rfl ?_
  refine g_aload_n (n := 11) ok 0 dX6_rink_10 rfl rfl rfl ?_
  refine g_iconst (n := 12) (v := 0) ok dX6_rink_11 rfl rfl ?_
  refine g_put (n := 15) (J := up (up (up I 52 10 0) 52 14 0) 52 15 0) (c := 6) (k := 15) ok dX6_rink_12 clsX6 tyX6 tyX6_ok nmX6 (by decide) q693 rfl rfl (bnar (by decide)) (bfit (by decide)) (Nat.le_of_ble_eq_true rfl) (fs_6_15 _ _ _) up_ne rfl ?_
  have C15_11 : ∀ (K15 : HI) (hm2 : vp_in (K15 52 13) 97) (hA2 : vp_in (K15 52 14) 97) (hd2 : vp_in (K15 52 5) 7), G E 2 ((some (vi (((fX6_rink_c15 K15).1))), (fX6_rink_c15 K15).2)) K15 15 [(0, vr 52)] [] := by
    intro K15 hm2 hA2 hd2
    rw [fX6_rink_c15]
    refine g_aload_n (n := 16) ok 0 dX6_rink_15 rfl rfl rfl ?_
    refine g_iconst (n := 17) (v := 0) ok dX6_rink_16 rfl rfl ?_
    refine g_put (n := 20) (J := up K15 52 16 0) (c := 6) (k := 16) ok dX6_rink_17 clsX6 tyX6 tyX6_ok nmX6 (by decide) q694 rfl rfl (fun _ => rfl) (fun _ => rfl) (Nat.le_of_ble_eq_true rfl) (fs_6_16 _ _ _) up_ne rfl ?_
    have X20 : ∀ (J20 : HI) (hs3 : vp_in (J20 52 16) 50) (hd3 : vp_in (J20 52 5) 7), G E 2 ((some (vi (((fX6_rink_x20 J20).1))), (fX6_rink_x20 J20).2)) J20 52 [(0, vr 52)] [] := by
      intro J20 hs3 hd3
      rw [fX6_rink_x20]
      refine g_aload_n (n := 53) ok 0 dX6_rink_52 rfl rfl rfl ?_
      refine g_iconst (n := 54) (v := 0) ok dX6_rink_53 rfl rfl ?_
      refine g_put (n := 57) (J := up J20 52 13 0) (c := 6) (k := 13) ok dX6_rink_54 clsX6 tyX6 tyX6_ok nmX6 (by decide) q691 rfl rfl (fun _ => rfl) (fun _ => rfl) (Nat.le_of_ble_eq_true rfl) (fs_6_13 _ _ _) up_ne rfl ?_
      have C57_7 : ∀ (K57 : HI) (hs4 : vp_in (K57 52 16) 50) (hd4 : vp_in (K57 52 5) 7), G E 2 ((some (vi (((fX6_rink_c57 K57).1))), (fX6_rink_c57 K57).2)) K57 57 [(0, vr 52)] [] := by
        intro K57 hs4 hd4
        rw [fX6_rink_c57]
        refine g_aload_n (n := 58) ok 0 dX6_rink_57 rfl rfl rfl ?_
        refine g_get (n := 61) (v := vi (K57 52 15)) (c := 6) (k := 15) ok dX6_rink_58 clsX6 (by decide) q693 rfl rfl rfl ?_
        refine g_if_eq (n := 64) (tgt := 73) ok dX6_rink_61 (by decide) rfl (fun c3 => ?_) (fun c3 => ?_)
        · rw [if_pos c3]
          refine g_aload_n (n := 74) ok 0 dX6_rink_73 rfl rfl rfl ?_
          refine g_aload_n (n := 75) ok 0 dX6_rink_74 rfl rfl rfl ?_
          refine g_get (n := 78) (v := vr 65) (c := 6) (k := 20) ok dX6_rink_75 clsX6 (by decide) q698 rfl rfl rfl ?_
          refine g_iconst (n := 79) (v := 1) ok dX6_rink_78 rfl rfl ?_
          refine g_callVv (n := 82) (rest := []) (av := [vr 65, vi 1]) (j := 52) ok (kX6_carryAll_a K57 1 (by decide)) knX6_carryAll q807 q809 qs32 clsX6 rfl dX6_rink_79 rfl rfl (Nat.le_of_ble_eq_true rfl) (by decide) (by decide) rfl ?_
          have C82_6 : ∀ (K82 : HI) (hs5 : vp_in (K82 52 16) 50) (hd5 : vp_in (K82 52 5) 7), G E 2 ((some (vi (((fX6_rink_c82 K82).1))), (fX6_rink_c82 K82).2)) K82 82 [(0, vr 52)] [] := by
            intro K82 hs5 hd5
            rw [fX6_rink_c82]
            have hs5b := vb hs5
            refine g_iconst (n := 83) (v := 0) ok dX6_rink_82 rfl rfl ?_
            refine g_istore_n (n := 84) (lv' := [(1, vi 0), (0, vr 52)]) ok dX6_rink_83 rfl (by decide) rfl rfl ?_
            have X84 : ∀ (J84 : HI) (hJ : J84 52 16 = K82 52 16) (hd6 : vp_in (J84 52 5) 7), G E 2 ((some (vi (((fX6_rink_x84 J84).1))), (fX6_rink_x84 J84).2)) J84 126 [(0, vr 52)] [] := by
              intro J84 hJ hd6
              rw [fX6_rink_x84]
              refine g_aload_n (n := 127) ok 0 dX6_rink_126 rfl rfl rfl ?_
              refine g_get (n := 130) (v := vi (J84 52 16)) (c := 6) (k := 16) ok dX6_rink_127 clsX6 (by decide) q694 rfl rfl rfl ?_
              exact g_iret ok hr dX6_rink_130
            have L84 : ∀ (n84 i84 : Nat) (J84 : HI) (hJ : J84 52 16 = K82 52 16) (hd6 : vp_in (J84 52 5) 7) (hi : i84 + n84 = ix (K82 52 16)), G E 2 ((some (vi (((foE n84 i84 (fun (i : Nat) (s : HI) => fX6_rink_b84 i s) (fun (s : HI) => fX6_rink_x84 s) J84).1))), (foE n84 i84 (fun (i : Nat) (s : HI) => fX6_rink_b84 i s) (fun (s : HI) => fX6_rink_x84 s) J84).2)) J84 84 [(1, vi (nI i84)), (0, vr 52)] [] := by
              intro n84
              induction n84 with
              | zero =>
                intro i84 J84 hJ hd6 hi
                rw [foE_0]
                refine g_iload_n (n := 85) ok 0 dX6_rink_84 rfl rfl rfl ?_
                refine g_aload_n (n := 86) ok 1 dX6_rink_85 rfl rfl rfl ?_
                refine g_get (n := 89) (v := vi (J84 52 16)) (c := 6) (k := 16) ok dX6_rink_86 clsX6 (by decide) q694 rfl rfl rfl ?_
                refine g_icmp_ge (n := 92) (tgt := 126) ok dX6_rink_89 (by decide) rfl (fun c => ?_) (fun c => absurd (nle (a := ix (K82 52 16)) (b := i84) (by rw [hJ]; exact vx hs5) rfl (by omega) (by omega)) c)
                refine g_sub [1] rfl ?_
                exact X84 _ hJ hd6
              | succ n84 ih =>
                intro i84 J84 hJ hd6 hi
                refine g_iload_n (n := 85) ok 0 dX6_rink_84 rfl rfl rfl ?_
                refine g_aload_n (n := 86) ok 1 dX6_rink_85 rfl rfl rfl ?_
                refine g_get (n := 89) (v := vi (J84 52 16)) (c := 6) (k := 16) ok dX6_rink_86 clsX6 (by decide) q694 rfl rfl rfl ?_
                refine g_icmp_ge (n := 92) (tgt := 126) ok dX6_rink_89 (by decide) rfl (fun c => absurd c (nnle (a := ix (K82 52 16)) (b := i84) (by rw [hJ]; exact vx hs5) rfl (by omega) (by omega))) (fun c => ?_)
                rw [foE_s]
                show G E 2 ((some (vi (((Sum.elim id (fun (s : HI) => foE n84 (i84 + 1) (fun (i : Nat) (s : HI) => fX6_rink_b84 i s) (fun (s : HI) => fX6_rink_x84 s) s) (fX6_rink_b84 i84 J84)).1))), (Sum.elim id (fun (s : HI) => foE n84 (i84 + 1) (fun (i : Nat) (s : HI) => fX6_rink_b84 i s) (fun (s : HI) => fX6_rink_x84 s) s) (fX6_rink_b84 i84 J84)).2)) _ _ _ _
                rw [fX6_rink_b84]
                refine g_aload_n (n := 93) ok 1 dX6_rink_92 rfl rfl rfl ?_
                refine g_iload_n (n := 94) ok 0 dX6_rink_93 rfl rfl rfl ?_
                refine g_callV (n := 97) (rest := []) (av := [vi (nI i84)]) (j := 52) ok (kX6_comes J84 i84 (by first | with_reducible assumption | omega) (by first | with_reducible assumption | omega)) knX6_comes q815 q817 qs34 clsX6 rfl dX6_rink_94 rfl rfl (Nat.le_of_ble_eq_true rfl) (by decide) (by decide) rfl ?_
                refine g_if_ne (n := 100) (tgt := 120) ok dX6_rink_97 (by decide) rfl (fun c5 => ?_) (fun c5 => ?_)
                · rw [if_neg c5]
                  refine g_iinc (n := 123) (v := nI (i84 + 1)) (lv' := [(1, vi (nI (i84 + 1))), (0, vr 52)]) ok 0 dX6_rink_120 rfl (iinc_n (a := i84) rfl) (by decide) rfl rfl ?_
                  refine g_goto (tgt := 84) ok dX6_rink_123 (by decide) ?_
                  exact ih (i84 + 1) _ (by rw [comes_ne (by omega)]; exact hJ) (comes_d hd6) (by omega)
                · rw [if_pos c5]
                  refine g_aload_n (n := 101) ok 1 dX6_rink_100 rfl rfl rfl ?_
                  refine g_aload_n (n := 102) ok 1 dX6_rink_101 rfl rfl rfl ?_
                  refine g_get (n := 105) (v := vr 65) (c := 6) (k := 20) ok dX6_rink_102 clsX6 (by decide) q698 rfl rfl rfl ?_
                  refine g_iconst (n := 106) (v := 0) ok dX6_rink_105 rfl rfl ?_
                  refine g_callVv (n := 109) (rest := []) (av := [vr 65, vi 0]) (j := 52) ok (kX6_carryAll_a ((fX6_comes J84 i84).2) 0 (by decide)) knX6_carryAll q807 q809 qs32 clsX6 rfl dX6_rink_106 rfl rfl (Nat.le_of_ble_eq_true rfl) (by decide) (by decide) rfl ?_
                  refine g_sipush (n := 112) (v := -2000) ok dX6_rink_109 rfl rfl ?_
                  refine g_aload_n (n := 113) ok 1 dX6_rink_112 rfl rfl rfl ?_
                  refine g_get (n := 116) (v := vr 62) (c := 6) (k := 17) ok dX6_rink_113 clsX6 (by decide) q695 rfl rfl rfl ?_
                  refine g_iload_n (n := 117) ok 0 dX6_rink_116 rfl rfl rfl ?_
                  refine g_iald (n := 118) (i := i84) (L := 49) ok dX6_rink_117 rfl rfl rfl (by omega) rfl ?_
                  refine g_isub (n := 119) ok dX6_rink_118 rfl ?_
                  exact g_iret ok hr dX6_rink_119
            exact L84 (ix (K82 52 16)) 0 _ rfl hd5 (by omega)
          exact C82_6 _ (by rw [carryAll_t_a (by omega) (by omega)]; exact hs4) (by rw [carryAll_t_a (by omega) (by omega)]; exact hd4)
        · rw [if_neg c3]
          refine g_sipush (n := 67) (v := -1000) ok dX6_rink_64 rfl rfl ?_
          refine g_aload_n (n := 68) ok 0 dX6_rink_67 rfl rfl rfl ?_
          refine g_get (n := 71) (v := vi (K57 52 14)) (c := 6) (k := 14) ok dX6_rink_68 clsX6 (by decide) q692 rfl rfl rfl ?_
          refine g_isub (n := 72) ok dX6_rink_71 rfl ?_
          exact g_iret ok hr dX6_rink_72
      exact C57_7 _ (by rw [up_k (by omega)]; exact hs3) (by rw [up_k (by omega)]; exact hd3)
    have L20 : ∀ (n20 : Nat) (J20 : HI) (hm7 : vp_in (J20 52 13) 97) (hA7 : vp_in (J20 52 14) 97) (hs7 : vp_in (J20 52 16) 49 ∧ (J20 52 15 = 0 → 2 * ix (J20 52 16) ≤ ix (J20 52 14))) (hd7 : vp_in (J20 52 5) 7) (hm : 49 - ix (J20 52 16) < n20), G E 2 ((some (vi (((fX6_rink_x20 (wh n20 (fun (s : HI) => fX6_rink_b20 s) J20)).1))), (fX6_rink_x20 (wh n20 (fun (s : HI) => fX6_rink_b20 s) J20)).2)) J20 20 [(0, vr 52)] [] := by
      intro n20
      induction n20 with
      | zero =>
        intro J20 hm7 hA7 hs7 hd7 hm
        exact absurd hm (Nat.not_lt_zero _)
      | succ n20 ih =>
        intro J20 hm7 hA7 hs7 hd7 hm
        rw [wh_s]
        show G E 2 ((some (vi (((fX6_rink_x20 (Sum.elim id (fun (s : HI) => wh n20 (fun (s : HI) => fX6_rink_b20 s) s) (fX6_rink_b20 J20))).1))), (fX6_rink_x20 (Sum.elim id (fun (s : HI) => wh n20 (fun (s : HI) => fX6_rink_b20 s) s) (fX6_rink_b20 J20))).2)) _ _ _ _
        rw [fX6_rink_b20]
        refine g_aload_n (n := 21) ok 0 dX6_rink_20 rfl rfl rfl ?_
        refine g_get (n := 24) (v := vi (J20 52 15)) (c := 6) (k := 15) ok dX6_rink_21 clsX6 (by decide) q693 rfl rfl rfl ?_
        refine g_if_ne (n := 27) (tgt := 52) ok dX6_rink_24 (by decide) rfl (fun c8 => ?_) (fun c8 => ?_)
        · rw [if_neg c8]
          exact X20 J20 (vp_mono hs7.1 (by omega)) hd7
        · rw [if_pos c8]
          have hb7 := c8
          refine g_aload_n (n := 28) ok 0 dX6_rink_27 rfl rfl rfl ?_
          refine g_get (n := 31) (v := vi (J20 52 16)) (c := 6) (k := 16) ok dX6_rink_28 clsX6 (by decide) q694 rfl rfl rfl ?_
          refine g_if_eq (n := 34) (tgt := 45) ok dX6_rink_31 (by decide) rfl (fun c9 => ?_) (fun c9 => ?_)
          · rw [if_pos c9]
            have hc7 : J20 52 16 = 0 ∨ ¬ J20 52 13 ≤ J20 52 14 := Or.inl c9
            refine g_aload_n (n := 46) ok 0 dX6_rink_45 rfl rfl rfl ?_
            refine g_callVv (n := 49) (rest := []) (av := []) (j := 52) ok (kX6_readStatement J20 hA7 hm7 hs7.1) knX6_readStatement q778 q780 qs26 clsX6 rfl dX6_rink_46 rfl rfl (Nat.le_of_ble_eq_true rfl) (by decide) (by decide) rfl ?_
            have hf7 := readStatement_facts hA7 hm7
            have hg7 := rink_step hA7 hm7 hs7 hb7 hc7
            have hg7b := vb hg7.2.1
            refine g_goto (tgt := 20) ok dX6_rink_49 (by decide) ?_
            exact ih _ (by rw [hf7.1 52 13 (by omega) (by omega) (by omega) (by omega)]; exact hm7) hf7.2.2.1 hg7.2 (by rw [hf7.1 52 5 (by omega) (by omega) (by omega) (by omega)]; exact hd7) (by have := hg7.1; omega)
          · rw [if_neg c9]
            refine g_aload_n (n := 35) ok 0 dX6_rink_34 rfl rfl rfl ?_
            refine g_get (n := 38) (v := vi (J20 52 14)) (c := 6) (k := 14) ok dX6_rink_35 clsX6 (by decide) q692 rfl rfl rfl ?_
            refine g_aload_n (n := 39) ok 0 dX6_rink_38 rfl rfl rfl ?_
            refine g_get (n := 42) (v := vi (J20 52 13)) (c := 6) (k := 13) ok dX6_rink_39 clsX6 (by decide) q691 rfl rfl rfl ?_
            refine g_icmp_ge (n := 45) (tgt := 52) ok dX6_rink_42 (by decide) rfl (fun c10 => ?_) (fun c10 => ?_)
            · rw [if_pos c10]
              exact X20 J20 (vp_mono hs7.1 (by omega)) hd7
            · rw [if_neg c10]
              have hc7 : J20 52 16 = 0 ∨ ¬ J20 52 13 ≤ J20 52 14 := Or.inr c10
              refine g_aload_n (n := 46) ok 0 dX6_rink_45 rfl rfl rfl ?_
              refine g_callVv (n := 49) (rest := []) (av := []) (j := 52) ok (kX6_readStatement J20 hA7 hm7 hs7.1) knX6_readStatement q778 q780 qs26 clsX6 rfl dX6_rink_46 rfl rfl (Nat.le_of_ble_eq_true rfl) (by decide) (by decide) rfl ?_
              have hf7 := readStatement_facts hA7 hm7
              have hg7 := rink_step hA7 hm7 hs7 hb7 hc7
              have hg7b := vb hg7.2.1
              refine g_goto (tgt := 20) ok dX6_rink_49 (by decide) ?_
              exact ih _ (by rw [hf7.1 52 13 (by omega) (by omega) (by omega) (by omega)]; exact hm7) hf7.2.2.1 hg7.2 (by rw [hf7.1 52 5 (by omega) (by omega) (by omega) (by omega)]; exact hd7) (by have := hg7.1; omega)
    exact L20 50 _ (by rw [up_k (by omega)]; exact hm2) (by rw [up_k (by omega)]; exact hA2) (by rw [up_v]; exact ⟨vp_b (by decide +kernel), fun _ => Nat.zero_le _⟩) (by rw [up_k (by omega)]; exact hd2) (by omega)
  exact C15_11 _ (by rw [up_k (by omega), up_k (by omega), up_k (by omega)]; exact hm) (by rw [up_k (by omega), up_v]; exact vp_b (by decide +kernel)) (by rw [up_k (by omega), up_k (by omega), up_k (by omega)]; exact hd)

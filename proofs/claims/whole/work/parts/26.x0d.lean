theorem tellOne_k {I : HI} {start : Int32} {a : Nat} (h : vp_in (I 1 6) 7) (h1 : 47 ≤ a) (h2 : a ≤ 49) : fX0_tellOne I start a = I a := by
  unfold fX0_tellOne
  split
  · exact up_ne a (by omega)
  · split
    · rw [up_ne a (by omega), up_ne a (by omega)]
    · split
      · exact up_ne a (by omega)
      · split
        · exact up_ne a (by omega)
        · split
          · exact addTrace_k h (by omega)
          · exact up_ne a (by omega)
theorem tellOne_d {I : HI} {start : Int32} (h : vp_in (I 1 6) 7) : vp_in (fX0_tellOne I start 1 6) 7 := by
  unfold fX0_tellOne
  split
  · rw [up_ne2 (by omega)]; exact h
  · split
    · rw [up_k (by omega), up_k (by omega)]; exact h
    · split
      · rw [up_ne2 (by omega)]; exact h
      · split
        · rw [up_ne2 (by omega)]; exact h
        · split
          · exact addTrace_d h
          · rw [up_v]; exact vp_nI (n := 0) (by omega) (by omega)
noncomputable def fX0_tellTo_x33 (J33 : HI) : Int32 × HI :=
  (J33 47 3, (up J33 47 1 0))
noncomputable def fX0_tellTo_b33 (i33 : Nat) (J33 : HI) : HI :=
  (fX0_tellOne J33 (J33 49 i33))
noncomputable def fX0_tellTo_26 (K4 : HI) (res : Int32) : Int32 × HI :=
  if res = 0 then fX0_tellTo_x33 (fo (ix (K4 47 3)) 0 (fun (i : Nat) (s : HI) => fX0_tellTo_b33 i s) K4) else (res, (up K4 47 1 0))
noncomputable def fX0_tellTo_c4 (v3 : Int32) (K4 : HI) : Int32 × HI :=
  fX0_tellTo_26 K4 (if v3 = 0 then (-1000) - (K4 47 4) else fX0_faultyOne K4 (K4 1 6))
noncomputable def fX0_tellTo (I : HI) : Int32 × HI :=
  fX0_tellTo_c4 ((fX0_passAll I).1) ((fX0_passAll I).2)
theorem knX0_tellTo : Kn yX0_tellTo cX0_tellTo 4 (some .int) 1 := ⟨q207, q7, ⟨by decide, by decide⟩, by decide +kernel⟩
set_option maxHeartbeats 400000 in
set_option maxRecDepth 100000 in
theorem kX0_tellTo (I : HI) (hm : vp_in (I 47 1) 97) (hd : vp_in (I 1 6) 7) : Cx yX0_tellTo cX0_tellTo 4 (some .int) 5 122 [vr 47, vr 1] I ((some (vi (((fX0_tellTo I).1))), (fX0_tellTo I).2)) := by
  refine Cx.mk (lv := [(0, vr 47), (1, vr 1)]) (by decide) (Nat.le_of_ble_eq_true rfl) rfl (fun E ok hr => ?_)
  rw [fX0_tellTo]
  refine g_aload_n (n := 1) ok 0 dX0_tellTo_0 rfl rfl rfl ?_
  refine g_callV (n := 4) (rest := []) (av := []) (j := 47) ok (kX0_passAll I (by first | with_reducible assumption | omega)) knX0_passAll q208 q210 qs1 clsX0 rfl dX0_tellTo_1 rfl rfl (Nat.le_of_ble_eq_true rfl) (by decide) (by decide) rfl ?_
  have C4_9 : ∀ (v3 : Int32) (K4 : HI) (hm4 : vp_in (K4 47 1) 97) (hd4 : vp_in (K4 1 6) 7) (hs4 : vp_in (K4 47 3) 97) (hp4 : vp_in (K4 47 4) 97) (ho4 : ∀ j, j < ix (K4 47 3) → vp_in (K4 49 j) 97), G E 4 ((some (vi (((fX0_tellTo_c4 v3 K4).1))), (fX0_tellTo_c4 v3 K4).2)) K4 4 [(0, vr 47), (1, vr 1)] [vi v3] := by
    intro v3 K4 hm4 hd4 hs4 hp4 ho4
    rw [fX0_tellTo_c4]
    have hs4b := vb hs4
    have J26_7 : ∀ (res : Int32) (hres : res = 0 → ∀ i, i < ix (K4 47 3) → okS K4 (K4 49 i)), G E 4 ((some (vi (((fX0_tellTo_26 K4 res).1))), (fX0_tellTo_26 K4 res).2)) K4 26 [(0, vr 47), (1, vr 1)] [vi res] := by
      intro res hres
      rw [fX0_tellTo_26]
      refine g_istore_n (n := 27) (lv' := [(2, vi res), (0, vr 47), (1, vr 1)]) ok dX0_tellTo_26 rfl (by decide) rfl rfl ?_
      refine g_iload_n (n := 28) ok 0 dX0_tellTo_27 rfl rfl rfl ?_
      refine g_if_ne (n := 31) (tgt := 63) ok dX0_tellTo_28 (by decide) rfl (fun c8 => ?_) (fun c8 => ?_)
      · rw [if_neg c8]
        refine g_aload_n (n := 64) ok 1 dX0_tellTo_63 rfl rfl rfl ?_
        refine g_iconst (n := 65) (v := 0) ok dX0_tellTo_64 rfl rfl ?_
        refine g_put (n := 68) (J := up K4 47 1 0) (c := 0) (k := 1) ok dX0_tellTo_65 clsX0 tyX0 tyX0_ok nmX0 (by decide) q138 rfl rfl (fun _ => rfl) (fun _ => rfl) (Nat.le_of_ble_eq_true rfl) (fs_0_1 _ _ _) up_ne rfl ?_
        refine g_iload_n (n := 69) ok 0 dX0_tellTo_68 rfl rfl rfl ?_
        exact g_iret ok hr dX0_tellTo_69
      · rw [if_pos c8]
        have hall := hres c8
        refine g_iconst (n := 32) (v := 0) ok dX0_tellTo_31 rfl rfl ?_
        refine g_istore_n (n := 33) (lv' := [(3, vi 0), (2, vi res), (0, vr 47), (1, vr 1)]) ok dX0_tellTo_32 rfl (by decide) rfl rfl ?_
        have X33 : ∀ (J33 : HI) (hJ : ∀ a, 47 ≤ a → a ≤ 49 → J33 a = K4 a) (hd5 : vp_in (J33 1 6) 7), G E 4 ((some (vi (((fX0_tellTo_x33 J33).1))), (fX0_tellTo_x33 J33).2)) J33 58 [(0, vr 47)] [] := by
          intro J33 hJ hd5
          rw [fX0_tellTo_x33]
          refine g_aload_n (n := 59) ok 0 dX0_tellTo_58 rfl rfl rfl ?_
          refine g_get (n := 62) (v := vi (J33 47 3)) (c := 0) (k := 3) ok dX0_tellTo_59 clsX0 (by decide) q141 rfl rfl rfl ?_
          refine g_istore_n (n := 63) (lv' := [(2, vi (J33 47 3)), (0, vr 47)]) ok dX0_tellTo_62 rfl (by decide) rfl rfl ?_
          refine g_aload_n (n := 64) ok 1 dX0_tellTo_63 rfl rfl rfl ?_
          refine g_iconst (n := 65) (v := 0) ok dX0_tellTo_64 rfl rfl ?_
          refine g_put (n := 68) (J := up J33 47 1 0) (c := 0) (k := 1) ok dX0_tellTo_65 clsX0 tyX0 tyX0_ok nmX0 (by decide) q138 rfl rfl (fun _ => rfl) (fun _ => rfl) (Nat.le_of_ble_eq_true rfl) (fs_0_1 _ _ _) up_ne rfl ?_
          refine g_iload_n (n := 69) ok 0 dX0_tellTo_68 rfl rfl rfl ?_
          exact g_iret ok hr dX0_tellTo_69
        have L33 : ∀ (n33 i33 : Nat) (J33 : HI) (hJ : ∀ a, 47 ≤ a → a ≤ 49 → J33 a = K4 a) (hd5 : vp_in (J33 1 6) 7) (hi : i33 + n33 = ix (K4 47 3)), G E 4 ((some (vi (((fX0_tellTo_x33 (fo n33 i33 (fun (i : Nat) (s : HI) => fX0_tellTo_b33 i s) J33)).1))), (fX0_tellTo_x33 (fo n33 i33 (fun (i : Nat) (s : HI) => fX0_tellTo_b33 i s) J33)).2)) J33 33 [(3, vi (nI i33)), (0, vr 47), (1, vr 1)] [] := by
          intro n33
          induction n33 with
          | zero =>
            intro i33 J33 hJ hd5 hi
            rw [fo_0]
            refine g_iload_n (n := 34) ok 0 dX0_tellTo_33 rfl rfl rfl ?_
            refine g_aload_n (n := 35) ok 1 dX0_tellTo_34 rfl rfl rfl ?_
            refine g_get (n := 38) (v := vi (J33 47 3)) (c := 0) (k := 3) ok dX0_tellTo_35 clsX0 (by decide) q141 rfl rfl rfl ?_
            refine g_icmp_ge (n := 41) (tgt := 58) ok dX0_tellTo_38 (by decide) rfl (fun c => ?_) (fun c => absurd (nle (a := ix (K4 47 3)) (b := i33) (by rw [hJ 47 (by omega) (by omega)]; exact vx hs4) rfl (by omega) (by omega)) c)
            refine g_sub [1] rfl ?_
            exact X33 _ hJ hd5
          | succ n33 ih =>
            intro i33 J33 hJ hd5 hi
            refine g_iload_n (n := 34) ok 0 dX0_tellTo_33 rfl rfl rfl ?_
            refine g_aload_n (n := 35) ok 1 dX0_tellTo_34 rfl rfl rfl ?_
            refine g_get (n := 38) (v := vi (J33 47 3)) (c := 0) (k := 3) ok dX0_tellTo_35 clsX0 (by decide) q141 rfl rfl rfl ?_
            refine g_icmp_ge (n := 41) (tgt := 58) ok dX0_tellTo_38 (by decide) rfl (fun c => absurd c (nnle (a := ix (K4 47 3)) (b := i33) (by rw [hJ 47 (by omega) (by omega)]; exact vx hs4) rfl (by omega) (by omega))) (fun c => ?_)
            rw [fo_s]
            show G E 4 ((some (vi (((fX0_tellTo_x33 (fo n33 (i33 + 1) (fun (i : Nat) (s : HI) => fX0_tellTo_b33 i s) (fX0_tellTo_b33 i33 J33))).1))), (fX0_tellTo_x33 (fo n33 (i33 + 1) (fun (i : Nat) (s : HI) => fX0_tellTo_b33 i s) (fX0_tellTo_b33 i33 J33))).2)) _ _ _ _
            rw [fX0_tellTo_b33]
            refine g_aload_n (n := 42) ok 1 dX0_tellTo_41 rfl rfl rfl ?_
            refine g_aload_n (n := 43) ok 1 dX0_tellTo_42 rfl rfl rfl ?_
            refine g_get (n := 46) (v := vr 49) (c := 0) (k := 2) ok dX0_tellTo_43 clsX0 (by decide) q140 rfl rfl rfl ?_
            refine g_iload_n (n := 47) ok 0 dX0_tellTo_46 rfl rfl rfl ?_
            refine g_iald (n := 48) (i := i33) (L := 96) ok dX0_tellTo_47 rfl rfl rfl (by omega) rfl ?_
            refine g_aload_n (n := 49) ok 2 dX0_tellTo_48 rfl rfl rfl ?_
            refine g_callVv (n := 52) (rest := []) (av := [vi (J33 49 i33), vr 1]) (j := 47) ok (kX0_tellOne J33 (J33 49 i33) (by rw [hJ 47 (by omega) (by omega)]; exact hm4) hd5 (by rw [hJ 49 (by omega) (by omega)]; exact okS_congr (by rw [hJ 47 (by omega) (by omega)]) (hJ 48 (by omega) (by omega)) (hall i33 (by omega)))) knX0_tellOne q273 q275 qs12 clsX0 rfl dX0_tellTo_49 rfl rfl (Nat.le_of_ble_eq_true rfl) (by decide) (by decide) rfl ?_
            refine g_iinc (n := 55) (v := nI (i33 + 1)) (lv' := [(3, vi (nI (i33 + 1))), (0, vr 47), (1, vr 1)]) ok 0 dX0_tellTo_52 rfl (iinc_n (a := i33) rfl) (by decide) rfl rfl ?_
            refine g_goto (tgt := 33) ok dX0_tellTo_55 (by decide) ?_
            exact ih (i33 + 1) _ (fun a h1 h2 => (tellOne_k hd5 h1 h2).trans (hJ a h1 h2)) (tellOne_d hd5) (by omega)
        refine g_sub [0, 2, 3] rfl ?_
        exact L33 (ix (K4 47 3)) 0 _ (fun _ _ _ => rfl) hd4 (by omega)
    refine g_if_eq (n := 7) (tgt := 18) ok dX0_tellTo_4 (by decide) rfl (fun c4 => ?_) (fun c4 => ?_)
    · try simp only [if_pos c4]
      refine g_sipush (n := 21) (v := -1000) ok dX0_tellTo_18 rfl rfl ?_
      refine g_aload_n (n := 22) ok 0 dX0_tellTo_21 rfl rfl rfl ?_
      refine g_get (n := 25) (v := vi (K4 47 4)) (c := 0) (k := 4) ok dX0_tellTo_22 clsX0 (by decide) q142 rfl rfl rfl ?_
      refine g_isub (n := 26) ok dX0_tellTo_25 rfl ?_
      exact J26_7 _ (fun h => absurd h (m1000 hp4))
    · try simp only [if_neg c4]
      refine g_aload_n (n := 8) ok 0 dX0_tellTo_7 rfl rfl rfl ?_
      refine g_aload_n (n := 9) ok 1 dX0_tellTo_8 rfl rfl rfl ?_
      refine g_get (n := 12) (v := vi (K4 1 6)) (c := 3) (k := 6) ok dX0_tellTo_9 clsX3 (by decide) q82 rfl rfl rfl ?_
      refine g_callV (n := 15) (rest := []) (av := [vi (K4 1 6)]) (j := 47) ok (kX0_faultyOne K4 (K4 1 6) (by first | with_reducible assumption | omega) (by first | with_reducible assumption | omega)) knX0_faultyOne q233 q235 qs7 clsX0 rfl dX0_tellTo_12 rfl rfl (Nat.le_of_ble_eq_true rfl) (by decide) (by decide) rfl ?_
      refine g_goto (tgt := 26) ok dX0_tellTo_15 (by decide) ?_
      exact J26_7 _ (faulty_okS ho4)
  exact C4_9 ((fX0_passAll I).1) _ (by rw [(passAll_facts hm).2.1]; exact hm) (by rw [(passAll_facts hm).1 1 (by omega) (by omega)]; exact hd) (passAll_facts hm).2.2.1 (passAll_facts hm).2.2.2.1 (passAll_facts hm).2.2.2.2

noncomputable def fX5_rink (I : HI) : Int32 × HI :=
  ((fX0_tellTo I).1, ((fX0_tellTo I).2))
theorem knX5_rink : Kn yX5_rink cX5_rink 1 (some .int) 0 := ⟨q203, q1, ⟨by decide, by decide⟩, by decide +kernel⟩
set_option maxHeartbeats 400000 in
set_option maxRecDepth 100000 in
theorem kX5_rink (I : HI) (hm : vp_in (I 47 1) 97) (hd : vp_in (I 1 6) 7) : Cx yX5_rink cX5_rink 1 (some .int) 6 145 [vr 0] I ((some (vi (((fX5_rink I).1))), (fX5_rink I).2)) := by
  refine Cx.mk (lv := [(0, vr 0)]) (by decide) (Nat.le_of_ble_eq_true rfl) rfl (fun E ok hr => ?_)
  rw [fX5_rink]
  refine g_aload_n (n := 1) ok 0 dX5_rink_0 rfl rfl rfl ?_
  refine g_get (n := 4) (v := vr 47) (c := 5) (k := 5) ok dX5_rink_1 clsX5 (by decide) q159 rfl rfl rfl ?_
  refine g_aload_n (n := 5) ok 0 dX5_rink_4 rfl rfl rfl ?_
  refine g_get (n := 8) (v := vr 1) (c := 5) (k := 0) ok dX5_rink_5 clsX5 (by decide) q154 rfl rfl rfl ?_
  refine g_callV (n := 11) (rest := []) (av := [vr 1]) (j := 47) ok (kX0_tellTo I (by first | with_reducible assumption | omega) (by first | with_reducible assumption | omega)) knX0_tellTo q204 q205 q206 clsX0 rfl dX5_rink_8 rfl rfl (Nat.le_of_ble_eq_true rfl) (by decide) (by decide) rfl ?_
  exact g_iret ok hr dX5_rink_11

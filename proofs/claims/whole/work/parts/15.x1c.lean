noncomputable def fX1_drawBelow (I : HI) (b : Nat) : Int32 × HI :=
  (((((up I 37 2 (((I 37 2) * 1103515245) + 12345)) 37 2) &&& 2147483647) / 65536) - ((((up I 37 2 (((I 37 2) * 1103515245) + 12345)) 37 2) &&& 2147483647) / 65536) / (nI b) * (nI b), (up I 37 2 (((I 37 2) * 1103515245) + 12345)))
theorem knX1_drawBelow : Kn yX1_drawBelow cX1_drawBelow 2 (some .int) 1 := ⟨q638, q6, ⟨by decide, by decide⟩, by decide +kernel⟩
set_option maxHeartbeats 400000 in
set_option maxRecDepth 100000 in
theorem kX1_drawBelow (I : HI) (b : Nat) (hb : 0 < b) (hb2 : b < 100) : Cx yX1_drawBelow cX1_drawBelow 2 (some .int) 0 0 [vr 37, vi (nI b)] I ((some (vi (((fX1_drawBelow I b).1))), (fX1_drawBelow I b).2)) := by
  refine Cx.mk (lv := [(0, vr 37), (1, vi (nI b))]) (by decide) (Nat.le_of_ble_eq_true rfl) rfl (fun E ok hr => ?_)
  rw [fX1_drawBelow]
  refine g_aload_n (n := 1) ok 0 dX1_drawBelow_0 rfl rfl rfl ?_
  refine g_aload_n (n := 2) ok 0 dX1_drawBelow_1 rfl rfl rfl ?_
  refine g_get (n := 5) (v := vi (I 37 2)) (c := 1) (k := 2) ok dX1_drawBelow_2 clsX1 (by decide) q123 rfl rfl rfl ?_
  refine g_ldc (n := 7) ok dX1_drawBelow_5 q639 rfl ?_
  refine g_imul (n := 8) ok dX1_drawBelow_7 rfl ?_
  refine g_sipush (n := 11) (v := 12345) ok dX1_drawBelow_8 rfl rfl ?_
  refine g_iadd (n := 12) ok dX1_drawBelow_11 rfl ?_
  refine g_put (n := 15) (J := up I 37 2 (((I 37 2) * 1103515245) + 12345)) (c := 1) (k := 2) ok dX1_drawBelow_12 clsX1 tyX1 tyX1_ok nmX1 (by decide) q123 rfl rfl (fun _ => rfl) (fun _ => rfl) (Nat.le_of_ble_eq_true rfl) (fs_1_2 _ _ _) up_ne rfl ?_
  refine g_iload_n (n := 16) ok 1 dX1_drawBelow_15 rfl rfl rfl ?_
  refine g_if_le (n := 19) (tgt := 34) ok dX1_drawBelow_16 (by decide) rfl (fun c1 => ?_) (fun c1 => ?_)
  · exact absurd c1 (nnle (a := b) (b := 0) rfl rfl (by omega) (by omega))
  · refine g_aload_n (n := 20) ok 0 dX1_drawBelow_19 rfl rfl rfl ?_
    refine g_get (n := 23) (v := vi ((up I 37 2 (((I 37 2) * 1103515245) + 12345)) 37 2)) (c := 1) (k := 2) ok dX1_drawBelow_20 clsX1 (by decide) q123 rfl rfl rfl ?_
    refine g_ldc (n := 25) ok dX1_drawBelow_23 q640 rfl ?_
    refine g_iand (n := 26) ok dX1_drawBelow_25 rfl ?_
    refine g_ldc (n := 28) ok dX1_drawBelow_26 q641 rfl ?_
    refine g_idiv (n := 29) ok dX1_drawBelow_28 (by decide) rfl ?_
    refine g_iload_n (n := 30) ok 1 dX1_drawBelow_29 rfl rfl rfl ?_
    refine g_irem (n := 31) ok dX1_drawBelow_30 (nI_ne0 (by omega) (by omega)) rfl ?_
    refine g_goto (tgt := 35) ok dX1_drawBelow_31 (by decide) ?_
    exact g_iret ok hr dX1_drawBelow_35
theorem drawBelow_in {I : HI} {b : Nat} (h0 : 0 < b) (hb : b < 100) : vp_in (fX1_drawBelow I b).1 b := by
  unfold fX1_drawBelow
  show vp_in (((_ &&& 2147483647) / 65536) - ((_ &&& 2147483647) / 65536) / nI b * nI b) b
  obtain ⟨k, hk, e⟩ := pk_andE (up I 37 2 (((I 37 2) * 1103515245) + 12345) 37 2) (m := 2147483647) 31 (by decide +kernel)
  rw [e, show (65536 : Int32) = nI 65536 from rfl, pk_div hk (by omega) (by omega), pk_rem (by omega) h0 (by omega)]
  exact vp_in_nI (Nat.mod_lt _ h0) (by omega)

noncomputable def fX1_practice_x34 (what : Int32) (x34_7 : Int32) (x34_6 : Int32) (x34_5 : Option Nat) (x34_4 : Option Nat) (J34 : HI) : Int32 × HI :=
  if what = 0 then (x34_6, J34) else (x34_7, J34)
noncomputable def fX1_practice_114 (x34_7 : Int32) (x34_6 : Int32) (v35 : Nat) (K98 : HI) (v46 : Option Nat) (v51 : Option Nat) : Int32 × Int32 × Option Nat × Option Nat × HI :=
  if 60 ≤ fX3_offOf K98 v35 then (x34_7 + 0, x34_6 + (fX3_offOf K98 v35), v51, v46, K98) else (x34_7 + 1, x34_6 + (fX3_offOf K98 v35), v51, v46, K98)
noncomputable def fX1_practice_c98 (x34_7 : Int32) (x34_6 : Int32) (x34_5 : Option Nat) (x34_4 : Option Nat) (v10 : Nat) (v35 : Nat) (K98 : HI) : Int32 × Int32 × Option Nat × Option Nat × HI :=
  fX1_practice_114 x34_7 x34_6 v35 K98 (if nI v10 = 0 then some v35 else x34_4) (if nI v10 = 0 then x34_5 else some v35)
noncomputable def fX1_practice_80 (x34_7 : Int32) (x34_6 : Int32) (x34_5 : Option Nat) (x34_4 : Option Nat) (v8 : Int32) (v9 : Int32) (v10 : Nat) (K67 : HI) (v31 : Option Nat) : Int32 × Int32 × Option Nat × Option Nat × HI :=
  fX1_practice_c98 x34_7 x34_6 x34_5 x34_4 v10 ((fX1_lineBehind K67 v31 (K67 1 3) v10 v9 v8).1) ((fX1_lineBehind K67 v31 (K67 1 3) v10 v9 v8).2)
noncomputable def fX1_practice_c67 (x34_7 : Int32) (x34_6 : Int32) (x34_5 : Option Nat) (x34_4 : Option Nat) (v8 : Int32) (v9 : Int32) (v10 : Nat) (K67 : HI) : Int32 × Int32 × Option Nat × Option Nat × HI :=
  fX1_practice_80 x34_7 x34_6 x34_5 x34_4 v8 v9 v10 K67 (if nI v10 = 0 then x34_4 else x34_5)
noncomputable def fX1_practice_b34 (i34 : Nat) (x34_7 : Int32) (x34_6 : Int32) (x34_5 : Option Nat) (x34_4 : Option Nat) (J34 : HI) : Int32 × Int32 × Option Nat × Option Nat × HI :=
  fX1_practice_c67 x34_7 x34_6 x34_5 x34_4 (nI ((ix ((fX1_drawBelow ((fX1_drawBelow ((fX1_drawBelow J34 2).2) 9).2) 9).1)) + 1)) (nI ((ix ((fX1_drawBelow ((fX1_drawBelow J34 2).2) 9).1)) + 1)) (ix ((fX1_drawBelow J34 2).1)) ((fX1_drawBelow ((fX1_drawBelow ((fX1_drawBelow J34 2).2) 9).2) 9).2)
noncomputable def fX1_practice_c5 (m : Nat) (what : Int32) (K5 : HI) : Int32 × HI :=
  (fun (s : Int32 × Int32 × Option Nat × Option Nat × HI) => fX1_practice_x34 what s.1 s.2.1 s.2.2.1 s.2.2.2.1 s.2.2.2.2) (fo m 0 (fun (i : Nat) (s : Int32 × Int32 × Option Nat × Option Nat × HI) => fX1_practice_b34 i s.1 s.2.1 s.2.2.1 s.2.2.2.1 s.2.2.2.2) (0, 0, fX3_latestOf K5 1, fX3_latestOf K5 0, K5))
noncomputable def fX1_practice (I : HI) (m : Nat) (z : Int32) (what : Int32) : Int32 × HI :=
  fX1_practice_c5 m what (up I 37 2 z)
theorem knX1_practice : Kn yX1_practice cX1_practice 14 (some .int) 3 := ⟨q634, q6, ⟨by decide, by decide⟩, by decide +kernel⟩
set_option maxHeartbeats 400000 in
set_option maxRecDepth 100000 in
theorem kX1_practice (I : HI) (m : Nat) (z : Int32) (what : Int32) (hd : vp_in (I 1 6) 7) (hm : m ≤ 20) : Cx yX1_practice cX1_practice 14 (some .int) 4 101 [vr 37, vi (nI m), vi z, vi what] I ((some (vi (((fX1_practice I m z what).1))), (fX1_practice I m z what).2)) := by
  refine Cx.mk (lv := [(0, vr 37), (1, vi (nI m)), (2, vi z), (3, vi what)]) (by decide) (Nat.le_of_ble_eq_true rfl) rfl (fun E ok hr => ?_)
  rw [fX1_practice]
  refine g_aload_n (n := 1) ok 0 dX1_practice_0 rfl rfl rfl ?_
  refine g_iload_n (n := 2) ok 2 dX1_practice_1 rfl rfl rfl ?_
  refine g_put (n := 5) (J := up I 37 2 z) (c := 1) (k := 2) ok dX1_practice_2 clsX1 tyX1 tyX1_ok nmX1 (by decide) q123 rfl rfl (fun _ => rfl) (fun _ => rfl) (Nat.le_of_ble_eq_true rfl) (fs_1_2 _ _ _) up_ne rfl ?_
  have C5_59 : ∀ (K5 : HI) (hd2 : vp_in (K5 1 6) 7), G E 14 ((some (vi (((fX1_practice_c5 m what K5).1))), (fX1_practice_c5 m what K5).2)) K5 5 [(0, vr 37), (1, vi (nI m)), (3, vi what)] [] := by
    intro K5 hd2
    rw [fX1_practice_c5]
    refine g_aload_n (n := 6) ok 0 dX1_practice_5 rfl rfl rfl ?_
    refine g_get (n := 9) (v := vr 1) (c := 1) (k := 0) ok dX1_practice_6 clsX1 (by decide) q121 rfl rfl rfl ?_
    refine g_iconst (n := 10) (v := 0) ok dX1_practice_9 rfl rfl ?_
    refine g_callV (n := 13) (rest := []) (av := [vi 0]) (j := 1) ok (kX3_latestOf K5 0 (by first | with_reducible assumption | omega)) knX3_latestOf q464 q289 q290 clsX3 rfl dX1_practice_10 rfl rfl (Nat.le_of_ble_eq_true rfl) (by decide) (by decide) rfl ?_
    refine g_astore (n := 15) (lv' := [(4, vo (fX3_latestOf K5 0)), (0, vr 37), (1, vi (nI m)), (3, vi what)]) ok dX1_practice_13 (by decide) rfl rfl ?_
    refine g_aload_n (n := 16) ok 1 dX1_practice_15 rfl rfl rfl ?_
    refine g_get (n := 19) (v := vr 1) (c := 1) (k := 0) ok dX1_practice_16 clsX1 (by decide) q121 rfl rfl rfl ?_
    refine g_iconst (n := 20) (v := 1) ok dX1_practice_19 rfl rfl ?_
    refine g_callV (n := 23) (rest := []) (av := [vi 1]) (j := 1) ok (kX3_latestOf K5 1 (by first | with_reducible assumption | omega)) knX3_latestOf q464 q289 q290 clsX3 rfl dX1_practice_20 rfl rfl (Nat.le_of_ble_eq_true rfl) (by decide) (by decide) rfl ?_
    refine g_astore (n := 25) (lv' := [(5, vo (fX3_latestOf K5 1)), (4, vo (fX3_latestOf K5 0)), (0, vr 37), (1, vi (nI m)), (3, vi what)]) ok dX1_practice_23 (by decide) rfl rfl ?_
    refine g_iconst (n := 26) (v := 0) ok dX1_practice_25 rfl rfl ?_
    refine g_istore (n := 28) (lv' := [(6, vi 0), (5, vo (fX3_latestOf K5 1)), (4, vo (fX3_latestOf K5 0)), (0, vr 37), (1, vi (nI m)), (3, vi what)]) ok dX1_practice_26 (by decide) rfl rfl ?_
    refine g_iconst (n := 29) (v := 0) ok dX1_practice_28 rfl rfl ?_
    refine g_istore (n := 31) (lv' := [(7, vi 0), (6, vi 0), (5, vo (fX3_latestOf K5 1)), (4, vo (fX3_latestOf K5 0)), (0, vr 37), (1, vi (nI m)), (3, vi what)]) ok dX1_practice_29 (by decide) rfl rfl ?_
    refine g_iconst (n := 32) (v := 0) ok dX1_practice_31 rfl rfl ?_
    refine g_istore (n := 34) (lv' := [(8, vi 0), (7, vi 0), (6, vi 0), (5, vo (fX3_latestOf K5 1)), (4, vo (fX3_latestOf K5 0)), (0, vr 37), (1, vi (nI m)), (3, vi what)]) ok dX1_practice_32 (by decide) rfl rfl ?_
    have X34 : ∀ (x34_7 : Int32) (x34_6 : Int32) (x34_5 : Option Nat) (x34_4 : Option Nat) (J34 : HI) (h4 : ∀ t, x34_4 = some t → Tr t) (h5 : ∀ t, x34_5 = some t → Tr t), G E 14 ((some (vi (((fX1_practice_x34 what x34_7 x34_6 x34_5 x34_4 J34).1))), (fX1_practice_x34 what x34_7 x34_6 x34_5 x34_4 J34).2)) J34 155 [(7, vi x34_7), (6, vi x34_6), (3, vi what)] [] := by
      intro x34_7 x34_6 x34_5 x34_4 J34 h4 h5
      rw [fX1_practice_x34]
      refine g_iload_n (n := 156) ok 2 dX1_practice_155 rfl rfl rfl ?_
      refine g_if_ne (n := 159) (tgt := 164) ok dX1_practice_156 (by decide) rfl (fun c4 => ?_) (fun c4 => ?_)
      · rw [if_neg c4]
        refine g_iload (n := 166) ok 0 dX1_practice_164 rfl rfl ?_
        exact g_iret ok hr dX1_practice_166
      · rw [if_pos c4]
        refine g_iload (n := 161) ok 1 dX1_practice_159 rfl rfl ?_
        refine g_goto (tgt := 166) ok dX1_practice_161 (by decide) ?_
        exact g_iret ok hr dX1_practice_166
    have L34 : ∀ (n34 i34 : Nat) (x34_7 : Int32) (x34_6 : Int32) (x34_5 : Option Nat) (x34_4 : Option Nat) (J34 : HI) (h4 : ∀ t, x34_4 = some t → Tr t) (h5 : ∀ t, x34_5 = some t → Tr t) (hi : i34 + n34 = m), G E 14 ((some (vi ((((fun (s : Int32 × Int32 × Option Nat × Option Nat × HI) => fX1_practice_x34 what s.1 s.2.1 s.2.2.1 s.2.2.2.1 s.2.2.2.2) (fo n34 i34 (fun (i : Nat) (s : Int32 × Int32 × Option Nat × Option Nat × HI) => fX1_practice_b34 i s.1 s.2.1 s.2.2.1 s.2.2.2.1 s.2.2.2.2) (x34_7, x34_6, x34_5, x34_4, J34))).1))), ((fun (s : Int32 × Int32 × Option Nat × Option Nat × HI) => fX1_practice_x34 what s.1 s.2.1 s.2.2.1 s.2.2.2.1 s.2.2.2.2) (fo n34 i34 (fun (i : Nat) (s : Int32 × Int32 × Option Nat × Option Nat × HI) => fX1_practice_b34 i s.1 s.2.1 s.2.2.1 s.2.2.2.1 s.2.2.2.2) (x34_7, x34_6, x34_5, x34_4, J34))).2)) J34 34 [(8, vi (nI i34)), (7, vi x34_7), (6, vi x34_6), (5, vo x34_5), (4, vo x34_4), (0, vr 37), (1, vi (nI m)), (3, vi what)] [] := by
      intro n34
      induction n34 with
      | zero =>
        intro i34 x34_7 x34_6 x34_5 x34_4 J34 h4 h5 hi
        rw [fo_0]
        refine g_iload (n := 36) ok 0 dX1_practice_34 rfl rfl ?_
        refine g_iload_n (n := 37) ok 6 dX1_practice_36 rfl rfl rfl ?_
        refine g_icmp_ge (n := 40) (tgt := 155) ok dX1_practice_37 (by decide) rfl (fun c => ?_) (fun c => absurd (nle (a := m) (b := i34) rfl rfl (by omega) (by omega)) c)
        refine g_sub [1, 2, 7] rfl ?_
        exact X34 _ _ _ _ _ h4 h5
      | succ n34 ih =>
        intro i34 x34_7 x34_6 x34_5 x34_4 J34 h4 h5 hi
        refine g_iload (n := 36) ok 0 dX1_practice_34 rfl rfl ?_
        refine g_iload_n (n := 37) ok 6 dX1_practice_36 rfl rfl rfl ?_
        refine g_icmp_ge (n := 40) (tgt := 155) ok dX1_practice_37 (by decide) rfl (fun c => absurd c (nnle (a := m) (b := i34) rfl rfl (by omega) (by omega))) (fun c => ?_)
        rw [fo_s]
        show G E 14 ((some (vi ((((fun (s : Int32 × Int32 × Option Nat × Option Nat × HI) => fX1_practice_x34 what s.1 s.2.1 s.2.2.1 s.2.2.2.1 s.2.2.2.2) (fo n34 (i34 + 1) (fun (i : Nat) (s : Int32 × Int32 × Option Nat × Option Nat × HI) => fX1_practice_b34 i s.1 s.2.1 s.2.2.1 s.2.2.2.1 s.2.2.2.2) (fX1_practice_b34 i34 x34_7 x34_6 x34_5 x34_4 J34))).1))), ((fun (s : Int32 × Int32 × Option Nat × Option Nat × HI) => fX1_practice_x34 what s.1 s.2.1 s.2.2.1 s.2.2.2.1 s.2.2.2.2) (fo n34 (i34 + 1) (fun (i : Nat) (s : Int32 × Int32 × Option Nat × Option Nat × HI) => fX1_practice_b34 i s.1 s.2.1 s.2.2.1 s.2.2.2.1 s.2.2.2.2) (fX1_practice_b34 i34 x34_7 x34_6 x34_5 x34_4 J34))).2)) _ _ _ _
        rw [fX1_practice_b34]
        refine g_aload_n (n := 41) ok 5 dX1_practice_40 rfl rfl rfl ?_
        refine g_iconst (n := 42) (v := 2) ok dX1_practice_41 rfl rfl ?_
        refine g_callV (n := 45) (rest := []) (av := [vi (nI 2)]) (j := 37) ok (kX1_drawBelow J34 2 (by first | with_reducible assumption | omega) (by first | with_reducible assumption | omega)) knX1_drawBelow q635 q637 qs22 clsX1 rfl dX1_practice_42 rfl rfl (Nat.le_of_ble_eq_true rfl) (by decide) (by decide) rfl ?_
        have hq5 : vp_in ((fX1_drawBelow J34 2).1) 2 := drawBelow_in (by omega) (by omega)
        have hq5b := vb hq5
        refine g_top (vx hq5) ?_
        refine g_istore (n := 47) (lv' := [(9, vi (nI (ix ((fX1_drawBelow J34 2).1)))), (8, vi (nI i34)), (7, vi x34_7), (6, vi x34_6), (5, vo x34_5), (4, vo x34_4), (0, vr 37), (1, vi (nI m)), (3, vi what)]) ok dX1_practice_45 (by decide) rfl rfl ?_
        refine g_aload_n (n := 48) ok 6 dX1_practice_47 rfl rfl rfl ?_
        refine g_bipush (n := 50) (v := 9) ok dX1_practice_48 rfl rfl ?_
        refine g_callV (n := 53) (rest := []) (av := [vi (nI 9)]) (j := 37) ok (kX1_drawBelow ((fX1_drawBelow J34 2).2) 9 (by first | with_reducible assumption | omega) (by first | with_reducible assumption | omega)) knX1_drawBelow q635 q637 qs22 clsX1 rfl dX1_practice_50 rfl rfl (Nat.le_of_ble_eq_true rfl) (by decide) (by decide) rfl ?_
        have hq6 : vp_in ((fX1_drawBelow ((fX1_drawBelow J34 2).2) 9).1) 9 := drawBelow_in (by omega) (by omega)
        have hq6b := vb hq6
        refine g_top (vx hq6) ?_
        refine g_iconst (n := 54) (v := 1) ok dX1_practice_53 rfl rfl ?_
        refine g_iadd (n := 55) ok dX1_practice_54 rfl ?_
        refine g_top (nv_iadd (a := ix ((fX1_drawBelow ((fX1_drawBelow J34 2).2) 9).1)) (b := 1) rfl rfl) ?_
        refine g_istore (n := 57) (lv' := [(10, vi (nI ((ix ((fX1_drawBelow ((fX1_drawBelow J34 2).2) 9).1)) + 1))), (9, vi (nI (ix ((fX1_drawBelow J34 2).1)))), (8, vi (nI i34)), (7, vi x34_7), (6, vi x34_6), (5, vo x34_5), (4, vo x34_4), (0, vr 37), (1, vi (nI m)), (3, vi what)]) ok dX1_practice_55 (by decide) rfl rfl ?_
        refine g_aload_n (n := 58) ok 7 dX1_practice_57 rfl rfl rfl ?_
        refine g_bipush (n := 60) (v := 9) ok dX1_practice_58 rfl rfl ?_
        refine g_callV (n := 63) (rest := []) (av := [vi (nI 9)]) (j := 37) ok (kX1_drawBelow ((fX1_drawBelow ((fX1_drawBelow J34 2).2) 9).2) 9 (by first | with_reducible assumption | omega) (by first | with_reducible assumption | omega)) knX1_drawBelow q635 q637 qs22 clsX1 rfl dX1_practice_60 rfl rfl (Nat.le_of_ble_eq_true rfl) (by decide) (by decide) rfl ?_
        have hq7 : vp_in ((fX1_drawBelow ((fX1_drawBelow ((fX1_drawBelow J34 2).2) 9).2) 9).1) 9 := drawBelow_in (by omega) (by omega)
        have hq7b := vb hq7
        refine g_top (vx hq7) ?_
        refine g_iconst (n := 64) (v := 1) ok dX1_practice_63 rfl rfl ?_
        refine g_iadd (n := 65) ok dX1_practice_64 rfl ?_
        refine g_top (nv_iadd (a := ix ((fX1_drawBelow ((fX1_drawBelow ((fX1_drawBelow J34 2).2) 9).2) 9).1)) (b := 1) rfl rfl) ?_
        refine g_istore (n := 67) (lv' := [(11, vi (nI ((ix ((fX1_drawBelow ((fX1_drawBelow ((fX1_drawBelow J34 2).2) 9).2) 9).1)) + 1))), (10, vi (nI ((ix ((fX1_drawBelow ((fX1_drawBelow J34 2).2) 9).1)) + 1))), (9, vi (nI (ix ((fX1_drawBelow J34 2).1)))), (8, vi (nI i34)), (7, vi x34_7), (6, vi x34_6), (5, vo x34_5), (4, vo x34_4), (0, vr 37), (1, vi (nI m)), (3, vi what)]) ok dX1_practice_65 (by decide) rfl rfl ?_
        have C67_58 : ∀ (v8 : Int32) (v9 : Int32) (v10 : Nat) (K67 : HI) (hq : v10 < 2), G E 14 ((some (vi ((((fun (s : Int32 × Int32 × Option Nat × Option Nat × HI) => fX1_practice_x34 what s.1 s.2.1 s.2.2.1 s.2.2.2.1 s.2.2.2.2) (fo n34 (i34 + 1) (fun (i : Nat) (s : Int32 × Int32 × Option Nat × Option Nat × HI) => fX1_practice_b34 i s.1 s.2.1 s.2.2.1 s.2.2.2.1 s.2.2.2.2) (fX1_practice_c67 x34_7 x34_6 x34_5 x34_4 v8 v9 v10 K67))).1))), ((fun (s : Int32 × Int32 × Option Nat × Option Nat × HI) => fX1_practice_x34 what s.1 s.2.1 s.2.2.1 s.2.2.2.1 s.2.2.2.2) (fo n34 (i34 + 1) (fun (i : Nat) (s : Int32 × Int32 × Option Nat × Option Nat × HI) => fX1_practice_b34 i s.1 s.2.1 s.2.2.1 s.2.2.2.1 s.2.2.2.2) (fX1_practice_c67 x34_7 x34_6 x34_5 x34_4 v8 v9 v10 K67))).2)) K67 67 [(11, vi v8), (10, vi v9), (9, vi (nI v10)), (8, vi (nI i34)), (7, vi x34_7), (6, vi x34_6), (5, vo x34_5), (4, vo x34_4), (0, vr 37), (1, vi (nI m)), (3, vi what)] [] := by
          intro v8 v9 v10 K67 hq
          rw [fX1_practice_c67]
          refine g_aload_n (n := 68) ok 8 dX1_practice_67 rfl rfl rfl ?_
          refine g_iload (n := 70) ok 2 dX1_practice_68 rfl rfl ?_
          have J80_33 : ∀ (v31 : Option Nat) (hv31 : ∀ t, v31 = some t → Tr t), G E 14 ((some (vi ((((fun (s : Int32 × Int32 × Option Nat × Option Nat × HI) => fX1_practice_x34 what s.1 s.2.1 s.2.2.1 s.2.2.2.1 s.2.2.2.2) (fo n34 (i34 + 1) (fun (i : Nat) (s : Int32 × Int32 × Option Nat × Option Nat × HI) => fX1_practice_b34 i s.1 s.2.1 s.2.2.1 s.2.2.2.1 s.2.2.2.2) (fX1_practice_80 x34_7 x34_6 x34_5 x34_4 v8 v9 v10 K67 v31))).1))), ((fun (s : Int32 × Int32 × Option Nat × Option Nat × HI) => fX1_practice_x34 what s.1 s.2.1 s.2.2.1 s.2.2.2.1 s.2.2.2.2) (fo n34 (i34 + 1) (fun (i : Nat) (s : Int32 × Int32 × Option Nat × Option Nat × HI) => fX1_practice_b34 i s.1 s.2.1 s.2.2.1 s.2.2.2.1 s.2.2.2.2) (fX1_practice_80 x34_7 x34_6 x34_5 x34_4 v8 v9 v10 K67 v31))).2)) K67 80 [(11, vi v8), (10, vi v9), (9, vi (nI v10)), (8, vi (nI i34)), (7, vi x34_7), (6, vi x34_6), (5, vo x34_5), (4, vo x34_4), (0, vr 37), (1, vi (nI m)), (3, vi what)] [vo v31, vr 37] := by
            intro v31 hv31
            rw [fX1_practice_80]
            refine g_aload_n (n := 81) ok 8 dX1_practice_80 rfl rfl rfl ?_
            refine g_get (n := 84) (v := vr 1) (c := 1) (k := 0) ok dX1_practice_81 clsX1 (by decide) q121 rfl rfl rfl ?_
            refine g_get (n := 87) (v := vi (K67 1 3)) (c := 3) (k := 3) ok dX1_practice_84 clsX3 (by decide) q72 rfl rfl rfl ?_
            refine g_iload (n := 89) ok 2 dX1_practice_87 rfl rfl ?_
            refine g_iload (n := 91) ok 1 dX1_practice_89 rfl rfl ?_
            refine g_iload (n := 93) ok 0 dX1_practice_91 rfl rfl ?_
            refine g_callV (n := 96) (rest := []) (av := [vo v31, vi (K67 1 3), vi (nI v10), vi v9, vi v8]) (j := 37) ok (kX1_lineBehind K67 v31 (K67 1 3) v10 v9 v8 (by first | with_reducible assumption | omega) (by first | with_reducible assumption | omega)) knX1_lineBehind q465 q467 qs14 clsX1 rfl dX1_practice_93 rfl rfl (Nat.le_of_ble_eq_true rfl) (by decide) (by decide) rfl ?_
            have hT34 := lineBehind_tr (I := K67) (o := v31) (kind := (K67 1 3)) (push := v9) (lean := v8) (foot := v10) (by omega)
            refine g_astore (n := 98) (lv' := [(12, vr ((fX1_lineBehind K67 v31 (K67 1 3) v10 v9 v8).1)), (11, vi v8), (10, vi v9), (9, vi (nI v10)), (8, vi (nI i34)), (7, vi x34_7), (6, vi x34_6), (5, vo x34_5), (4, vo x34_4), (0, vr 37), (1, vi (nI m)), (3, vi what)]) ok dX1_practice_96 (by decide) rfl rfl ?_
            have C98_57 : ∀ (v35 : Nat) (K98 : HI) (hl : Tr v35), G E 14 ((some (vi ((((fun (s : Int32 × Int32 × Option Nat × Option Nat × HI) => fX1_practice_x34 what s.1 s.2.1 s.2.2.1 s.2.2.2.1 s.2.2.2.2) (fo n34 (i34 + 1) (fun (i : Nat) (s : Int32 × Int32 × Option Nat × Option Nat × HI) => fX1_practice_b34 i s.1 s.2.1 s.2.2.1 s.2.2.2.1 s.2.2.2.2) (fX1_practice_c98 x34_7 x34_6 x34_5 x34_4 v10 v35 K98))).1))), ((fun (s : Int32 × Int32 × Option Nat × Option Nat × HI) => fX1_practice_x34 what s.1 s.2.1 s.2.2.1 s.2.2.2.1 s.2.2.2.2) (fo n34 (i34 + 1) (fun (i : Nat) (s : Int32 × Int32 × Option Nat × Option Nat × HI) => fX1_practice_b34 i s.1 s.2.1 s.2.2.1 s.2.2.2.1 s.2.2.2.2) (fX1_practice_c98 x34_7 x34_6 x34_5 x34_4 v10 v35 K98))).2)) K98 98 [(12, vr v35), (9, vi (nI v10)), (8, vi (nI i34)), (7, vi x34_7), (6, vi x34_6), (5, vo x34_5), (4, vo x34_4), (0, vr 37), (1, vi (nI m)), (3, vi what)] [] := by
              intro v35 K98 hl
              rw [fX1_practice_c98]
              refine g_iload (n := 100) ok 1 dX1_practice_98 rfl rfl ?_
              have J114_55 : ∀ (v46 : Option Nat) (v51 : Option Nat) (hv46 : ∀ t, v46 = some t → Tr t) (hv51 : ∀ t, v51 = some t → Tr t), G E 14 ((some (vi ((((fun (s : Int32 × Int32 × Option Nat × Option Nat × HI) => fX1_practice_x34 what s.1 s.2.1 s.2.2.1 s.2.2.2.1 s.2.2.2.2) (fo n34 (i34 + 1) (fun (i : Nat) (s : Int32 × Int32 × Option Nat × Option Nat × HI) => fX1_practice_b34 i s.1 s.2.1 s.2.2.1 s.2.2.2.1 s.2.2.2.2) (fX1_practice_114 x34_7 x34_6 v35 K98 v46 v51))).1))), ((fun (s : Int32 × Int32 × Option Nat × Option Nat × HI) => fX1_practice_x34 what s.1 s.2.1 s.2.2.1 s.2.2.2.1 s.2.2.2.2) (fo n34 (i34 + 1) (fun (i : Nat) (s : Int32 × Int32 × Option Nat × Option Nat × HI) => fX1_practice_b34 i s.1 s.2.1 s.2.2.1 s.2.2.2.1 s.2.2.2.2) (fX1_practice_114 x34_7 x34_6 v35 K98 v46 v51))).2)) K98 114 [(4, vo v46), (12, vr v35), (8, vi (nI i34)), (7, vi x34_7), (6, vi x34_6), (5, vo v51), (0, vr 37), (1, vi (nI m)), (3, vi what)] [] := by
                intro v46 v51 hv46 hv51
                rw [fX1_practice_114]
                refine g_aload_n (n := 115) ok 6 dX1_practice_114 rfl rfl rfl ?_
                refine g_get (n := 118) (v := vr 1) (c := 1) (k := 0) ok dX1_practice_115 clsX1 (by decide) q121 rfl rfl rfl ?_
                refine g_aload (n := 120) ok 1 dX1_practice_118 rfl rfl ?_
                refine g_callV (n := 123) (rest := []) (av := [vr v35]) (j := 1) ok (kX3_offOf K98 v35 hl) knX3_offOf q484 q393 q394 clsX3 rfl dX1_practice_120 rfl rfl (Nat.le_of_ble_eq_true rfl) (by decide) (by decide) rfl ?_
                refine g_istore (n := 125) (lv' := [(13, vi (fX3_offOf K98 v35)), (4, vo v46), (12, vr v35), (8, vi (nI i34)), (7, vi x34_7), (6, vi x34_6), (5, vo v51), (0, vr 37), (1, vi (nI m)), (3, vi what)]) ok dX1_practice_123 (by decide) rfl rfl ?_
                refine g_iload (n := 127) ok 5 dX1_practice_125 rfl rfl ?_
                refine g_iload (n := 129) ok 0 dX1_practice_127 rfl rfl ?_
                refine g_iadd (n := 130) ok dX1_practice_129 rfl ?_
                refine g_istore (n := 132) (lv' := [(6, vi (x34_6 + (fX3_offOf K98 v35))), (13, vi (fX3_offOf K98 v35)), (4, vo v46), (12, vr v35), (8, vi (nI i34)), (7, vi x34_7), (5, vo v51), (0, vr 37), (1, vi (nI m)), (3, vi what)]) ok dX1_practice_130 (by decide) rfl rfl ?_
                refine g_iload (n := 134) ok 5 dX1_practice_132 rfl rfl ?_
                refine g_iload (n := 136) ok 1 dX1_practice_134 rfl rfl ?_
                refine g_bipush (n := 138) (v := 60) ok dX1_practice_136 rfl rfl ?_
                refine g_icmp_ge (n := 141) (tgt := 145) ok dX1_practice_138 (by decide) rfl (fun c56 => ?_) (fun c56 => ?_)
                · rw [if_pos c56]
                  refine g_iconst (n := 146) (v := 0) ok dX1_practice_145 rfl rfl ?_
                  refine g_iadd (n := 147) ok dX1_practice_146 rfl ?_
                  refine g_istore (n := 149) (lv' := [(7, vi (x34_7 + 0)), (6, vi (x34_6 + (fX3_offOf K98 v35))), (13, vi (fX3_offOf K98 v35)), (4, vo v46), (12, vr v35), (8, vi (nI i34)), (5, vo v51), (0, vr 37), (1, vi (nI m)), (3, vi what)]) ok dX1_practice_147 (by decide) rfl rfl ?_
                  refine g_iinc (n := 152) (v := nI (i34 + 1)) (lv' := [(8, vi (nI (i34 + 1))), (7, vi (x34_7 + 0)), (6, vi (x34_6 + (fX3_offOf K98 v35))), (13, vi (fX3_offOf K98 v35)), (4, vo v46), (12, vr v35), (5, vo v51), (0, vr 37), (1, vi (nI m)), (3, vi what)]) ok 5 dX1_practice_149 rfl (iinc_n (a := i34) rfl) (by decide) rfl rfl ?_
                  refine g_goto (tgt := 34) ok dX1_practice_152 (by decide) ?_
                  refine g_sub [0, 1, 2, 6, 4, 7, 8, 9] rfl ?_
                  exact ih (i34 + 1) (x34_7 + 0) (x34_6 + (fX3_offOf K98 v35)) v51 v46 _ (by first | with_reducible assumption | (intro t h; cases h; with_reducible assumption)) (by first | with_reducible assumption | (intro t h; cases h; with_reducible assumption)) (by omega)
                · rw [if_neg c56]
                  refine g_iconst (n := 142) (v := 1) ok dX1_practice_141 rfl rfl ?_
                  refine g_goto (tgt := 146) ok dX1_practice_142 (by decide) ?_
                  refine g_iadd (n := 147) ok dX1_practice_146 rfl ?_
                  refine g_istore (n := 149) (lv' := [(7, vi (x34_7 + 1)), (6, vi (x34_6 + (fX3_offOf K98 v35))), (13, vi (fX3_offOf K98 v35)), (4, vo v46), (12, vr v35), (8, vi (nI i34)), (5, vo v51), (0, vr 37), (1, vi (nI m)), (3, vi what)]) ok dX1_practice_147 (by decide) rfl rfl ?_
                  refine g_iinc (n := 152) (v := nI (i34 + 1)) (lv' := [(8, vi (nI (i34 + 1))), (7, vi (x34_7 + 1)), (6, vi (x34_6 + (fX3_offOf K98 v35))), (13, vi (fX3_offOf K98 v35)), (4, vo v46), (12, vr v35), (5, vo v51), (0, vr 37), (1, vi (nI m)), (3, vi what)]) ok 5 dX1_practice_149 rfl (iinc_n (a := i34) rfl) (by decide) rfl rfl ?_
                  refine g_goto (tgt := 34) ok dX1_practice_152 (by decide) ?_
                  refine g_sub [0, 1, 2, 6, 4, 7, 8, 9] rfl ?_
                  exact ih (i34 + 1) (x34_7 + 1) (x34_6 + (fX3_offOf K98 v35)) v51 v46 _ (by first | with_reducible assumption | (intro t h; cases h; with_reducible assumption)) (by first | with_reducible assumption | (intro t h; cases h; with_reducible assumption)) (by omega)
              refine g_if_ne (n := 103) (tgt := 110) ok dX1_practice_100 (by decide) rfl (fun c45 => ?_) (fun c45 => ?_)
              · try simp only [if_neg c45]
                refine g_aload (n := 112) ok 0 dX1_practice_110 rfl rfl ?_
                refine g_astore (n := 114) (lv' := [(5, vr v35), (12, vr v35), (9, vi (nI v10)), (8, vi (nI i34)), (7, vi x34_7), (6, vi x34_6), (4, vo x34_4), (0, vr 37), (1, vi (nI m)), (3, vi what)]) ok dX1_practice_112 (by decide) rfl rfl ?_
                refine g_sub [6, 1, 3, 4, 5, 0, 7, 8, 9] rfl ?_
                exact J114_55 _ _ (by first | with_reducible assumption | (intro t h; cases h; with_reducible assumption)) (by first | with_reducible assumption | (intro t h; cases h; with_reducible assumption))
              · try simp only [if_pos c45]
                refine g_aload (n := 105) ok 0 dX1_practice_103 rfl rfl ?_
                refine g_astore (n := 107) (lv' := [(4, vr v35), (12, vr v35), (9, vi (nI v10)), (8, vi (nI i34)), (7, vi x34_7), (6, vi x34_6), (5, vo x34_5), (0, vr 37), (1, vi (nI m)), (3, vi what)]) ok dX1_practice_105 (by decide) rfl rfl ?_
                refine g_goto (tgt := 114) ok dX1_practice_107 (by decide) ?_
                refine g_sub [0, 1, 3, 4, 5, 6, 7, 8, 9] rfl ?_
                exact J114_55 _ _ (by first | with_reducible assumption | (intro t h; cases h; with_reducible assumption)) (by first | with_reducible assumption | (intro t h; cases h; with_reducible assumption))
            refine g_sub [0, 3, 4, 5, 6, 7, 8, 9, 10, 11] rfl ?_
            exact C98_57 ((fX1_lineBehind K67 v31 (K67 1 3) v10 v9 v8).1) _ (by with_reducible assumption)
          refine g_if_ne (n := 73) (tgt := 78) ok dX1_practice_70 (by decide) rfl (fun c19 => ?_) (fun c19 => ?_)
          · try simp only [if_neg c19]
            refine g_aload (n := 80) ok 6 dX1_practice_78 rfl rfl ?_
            exact J80_33 _ (by first | with_reducible assumption | omega)
          · try simp only [if_pos c19]
            refine g_aload (n := 75) ok 7 dX1_practice_73 rfl rfl ?_
            refine g_goto (tgt := 80) ok dX1_practice_75 (by decide) ?_
            exact J80_33 _ (by first | with_reducible assumption | omega)
        exact C67_58 (nI ((ix ((fX1_drawBelow ((fX1_drawBelow ((fX1_drawBelow J34 2).2) 9).2) 9).1)) + 1)) (nI ((ix ((fX1_drawBelow ((fX1_drawBelow J34 2).2) 9).1)) + 1)) (ix ((fX1_drawBelow J34 2).1)) _ (by omega)
    exact L34 m 0 0 0 (fX3_latestOf K5 1) (fX3_latestOf K5 0) _ (latestOf_tr hd2) (latestOf_tr hd2) (by omega)
  refine g_sub [0, 1, 3] rfl ?_
  exact C5_59 _ (by rw [up_ne 1 (by omega)]; exact hd)

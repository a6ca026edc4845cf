noncomputable def fX6_seeds_x70 (what : Int32) (K5 : HI) (x70_7 : Int32) (x70_6 : Int32) (J70 : HI) : Int32 × HI :=
  if what = 0 then (x70_6, (up J70 52 5 (K5 52 5))) else (x70_7, (up J70 52 5 (K5 52 5)))
noncomputable def fX6_seeds_b70 (i70 : Nat) (x70_7 : Int32) (x70_6 : Int32) (J70 : HI) : Int32 × Int32 × HI :=
  if 60 ≤ fX6_offOf ((fX6_drawBy ((fX6_drawn ((fX6_drawn ((fX6_drawn J70 2).2) 9).2) 9).2) (((fX6_drawn ((fX6_drawn J70 2).2) 9).2) 52 3) (ix ((fX6_drawn J70 2).1)) (nI ((ix ((fX6_drawn ((fX6_drawn J70 2).2) 9).1)) + 1)) (nI ((ix ((fX6_drawn ((fX6_drawn ((fX6_drawn J70 2).2) 9).2) 9).1)) + 1))).2) ((fX6_drawBy ((fX6_drawn ((fX6_drawn ((fX6_drawn J70 2).2) 9).2) 9).2) (((fX6_drawn ((fX6_drawn J70 2).2) 9).2) 52 3) (ix ((fX6_drawn J70 2).1)) (nI ((ix ((fX6_drawn ((fX6_drawn J70 2).2) 9).1)) + 1)) (nI ((ix ((fX6_drawn ((fX6_drawn ((fX6_drawn J70 2).2) 9).2) 9).1)) + 1))).1) then (x70_7 + 0, x70_6 + (fX6_offOf ((fX6_drawBy ((fX6_drawn ((fX6_drawn ((fX6_drawn J70 2).2) 9).2) 9).2) (((fX6_drawn ((fX6_drawn J70 2).2) 9).2) 52 3) (ix ((fX6_drawn J70 2).1)) (nI ((ix ((fX6_drawn ((fX6_drawn J70 2).2) 9).1)) + 1)) (nI ((ix ((fX6_drawn ((fX6_drawn ((fX6_drawn J70 2).2) 9).2) 9).1)) + 1))).2) ((fX6_drawBy ((fX6_drawn ((fX6_drawn ((fX6_drawn J70 2).2) 9).2) 9).2) (((fX6_drawn ((fX6_drawn J70 2).2) 9).2) 52 3) (ix ((fX6_drawn J70 2).1)) (nI ((ix ((fX6_drawn ((fX6_drawn J70 2).2) 9).1)) + 1)) (nI ((ix ((fX6_drawn ((fX6_drawn ((fX6_drawn J70 2).2) 9).2) 9).1)) + 1))).1)), ((fX6_drawBy ((fX6_drawn ((fX6_drawn ((fX6_drawn J70 2).2) 9).2) 9).2) (((fX6_drawn ((fX6_drawn J70 2).2) 9).2) 52 3) (ix ((fX6_drawn J70 2).1)) (nI ((ix ((fX6_drawn ((fX6_drawn J70 2).2) 9).1)) + 1)) (nI ((ix ((fX6_drawn ((fX6_drawn ((fX6_drawn J70 2).2) 9).2) 9).1)) + 1))).2)) else (x70_7 + 1, x70_6 + (fX6_offOf ((fX6_drawBy ((fX6_drawn ((fX6_drawn ((fX6_drawn J70 2).2) 9).2) 9).2) (((fX6_drawn ((fX6_drawn J70 2).2) 9).2) 52 3) (ix ((fX6_drawn J70 2).1)) (nI ((ix ((fX6_drawn ((fX6_drawn J70 2).2) 9).1)) + 1)) (nI ((ix ((fX6_drawn ((fX6_drawn ((fX6_drawn J70 2).2) 9).2) 9).1)) + 1))).2) ((fX6_drawBy ((fX6_drawn ((fX6_drawn ((fX6_drawn J70 2).2) 9).2) 9).2) (((fX6_drawn ((fX6_drawn J70 2).2) 9).2) 52 3) (ix ((fX6_drawn J70 2).1)) (nI ((ix ((fX6_drawn ((fX6_drawn J70 2).2) 9).1)) + 1)) (nI ((ix ((fX6_drawn ((fX6_drawn ((fX6_drawn J70 2).2) 9).2) 9).1)) + 1))).1)), ((fX6_drawBy ((fX6_drawn ((fX6_drawn ((fX6_drawn J70 2).2) 9).2) 9).2) (((fX6_drawn ((fX6_drawn J70 2).2) 9).2) 52 3) (ix ((fX6_drawn J70 2).1)) (nI ((ix ((fX6_drawn ((fX6_drawn J70 2).2) 9).1)) + 1)) (nI ((ix ((fX6_drawn ((fX6_drawn ((fX6_drawn J70 2).2) 9).2) 9).1)) + 1))).2))
noncomputable def fX6_seeds_c5 (n : Int32) (z : Int32) (what : Int32) (K5 : HI) : Int32 × HI :=
  if fX6_wrongNumber n 1 20 = 0 then (if fX6_in what.toInt64 0 1 = 0 then ((fX6_refuse K5 (-2)).1, ((fX6_refuse K5 (-2)).2)) else (fun (s : Int32 × Int32 × HI) => fX6_seeds_x70 what K5 s.1 s.2.1 s.2.2) (fo (ix n) 0 (fun (i : Nat) (s : Int32 × Int32 × HI) => fX6_seeds_b70 i s.1 s.2.1 s.2.2) (0, 0, (up K5 52 28 z)))) else ((fX6_refuse K5 (fX6_wrongNumber n 1 20)).1, ((fX6_refuse K5 (fX6_wrongNumber n 1 20)).2))
noncomputable def fX6_seeds (I : HI) (n : Int32) (z : Int32) (what : Int32) : Int32 × HI :=
  fX6_seeds_c5 n z what (up I 52 10 0)
theorem knX6_seeds : Kn yX6_seeds cX6_seeds 12 (some .int) 3 := ⟨q1088, q8, ⟨by decide, by decide⟩, by decide +kernel⟩
set_option maxHeartbeats 400000 in
set_option maxRecDepth 100000 in
theorem kX6_seeds (I : HI) (n : Int32) (z : Int32) (what : Int32) (hd : vp_in (I 52 5) 7) : Cx yX6_seeds cX6_seeds 12 (some .int) 4 100 [vr 52, vi n, vi z, vi what] I ((some (vi (((fX6_seeds I n z what).1))), (fX6_seeds I n z what).2)) := by
  refine Cx.mk (lv := [(0, vr 52), (1, vi n), (2, vi z), (3, vi what)]) (by decide) (Nat.le_of_ble_eq_true rfl) rfl (fun E ok hr => ?_)
  rw [fX6_seeds]
  refine g_aload_n (n := 1) ok 0 dX6_seeds_0 rfl rfl rfl ?_
  refine g_iconst (n := 2) (v := 0) ok dX6_seeds_1 rfl rfl ?_
  refine g_put (n := 5) (J := up I 52 10 0) (c := 6) (k := 10) ok dX6_seeds_2 clsX6 tyX6 tyX6_ok nmX6 (by decide) q688 rfl rfl (fun _ => rfl) (fun _ => rfl) (Nat.le_of_ble_eq_true rfl) (fs_6_10 _ _ _) up_ne rfl ?_
  have C5_20 : ∀ (K5 : HI) (hd2 : vp_in (K5 52 5) 7), G E 12 ((some (vi (((fX6_seeds_c5 n z what K5).1))), (fX6_seeds_c5 n z what K5).2)) K5 5 [(0, vr 52), (1, vi n), (2, vi z), (3, vi what)] [] := by
    intro K5 hd2
    rw [fX6_seeds_c5]
    have hd3 := vb hd2
    refine g_iload_n (n := 6) ok 1 dX6_seeds_5 rfl rfl rfl ?_
    refine g_iconst (n := 7) (v := 1) ok dX6_seeds_6 rfl rfl ?_
    refine g_bipush (n := 9) (v := 20) ok dX6_seeds_7 rfl rfl ?_
    refine g_callS (n := 12) (rest := []) (av := [vi n, vi 1, vi 20]) ok (kX6_wrongNumber K5 n 1 20) knX6_wrongNumber q895 q896 dX6_seeds_9 rfl rfl (Nat.le_of_ble_eq_true rfl) (by decide) (by decide) rfl ?_
    refine g_istore (n := 14) (lv' := [(4, vi (fX6_wrongNumber n 1 20)), (0, vr 52), (1, vi n), (2, vi z), (3, vi what)]) ok dX6_seeds_12 (by decide) rfl rfl ?_
    refine g_iload (n := 16) ok 0 dX6_seeds_14 rfl rfl ?_
    refine g_if_ne (n := 19) (tgt := 34) ok dX6_seeds_16 (by decide) rfl (fun c5 => ?_) (fun c5 => ?_)
    · rw [if_neg c5]
      refine g_iload (n := 36) ok 0 dX6_seeds_34 rfl rfl ?_
      refine g_istore (n := 38) (lv' := [(4, vi (fX6_wrongNumber n 1 20)), (0, vr 52), (1, vi n), (2, vi z), (3, vi what)]) ok dX6_seeds_36 (by decide) rfl rfl ?_
      refine g_iload (n := 40) ok 0 dX6_seeds_38 rfl rfl ?_
      refine g_if_ge (n := 43) (tgt := 50) ok dX6_seeds_40 (by decide) rfl (fun c6 => ?_) (fun c6 => ?_)
      · exact absurd c6 (wrongNumber_neg c5)
      · refine g_aload_n (n := 44) ok 1 dX6_seeds_43 rfl rfl rfl ?_
        refine g_iload (n := 46) ok 0 dX6_seeds_44 rfl rfl ?_
        refine g_callV (n := 49) (rest := []) (av := [vi (fX6_wrongNumber n 1 20)]) (j := 52) ok (kX6_refuse K5 (fX6_wrongNumber n 1 20) wrongNumber_in) knX6_refuse q770 q772 qs25 clsX6 rfl dX6_seeds_46 rfl rfl (Nat.le_of_ble_eq_true rfl) (by decide) (by decide) rfl ?_
        exact g_iret ok hr dX6_seeds_49
    · rw [if_pos c5]
      refine g_iload_n (n := 20) ok 4 dX6_seeds_19 rfl rfl rfl ?_
      refine g_i2l (n := 21) ok dX6_seeds_20 rfl ?_
      refine g_lconst (n := 22) (v := 0) ok dX6_seeds_21 rfl rfl ?_
      refine g_lconst (n := 23) (v := 1) ok dX6_seeds_22 rfl rfl ?_
      refine g_callS (n := 26) (rest := []) (av := [vl what.toInt64, vl 0, vl 1]) ok (kX6_in K5 what.toInt64 0 1) knX6_in q792 q793 dX6_seeds_23 rfl rfl (Nat.le_of_ble_eq_true rfl) (by decide) (by decide) rfl ?_
      refine g_if_ne (n := 29) (tgt := 34) ok dX6_seeds_26 (by decide) rfl (fun c7 => ?_) (fun c7 => ?_)
      · rw [if_neg c7]
        have ha8 : vp_in what 2 := in6_in (b := 1) c7 (by omega)
        have ha8b := vb ha8
        refine g_iload (n := 36) ok 0 dX6_seeds_34 rfl rfl ?_
        refine g_istore (n := 38) (lv' := [(4, vi (fX6_wrongNumber n 1 20)), (0, vr 52), (1, vi n), (2, vi z), (3, vi what)]) ok dX6_seeds_36 (by decide) rfl rfl ?_
        refine g_iload (n := 40) ok 0 dX6_seeds_38 rfl rfl ?_
        refine g_if_ge (n := 43) (tgt := 50) ok dX6_seeds_40 (by decide) rfl (fun c9 => ?_) (fun c9 => ?_)
        · have ha10 : vp_in n 21 := wrongNumber_in10 (b := 20) c9 (by decide) (by omega)
          have ha10b := vb ha10
          refine g_aload_n (n := 51) ok 1 dX6_seeds_50 rfl rfl rfl ?_
          refine g_get (n := 54) (v := vi (K5 52 5)) (c := 6) (k := 5) ok dX6_seeds_51 clsX6 (by decide) q683 rfl rfl rfl ?_
          refine g_istore (n := 56) (lv' := [(5, vi (K5 52 5)), (4, vi (fX6_wrongNumber n 1 20)), (0, vr 52), (1, vi n), (2, vi z), (3, vi what)]) ok dX6_seeds_54 (by decide) rfl rfl ?_
          refine g_aload_n (n := 57) ok 2 dX6_seeds_56 rfl rfl rfl ?_
          refine g_iload_n (n := 58) ok 4 dX6_seeds_57 rfl rfl rfl ?_
          refine g_put (n := 61) (J := up K5 52 28 z) (c := 6) (k := 28) ok dX6_seeds_58 clsX6 tyX6 tyX6_ok nmX6 (by decide) q706 rfl rfl (fun _ => rfl) (fun _ => rfl) (Nat.le_of_ble_eq_true rfl) (fs_6_28 _ _ _) up_ne rfl ?_
          refine g_iconst (n := 62) (v := 0) ok dX6_seeds_61 rfl rfl ?_
          refine g_istore (n := 64) (lv' := [(6, vi 0), (5, vi (K5 52 5)), (4, vi (fX6_wrongNumber n 1 20)), (0, vr 52), (1, vi n), (2, vi z), (3, vi what)]) ok dX6_seeds_62 (by decide) rfl rfl ?_
          refine g_iconst (n := 65) (v := 0) ok dX6_seeds_64 rfl rfl ?_
          refine g_istore (n := 67) (lv' := [(7, vi 0), (6, vi 0), (5, vi (K5 52 5)), (4, vi (fX6_wrongNumber n 1 20)), (0, vr 52), (1, vi n), (2, vi z), (3, vi what)]) ok dX6_seeds_65 (by decide) rfl rfl ?_
          refine g_iconst (n := 68) (v := 0) ok dX6_seeds_67 rfl rfl ?_
          refine g_istore (n := 70) (lv' := [(8, vi 0), (7, vi 0), (6, vi 0), (5, vi (K5 52 5)), (4, vi (fX6_wrongNumber n 1 20)), (0, vr 52), (1, vi n), (2, vi z), (3, vi what)]) ok dX6_seeds_68 (by decide) rfl rfl ?_
          have X70 : ∀ (x70_7 : Int32) (x70_6 : Int32) (J70 : HI), G E 12 ((some (vi (((fX6_seeds_x70 what K5 x70_7 x70_6 J70).1))), (fX6_seeds_x70 what K5 x70_7 x70_6 J70).2)) J70 149 [(7, vi x70_7), (6, vi x70_6), (5, vi (K5 52 5)), (0, vr 52), (3, vi what)] [] := by
            intro x70_7 x70_6 J70
            rw [fX6_seeds_x70]
            refine g_aload_n (n := 150) ok 3 dX6_seeds_149 rfl rfl rfl ?_
            refine g_iload (n := 152) ok 2 dX6_seeds_150 rfl rfl ?_
            refine g_put (n := 155) (J := up J70 52 5 (K5 52 5)) (c := 6) (k := 5) ok dX6_seeds_152 clsX6 tyX6 tyX6_ok nmX6 (by decide) q683 rfl rfl (fun _ => rfl) (fun _ => rfl) (Nat.le_of_ble_eq_true rfl) (fs_6_5 _ _ _) up_ne rfl ?_
            refine g_iload_n (n := 156) ok 4 dX6_seeds_155 rfl rfl rfl ?_
            refine g_if_ne (n := 159) (tgt := 164) ok dX6_seeds_156 (by decide) rfl (fun c11 => ?_) (fun c11 => ?_)
            · rw [if_neg c11]
              have hz12 := ixn (n := 0) ha8 c11 (by omega) (by omega)
              refine g_iload (n := 166) ok 0 dX6_seeds_164 rfl rfl ?_
              exact g_iret ok hr dX6_seeds_166
            · rw [if_pos c11]
              have hz13 := ixe (n := 0) ha8 c11 (by omega) (by omega)
              refine g_iload (n := 161) ok 1 dX6_seeds_159 rfl rfl ?_
              refine g_goto (tgt := 166) ok dX6_seeds_161 (by decide) ?_
              exact g_iret ok hr dX6_seeds_166
          have L70 : ∀ (n70 i70 : Nat) (x70_7 : Int32) (x70_6 : Int32) (J70 : HI) (hJ : J70 52 5 = nI (ix (K5 52 5) + i70)) (hi : i70 + n70 = ix n), G E 12 ((some (vi ((((fun (s : Int32 × Int32 × HI) => fX6_seeds_x70 what K5 s.1 s.2.1 s.2.2) (fo n70 i70 (fun (i : Nat) (s : Int32 × Int32 × HI) => fX6_seeds_b70 i s.1 s.2.1 s.2.2) (x70_7, x70_6, J70))).1))), ((fun (s : Int32 × Int32 × HI) => fX6_seeds_x70 what K5 s.1 s.2.1 s.2.2) (fo n70 i70 (fun (i : Nat) (s : Int32 × Int32 × HI) => fX6_seeds_b70 i s.1 s.2.1 s.2.2) (x70_7, x70_6, J70))).2)) J70 70 [(8, vi (nI i70)), (7, vi x70_7), (6, vi x70_6), (5, vi (K5 52 5)), (0, vr 52), (1, vi n), (3, vi what)] [] := by
            intro n70
            induction n70 with
            | zero =>
              intro i70 x70_7 x70_6 J70 hJ hi
              rw [fo_0]
              refine g_iload (n := 72) ok 0 dX6_seeds_70 rfl rfl ?_
              refine g_iload_n (n := 73) ok 5 dX6_seeds_72 rfl rfl rfl ?_
              refine g_icmp_ge (n := 76) (tgt := 149) ok dX6_seeds_73 (by decide) rfl (fun c => ?_) (fun c => absurd (nle (a := ix n) (b := i70) (vx ha10) rfl (by omega) (by omega)) c)
              refine g_sub [1, 2, 3, 4, 6] rfl ?_
              exact X70 _ _ _
            | succ n70 ih =>
              intro i70 x70_7 x70_6 J70 hJ hi
              refine g_iload (n := 72) ok 0 dX6_seeds_70 rfl rfl ?_
              refine g_iload_n (n := 73) ok 5 dX6_seeds_72 rfl rfl rfl ?_
              refine g_icmp_ge (n := 76) (tgt := 149) ok dX6_seeds_73 (by decide) rfl (fun c => absurd c (nnle (a := ix n) (b := i70) (vx ha10) rfl (by omega) (by omega))) (fun c => ?_)
              rw [fo_s]
              show G E 12 ((some (vi ((((fun (s : Int32 × Int32 × HI) => fX6_seeds_x70 what K5 s.1 s.2.1 s.2.2) (fo n70 (i70 + 1) (fun (i : Nat) (s : Int32 × Int32 × HI) => fX6_seeds_b70 i s.1 s.2.1 s.2.2) (fX6_seeds_b70 i70 x70_7 x70_6 J70))).1))), ((fun (s : Int32 × Int32 × HI) => fX6_seeds_x70 what K5 s.1 s.2.1 s.2.2) (fo n70 (i70 + 1) (fun (i : Nat) (s : Int32 × Int32 × HI) => fX6_seeds_b70 i s.1 s.2.1 s.2.2) (fX6_seeds_b70 i70 x70_7 x70_6 J70))).2)) _ _ _ _
              rw [fX6_seeds_b70]
              refine g_aload_n (n := 77) ok 4 dX6_seeds_76 rfl rfl rfl ?_
              refine g_iconst (n := 78) (v := 2) ok dX6_seeds_77 rfl rfl ?_
              refine g_callV (n := 81) (rest := []) (av := [vi (nI 2)]) (j := 52) ok (kX6_drawn J70 2 (by first | with_reducible assumption | omega) (by first | with_reducible assumption | omega)) knX6_drawn q1089 q1091 qs60 clsX6 rfl dX6_seeds_78 rfl rfl (Nat.le_of_ble_eq_true rfl) (by decide) (by decide) rfl ?_
              have hq14 : vp_in ((fX6_drawn J70 2).1) 2 := drawn6_in (by omega) (by omega)
              have hq14b := vb hq14
              refine g_top (vx hq14) ?_
              refine g_istore (n := 83) (lv' := [(9, vi (nI (ix ((fX6_drawn J70 2).1)))), (8, vi (nI i70)), (7, vi x70_7), (6, vi x70_6), (5, vi (K5 52 5)), (0, vr 52), (1, vi n), (3, vi what)]) ok dX6_seeds_81 (by decide) rfl rfl ?_
              refine g_aload_n (n := 84) ok 5 dX6_seeds_83 rfl rfl rfl ?_
              refine g_bipush (n := 86) (v := 9) ok dX6_seeds_84 rfl rfl ?_
              refine g_callV (n := 89) (rest := []) (av := [vi (nI 9)]) (j := 52) ok (kX6_drawn ((fX6_drawn J70 2).2) 9 (by first | with_reducible assumption | omega) (by first | with_reducible assumption | omega)) knX6_drawn q1089 q1091 qs60 clsX6 rfl dX6_seeds_86 rfl rfl (Nat.le_of_ble_eq_true rfl) (by decide) (by decide) rfl ?_
              have hq15 : vp_in ((fX6_drawn ((fX6_drawn J70 2).2) 9).1) 9 := drawn6_in (by omega) (by omega)
              have hq15b := vb hq15
              refine g_top (vx hq15) ?_
              refine g_iconst (n := 90) (v := 1) ok dX6_seeds_89 rfl rfl ?_
              refine g_iadd (n := 91) ok dX6_seeds_90 rfl ?_
              refine g_top (nv_iadd (a := ix ((fX6_drawn ((fX6_drawn J70 2).2) 9).1)) (b := 1) rfl rfl) ?_
              refine g_istore (n := 93) (lv' := [(10, vi (nI ((ix ((fX6_drawn ((fX6_drawn J70 2).2) 9).1)) + 1))), (9, vi (nI (ix ((fX6_drawn J70 2).1)))), (8, vi (nI i70)), (7, vi x70_7), (6, vi x70_6), (5, vi (K5 52 5)), (0, vr 52), (1, vi n), (3, vi what)]) ok dX6_seeds_91 (by decide) rfl rfl ?_
              refine g_aload_n (n := 94) ok 6 dX6_seeds_93 rfl rfl rfl ?_
              refine g_aload_n (n := 95) ok 6 dX6_seeds_94 rfl rfl rfl ?_
              refine g_aload_n (n := 96) ok 6 dX6_seeds_95 rfl rfl rfl ?_
              refine g_get (n := 99) (v := vi (((fX6_drawn ((fX6_drawn J70 2).2) 9).2) 52 3)) (c := 6) (k := 3) ok dX6_seeds_96 clsX6 (by decide) q681 rfl rfl rfl ?_
              refine g_iload (n := 101) ok 1 dX6_seeds_99 rfl rfl ?_
              refine g_iload (n := 103) ok 0 dX6_seeds_101 rfl rfl ?_
              refine g_aload_n (n := 104) ok 6 dX6_seeds_103 rfl rfl rfl ?_
              refine g_bipush (n := 106) (v := 9) ok dX6_seeds_104 rfl rfl ?_
              refine g_callV (n := 109) (rest := [vi (nI ((ix ((fX6_drawn ((fX6_drawn J70 2).2) 9).1)) + 1)), vi (nI (ix ((fX6_drawn J70 2).1))), vi (((fX6_drawn ((fX6_drawn J70 2).2) 9).2) 52 3), vr 52, vr 52]) (av := [vi (nI 9)]) (j := 52) ok (kX6_drawn ((fX6_drawn ((fX6_drawn J70 2).2) 9).2) 9 (by first | with_reducible assumption | omega) (by first | with_reducible assumption | omega)) knX6_drawn q1089 q1091 qs60 clsX6 rfl dX6_seeds_106 rfl rfl (Nat.le_of_ble_eq_true rfl) (by decide) (by decide) rfl ?_
              have hq16 : vp_in ((fX6_drawn ((fX6_drawn ((fX6_drawn J70 2).2) 9).2) 9).1) 9 := drawn6_in (by omega) (by omega)
              have hq16b := vb hq16
              refine g_top (vx hq16) ?_
              refine g_iconst (n := 110) (v := 1) ok dX6_seeds_109 rfl rfl ?_
              refine g_iadd (n := 111) ok dX6_seeds_110 rfl ?_
              refine g_top (nv_iadd (a := ix ((fX6_drawn ((fX6_drawn ((fX6_drawn J70 2).2) 9).2) 9).1)) (b := 1) rfl rfl) ?_
              refine g_callV (n := 114) (rest := [vr 52]) (av := [vi (((fX6_drawn ((fX6_drawn J70 2).2) 9).2) 52 3), vi (nI (ix ((fX6_drawn J70 2).1))), vi (nI ((ix ((fX6_drawn ((fX6_drawn J70 2).2) 9).1)) + 1)), vi (nI ((ix ((fX6_drawn ((fX6_drawn ((fX6_drawn J70 2).2) 9).2) 9).1)) + 1))]) (j := 52) ok (kX6_drawBy ((fX6_drawn ((fX6_drawn ((fX6_drawn J70 2).2) 9).2) 9).2) (((fX6_drawn ((fX6_drawn J70 2).2) 9).2) 52 3) (ix ((fX6_drawn J70 2).1)) (nI ((ix ((fX6_drawn ((fX6_drawn J70 2).2) 9).1)) + 1)) (nI ((ix ((fX6_drawn ((fX6_drawn ((fX6_drawn J70 2).2) 9).2) 9).1)) + 1)) (by rw [drawn6_tr, drawn6_tr, drawn6_tr, hJ]; exact vp_nI (by omega) (by omega)) (by first | with_reducible assumption | omega) (nI_ne0 (by omega) (by omega))) knX6_drawBy q848 q850 qs38 clsX6 rfl dX6_seeds_111 rfl rfl (Nat.le_of_ble_eq_true rfl) (by decide) (by decide) rfl ?_
              have hp17 : (fX6_drawBy ((fX6_drawn ((fX6_drawn ((fX6_drawn J70 2).2) 9).2) 9).2) (((fX6_drawn ((fX6_drawn J70 2).2) 9).2) 52 3) (ix ((fX6_drawn J70 2).1)) (nI ((ix ((fX6_drawn ((fX6_drawn J70 2).2) 9).1)) + 1)) (nI ((ix ((fX6_drawn ((fX6_drawn ((fX6_drawn J70 2).2) 9).2) 9).1)) + 1))).1 = ix (((fX6_drawn ((fX6_drawn ((fX6_drawn J70 2).2) 9).2) 9).2) 52 5) := rfl
              have hix : ix (((fX6_drawn ((fX6_drawn ((fX6_drawn J70 2).2) 9).2) 9).2) 52 5) < 27 := by rw [drawn6_tr, drawn6_tr, drawn6_tr, hJ, ix_nI (by omega)]; omega
              refine g_callV (n := 117) (rest := []) (av := [vi (nI ((fX6_drawBy ((fX6_drawn ((fX6_drawn ((fX6_drawn J70 2).2) 9).2) 9).2) (((fX6_drawn ((fX6_drawn J70 2).2) 9).2) 52 3) (ix ((fX6_drawn J70 2).1)) (nI ((ix ((fX6_drawn ((fX6_drawn J70 2).2) 9).1)) + 1)) (nI ((ix ((fX6_drawn ((fX6_drawn ((fX6_drawn J70 2).2) 9).2) 9).1)) + 1))).1))]) (j := 52) ok (kX6_offOf ((fX6_drawBy ((fX6_drawn ((fX6_drawn ((fX6_drawn J70 2).2) 9).2) 9).2) (((fX6_drawn ((fX6_drawn J70 2).2) 9).2) 52 3) (ix ((fX6_drawn J70 2).1)) (nI ((ix ((fX6_drawn ((fX6_drawn J70 2).2) 9).1)) + 1)) (nI ((ix ((fX6_drawn ((fX6_drawn ((fX6_drawn J70 2).2) 9).2) 9).1)) + 1))).2) ((fX6_drawBy ((fX6_drawn ((fX6_drawn ((fX6_drawn J70 2).2) 9).2) 9).2) (((fX6_drawn ((fX6_drawn J70 2).2) 9).2) 52 3) (ix ((fX6_drawn J70 2).1)) (nI ((ix ((fX6_drawn ((fX6_drawn J70 2).2) 9).1)) + 1)) (nI ((ix ((fX6_drawn ((fX6_drawn ((fX6_drawn J70 2).2) 9).2) 9).1)) + 1))).1) (by first | with_reducible assumption | omega)) knX6_offOf q939 q941 qs48 clsX6 rfl dX6_seeds_114 rfl rfl (Nat.le_of_ble_eq_true rfl) (by decide) (by decide) rfl ?_
              refine g_istore (n := 119) (lv' := [(11, vi (fX6_offOf ((fX6_drawBy ((fX6_drawn ((fX6_drawn ((fX6_drawn J70 2).2) 9).2) 9).2) (((fX6_drawn ((fX6_drawn J70 2).2) 9).2) 52 3) (ix ((fX6_drawn J70 2).1)) (nI ((ix ((fX6_drawn ((fX6_drawn J70 2).2) 9).1)) + 1)) (nI ((ix ((fX6_drawn ((fX6_drawn ((fX6_drawn J70 2).2) 9).2) 9).1)) + 1))).2) ((fX6_drawBy ((fX6_drawn ((fX6_drawn ((fX6_drawn J70 2).2) 9).2) 9).2) (((fX6_drawn ((fX6_drawn J70 2).2) 9).2) 52 3) (ix ((fX6_drawn J70 2).1)) (nI ((ix ((fX6_drawn ((fX6_drawn J70 2).2) 9).1)) + 1)) (nI ((ix ((fX6_drawn ((fX6_drawn ((fX6_drawn J70 2).2) 9).2) 9).1)) + 1))).1))), (10, vi (nI ((ix ((fX6_drawn ((fX6_drawn J70 2).2) 9).1)) + 1))), (9, vi (nI (ix ((fX6_drawn J70 2).1)))), (8, vi (nI i70)), (7, vi x70_7), (6, vi x70_6), (5, vi (K5 52 5)), (0, vr 52), (1, vi n), (3, vi what)]) ok dX6_seeds_117 (by decide) rfl rfl ?_
              have hJ9 : (((fX6_drawBy ((fX6_drawn ((fX6_drawn ((fX6_drawn J70 2).2) 9).2) 9).2) (((fX6_drawn ((fX6_drawn J70 2).2) 9).2) 52 3) (ix ((fX6_drawn J70 2).1)) (nI ((ix ((fX6_drawn ((fX6_drawn J70 2).2) 9).1)) + 1)) (nI ((ix ((fX6_drawn ((fX6_drawn ((fX6_drawn J70 2).2) 9).2) 9).1)) + 1))).2)) 52 5 = nI (ix (K5 52 5) + (i70 + 1)) := by rw [drawBy_tr, drawn6_tr, drawn6_tr, drawn6_tr, hJ]; exact (nI_succ _).symm
              refine g_iload (n := 121) ok 5 dX6_seeds_119 rfl rfl ?_
              refine g_iload (n := 123) ok 0 dX6_seeds_121 rfl rfl ?_
              refine g_iadd (n := 124) ok dX6_seeds_123 rfl ?_
              refine g_istore (n := 126) (lv' := [(6, vi (x70_6 + (fX6_offOf ((fX6_drawBy ((fX6_drawn ((fX6_drawn ((fX6_drawn J70 2).2) 9).2) 9).2) (((fX6_drawn ((fX6_drawn J70 2).2) 9).2) 52 3) (ix ((fX6_drawn J70 2).1)) (nI ((ix ((fX6_drawn ((fX6_drawn J70 2).2) 9).1)) + 1)) (nI ((ix ((fX6_drawn ((fX6_drawn ((fX6_drawn J70 2).2) 9).2) 9).1)) + 1))).2) ((fX6_drawBy ((fX6_drawn ((fX6_drawn ((fX6_drawn J70 2).2) 9).2) 9).2) (((fX6_drawn ((fX6_drawn J70 2).2) 9).2) 52 3) (ix ((fX6_drawn J70 2).1)) (nI ((ix ((fX6_drawn ((fX6_drawn J70 2).2) 9).1)) + 1)) (nI ((ix ((fX6_drawn ((fX6_drawn ((fX6_drawn J70 2).2) 9).2) 9).1)) + 1))).1)))), (11, vi (fX6_offOf ((fX6_drawBy ((fX6_drawn ((fX6_drawn ((fX6_drawn J70 2).2) 9).2) 9).2) (((fX6_drawn ((fX6_drawn J70 2).2) 9).2) 52 3) (ix ((fX6_drawn J70 2).1)) (nI ((ix ((fX6_drawn ((fX6_drawn J70 2).2) 9).1)) + 1)) (nI ((ix ((fX6_drawn ((fX6_drawn ((fX6_drawn J70 2).2) 9).2) 9).1)) + 1))).2) ((fX6_drawBy ((fX6_drawn ((fX6_drawn ((fX6_drawn J70 2).2) 9).2) 9).2) (((fX6_drawn ((fX6_drawn J70 2).2) 9).2) 52 3) (ix ((fX6_drawn J70 2).1)) (nI ((ix ((fX6_drawn ((fX6_drawn J70 2).2) 9).1)) + 1)) (nI ((ix ((fX6_drawn ((fX6_drawn ((fX6_drawn J70 2).2) 9).2) 9).1)) + 1))).1))), (10, vi (nI ((ix ((fX6_drawn ((fX6_drawn J70 2).2) 9).1)) + 1))), (9, vi (nI (ix ((fX6_drawn J70 2).1)))), (8, vi (nI i70)), (7, vi x70_7), (5, vi (K5 52 5)), (0, vr 52), (1, vi n), (3, vi what)]) ok dX6_seeds_124 (by decide) rfl rfl ?_
              refine g_iload (n := 128) ok 5 dX6_seeds_126 rfl rfl ?_
              refine g_iload (n := 130) ok 1 dX6_seeds_128 rfl rfl ?_
              refine g_bipush (n := 132) (v := 60) ok dX6_seeds_130 rfl rfl ?_
              refine g_icmp_ge (n := 135) (tgt := 139) ok dX6_seeds_132 (by decide) rfl (fun c18 => ?_) (fun c18 => ?_)
              · rw [if_pos c18]
                refine g_iconst (n := 140) (v := 0) ok dX6_seeds_139 rfl rfl ?_
                refine g_iadd (n := 141) ok dX6_seeds_140 rfl ?_
                refine g_istore (n := 143) (lv' := [(7, vi (x70_7 + 0)), (6, vi (x70_6 + (fX6_offOf ((fX6_drawBy ((fX6_drawn ((fX6_drawn ((fX6_drawn J70 2).2) 9).2) 9).2) (((fX6_drawn ((fX6_drawn J70 2).2) 9).2) 52 3) (ix ((fX6_drawn J70 2).1)) (nI ((ix ((fX6_drawn ((fX6_drawn J70 2).2) 9).1)) + 1)) (nI ((ix ((fX6_drawn ((fX6_drawn ((fX6_drawn J70 2).2) 9).2) 9).1)) + 1))).2) ((fX6_drawBy ((fX6_drawn ((fX6_drawn ((fX6_drawn J70 2).2) 9).2) 9).2) (((fX6_drawn ((fX6_drawn J70 2).2) 9).2) 52 3) (ix ((fX6_drawn J70 2).1)) (nI ((ix ((fX6_drawn ((fX6_drawn J70 2).2) 9).1)) + 1)) (nI ((ix ((fX6_drawn ((fX6_drawn ((fX6_drawn J70 2).2) 9).2) 9).1)) + 1))).1)))), (11, vi (fX6_offOf ((fX6_drawBy ((fX6_drawn ((fX6_drawn ((fX6_drawn J70 2).2) 9).2) 9).2) (((fX6_drawn ((fX6_drawn J70 2).2) 9).2) 52 3) (ix ((fX6_drawn J70 2).1)) (nI ((ix ((fX6_drawn ((fX6_drawn J70 2).2) 9).1)) + 1)) (nI ((ix ((fX6_drawn ((fX6_drawn ((fX6_drawn J70 2).2) 9).2) 9).1)) + 1))).2) ((fX6_drawBy ((fX6_drawn ((fX6_drawn ((fX6_drawn J70 2).2) 9).2) 9).2) (((fX6_drawn ((fX6_drawn J70 2).2) 9).2) 52 3) (ix ((fX6_drawn J70 2).1)) (nI ((ix ((fX6_drawn ((fX6_drawn J70 2).2) 9).1)) + 1)) (nI ((ix ((fX6_drawn ((fX6_drawn ((fX6_drawn J70 2).2) 9).2) 9).1)) + 1))).1))), (10, vi (nI ((ix ((fX6_drawn ((fX6_drawn J70 2).2) 9).1)) + 1))), (9, vi (nI (ix ((fX6_drawn J70 2).1)))), (8, vi (nI i70)), (5, vi (K5 52 5)), (0, vr 52), (1, vi n), (3, vi what)]) ok dX6_seeds_141 (by decide) rfl rfl ?_
                refine g_iinc (n := 146) (v := nI (i70 + 1)) (lv' := [(8, vi (nI (i70 + 1))), (7, vi (x70_7 + 0)), (6, vi (x70_6 + (fX6_offOf ((fX6_drawBy ((fX6_drawn ((fX6_drawn ((fX6_drawn J70 2).2) 9).2) 9).2) (((fX6_drawn ((fX6_drawn J70 2).2) 9).2) 52 3) (ix ((fX6_drawn J70 2).1)) (nI ((ix ((fX6_drawn ((fX6_drawn J70 2).2) 9).1)) + 1)) (nI ((ix ((fX6_drawn ((fX6_drawn ((fX6_drawn J70 2).2) 9).2) 9).1)) + 1))).2) ((fX6_drawBy ((fX6_drawn ((fX6_drawn ((fX6_drawn J70 2).2) 9).2) 9).2) (((fX6_drawn ((fX6_drawn J70 2).2) 9).2) 52 3) (ix ((fX6_drawn J70 2).1)) (nI ((ix ((fX6_drawn ((fX6_drawn J70 2).2) 9).1)) + 1)) (nI ((ix ((fX6_drawn ((fX6_drawn ((fX6_drawn J70 2).2) 9).2) 9).1)) + 1))).1)))), (11, vi (fX6_offOf ((fX6_drawBy ((fX6_drawn ((fX6_drawn ((fX6_drawn J70 2).2) 9).2) 9).2) (((fX6_drawn ((fX6_drawn J70 2).2) 9).2) 52 3) (ix ((fX6_drawn J70 2).1)) (nI ((ix ((fX6_drawn ((fX6_drawn J70 2).2) 9).1)) + 1)) (nI ((ix ((fX6_drawn ((fX6_drawn ((fX6_drawn J70 2).2) 9).2) 9).1)) + 1))).2) ((fX6_drawBy ((fX6_drawn ((fX6_drawn ((fX6_drawn J70 2).2) 9).2) 9).2) (((fX6_drawn ((fX6_drawn J70 2).2) 9).2) 52 3) (ix ((fX6_drawn J70 2).1)) (nI ((ix ((fX6_drawn ((fX6_drawn J70 2).2) 9).1)) + 1)) (nI ((ix ((fX6_drawn ((fX6_drawn ((fX6_drawn J70 2).2) 9).2) 9).1)) + 1))).1))), (10, vi (nI ((ix ((fX6_drawn ((fX6_drawn J70 2).2) 9).1)) + 1))), (9, vi (nI (ix ((fX6_drawn J70 2).1)))), (5, vi (K5 52 5)), (0, vr 52), (1, vi n), (3, vi what)]) ok 5 dX6_seeds_143 rfl (iinc_n (a := i70) rfl) (by decide) rfl rfl ?_
                refine g_goto (tgt := 70) ok dX6_seeds_146 (by decide) ?_
                refine g_sub [0, 1, 2, 6, 7, 8, 9] rfl ?_
                exact ih (i70 + 1) (x70_7 + 0) (x70_6 + (fX6_offOf ((fX6_drawBy ((fX6_drawn ((fX6_drawn ((fX6_drawn J70 2).2) 9).2) 9).2) (((fX6_drawn ((fX6_drawn J70 2).2) 9).2) 52 3) (ix ((fX6_drawn J70 2).1)) (nI ((ix ((fX6_drawn ((fX6_drawn J70 2).2) 9).1)) + 1)) (nI ((ix ((fX6_drawn ((fX6_drawn ((fX6_drawn J70 2).2) 9).2) 9).1)) + 1))).2) ((fX6_drawBy ((fX6_drawn ((fX6_drawn ((fX6_drawn J70 2).2) 9).2) 9).2) (((fX6_drawn ((fX6_drawn J70 2).2) 9).2) 52 3) (ix ((fX6_drawn J70 2).1)) (nI ((ix ((fX6_drawn ((fX6_drawn J70 2).2) 9).1)) + 1)) (nI ((ix ((fX6_drawn ((fX6_drawn ((fX6_drawn J70 2).2) 9).2) 9).1)) + 1))).1))) _ hJ9 (by omega)
              · rw [if_neg c18]
                refine g_iconst (n := 136) (v := 1) ok dX6_seeds_135 rfl rfl ?_
                refine g_goto (tgt := 140) ok dX6_seeds_136 (by decide) ?_
                refine g_iadd (n := 141) ok dX6_seeds_140 rfl ?_
                refine g_istore (n := 143) (lv' := [(7, vi (x70_7 + 1)), (6, vi (x70_6 + (fX6_offOf ((fX6_drawBy ((fX6_drawn ((fX6_drawn ((fX6_drawn J70 2).2) 9).2) 9).2) (((fX6_drawn ((fX6_drawn J70 2).2) 9).2) 52 3) (ix ((fX6_drawn J70 2).1)) (nI ((ix ((fX6_drawn ((fX6_drawn J70 2).2) 9).1)) + 1)) (nI ((ix ((fX6_drawn ((fX6_drawn ((fX6_drawn J70 2).2) 9).2) 9).1)) + 1))).2) ((fX6_drawBy ((fX6_drawn ((fX6_drawn ((fX6_drawn J70 2).2) 9).2) 9).2) (((fX6_drawn ((fX6_drawn J70 2).2) 9).2) 52 3) (ix ((fX6_drawn J70 2).1)) (nI ((ix ((fX6_drawn ((fX6_drawn J70 2).2) 9).1)) + 1)) (nI ((ix ((fX6_drawn ((fX6_drawn ((fX6_drawn J70 2).2) 9).2) 9).1)) + 1))).1)))), (11, vi (fX6_offOf ((fX6_drawBy ((fX6_drawn ((fX6_drawn ((fX6_drawn J70 2).2) 9).2) 9).2) (((fX6_drawn ((fX6_drawn J70 2).2) 9).2) 52 3) (ix ((fX6_drawn J70 2).1)) (nI ((ix ((fX6_drawn ((fX6_drawn J70 2).2) 9).1)) + 1)) (nI ((ix ((fX6_drawn ((fX6_drawn ((fX6_drawn J70 2).2) 9).2) 9).1)) + 1))).2) ((fX6_drawBy ((fX6_drawn ((fX6_drawn ((fX6_drawn J70 2).2) 9).2) 9).2) (((fX6_drawn ((fX6_drawn J70 2).2) 9).2) 52 3) (ix ((fX6_drawn J70 2).1)) (nI ((ix ((fX6_drawn ((fX6_drawn J70 2).2) 9).1)) + 1)) (nI ((ix ((fX6_drawn ((fX6_drawn ((fX6_drawn J70 2).2) 9).2) 9).1)) + 1))).1))), (10, vi (nI ((ix ((fX6_drawn ((fX6_drawn J70 2).2) 9).1)) + 1))), (9, vi (nI (ix ((fX6_drawn J70 2).1)))), (8, vi (nI i70)), (5, vi (K5 52 5)), (0, vr 52), (1, vi n), (3, vi what)]) ok dX6_seeds_141 (by decide) rfl rfl ?_
                refine g_iinc (n := 146) (v := nI (i70 + 1)) (lv' := [(8, vi (nI (i70 + 1))), (7, vi (x70_7 + 1)), (6, vi (x70_6 + (fX6_offOf ((fX6_drawBy ((fX6_drawn ((fX6_drawn ((fX6_drawn J70 2).2) 9).2) 9).2) (((fX6_drawn ((fX6_drawn J70 2).2) 9).2) 52 3) (ix ((fX6_drawn J70 2).1)) (nI ((ix ((fX6_drawn ((fX6_drawn J70 2).2) 9).1)) + 1)) (nI ((ix ((fX6_drawn ((fX6_drawn ((fX6_drawn J70 2).2) 9).2) 9).1)) + 1))).2) ((fX6_drawBy ((fX6_drawn ((fX6_drawn ((fX6_drawn J70 2).2) 9).2) 9).2) (((fX6_drawn ((fX6_drawn J70 2).2) 9).2) 52 3) (ix ((fX6_drawn J70 2).1)) (nI ((ix ((fX6_drawn ((fX6_drawn J70 2).2) 9).1)) + 1)) (nI ((ix ((fX6_drawn ((fX6_drawn ((fX6_drawn J70 2).2) 9).2) 9).1)) + 1))).1)))), (11, vi (fX6_offOf ((fX6_drawBy ((fX6_drawn ((fX6_drawn ((fX6_drawn J70 2).2) 9).2) 9).2) (((fX6_drawn ((fX6_drawn J70 2).2) 9).2) 52 3) (ix ((fX6_drawn J70 2).1)) (nI ((ix ((fX6_drawn ((fX6_drawn J70 2).2) 9).1)) + 1)) (nI ((ix ((fX6_drawn ((fX6_drawn ((fX6_drawn J70 2).2) 9).2) 9).1)) + 1))).2) ((fX6_drawBy ((fX6_drawn ((fX6_drawn ((fX6_drawn J70 2).2) 9).2) 9).2) (((fX6_drawn ((fX6_drawn J70 2).2) 9).2) 52 3) (ix ((fX6_drawn J70 2).1)) (nI ((ix ((fX6_drawn ((fX6_drawn J70 2).2) 9).1)) + 1)) (nI ((ix ((fX6_drawn ((fX6_drawn ((fX6_drawn J70 2).2) 9).2) 9).1)) + 1))).1))), (10, vi (nI ((ix ((fX6_drawn ((fX6_drawn J70 2).2) 9).1)) + 1))), (9, vi (nI (ix ((fX6_drawn J70 2).1)))), (5, vi (K5 52 5)), (0, vr 52), (1, vi n), (3, vi what)]) ok 5 dX6_seeds_143 rfl (iinc_n (a := i70) rfl) (by decide) rfl rfl ?_
                refine g_goto (tgt := 70) ok dX6_seeds_146 (by decide) ?_
                refine g_sub [0, 1, 2, 6, 7, 8, 9] rfl ?_
                exact ih (i70 + 1) (x70_7 + 1) (x70_6 + (fX6_offOf ((fX6_drawBy ((fX6_drawn ((fX6_drawn ((fX6_drawn J70 2).2) 9).2) 9).2) (((fX6_drawn ((fX6_drawn J70 2).2) 9).2) 52 3) (ix ((fX6_drawn J70 2).1)) (nI ((ix ((fX6_drawn ((fX6_drawn J70 2).2) 9).1)) + 1)) (nI ((ix ((fX6_drawn ((fX6_drawn ((fX6_drawn J70 2).2) 9).2) 9).1)) + 1))).2) ((fX6_drawBy ((fX6_drawn ((fX6_drawn ((fX6_drawn J70 2).2) 9).2) 9).2) (((fX6_drawn ((fX6_drawn J70 2).2) 9).2) 52 3) (ix ((fX6_drawn J70 2).1)) (nI ((ix ((fX6_drawn ((fX6_drawn J70 2).2) 9).1)) + 1)) (nI ((ix ((fX6_drawn ((fX6_drawn ((fX6_drawn J70 2).2) 9).2) 9).1)) + 1))).1))) _ hJ9 (by omega)
          refine g_sub [0, 1, 2, 3, 5, 6, 8] rfl ?_
          exact L70 (ix n) 0 0 0 _ (by rw [up_k (by omega)]; exact vx hd2) (by omega)
        · exact absurd (wz0 c5) c9
      · rw [if_pos c7]
        refine g_bipush (n := 31) (v := -2) ok dX6_seeds_29 rfl rfl ?_
        refine g_goto (tgt := 36) ok dX6_seeds_31 (by decide) ?_
        refine g_istore (n := 38) (lv' := [(4, vi (-2)), (0, vr 52), (1, vi n), (2, vi z), (3, vi what)]) ok dX6_seeds_36 (by decide) rfl rfl ?_
        refine g_iload (n := 40) ok 0 dX6_seeds_38 rfl rfl ?_
        refine g_if_ge (n := 43) (tgt := 50) ok dX6_seeds_40 (by decide) rfl (fun c19 => ?_) (fun c19 => ?_)
        · exact absurd c19 (by decide)
        · refine g_aload_n (n := 44) ok 1 dX6_seeds_43 rfl rfl rfl ?_
          refine g_iload (n := 46) ok 0 dX6_seeds_44 rfl rfl ?_
          refine g_callV (n := 49) (rest := []) (av := [vi (-2)]) (j := 52) ok (kX6_refuse K5 (-2) (vp_b (by decide +kernel))) knX6_refuse q770 q772 qs25 clsX6 rfl dX6_seeds_46 rfl rfl (Nat.le_of_ble_eq_true rfl) (by decide) (by decide) rfl ?_
          exact g_iret ok hr dX6_seeds_49
  exact C5_20 _ (by rw [up_k (by omega)]; exact hd)

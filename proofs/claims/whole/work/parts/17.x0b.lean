def okS (I : HI) (start : Int32) : Prop := (fX0_signAt I start = 115 → vp_in (fX0_digitAt I (start + 1)) 5) ∧ (fX0_signAt I start = 104 → vp_in (fX0_digitAt I (start + 1)) 2 ∧ vp_in (fX0_numberAt I (start + 2) 2) 12) ∧ (fX0_signAt I start = 111 → vp_in (fX0_digitAt I (start + 1)) 2 ∧ vp_in (fX0_numberAt I (start + 2) 2) 12) ∧ (fX0_signAt I start = 116 → vp_in (fX0_digitAt I (start + 1)) 2)
noncomputable def fX0_tellOne (I : HI) (start : Int32) : HI :=
  if fX0_signAt I start = 104 then (up I 2 (fX5_spot (ix (fX0_digitAt I (start + 1))) (ix (fX0_numberAt I (start + 2) 2))) (fX0_digitAt I (start + 4))) else (if fX0_signAt I start = 107 then (up (up I 1 3 (fX0_digitAt I (start + 1))) 1 4 (fX0_digitAt (up I 1 3 (fX0_digitAt I (start + 1))) (start + 2))) else (if fX0_signAt I start = 111 then (up I 3 (fX5_spot (ix (fX0_digitAt I (start + 1))) (ix (fX0_numberAt I (start + 2) 2))) (fX0_numberAt I (start + 4) 2)) else (if fX0_signAt I start = 115 then (up I 4 (ix (fX0_digitAt I (start + 1))) (fX0_settingNumber I start)) else (if fX0_signAt I start = 116 then ((fX3_addTrace I (ix (fX0_digitAt I (start + 1))) (fX0_digitAt I (start + 2)) (fX0_digitAt I (start + 3))).2) else (up I 1 6 0)))))
theorem knX0_tellOne : Kn yX0_tellOne cX0_tellOne 4 none 2 := ⟨q276, q7, ⟨by decide, by decide⟩, by decide +kernel⟩
set_option maxHeartbeats 400000 in
set_option maxRecDepth 100000 in
theorem kX0_tellOne (I : HI) (start : Int32) (hm : vp_in (I 47 1) 97) (hd : vp_in (I 1 6) 7) (hv : okS I start) : Cx yX0_tellOne cX0_tellOne 4 none 4 99 [vr 47, vi start, vr 1] I ((none, fX0_tellOne I start)) := by
  refine Cx.mk (lv := [(0, vr 47), (1, vi start), (2, vr 1)]) (by decide) (Nat.le_of_ble_eq_true rfl) rfl (fun E ok hr => ?_)
  rw [fX0_tellOne]
  refine g_aload_n (n := 1) ok 0 dX0_tellOne_0 rfl rfl rfl ?_
  refine g_iload_n (n := 2) ok 1 dX0_tellOne_1 rfl rfl rfl ?_
  refine g_iconst (n := 3) (v := 1) ok dX0_tellOne_2 rfl rfl ?_
  refine g_iadd (n := 4) ok dX0_tellOne_3 rfl ?_
  refine g_callV (n := 7) (rest := []) (av := [vi (start + 1)]) (j := 47) ok (kX0_digitAt I (start + 1) (by first | with_reducible assumption | omega)) knX0_digitAt q241 q243 qs9 clsX0 rfl dX0_tellOne_4 rfl rfl (Nat.le_of_ble_eq_true rfl) (by decide) (by decide) rfl ?_
  refine g_istore_n (n := 8) (lv' := [(3, vi (fX0_digitAt I (start + 1))), (0, vr 47), (1, vi start), (2, vr 1)]) ok dX0_tellOne_7 rfl (by decide) rfl rfl ?_
  refine g_aload_n (n := 9) ok 1 dX0_tellOne_8 rfl rfl rfl ?_
  refine g_iload_n (n := 10) ok 2 dX0_tellOne_9 rfl rfl rfl ?_
  refine g_callV (n := 13) (rest := []) (av := [vi start]) (j := 47) ok (kX0_signAt I start (by first | with_reducible assumption | omega)) knX0_signAt q216 q218 qs3 clsX0 rfl dX0_tellOne_10 rfl rfl (Nat.le_of_ble_eq_true rfl) (by decide) (by decide) rfl ?_
  by_cases c1 : fX0_signAt I start = 104
  · rw [if_pos c1]
    have hc1 := hv.2.1 c1
    have hb1 := vb hc1.1
    have hb2 := vb hc1.2
    refine g_tabIn (off := 100) (tgt := 113) ok dX0_tellOne_13 (by rw [c1]; decide) (by rw [c1]; decide) (by rw [c1]; rfl) (by decide) ?_
    refine g_aload_n (n := 114) ok 3 dX0_tellOne_113 rfl rfl rfl ?_
    refine g_get (n := 117) (v := vr 2) (c := 3) (k := 0) ok dX0_tellOne_114 clsX3 (by decide) q63 rfl rfl rfl ?_
    refine g_iload_n (n := 118) ok 0 dX0_tellOne_117 rfl rfl rfl ?_
    refine g_aload_n (n := 119) ok 1 dX0_tellOne_118 rfl rfl rfl ?_
    refine g_iload_n (n := 120) ok 2 dX0_tellOne_119 rfl rfl rfl ?_
    refine g_iconst (n := 121) (v := 2) ok dX0_tellOne_120 rfl rfl ?_
    refine g_iadd (n := 122) ok dX0_tellOne_121 rfl ?_
    refine g_iconst (n := 123) (v := 2) ok dX0_tellOne_122 rfl rfl ?_
    refine g_callV (n := 126) (rest := [vi (fX0_digitAt I (start + 1)), vr 2]) (av := [vi (start + 2), vi (nI 2)]) (j := 47) ok (kX0_numberAt I (start + 2) 2 (by first | with_reducible assumption | omega) (by first | with_reducible assumption | omega)) knX0_numberAt q249 q251 qs11 clsX0 rfl dX0_tellOne_123 rfl rfl (Nat.le_of_ble_eq_true rfl) (by decide) (by decide) rfl ?_
    refine g_callSN (n := 129) (rest := [vr 2]) (av := [vi (nI (ix (fX0_digitAt I (start + 1)))), vi (nI (ix (fX0_numberAt I (start + 2) 2)))]) ok (kX5_spot I (ix (fX0_digitAt I (start + 1))) (ix (fX0_numberAt I (start + 2) 2))) knX5_spot q277 q278 dX0_tellOne_126 (lcons (congrArg vi (vx hc1.2)) (lcons (congrArg vi (vx hc1.1)) rfl)) rfl (Nat.le_of_ble_eq_true rfl) (by decide) (by decide) rfl ?_
    have hp2 : fX5_spot (ix (fX0_digitAt I (start + 1))) (ix (fX0_numberAt I (start + 2) 2)) = (ix (fX0_digitAt I (start + 1))) * 12 + (ix (fX0_numberAt I (start + 2) 2)) := rfl
    refine g_aload_n (n := 130) ok 1 dX0_tellOne_129 rfl rfl rfl ?_
    refine g_iload_n (n := 131) ok 2 dX0_tellOne_130 rfl rfl rfl ?_
    refine g_iconst (n := 132) (v := 4) ok dX0_tellOne_131 rfl rfl ?_
    refine g_iadd (n := 133) ok dX0_tellOne_132 rfl ?_
    refine g_callV (n := 136) (rest := [vi (nI (fX5_spot (ix (fX0_digitAt I (start + 1))) (ix (fX0_numberAt I (start + 2) 2)))), vr 2]) (av := [vi (start + 4)]) (j := 47) ok (kX0_digitAt I (start + 4) (by first | with_reducible assumption | omega)) knX0_digitAt q241 q243 qs9 clsX0 rfl dX0_tellOne_133 rfl rfl (Nat.le_of_ble_eq_true rfl) (by decide) (by decide) rfl ?_
    refine g_iast (n := 137) (i := (fX5_spot (ix (fX0_digitAt I (start + 1))) (ix (fX0_numberAt I (start + 2) 2)))) (L := 24) ok dX0_tellOne_136 rfl rfl rfl (by omega) rfl ?_
    refine g_goto (tgt := 196) ok dX0_tellOne_137 (by decide) ?_
    exact g_vret ok hr dX0_tellOne_196
  · rw [if_neg c1]
    by_cases c3 : fX0_signAt I start = 107
    · rw [if_pos c3]
      refine g_tabIn (off := 81) (tgt := 94) ok dX0_tellOne_13 (by rw [c3]; decide) (by rw [c3]; decide) (by rw [c3]; rfl) (by decide) ?_
      refine g_aload_n (n := 95) ok 3 dX0_tellOne_94 rfl rfl rfl ?_
      refine g_iload_n (n := 96) ok 0 dX0_tellOne_95 rfl rfl rfl ?_
      refine g_put (n := 99) (J := up I 1 3 (fX0_digitAt I (start + 1))) (c := 3) (k := 3) ok dX0_tellOne_96 clsX3 tyX3 tyX3_ok nmX3 (by decide) q74 rfl rfl (fun _ => rfl) (fun _ => rfl) (Nat.le_of_ble_eq_true rfl) (fs_3_3 _ _ _) up_ne rfl ?_
      have hm9 : vp_in ((up I 1 3 (fX0_digitAt I (start + 1))) 47 1) 97 := by rw [up_ne 47 (by omega)]; exact hm
      refine g_aload_n (n := 100) ok 3 dX0_tellOne_99 rfl rfl rfl ?_
      refine g_aload_n (n := 101) ok 1 dX0_tellOne_100 rfl rfl rfl ?_
      refine g_iload_n (n := 102) ok 2 dX0_tellOne_101 rfl rfl rfl ?_
      refine g_iconst (n := 103) (v := 2) ok dX0_tellOne_102 rfl rfl ?_
      refine g_iadd (n := 104) ok dX0_tellOne_103 rfl ?_
      refine g_callV (n := 107) (rest := [vr 1]) (av := [vi (start + 2)]) (j := 47) ok (kX0_digitAt (up I 1 3 (fX0_digitAt I (start + 1))) (start + 2) (by first | with_reducible assumption | omega)) knX0_digitAt q241 q243 qs9 clsX0 rfl dX0_tellOne_104 rfl rfl (Nat.le_of_ble_eq_true rfl) (by decide) (by decide) rfl ?_
      refine g_put (n := 110) (J := up (up I 1 3 (fX0_digitAt I (start + 1))) 1 4 (fX0_digitAt (up I 1 3 (fX0_digitAt I (start + 1))) (start + 2))) (c := 3) (k := 4) ok dX0_tellOne_107 clsX3 tyX3 tyX3_ok nmX3 (by decide) q77 rfl rfl (fun _ => rfl) (fun _ => rfl) (Nat.le_of_ble_eq_true rfl) (fs_3_4 _ _ _) up_ne rfl ?_
      refine g_goto (tgt := 196) ok dX0_tellOne_110 (by decide) ?_
      exact g_vret ok hr dX0_tellOne_196
    · rw [if_neg c3]
      by_cases c4 : fX0_signAt I start = 111
      · rw [if_pos c4]
        have hc1 := hv.2.2.1 c4
        have hb1 := vb hc1.1
        have hb2 := vb hc1.2
        refine g_tabIn (off := 127) (tgt := 140) ok dX0_tellOne_13 (by rw [c4]; decide) (by rw [c4]; decide) (by rw [c4]; rfl) (by decide) ?_
        refine g_aload_n (n := 141) ok 3 dX0_tellOne_140 rfl rfl rfl ?_
        refine g_get (n := 144) (v := vr 3) (c := 3) (k := 1) ok dX0_tellOne_141 clsX3 (by decide) q66 rfl rfl rfl ?_
        refine g_iload_n (n := 145) ok 0 dX0_tellOne_144 rfl rfl rfl ?_
        refine g_aload_n (n := 146) ok 1 dX0_tellOne_145 rfl rfl rfl ?_
        refine g_iload_n (n := 147) ok 2 dX0_tellOne_146 rfl rfl rfl ?_
        refine g_iconst (n := 148) (v := 2) ok dX0_tellOne_147 rfl rfl ?_
        refine g_iadd (n := 149) ok dX0_tellOne_148 rfl ?_
        refine g_iconst (n := 150) (v := 2) ok dX0_tellOne_149 rfl rfl ?_
        refine g_callV (n := 153) (rest := [vi (fX0_digitAt I (start + 1)), vr 3]) (av := [vi (start + 2), vi (nI 2)]) (j := 47) ok (kX0_numberAt I (start + 2) 2 (by first | with_reducible assumption | omega) (by first | with_reducible assumption | omega)) knX0_numberAt q249 q251 qs11 clsX0 rfl dX0_tellOne_150 rfl rfl (Nat.le_of_ble_eq_true rfl) (by decide) (by decide) rfl ?_
        refine g_callSN (n := 156) (rest := [vr 3]) (av := [vi (nI (ix (fX0_digitAt I (start + 1)))), vi (nI (ix (fX0_numberAt I (start + 2) 2)))]) ok (kX5_spot I (ix (fX0_digitAt I (start + 1))) (ix (fX0_numberAt I (start + 2) 2))) knX5_spot q277 q278 dX0_tellOne_153 (lcons (congrArg vi (vx hc1.2)) (lcons (congrArg vi (vx hc1.1)) rfl)) rfl (Nat.le_of_ble_eq_true rfl) (by decide) (by decide) rfl ?_
        have hp5 : fX5_spot (ix (fX0_digitAt I (start + 1))) (ix (fX0_numberAt I (start + 2) 2)) = (ix (fX0_digitAt I (start + 1))) * 12 + (ix (fX0_numberAt I (start + 2) 2)) := rfl
        refine g_aload_n (n := 157) ok 1 dX0_tellOne_156 rfl rfl rfl ?_
        refine g_iload_n (n := 158) ok 2 dX0_tellOne_157 rfl rfl rfl ?_
        refine g_iconst (n := 159) (v := 4) ok dX0_tellOne_158 rfl rfl ?_
        refine g_iadd (n := 160) ok dX0_tellOne_159 rfl ?_
        refine g_iconst (n := 161) (v := 2) ok dX0_tellOne_160 rfl rfl ?_
        refine g_callV (n := 164) (rest := [vi (nI (fX5_spot (ix (fX0_digitAt I (start + 1))) (ix (fX0_numberAt I (start + 2) 2)))), vr 3]) (av := [vi (start + 4), vi (nI 2)]) (j := 47) ok (kX0_numberAt I (start + 4) 2 (by first | with_reducible assumption | omega) (by first | with_reducible assumption | omega)) knX0_numberAt q249 q251 qs11 clsX0 rfl dX0_tellOne_161 rfl rfl (Nat.le_of_ble_eq_true rfl) (by decide) (by decide) rfl ?_
        refine g_iast (n := 165) (i := (fX5_spot (ix (fX0_digitAt I (start + 1))) (ix (fX0_numberAt I (start + 2) 2)))) (L := 24) ok dX0_tellOne_164 rfl rfl rfl (by omega) rfl ?_
        refine g_goto (tgt := 196) ok dX0_tellOne_165 (by decide) ?_
        exact g_vret ok hr dX0_tellOne_196
      · rw [if_neg c4]
        by_cases c6 : fX0_signAt I start = 115
        · rw [if_pos c6]
          have hc1 := hv.1 c6
          have hb1 := vb hc1
          refine g_tabIn (off := 67) (tgt := 80) ok dX0_tellOne_13 (by rw [c6]; decide) (by rw [c6]; decide) (by rw [c6]; rfl) (by decide) ?_
          refine g_aload_n (n := 81) ok 3 dX0_tellOne_80 rfl rfl rfl ?_
          refine g_get (n := 84) (v := vr 4) (c := 3) (k := 2) ok dX0_tellOne_81 clsX3 (by decide) q70 rfl rfl rfl ?_
          refine g_iload_n (n := 85) ok 0 dX0_tellOne_84 rfl rfl rfl ?_
          refine g_aload_n (n := 86) ok 1 dX0_tellOne_85 rfl rfl rfl ?_
          refine g_iload_n (n := 87) ok 2 dX0_tellOne_86 rfl rfl rfl ?_
          refine g_callV (n := 90) (rest := [vi (fX0_digitAt I (start + 1)), vr 4]) (av := [vi start]) (j := 47) ok (kX0_settingNumber I start (by first | with_reducible assumption | omega)) knX0_settingNumber q245 q247 qs10 clsX0 rfl dX0_tellOne_87 rfl rfl (Nat.le_of_ble_eq_true rfl) (by decide) (by decide) rfl ?_
          refine g_iast (n := 91) (i := ix (fX0_digitAt I (start + 1))) (L := 5) ok dX0_tellOne_90 rfl rfl (vx hc1) (by omega) rfl ?_
          refine g_goto (tgt := 196) ok dX0_tellOne_91 (by decide) ?_
          exact g_vret ok hr dX0_tellOne_196
        · rw [if_neg c6]
          by_cases c7 : fX0_signAt I start = 116
          · rw [if_pos c7]
            have hc1 := hv.2.2.2 c7
            have hb1 := vb hc1
            refine g_tabIn (off := 155) (tgt := 168) ok dX0_tellOne_13 (by rw [c7]; decide) (by rw [c7]; decide) (by rw [c7]; rfl) (by decide) ?_
            refine g_aload_n (n := 169) ok 3 dX0_tellOne_168 rfl rfl rfl ?_
            refine g_iload_n (n := 170) ok 0 dX0_tellOne_169 rfl rfl rfl ?_
            refine g_aload_n (n := 171) ok 1 dX0_tellOne_170 rfl rfl rfl ?_
            refine g_iload_n (n := 172) ok 2 dX0_tellOne_171 rfl rfl rfl ?_
            refine g_iconst (n := 173) (v := 2) ok dX0_tellOne_172 rfl rfl ?_
            refine g_iadd (n := 174) ok dX0_tellOne_173 rfl ?_
            refine g_callV (n := 177) (rest := [vi (fX0_digitAt I (start + 1)), vr 1]) (av := [vi (start + 2)]) (j := 47) ok (kX0_digitAt I (start + 2) (by first | with_reducible assumption | omega)) knX0_digitAt q241 q243 qs9 clsX0 rfl dX0_tellOne_174 rfl rfl (Nat.le_of_ble_eq_true rfl) (by decide) (by decide) rfl ?_
            refine g_aload_n (n := 178) ok 1 dX0_tellOne_177 rfl rfl rfl ?_
            refine g_iload_n (n := 179) ok 2 dX0_tellOne_178 rfl rfl rfl ?_
            refine g_iconst (n := 180) (v := 3) ok dX0_tellOne_179 rfl rfl ?_
            refine g_iadd (n := 181) ok dX0_tellOne_180 rfl ?_
            refine g_callV (n := 184) (rest := [vi (fX0_digitAt I (start + 2)), vi (fX0_digitAt I (start + 1)), vr 1]) (av := [vi (start + 3)]) (j := 47) ok (kX0_digitAt I (start + 3) (by first | with_reducible assumption | omega)) knX0_digitAt q241 q243 qs9 clsX0 rfl dX0_tellOne_181 rfl rfl (Nat.le_of_ble_eq_true rfl) (by decide) (by decide) rfl ?_
            refine g_callV (n := 187) (rest := []) (av := [vi (nI (ix (fX0_digitAt I (start + 1)))), vi (fX0_digitAt I (start + 2)), vi (fX0_digitAt I (start + 3))]) (j := 1) ok (kX3_addTrace I (ix (fX0_digitAt I (start + 1))) (fX0_digitAt I (start + 2)) (fX0_digitAt I (start + 3)) (by first | with_reducible assumption | omega) (by first | with_reducible assumption | omega)) knX3_addTrace q280 q281 q282 clsX3 rfl dX0_tellOne_184 (lcons rfl (lcons rfl (lcons (congrArg vi (vx hc1)) (lcons rfl rfl)))) rfl (Nat.le_of_ble_eq_true rfl) (by decide) (by decide) rfl ?_
            refine g_pop (n := 188) ok dX0_tellOne_187 rfl rfl ?_
            refine g_goto (tgt := 196) ok dX0_tellOne_188 (by decide) ?_
            exact g_vret ok hr dX0_tellOne_196
          · rw [if_neg c7]
            refine g_tabDef (tgt := 191) ok dX0_tellOne_13 (by have h0 : (fX0_signAt I start).toInt ≠ 104 := ne_toInt c1; have h1 : (fX0_signAt I start).toInt ≠ 107 := ne_toInt c3; have h2 : (fX0_signAt I start).toInt ≠ 111 := ne_toInt c4; have h3 : (fX0_signAt I start).toInt ≠ 115 := ne_toInt c6; have h4 : (fX0_signAt I start).toInt ≠ 116 := ne_toInt c7; rcases (show (fX0_signAt I start).toInt < 104 ∨ 116 < (fX0_signAt I start).toInt ∨ (fX0_signAt I start).toInt = 105 ∨ (fX0_signAt I start).toInt = 106 ∨ (fX0_signAt I start).toInt = 108 ∨ (fX0_signAt I start).toInt = 109 ∨ (fX0_signAt I start).toInt = 110 ∨ (fX0_signAt I start).toInt = 112 ∨ (fX0_signAt I start).toInt = 113 ∨ (fX0_signAt I start).toInt = 114 by omega) with h | h | h | h | h | h | h | h | h | h; exact Or.inl h; exact Or.inr (Or.inl h); all_goals exact Or.inr (Or.inr ⟨by rw [h]; rfl, by omega, by omega⟩)) (by decide) ?_
            refine g_aload_n (n := 192) ok 3 dX0_tellOne_191 rfl rfl rfl ?_
            refine g_iconst (n := 193) (v := 0) ok dX0_tellOne_192 rfl rfl ?_
            refine g_put (n := 196) (J := up I 1 6 0) (c := 3) (k := 6) ok dX0_tellOne_193 clsX3 tyX3 tyX3_ok nmX3 (by decide) q82 rfl rfl (fun _ => rfl) (fun _ => rfl) (Nat.le_of_ble_eq_true rfl) (fs_3_6 _ _ _) up_ne rfl ?_
            exact g_vret ok hr dX0_tellOne_196

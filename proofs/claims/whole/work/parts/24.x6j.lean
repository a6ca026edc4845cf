noncomputable def fX6_readStatement_305 (JB : HI) : HI :=
  (up (fX6_take JB 59) 52 16 (((fX6_take JB 59) 52 16) + 1))
noncomputable def fX6_readStatement_120 (I : HI) (JA : HI) : HI :=
  fX6_readStatement_305 (if fX6_here I = 104 then (up ((fX6_readDigit (up ((fX6_readTwo JA).2) 64 ((3 * (ix (I 52 16))) + 1) ((fX6_readTwo JA).1))).2) 64 ((3 * (ix (I 52 16))) + 2) ((fX6_readDigit (up ((fX6_readTwo JA).2) 64 ((3 * (ix (I 52 16))) + 1) ((fX6_readTwo JA).1))).1)) else (if fX6_here I = 107 then (up ((fX6_readDigit JA).2) 64 ((3 * (ix (I 52 16))) + 1) ((fX6_readDigit JA).1)) else (if fX6_here I = 111 then (up ((fX6_readTwo (up ((fX6_readTwo JA).2) 64 ((3 * (ix (I 52 16))) + 1) ((fX6_readTwo JA).1))).2) 64 ((3 * (ix (I 52 16))) + 2) ((fX6_readTwo (up ((fX6_readTwo JA).2) 64 ((3 * (ix (I 52 16))) + 1) ((fX6_readTwo JA).1))).1)) else (if fX6_here I = 115 then (up ((fX6_readNumber (fX6_take JA 61)).2) 64 ((3 * (ix (I 52 16))) + 1) ((fX6_readNumber (fX6_take JA 61)).1)) else (if fX6_here I = 116 then (up ((fX6_readDigit (up ((fX6_readDigit JA).2) 64 ((3 * (ix (I 52 16))) + 1) ((fX6_readDigit JA).1))).2) 64 ((3 * (ix (I 52 16))) + 2) ((fX6_readDigit (up ((fX6_readDigit JA).2) 64 ((3 * (ix (I 52 16))) + 1) ((fX6_readDigit JA).1))).1)) else JA)))))
noncomputable def fX6_readStatement_c104 (I : HI) (K104 : HI) : HI :=
  fX6_readStatement_120 I (if fX6_here I = 119 then K104 else (up ((fX6_readDigit K104).2) 64 (3 * (ix (I 52 16))) ((fX6_readDigit K104).1)))
noncomputable def fX6_readStatement_100 (I : HI) (K31 : HI) (bad : Int32) (stp : Int32) : HI :=
  fX6_readStatement_c104 I (up (up K31 52 15 bad) 52 14 ((K31 52 14) + stp))
noncomputable def fX6_readStatement_80 (I : HI) (K31 : HI) (bad : Int32) : HI :=
  fX6_readStatement_100 I K31 bad (if bad = 0 then 1 else 0)
noncomputable def fX6_readStatement_c31 (I : HI) (K31 : HI) : HI :=
  fX6_readStatement_80 I K31 (if K31 52 15 = 0 then (if fX6_here I = 115 then 0 else (if fX6_here I = 107 then 0 else (if fX6_here I = 104 then 0 else (if fX6_here I = 111 then 0 else (if fX6_here I = 116 then 0 else (if fX6_here I = 119 then 0 else 1)))))) else 1)
noncomputable def fX6_readStatement (I : HI) : HI :=
  fX6_readStatement_c31 I (up (up I 62 (ix (I 52 16)) (I 52 14)) 63 (ix (I 52 16)) (fX6_here I))
theorem knX6_readStatement : Kn yX6_readStatement cX6_readStatement 4 none 0 := ⟨q781, q8, ⟨by decide, by decide⟩, by decide +kernel⟩
set_option maxHeartbeats 2000000 in
set_option maxRecDepth 100000 in
theorem kX6_readStatement (I : HI) (hA : vp_in (I 52 14) 97) (hm : vp_in (I 52 13) 97) (hst : vp_in (I 52 16) 49) : Cx yX6_readStatement cX6_readStatement 4 none 3 67 [vr 52] I ((none, fX6_readStatement I)) := by
  refine Cx.mk (lv := [(0, vr 52)]) (by decide) (Nat.le_of_ble_eq_true rfl) rfl (fun E ok hr => ?_)
  have hst1 := vb hst
  rw [fX6_readStatement]
  refine g_aload_n (n := 1) ok 0 dX6_readStatement_0 rfl rfl rfl ?_
  refine g_get (n := 4) (v := vi (I 52 16)) (c := 6) (k := 16) ok dX6_readStatement_1 clsX6 (by decide) q694 rfl rfl rfl ?_
  refine g_istore_n (n := 5) (lv' := [(1, vi (I 52 16)), (0, vr 52)]) ok dX6_readStatement_4 rfl (by decide) rfl rfl ?_
  refine g_aload_n (n := 6) ok 1 dX6_readStatement_5 rfl rfl rfl ?_
  refine g_callV (n := 9) (rest := []) (av := []) (j := 52) ok (kX6_here I (by first | with_reducible assumption | omega) (by first | with_reducible assumption | omega)) knX6_here q782 q784 qs27 clsX6 rfl dX6_readStatement_6 rfl rfl (Nat.le_of_ble_eq_true rfl) (by decide) (by decide) rfl ?_
  refine g_istore_n (n := 10) (lv' := [(2, vi (fX6_here I)), (1, vi (I 52 16)), (0, vr 52)]) ok dX6_readStatement_9 rfl (by decide) rfl rfl ?_
  refine g_iconst (n := 11) (v := 3) ok dX6_readStatement_10 rfl rfl ?_
  refine g_iload_n (n := 12) ok 1 dX6_readStatement_11 rfl rfl rfl ?_
  refine g_imul (n := 13) ok dX6_readStatement_12 rfl ?_
  refine g_top (nv_imul (a := 3) (b := ix (I 52 16)) rfl (vx hst)) ?_
  refine g_istore_n (n := 14) (lv' := [(3, vi (nI (3 * (ix (I 52 16))))), (2, vi (fX6_here I)), (1, vi (I 52 16)), (0, vr 52)]) ok dX6_readStatement_13 rfl (by decide) rfl rfl ?_
  refine g_aload_n (n := 15) ok 3 dX6_readStatement_14 rfl rfl rfl ?_
  refine g_get (n := 18) (v := vr 62) (c := 6) (k := 17) ok dX6_readStatement_15 clsX6 (by decide) q695 rfl rfl rfl ?_
  refine g_iload_n (n := 19) ok 2 dX6_readStatement_18 rfl rfl rfl ?_
  refine g_aload_n (n := 20) ok 3 dX6_readStatement_19 rfl rfl rfl ?_
  refine g_get (n := 23) (v := vi (I 52 14)) (c := 6) (k := 14) ok dX6_readStatement_20 clsX6 (by decide) q692 rfl rfl rfl ?_
  refine g_iast (n := 24) (i := ix (I 52 16)) (L := 49) ok dX6_readStatement_23 rfl rfl (vx hst) (by omega) rfl ?_
  refine g_aload_n (n := 25) ok 3 dX6_readStatement_24 rfl rfl rfl ?_
  refine g_get (n := 28) (v := vr 63) (c := 6) (k := 18) ok dX6_readStatement_25 clsX6 (by decide) q696 rfl rfl rfl ?_
  refine g_iload_n (n := 29) ok 2 dX6_readStatement_28 rfl rfl rfl ?_
  refine g_iload_n (n := 30) ok 1 dX6_readStatement_29 rfl rfl rfl ?_
  refine g_iast (n := 31) (i := ix (I 52 16)) (L := 49) ok dX6_readStatement_30 rfl rfl (vx hst) (by omega) rfl ?_
  have C31_61 : ∀ (K31 : HI) (hA2 : vp_in (K31 52 14) 97) (hm2 : vp_in (K31 52 13) 97) (hE : ix (K31 52 14) < ix (K31 52 13) ↔ ix (I 52 14) < ix (I 52 13)), G E 4 ((none, fX6_readStatement_c31 I K31)) K31 31 [(3, vi (nI (3 * (ix (I 52 16))))), (2, vi (fX6_here I)), (0, vr 52)] [] := by
    intro K31 hA2 hm2 hE
    rw [fX6_readStatement_c31]
    refine g_aload_n (n := 32) ok 2 dX6_readStatement_31 rfl rfl rfl ?_
    refine g_aload_n (n := 33) ok 2 dX6_readStatement_32 rfl rfl rfl ?_
    refine g_get (n := 36) (v := vi (K31 52 15)) (c := 6) (k := 15) ok dX6_readStatement_33 clsX6 (by decide) q693 rfl rfl rfl ?_
    have J80_15 : ∀ (bad : Int32) (hbad : (bad = 0 ∨ bad = 1) ∧ (bad = 0 → ix (I 52 14) < ix (I 52 13))), G E 4 ((none, fX6_readStatement_80 I K31 bad)) K31 80 [(3, vi (nI (3 * (ix (I 52 16))))), (2, vi (fX6_here I)), (0, vr 52)] [vi bad, vr 52] := by
      intro bad hbad
      rw [fX6_readStatement_80]
      refine g_put (n := 83) (J := up K31 52 15 bad) (c := 6) (k := 15) ok dX6_readStatement_80 clsX6 tyX6 tyX6_ok nmX6 (by decide) q693 rfl rfl (bnar hbad.1) (bfit hbad.1) (Nat.le_of_ble_eq_true rfl) (fs_6_15 _ _ _) up_ne rfl ?_
      refine g_aload_n (n := 84) ok 2 dX6_readStatement_83 rfl rfl rfl ?_
      refine g_dup (n := 85) ok dX6_readStatement_84 rfl rfl ?_
      refine g_get (n := 88) (v := vi ((up K31 52 15 bad) 52 14)) (c := 6) (k := 14) ok dX6_readStatement_85 clsX6 (by decide) q692 rfl rfl rfl ?_
      refine g_top (up_k (by decide)) ?_
      refine g_aload_n (n := 89) ok 2 dX6_readStatement_88 rfl rfl rfl ?_
      refine g_get (n := 92) (v := vi ((up K31 52 15 bad) 52 15)) (c := 6) (k := 15) ok dX6_readStatement_89 clsX6 (by decide) q693 rfl rfl rfl ?_
      refine g_top up_v ?_
      have J100_22 : ∀ (stp : Int32) (hstp : stp = 0 ∨ (stp = 1 ∧ ix (K31 52 14) < ix (K31 52 13))), G E 4 ((none, fX6_readStatement_100 I K31 bad stp)) (up K31 52 15 bad) 100 [(3, vi (nI (3 * (ix (I 52 16))))), (2, vi (fX6_here I)), (0, vr 52)] [vi stp, vi (K31 52 14), vr 52] := by
        intro stp hstp
        rw [fX6_readStatement_100]
        have hst0 := hstp
        refine g_iadd (n := 101) ok dX6_readStatement_100 rfl ?_
        refine g_put (n := 104) (J := up (up K31 52 15 bad) 52 14 ((K31 52 14) + stp)) (c := 6) (k := 14) ok dX6_readStatement_101 clsX6 tyX6 tyX6_ok nmX6 (by decide) q692 rfl rfl (fun _ => rfl) (fun _ => rfl) (Nat.le_of_ble_eq_true rfl) (fs_6_14 _ _ _) up_ne rfl ?_
        have C104_60 : ∀ (K104 : HI) (hA4 : vp_in (K104 52 14) 97) (hm4 : vp_in (K104 52 13) 97), G E 4 ((none, fX6_readStatement_c104 I K104)) K104 104 [(3, vi (nI (3 * (ix (I 52 16))))), (2, vi (fX6_here I)), (0, vr 52)] [] := by
          intro K104 hA4 hm4
          rw [fX6_readStatement_c104]
          refine g_iload_n (n := 105) ok 1 dX6_readStatement_104 rfl rfl rfl ?_
          refine g_bipush (n := 107) (v := 119) ok dX6_readStatement_105 rfl rfl ?_
          have J120_32 : ∀ (JA : HI) (hJA : vp_in (JA 52 14) 97 ∧ vp_in (JA 52 13) 97), G E 4 ((none, fX6_readStatement_120 I JA)) JA 120 [(3, vi (nI (3 * (ix (I 52 16))))), (2, vi (fX6_here I)), (0, vr 52)] [] := by
            intro JA hJA
            rw [fX6_readStatement_120]
            have hA5 := hJA.1
            have hm5 := hJA.2
            refine g_iload_n (n := 121) ok 1 dX6_readStatement_120 rfl rfl rfl ?_
            have J305_57 : ∀ (JB : HI) (hJB : vp_in (JB 52 14) 97 ∧ vp_in (JB 52 13) 97), G E 4 ((none, fX6_readStatement_305 JB)) JB 305 [(0, vr 52)] [] := by
              intro JB hJB
              rw [fX6_readStatement_305]
              have hA6 := hJB.1
              have hm6 := hJB.2
              refine g_aload_n (n := 306) ok 0 dX6_readStatement_305 rfl rfl rfl ?_
              refine g_bipush (n := 308) (v := 59) ok dX6_readStatement_306 rfl rfl ?_
              refine g_callVv (n := 311) (rest := []) (av := [vi 59]) (j := 52) ok (kX6_take JB 59 (by first | with_reducible assumption | omega) (by first | with_reducible assumption | omega) (by decide)) knX6_take q795 q797 qs29 clsX6 rfl dX6_readStatement_308 rfl rfl (Nat.le_of_ble_eq_true rfl) (by decide) (by decide) rfl ?_
              have hp58 : vp_in ((fX6_take JB 59) 52 14) 97 := take6_hA (by with_reducible assumption) (by with_reducible assumption) (by decide)
              have hp59 : vp_in ((fX6_take JB 59) 52 13) 97 := take6_hm (by with_reducible assumption)
              refine g_aload_n (n := 312) ok 0 dX6_readStatement_311 rfl rfl rfl ?_
              refine g_dup (n := 313) ok dX6_readStatement_312 rfl rfl ?_
              refine g_get (n := 316) (v := vi ((fX6_take JB 59) 52 16)) (c := 6) (k := 16) ok dX6_readStatement_313 clsX6 (by decide) q694 rfl rfl rfl ?_
              refine g_iconst (n := 317) (v := 1) ok dX6_readStatement_316 rfl rfl ?_
              refine g_iadd (n := 318) ok dX6_readStatement_317 rfl ?_
              refine g_put (n := 321) (J := up (fX6_take JB 59) 52 16 (((fX6_take JB 59) 52 16) + 1)) (c := 6) (k := 16) ok dX6_readStatement_318 clsX6 tyX6 tyX6_ok nmX6 (by decide) q694 rfl rfl (fun _ => rfl) (fun _ => rfl) (Nat.le_of_ble_eq_true rfl) (fs_6_16 _ _ _) up_ne rfl ?_
              exact g_vret ok hr dX6_readStatement_321
            by_cases c33 : fX6_here I = 104
            · try simp only [if_pos c33]
              refine g_tabIn (off := 103) (tgt := 224) ok dX6_readStatement_121 (by rw [c33]; decide) (by rw [c33]; decide) (by rw [c33]; rfl) (by decide) ?_
              refine g_aload_n (n := 225) ok 2 dX6_readStatement_224 rfl rfl rfl ?_
              refine g_get (n := 228) (v := vr 64) (c := 6) (k := 19) ok dX6_readStatement_225 clsX6 (by decide) q697 rfl rfl rfl ?_
              refine g_iload_n (n := 229) ok 0 dX6_readStatement_228 rfl rfl rfl ?_
              refine g_iconst (n := 230) (v := 1) ok dX6_readStatement_229 rfl rfl ?_
              refine g_iadd (n := 231) ok dX6_readStatement_230 rfl ?_
              refine g_top (nv_iadd (a := 3 * (ix (I 52 16))) (b := 1) rfl rfl) ?_
              refine g_aload_n (n := 232) ok 2 dX6_readStatement_231 rfl rfl rfl ?_
              refine g_callV (n := 235) (rest := [vi (nI ((3 * (ix (I 52 16))) + 1)), vr 64]) (av := []) (j := 52) ok (kX6_readTwo JA (by first | with_reducible assumption | omega) (by first | with_reducible assumption | omega)) knX6_readTwo q803 q805 qs31 clsX6 rfl dX6_readStatement_232 rfl rfl (Nat.le_of_ble_eq_true rfl) (by decide) (by decide) rfl ?_
              have hp34 : vp_in (((fX6_readTwo JA).2) 52 14) 97 := readTwo_hA (by with_reducible assumption) (by with_reducible assumption)
              have hp35 : vp_in (((fX6_readTwo JA).2) 52 13) 97 := readTwo_hm (by with_reducible assumption)
              refine g_iast (n := 236) (i := (3 * (ix (I 52 16))) + 1) (L := 147) ok dX6_readStatement_235 rfl rfl rfl (by omega) rfl ?_
              have hAx : vp_in ((up ((fX6_readTwo JA).2) 64 ((3 * (ix (I 52 16))) + 1) ((fX6_readTwo JA).1)) 52 14) 97 := by rw [up_ne2 (by omega)]; with_reducible assumption
              have hmx : vp_in ((up ((fX6_readTwo JA).2) 64 ((3 * (ix (I 52 16))) + 1) ((fX6_readTwo JA).1)) 52 13) 97 := by rw [up_ne2 (by omega)]; with_reducible assumption
              refine g_aload_n (n := 237) ok 2 dX6_readStatement_236 rfl rfl rfl ?_
              refine g_get (n := 240) (v := vr 64) (c := 6) (k := 19) ok dX6_readStatement_237 clsX6 (by decide) q697 rfl rfl rfl ?_
              refine g_iload_n (n := 241) ok 0 dX6_readStatement_240 rfl rfl rfl ?_
              refine g_iconst (n := 242) (v := 2) ok dX6_readStatement_241 rfl rfl ?_
              refine g_iadd (n := 243) ok dX6_readStatement_242 rfl ?_
              refine g_top (nv_iadd (a := 3 * (ix (I 52 16))) (b := 2) rfl rfl) ?_
              refine g_aload_n (n := 244) ok 2 dX6_readStatement_243 rfl rfl rfl ?_
              refine g_callV (n := 247) (rest := [vi (nI ((3 * (ix (I 52 16))) + 2)), vr 64]) (av := []) (j := 52) ok (kX6_readDigit (up ((fX6_readTwo JA).2) 64 ((3 * (ix (I 52 16))) + 1) ((fX6_readTwo JA).1)) (by first | with_reducible assumption | omega) (by first | with_reducible assumption | omega)) knX6_readDigit q786 q788 qs28 clsX6 rfl dX6_readStatement_244 rfl rfl (Nat.le_of_ble_eq_true rfl) (by decide) (by decide) rfl ?_
              have hp36 : vp_in (((fX6_readDigit (up ((fX6_readTwo JA).2) 64 ((3 * (ix (I 52 16))) + 1) ((fX6_readTwo JA).1))).2) 52 14) 97 := readDigit_hA (by with_reducible assumption) (by with_reducible assumption)
              have hp37 : vp_in (((fX6_readDigit (up ((fX6_readTwo JA).2) 64 ((3 * (ix (I 52 16))) + 1) ((fX6_readTwo JA).1))).2) 52 13) 97 := readDigit_hm (by with_reducible assumption)
              refine g_iast (n := 248) (i := (3 * (ix (I 52 16))) + 2) (L := 147) ok dX6_readStatement_247 rfl rfl rfl (by omega) rfl ?_
              refine g_goto (tgt := 305) ok dX6_readStatement_248 (by decide) ?_
              refine g_sub [2] rfl ?_
              exact J305_57 _ ⟨by rw [up_ne2 (by omega)]; with_reducible assumption, by rw [up_ne2 (by omega)]; with_reducible assumption⟩
            · try simp only [if_neg c33]
              by_cases c38 : fX6_here I = 107
              · try simp only [if_pos c38]
                refine g_tabIn (off := 88) (tgt := 209) ok dX6_readStatement_121 (by rw [c38]; decide) (by rw [c38]; decide) (by rw [c38]; rfl) (by decide) ?_
                refine g_aload_n (n := 210) ok 2 dX6_readStatement_209 rfl rfl rfl ?_
                refine g_get (n := 213) (v := vr 64) (c := 6) (k := 19) ok dX6_readStatement_210 clsX6 (by decide) q697 rfl rfl rfl ?_
                refine g_iload_n (n := 214) ok 0 dX6_readStatement_213 rfl rfl rfl ?_
                refine g_iconst (n := 215) (v := 1) ok dX6_readStatement_214 rfl rfl ?_
                refine g_iadd (n := 216) ok dX6_readStatement_215 rfl ?_
                refine g_top (nv_iadd (a := 3 * (ix (I 52 16))) (b := 1) rfl rfl) ?_
                refine g_aload_n (n := 217) ok 2 dX6_readStatement_216 rfl rfl rfl ?_
                refine g_callV (n := 220) (rest := [vi (nI ((3 * (ix (I 52 16))) + 1)), vr 64]) (av := []) (j := 52) ok (kX6_readDigit JA (by first | with_reducible assumption | omega) (by first | with_reducible assumption | omega)) knX6_readDigit q786 q788 qs28 clsX6 rfl dX6_readStatement_217 rfl rfl (Nat.le_of_ble_eq_true rfl) (by decide) (by decide) rfl ?_
                have hp39 : vp_in (((fX6_readDigit JA).2) 52 14) 97 := readDigit_hA (by with_reducible assumption) (by with_reducible assumption)
                have hp40 : vp_in (((fX6_readDigit JA).2) 52 13) 97 := readDigit_hm (by with_reducible assumption)
                refine g_iast (n := 221) (i := (3 * (ix (I 52 16))) + 1) (L := 147) ok dX6_readStatement_220 rfl rfl rfl (by omega) rfl ?_
                refine g_goto (tgt := 305) ok dX6_readStatement_221 (by decide) ?_
                refine g_sub [2] rfl ?_
                exact J305_57 _ ⟨by rw [up_ne2 (by omega)]; with_reducible assumption, by rw [up_ne2 (by omega)]; with_reducible assumption⟩
              · try simp only [if_neg c38]
                by_cases c41 : fX6_here I = 111
                · try simp only [if_pos c41]
                  refine g_tabIn (off := 130) (tgt := 251) ok dX6_readStatement_121 (by rw [c41]; decide) (by rw [c41]; decide) (by rw [c41]; rfl) (by decide) ?_
                  refine g_aload_n (n := 252) ok 2 dX6_readStatement_251 rfl rfl rfl ?_
                  refine g_get (n := 255) (v := vr 64) (c := 6) (k := 19) ok dX6_readStatement_252 clsX6 (by decide) q697 rfl rfl rfl ?_
                  refine g_iload_n (n := 256) ok 0 dX6_readStatement_255 rfl rfl rfl ?_
                  refine g_iconst (n := 257) (v := 1) ok dX6_readStatement_256 rfl rfl ?_
                  refine g_iadd (n := 258) ok dX6_readStatement_257 rfl ?_
                  refine g_top (nv_iadd (a := 3 * (ix (I 52 16))) (b := 1) rfl rfl) ?_
                  refine g_aload_n (n := 259) ok 2 dX6_readStatement_258 rfl rfl rfl ?_
                  refine g_callV (n := 262) (rest := [vi (nI ((3 * (ix (I 52 16))) + 1)), vr 64]) (av := []) (j := 52) ok (kX6_readTwo JA (by first | with_reducible assumption | omega) (by first | with_reducible assumption | omega)) knX6_readTwo q803 q805 qs31 clsX6 rfl dX6_readStatement_259 rfl rfl (Nat.le_of_ble_eq_true rfl) (by decide) (by decide) rfl ?_
                  have hp42 : vp_in (((fX6_readTwo JA).2) 52 14) 97 := readTwo_hA (by with_reducible assumption) (by with_reducible assumption)
                  have hp43 : vp_in (((fX6_readTwo JA).2) 52 13) 97 := readTwo_hm (by with_reducible assumption)
                  refine g_iast (n := 263) (i := (3 * (ix (I 52 16))) + 1) (L := 147) ok dX6_readStatement_262 rfl rfl rfl (by omega) rfl ?_
                  have hAx : vp_in ((up ((fX6_readTwo JA).2) 64 ((3 * (ix (I 52 16))) + 1) ((fX6_readTwo JA).1)) 52 14) 97 := by rw [up_ne2 (by omega)]; with_reducible assumption
                  have hmx : vp_in ((up ((fX6_readTwo JA).2) 64 ((3 * (ix (I 52 16))) + 1) ((fX6_readTwo JA).1)) 52 13) 97 := by rw [up_ne2 (by omega)]; with_reducible assumption
                  refine g_aload_n (n := 264) ok 2 dX6_readStatement_263 rfl rfl rfl ?_
                  refine g_get (n := 267) (v := vr 64) (c := 6) (k := 19) ok dX6_readStatement_264 clsX6 (by decide) q697 rfl rfl rfl ?_
                  refine g_iload_n (n := 268) ok 0 dX6_readStatement_267 rfl rfl rfl ?_
                  refine g_iconst (n := 269) (v := 2) ok dX6_readStatement_268 rfl rfl ?_
                  refine g_iadd (n := 270) ok dX6_readStatement_269 rfl ?_
                  refine g_top (nv_iadd (a := 3 * (ix (I 52 16))) (b := 2) rfl rfl) ?_
                  refine g_aload_n (n := 271) ok 2 dX6_readStatement_270 rfl rfl rfl ?_
                  refine g_callV (n := 274) (rest := [vi (nI ((3 * (ix (I 52 16))) + 2)), vr 64]) (av := []) (j := 52) ok (kX6_readTwo (up ((fX6_readTwo JA).2) 64 ((3 * (ix (I 52 16))) + 1) ((fX6_readTwo JA).1)) (by first | with_reducible assumption | omega) (by first | with_reducible assumption | omega)) knX6_readTwo q803 q805 qs31 clsX6 rfl dX6_readStatement_271 rfl rfl (Nat.le_of_ble_eq_true rfl) (by decide) (by decide) rfl ?_
                  have hp44 : vp_in (((fX6_readTwo (up ((fX6_readTwo JA).2) 64 ((3 * (ix (I 52 16))) + 1) ((fX6_readTwo JA).1))).2) 52 14) 97 := readTwo_hA (by with_reducible assumption) (by with_reducible assumption)
                  have hp45 : vp_in (((fX6_readTwo (up ((fX6_readTwo JA).2) 64 ((3 * (ix (I 52 16))) + 1) ((fX6_readTwo JA).1))).2) 52 13) 97 := readTwo_hm (by with_reducible assumption)
                  refine g_iast (n := 275) (i := (3 * (ix (I 52 16))) + 2) (L := 147) ok dX6_readStatement_274 rfl rfl rfl (by omega) rfl ?_
                  refine g_goto (tgt := 305) ok dX6_readStatement_275 (by decide) ?_
                  refine g_sub [2] rfl ?_
                  exact J305_57 _ ⟨by rw [up_ne2 (by omega)]; with_reducible assumption, by rw [up_ne2 (by omega)]; with_reducible assumption⟩
                · try simp only [if_neg c41]
                  by_cases c46 : fX6_here I = 115
                  · try simp only [if_pos c46]
                    refine g_tabIn (off := 67) (tgt := 188) ok dX6_readStatement_121 (by rw [c46]; decide) (by rw [c46]; decide) (by rw [c46]; rfl) (by decide) ?_
                    refine g_aload_n (n := 189) ok 2 dX6_readStatement_188 rfl rfl rfl ?_
                    refine g_bipush (n := 191) (v := 61) ok dX6_readStatement_189 rfl rfl ?_
                    refine g_callVv (n := 194) (rest := []) (av := [vi 61]) (j := 52) ok (kX6_take JA 61 (by first | with_reducible assumption | omega) (by first | with_reducible assumption | omega) (by decide)) knX6_take q795 q797 qs29 clsX6 rfl dX6_readStatement_191 rfl rfl (Nat.le_of_ble_eq_true rfl) (by decide) (by decide) rfl ?_
                    have hp47 : vp_in ((fX6_take JA 61) 52 14) 97 := take6_hA (by with_reducible assumption) (by with_reducible assumption) (by decide)
                    have hp48 : vp_in ((fX6_take JA 61) 52 13) 97 := take6_hm (by with_reducible assumption)
                    refine g_aload_n (n := 195) ok 2 dX6_readStatement_194 rfl rfl rfl ?_
                    refine g_get (n := 198) (v := vr 64) (c := 6) (k := 19) ok dX6_readStatement_195 clsX6 (by decide) q697 rfl rfl rfl ?_
                    refine g_iload_n (n := 199) ok 0 dX6_readStatement_198 rfl rfl rfl ?_
                    refine g_iconst (n := 200) (v := 1) ok dX6_readStatement_199 rfl rfl ?_
                    refine g_iadd (n := 201) ok dX6_readStatement_200 rfl ?_
                    refine g_top (nv_iadd (a := 3 * (ix (I 52 16))) (b := 1) rfl rfl) ?_
                    refine g_aload_n (n := 202) ok 2 dX6_readStatement_201 rfl rfl rfl ?_
                    refine g_callV (n := 205) (rest := [vi (nI ((3 * (ix (I 52 16))) + 1)), vr 64]) (av := []) (j := 52) ok (kX6_readNumber (fX6_take JA 61) (by first | with_reducible assumption | omega) (by first | with_reducible assumption | omega)) knX6_readNumber q799 q801 qs30 clsX6 rfl dX6_readStatement_202 rfl rfl (Nat.le_of_ble_eq_true rfl) (by decide) (by decide) rfl ?_
                    have hp49 : vp_in (((fX6_readNumber (fX6_take JA 61)).2) 52 14) 97 := readNumber_hA (by with_reducible assumption) (by with_reducible assumption)
                    have hp50 : vp_in (((fX6_readNumber (fX6_take JA 61)).2) 52 13) 97 := readNumber_hm (by with_reducible assumption)
                    refine g_iast (n := 206) (i := (3 * (ix (I 52 16))) + 1) (L := 147) ok dX6_readStatement_205 rfl rfl rfl (by omega) rfl ?_
                    refine g_goto (tgt := 305) ok dX6_readStatement_206 (by decide) ?_
                    refine g_sub [2] rfl ?_
                    exact J305_57 _ ⟨by rw [up_ne2 (by omega)]; with_reducible assumption, by rw [up_ne2 (by omega)]; with_reducible assumption⟩
                  · try simp only [if_neg c46]
                    by_cases c51 : fX6_here I = 116
                    · try simp only [if_pos c51]
                      refine g_tabIn (off := 157) (tgt := 278) ok dX6_readStatement_121 (by rw [c51]; decide) (by rw [c51]; decide) (by rw [c51]; rfl) (by decide) ?_
                      refine g_aload_n (n := 279) ok 2 dX6_readStatement_278 rfl rfl rfl ?_
                      refine g_get (n := 282) (v := vr 64) (c := 6) (k := 19) ok dX6_readStatement_279 clsX6 (by decide) q697 rfl rfl rfl ?_
                      refine g_iload_n (n := 283) ok 0 dX6_readStatement_282 rfl rfl rfl ?_
                      refine g_iconst (n := 284) (v := 1) ok dX6_readStatement_283 rfl rfl ?_
                      refine g_iadd (n := 285) ok dX6_readStatement_284 rfl ?_
                      refine g_top (nv_iadd (a := 3 * (ix (I 52 16))) (b := 1) rfl rfl) ?_
                      refine g_aload_n (n := 286) ok 2 dX6_readStatement_285 rfl rfl rfl ?_
                      refine g_callV (n := 289) (rest := [vi (nI ((3 * (ix (I 52 16))) + 1)), vr 64]) (av := []) (j := 52) ok (kX6_readDigit JA (by first | with_reducible assumption | omega) (by first | with_reducible assumption | omega)) knX6_readDigit q786 q788 qs28 clsX6 rfl dX6_readStatement_286 rfl rfl (Nat.le_of_ble_eq_true rfl) (by decide) (by decide) rfl ?_
                      have hp52 : vp_in (((fX6_readDigit JA).2) 52 14) 97 := readDigit_hA (by with_reducible assumption) (by with_reducible assumption)
                      have hp53 : vp_in (((fX6_readDigit JA).2) 52 13) 97 := readDigit_hm (by with_reducible assumption)
                      refine g_iast (n := 290) (i := (3 * (ix (I 52 16))) + 1) (L := 147) ok dX6_readStatement_289 rfl rfl rfl (by omega) rfl ?_
                      have hAx : vp_in ((up ((fX6_readDigit JA).2) 64 ((3 * (ix (I 52 16))) + 1) ((fX6_readDigit JA).1)) 52 14) 97 := by rw [up_ne2 (by omega)]; with_reducible assumption
                      have hmx : vp_in ((up ((fX6_readDigit JA).2) 64 ((3 * (ix (I 52 16))) + 1) ((fX6_readDigit JA).1)) 52 13) 97 := by rw [up_ne2 (by omega)]; with_reducible assumption
                      refine g_aload_n (n := 291) ok 2 dX6_readStatement_290 rfl rfl rfl ?_
                      refine g_get (n := 294) (v := vr 64) (c := 6) (k := 19) ok dX6_readStatement_291 clsX6 (by decide) q697 rfl rfl rfl ?_
                      refine g_iload_n (n := 295) ok 0 dX6_readStatement_294 rfl rfl rfl ?_
                      refine g_iconst (n := 296) (v := 2) ok dX6_readStatement_295 rfl rfl ?_
                      refine g_iadd (n := 297) ok dX6_readStatement_296 rfl ?_
                      refine g_top (nv_iadd (a := 3 * (ix (I 52 16))) (b := 2) rfl rfl) ?_
                      refine g_aload_n (n := 298) ok 2 dX6_readStatement_297 rfl rfl rfl ?_
                      refine g_callV (n := 301) (rest := [vi (nI ((3 * (ix (I 52 16))) + 2)), vr 64]) (av := []) (j := 52) ok (kX6_readDigit (up ((fX6_readDigit JA).2) 64 ((3 * (ix (I 52 16))) + 1) ((fX6_readDigit JA).1)) (by first | with_reducible assumption | omega) (by first | with_reducible assumption | omega)) knX6_readDigit q786 q788 qs28 clsX6 rfl dX6_readStatement_298 rfl rfl (Nat.le_of_ble_eq_true rfl) (by decide) (by decide) rfl ?_
                      have hp54 : vp_in (((fX6_readDigit (up ((fX6_readDigit JA).2) 64 ((3 * (ix (I 52 16))) + 1) ((fX6_readDigit JA).1))).2) 52 14) 97 := readDigit_hA (by with_reducible assumption) (by with_reducible assumption)
                      have hp55 : vp_in (((fX6_readDigit (up ((fX6_readDigit JA).2) 64 ((3 * (ix (I 52 16))) + 1) ((fX6_readDigit JA).1))).2) 52 13) 97 := readDigit_hm (by with_reducible assumption)
                      refine g_iast (n := 302) (i := (3 * (ix (I 52 16))) + 2) (L := 147) ok dX6_readStatement_301 rfl rfl rfl (by omega) rfl ?_
                      refine g_goto (tgt := 305) ok dX6_readStatement_302 (by decide) ?_
                      refine g_sub [2] rfl ?_
                      exact J305_57 _ ⟨by rw [up_ne2 (by omega)]; with_reducible assumption, by rw [up_ne2 (by omega)]; with_reducible assumption⟩
                    · try simp only [if_neg c51]
                      refine g_tabDef (tgt := 305) ok dX6_readStatement_121 (by have h0 : (fX6_here I).toInt ≠ 104 := ne_toInt c33; have h1 : (fX6_here I).toInt ≠ 107 := ne_toInt c38; have h2 : (fX6_here I).toInt ≠ 111 := ne_toInt c41; have h3 : (fX6_here I).toInt ≠ 115 := ne_toInt c46; have h4 : (fX6_here I).toInt ≠ 116 := ne_toInt c51; rcases (show (fX6_here I).toInt < 104 ∨ 116 < (fX6_here I).toInt ∨ (fX6_here I).toInt = 105 ∨ (fX6_here I).toInt = 106 ∨ (fX6_here I).toInt = 108 ∨ (fX6_here I).toInt = 109 ∨ (fX6_here I).toInt = 110 ∨ (fX6_here I).toInt = 112 ∨ (fX6_here I).toInt = 113 ∨ (fX6_here I).toInt = 114 by omega) with h | h | h | h | h | h | h | h | h | h; exact Or.inl h; exact Or.inr (Or.inl h); all_goals exact Or.inr (Or.inr ⟨by rw [h]; rfl, by omega, by omega⟩)) (by decide) ?_
                      refine g_sub [2] rfl ?_
                      exact J305_57 _ hJA
          refine g_icmp_eq (n := 110) (tgt := 120) ok dX6_readStatement_107 (by decide) rfl (fun c26 => ?_) (fun c26 => ?_)
          · try simp only [if_pos c26]
            exact J120_32 _ ⟨hA4, hm4⟩
          · try simp only [if_neg c26]
            refine g_aload_n (n := 111) ok 2 dX6_readStatement_110 rfl rfl rfl ?_
            refine g_get (n := 114) (v := vr 64) (c := 6) (k := 19) ok dX6_readStatement_111 clsX6 (by decide) q697 rfl rfl rfl ?_
            refine g_iload_n (n := 115) ok 0 dX6_readStatement_114 rfl rfl rfl ?_
            refine g_aload_n (n := 116) ok 2 dX6_readStatement_115 rfl rfl rfl ?_
            refine g_callV (n := 119) (rest := [vi (nI (3 * (ix (I 52 16)))), vr 64]) (av := []) (j := 52) ok (kX6_readDigit K104 (by first | with_reducible assumption | omega) (by first | with_reducible assumption | omega)) knX6_readDigit q786 q788 qs28 clsX6 rfl dX6_readStatement_116 rfl rfl (Nat.le_of_ble_eq_true rfl) (by decide) (by decide) rfl ?_
            have hp27 : vp_in (((fX6_readDigit K104).2) 52 14) 97 := readDigit_hA (by with_reducible assumption) (by with_reducible assumption)
            have hp28 : vp_in (((fX6_readDigit K104).2) 52 13) 97 := readDigit_hm (by with_reducible assumption)
            refine g_iast (n := 120) (i := 3 * (ix (I 52 16))) (L := 147) ok dX6_readStatement_119 rfl rfl rfl (by omega) rfl ?_
            exact J120_32 _ ⟨by rw [up_ne2 (by omega)]; with_reducible assumption, by rw [up_ne2 (by omega)]; with_reducible assumption⟩
        exact C104_60 _ (by rw [up_v]; exact at_inc hA2 hm2 hst0) (by rw [up_k (by omega), up_k (by omega)]; exact hm2)
      refine g_if_eq (n := 95) (tgt := 99) ok dX6_readStatement_92 (by decide) rfl (fun c16 => ?_) (fun c16 => ?_)
      · try simp only [if_pos c16]
        have cb := c16
        refine g_iconst (n := 100) (v := 1) ok dX6_readStatement_99 rfl rfl ?_
        exact J100_22 _ (Or.inr ⟨rfl, hE.mpr (hbad.2 cb)⟩)
      · try simp only [if_neg c16]
        refine g_iconst (n := 96) (v := 0) ok dX6_readStatement_95 rfl rfl ?_
        refine g_goto (tgt := 100) ok dX6_readStatement_96 (by decide) ?_
        exact J100_22 _ (Or.inl rfl)
    refine g_if_ne (n := 39) (tgt := 75) ok dX6_readStatement_36 (by decide) rfl (fun c4 => ?_) (fun c4 => ?_)
    · try simp only [if_neg c4]
      refine g_iconst (n := 76) (v := 1) ok dX6_readStatement_75 rfl rfl ?_
      refine g_goto (tgt := 80) ok dX6_readStatement_76 (by decide) ?_
      exact J80_15 _ ⟨Or.inr rfl, fun h => absurd h (by decide)⟩
    · try simp only [if_pos c4]
      refine g_iload_n (n := 40) ok 1 dX6_readStatement_39 rfl rfl rfl ?_
      refine g_bipush (n := 42) (v := 115) ok dX6_readStatement_40 rfl rfl ?_
      refine g_icmp_eq (n := 45) (tgt := 79) ok dX6_readStatement_42 (by decide) rfl (fun c5 => ?_) (fun c5 => ?_)
      · rw [if_pos c5]
        refine g_iconst (n := 80) (v := 0) ok dX6_readStatement_79 rfl rfl ?_
        exact J80_15 _ ⟨Or.inl rfl, fun _ => here_eq hA hm (by with_reducible assumption) (by decide)⟩
      · rw [if_neg c5]
        refine g_iload_n (n := 46) ok 1 dX6_readStatement_45 rfl rfl rfl ?_
        refine g_bipush (n := 48) (v := 107) ok dX6_readStatement_46 rfl rfl ?_
        refine g_icmp_eq (n := 51) (tgt := 79) ok dX6_readStatement_48 (by decide) rfl (fun c6 => ?_) (fun c6 => ?_)
        · rw [if_pos c6]
          refine g_iconst (n := 80) (v := 0) ok dX6_readStatement_79 rfl rfl ?_
          exact J80_15 _ ⟨Or.inl rfl, fun _ => here_eq hA hm (by with_reducible assumption) (by decide)⟩
        · rw [if_neg c6]
          refine g_iload_n (n := 52) ok 1 dX6_readStatement_51 rfl rfl rfl ?_
          refine g_bipush (n := 54) (v := 104) ok dX6_readStatement_52 rfl rfl ?_
          refine g_icmp_eq (n := 57) (tgt := 79) ok dX6_readStatement_54 (by decide) rfl (fun c7 => ?_) (fun c7 => ?_)
          · rw [if_pos c7]
            refine g_iconst (n := 80) (v := 0) ok dX6_readStatement_79 rfl rfl ?_
            exact J80_15 _ ⟨Or.inl rfl, fun _ => here_eq hA hm (by with_reducible assumption) (by decide)⟩
          · rw [if_neg c7]
            refine g_iload_n (n := 58) ok 1 dX6_readStatement_57 rfl rfl rfl ?_
            refine g_bipush (n := 60) (v := 111) ok dX6_readStatement_58 rfl rfl ?_
            refine g_icmp_eq (n := 63) (tgt := 79) ok dX6_readStatement_60 (by decide) rfl (fun c8 => ?_) (fun c8 => ?_)
            · rw [if_pos c8]
              refine g_iconst (n := 80) (v := 0) ok dX6_readStatement_79 rfl rfl ?_
              exact J80_15 _ ⟨Or.inl rfl, fun _ => here_eq hA hm (by with_reducible assumption) (by decide)⟩
            · rw [if_neg c8]
              refine g_iload_n (n := 64) ok 1 dX6_readStatement_63 rfl rfl rfl ?_
              refine g_bipush (n := 66) (v := 116) ok dX6_readStatement_64 rfl rfl ?_
              refine g_icmp_eq (n := 69) (tgt := 79) ok dX6_readStatement_66 (by decide) rfl (fun c9 => ?_) (fun c9 => ?_)
              · rw [if_pos c9]
                refine g_iconst (n := 80) (v := 0) ok dX6_readStatement_79 rfl rfl ?_
                exact J80_15 _ ⟨Or.inl rfl, fun _ => here_eq hA hm (by with_reducible assumption) (by decide)⟩
              · rw [if_neg c9]
                refine g_iload_n (n := 70) ok 1 dX6_readStatement_69 rfl rfl rfl ?_
                refine g_bipush (n := 72) (v := 119) ok dX6_readStatement_70 rfl rfl ?_
                refine g_icmp_eq (n := 75) (tgt := 79) ok dX6_readStatement_72 (by decide) rfl (fun c10 => ?_) (fun c10 => ?_)
                · rw [if_pos c10]
                  refine g_iconst (n := 80) (v := 0) ok dX6_readStatement_79 rfl rfl ?_
                  exact J80_15 _ ⟨Or.inl rfl, fun _ => here_eq hA hm (by with_reducible assumption) (by decide)⟩
                · rw [if_neg c10]
                  refine g_iconst (n := 76) (v := 1) ok dX6_readStatement_75 rfl rfl ?_
                  refine g_goto (tgt := 80) ok dX6_readStatement_76 (by decide) ?_
                  exact J80_15 _ ⟨Or.inr rfl, fun h => absurd h (by decide)⟩
  refine g_sub [0, 1, 3] rfl ?_
  exact C31_61 _ (by rw [up_ne2 (by omega), up_ne2 (by omega)]; exact hA) (by rw [up_ne2 (by omega), up_ne2 (by omega)]; exact hm) (by rw [up_ne2 (by omega), up_ne2 (by omega), up_ne2 (by omega), up_ne2 (by omega)])

noncomputable def fX6_settingComes (I : HI) (setting : Int32) (v : Int32) : Int32 × HI :=
  if fX6_in setting.toInt64 0 4 = 0 then (0, I) else (if fX6_in v.toInt64 ((fX6_leastOf setting).toInt64) ((fX6_mostOf setting).toInt64) = 0 then (0, I) else (1, (up I 55 (ix setting) v)))
theorem zX6_settingComes (I : HI) (setting : Int32) (v : Int32) : (fX6_settingComes I setting v).1 = 0 ∨ (fX6_settingComes I setting v).1 = 1 := by
  unfold fX6_settingComes
  repeat' (first | (split) | exact Or.inl rfl | exact Or.inr rfl | exact zX6_in ..)
theorem knX6_settingComes : Kn yX6_settingComes cX6_settingComes 4 (some .boolean) 2 := ⟨q822, q8, ⟨by decide, by decide⟩, by decide +kernel⟩
set_option maxHeartbeats 400000 in
set_option maxRecDepth 100000 in
theorem kX6_settingComes (I : HI) (setting : Int32) (v : Int32) : Cx yX6_settingComes cX6_settingComes 4 (some .boolean) 1 25 [vr 52, vi setting, vi v] I ((some (vi (((fX6_settingComes I setting v).1))), (fX6_settingComes I setting v).2)) := by
  refine Cx.mk (lv := [(0, vr 52), (1, vi setting), (2, vi v)]) (by decide) (Nat.le_of_ble_eq_true rfl) rfl (fun E ok hr => ?_)
  rw [fX6_settingComes]
  refine g_iload_n (n := 1) ok 1 dX6_settingComes_0 rfl rfl rfl ?_
  refine g_i2l (n := 2) ok dX6_settingComes_1 rfl ?_
  refine g_lconst (n := 3) (v := 0) ok dX6_settingComes_2 rfl rfl ?_
  refine g_ldc2_w (n := 6) ok dX6_settingComes_3 q823 rfl ?_
  refine g_callS (n := 9) (rest := []) (av := [vl setting.toInt64, vl 0, vl 4]) ok (kX6_in I setting.toInt64 0 4) knX6_in q792 q793 dX6_settingComes_6 rfl rfl (Nat.le_of_ble_eq_true rfl) (by decide) (by decide) rfl ?_
  refine g_if_eq (n := 12) (tgt := 34) ok dX6_settingComes_9 (by decide) rfl (fun c1 => ?_) (fun c1 => ?_)
  · rw [if_pos c1]
    refine g_iconst (n := 35) (v := 0) ok dX6_settingComes_34 rfl rfl ?_
    refine g_istore_n (n := 36) (lv' := [(3, vi 0), (0, vr 52), (1, vi setting), (2, vi v)]) ok dX6_settingComes_35 rfl (by decide) rfl rfl ?_
    refine g_iload_n (n := 37) ok 0 dX6_settingComes_36 rfl rfl rfl ?_
    refine g_if_eq (n := 40) (tgt := 47) ok dX6_settingComes_37 (by decide) rfl (fun c2 => ?_) (fun c2 => ?_)
    · refine g_iload_n (n := 48) ok 0 dX6_settingComes_47 rfl rfl rfl ?_
      exact g_zret (x := 0) ok hr dX6_settingComes_48 (by decide)
    · exact absurd (by decide) c2
  · rw [if_neg c1]
    have ha3 : vp_in setting 5 := in6_in (b := 4) c1 (by omega)
    have ha3b := vb ha3
    refine g_iload_n (n := 13) ok 2 dX6_settingComes_12 rfl rfl rfl ?_
    refine g_i2l (n := 14) ok dX6_settingComes_13 rfl ?_
    refine g_iload_n (n := 15) ok 1 dX6_settingComes_14 rfl rfl rfl ?_
    refine g_callS (n := 18) (rest := [vl v.toInt64]) (av := [vi setting]) ok (kX6_leastOf I setting) knX6_leastOf q824 q825 dX6_settingComes_15 rfl rfl (Nat.le_of_ble_eq_true rfl) (by decide) (by decide) rfl ?_
    refine g_i2l (n := 19) ok dX6_settingComes_18 rfl ?_
    refine g_iload_n (n := 20) ok 1 dX6_settingComes_19 rfl rfl rfl ?_
    refine g_callS (n := 23) (rest := [vl ((fX6_leastOf setting).toInt64), vl v.toInt64]) (av := [vi setting]) ok (kX6_mostOf I setting) knX6_mostOf q827 q828 dX6_settingComes_20 rfl rfl (Nat.le_of_ble_eq_true rfl) (by decide) (by decide) rfl ?_
    refine g_i2l (n := 24) ok dX6_settingComes_23 rfl ?_
    refine g_callS (n := 27) (rest := []) (av := [vl v.toInt64, vl ((fX6_leastOf setting).toInt64), vl ((fX6_mostOf setting).toInt64)]) ok (kX6_in I v.toInt64 ((fX6_leastOf setting).toInt64) ((fX6_mostOf setting).toInt64)) knX6_in q792 q793 dX6_settingComes_24 rfl rfl (Nat.le_of_ble_eq_true rfl) (by decide) (by decide) rfl ?_
    refine g_if_eq (n := 30) (tgt := 34) ok dX6_settingComes_27 (by decide) rfl (fun c4 => ?_) (fun c4 => ?_)
    · rw [if_pos c4]
      refine g_iconst (n := 35) (v := 0) ok dX6_settingComes_34 rfl rfl ?_
      refine g_istore_n (n := 36) (lv' := [(3, vi 0), (0, vr 52), (1, vi setting), (2, vi v)]) ok dX6_settingComes_35 rfl (by decide) rfl rfl ?_
      refine g_iload_n (n := 37) ok 0 dX6_settingComes_36 rfl rfl rfl ?_
      refine g_if_eq (n := 40) (tgt := 47) ok dX6_settingComes_37 (by decide) rfl (fun c5 => ?_) (fun c5 => ?_)
      · refine g_iload_n (n := 48) ok 0 dX6_settingComes_47 rfl rfl rfl ?_
        exact g_zret (x := 0) ok hr dX6_settingComes_48 (by decide)
      · exact absurd (by decide) c5
    · rw [if_neg c4]
      refine g_iconst (n := 31) (v := 1) ok dX6_settingComes_30 rfl rfl ?_
      refine g_goto (tgt := 35) ok dX6_settingComes_31 (by decide) ?_
      refine g_istore_n (n := 36) (lv' := [(3, vi 1), (0, vr 52), (1, vi setting), (2, vi v)]) ok dX6_settingComes_35 rfl (by decide) rfl rfl ?_
      refine g_iload_n (n := 37) ok 0 dX6_settingComes_36 rfl rfl rfl ?_
      refine g_if_eq (n := 40) (tgt := 47) ok dX6_settingComes_37 (by decide) rfl (fun c6 => ?_) (fun c6 => ?_)
      · exact absurd c6 (by decide)
      · refine g_aload_n (n := 41) ok 1 dX6_settingComes_40 rfl rfl rfl ?_
        refine g_get (n := 44) (v := vr 55) (c := 6) (k := 2) ok dX6_settingComes_41 clsX6 (by decide) q680 rfl rfl rfl ?_
        refine g_iload_n (n := 45) ok 2 dX6_settingComes_44 rfl rfl rfl ?_
        refine g_iload_n (n := 46) ok 3 dX6_settingComes_45 rfl rfl rfl ?_
        refine g_iast (n := 47) (i := ix setting) (L := 5) ok dX6_settingComes_46 rfl rfl (vx ha3) (by omega) rfl ?_
        refine g_iload_n (n := 48) ok 0 dX6_settingComes_47 rfl rfl rfl ?_
        exact g_zret (x := 1) ok hr dX6_settingComes_48 (by decide)

noncomputable def fX6_iceComes_h (I : HI) (patch : Int32) (hour : Int32) (v : Int32) (least : Int32) (most : Int32) : Int32 × HI :=
  if fX6_isFoot patch = 0 then (0, I) else (if fX6_isHour hour = 0 then (0, I) else (if fX6_in v.toInt64 least.toInt64 most.toInt64 = 0 then (0, I) else (1, (up I 53 ((12 * (ix patch)) + (ix hour)) v))))
theorem zX6_iceComes_h (I : HI) (patch : Int32) (hour : Int32) (v : Int32) (least : Int32) (most : Int32) : (fX6_iceComes_h I patch hour v least most).1 = 0 ∨ (fX6_iceComes_h I patch hour v least most).1 = 1 := by
  unfold fX6_iceComes_h
  repeat' (first | (split) | exact Or.inl rfl | exact Or.inr rfl | exact zX6_in .. | exact zX6_isFoot .. | exact zX6_isHour ..)
theorem knX6_iceComes : Kn yX6_iceComes cX6_iceComes 8 (some .boolean) 6 := ⟨q833, q8, ⟨by decide, by decide⟩, by decide +kernel⟩
set_option maxHeartbeats 400000 in
set_option maxRecDepth 100000 in
theorem kX6_iceComes_h (I : HI) (patch : Int32) (hour : Int32) (v : Int32) (least : Int32) (most : Int32) : Cx yX6_iceComes cX6_iceComes 8 (some .boolean) 2 45 [vr 52, vr 53, vi patch, vi hour, vi v, vi least, vi most] I ((some (vi (((fX6_iceComes_h I patch hour v least most).1))), (fX6_iceComes_h I patch hour v least most).2)) := by
  refine Cx.mk (lv := [(0, vr 52), (1, vr 53), (2, vi patch), (3, vi hour), (4, vi v), (5, vi least), (6, vi most)]) (by decide) (Nat.le_of_ble_eq_true rfl) rfl (fun E ok hr => ?_)
  rw [fX6_iceComes_h]
  refine g_iload_n (n := 1) ok 2 dX6_iceComes_0 rfl rfl rfl ?_
  refine g_callS (n := 4) (rest := []) (av := [vi patch]) ok (kX6_isFoot I patch) knX6_isFoot q834 q835 dX6_iceComes_1 rfl rfl (Nat.le_of_ble_eq_true rfl) (by decide) (by decide) rfl ?_
  refine g_if_eq (n := 7) (tgt := 33) ok dX6_iceComes_4 (by decide) rfl (fun c1 => ?_) (fun c1 => ?_)
  · rw [if_pos c1]
    refine g_iconst (n := 34) (v := 0) ok dX6_iceComes_33 rfl rfl ?_
    refine g_istore (n := 36) (lv' := [(7, vi 0), (0, vr 52), (1, vr 53), (2, vi patch), (3, vi hour), (4, vi v), (5, vi least), (6, vi most)]) ok dX6_iceComes_34 (by decide) rfl rfl ?_
    refine g_iload (n := 38) ok 0 dX6_iceComes_36 rfl rfl ?_
    refine g_if_eq (n := 41) (tgt := 51) ok dX6_iceComes_38 (by decide) rfl (fun c2 => ?_) (fun c2 => ?_)
    · refine g_iload (n := 53) ok 0 dX6_iceComes_51 rfl rfl ?_
      exact g_zret (x := 0) ok hr dX6_iceComes_53 (by decide)
    · exact absurd (by decide) c2
  · rw [if_neg c1]
    have ha3 : vp_in patch 2 := isFoot6_in c1
    have ha3b := vb ha3
    refine g_iload_n (n := 8) ok 3 dX6_iceComes_7 rfl rfl rfl ?_
    refine g_callS (n := 11) (rest := []) (av := [vi hour]) ok (kX6_isHour I hour) knX6_isHour q837 q838 dX6_iceComes_8 rfl rfl (Nat.le_of_ble_eq_true rfl) (by decide) (by decide) rfl ?_
    refine g_if_eq (n := 14) (tgt := 33) ok dX6_iceComes_11 (by decide) rfl (fun c4 => ?_) (fun c4 => ?_)
    · rw [if_pos c4]
      refine g_iconst (n := 34) (v := 0) ok dX6_iceComes_33 rfl rfl ?_
      refine g_istore (n := 36) (lv' := [(7, vi 0), (0, vr 52), (1, vr 53), (2, vi patch), (3, vi hour), (4, vi v), (5, vi least), (6, vi most)]) ok dX6_iceComes_34 (by decide) rfl rfl ?_
      refine g_iload (n := 38) ok 0 dX6_iceComes_36 rfl rfl ?_
      refine g_if_eq (n := 41) (tgt := 51) ok dX6_iceComes_38 (by decide) rfl (fun c5 => ?_) (fun c5 => ?_)
      · refine g_iload (n := 53) ok 0 dX6_iceComes_51 rfl rfl ?_
        exact g_zret (x := 0) ok hr dX6_iceComes_53 (by decide)
      · exact absurd (by decide) c5
    · rw [if_neg c4]
      have ha6 : vp_in hour 12 := isHour6_in c4
      have ha6b := vb ha6
      refine g_iload (n := 16) ok 4 dX6_iceComes_14 rfl rfl ?_
      refine g_i2l (n := 17) ok dX6_iceComes_16 rfl ?_
      refine g_iload (n := 19) ok 5 dX6_iceComes_17 rfl rfl ?_
      refine g_i2l (n := 20) ok dX6_iceComes_19 rfl ?_
      refine g_iload (n := 22) ok 6 dX6_iceComes_20 rfl rfl ?_
      refine g_i2l (n := 23) ok dX6_iceComes_22 rfl ?_
      refine g_callS (n := 26) (rest := []) (av := [vl v.toInt64, vl least.toInt64, vl most.toInt64]) ok (kX6_in I v.toInt64 least.toInt64 most.toInt64) knX6_in q792 q793 dX6_iceComes_23 rfl rfl (Nat.le_of_ble_eq_true rfl) (by decide) (by decide) rfl ?_
      refine g_if_eq (n := 29) (tgt := 33) ok dX6_iceComes_26 (by decide) rfl (fun c7 => ?_) (fun c7 => ?_)
      · rw [if_pos c7]
        refine g_iconst (n := 34) (v := 0) ok dX6_iceComes_33 rfl rfl ?_
        refine g_istore (n := 36) (lv' := [(7, vi 0), (0, vr 52), (1, vr 53), (2, vi patch), (3, vi hour), (4, vi v), (5, vi least), (6, vi most)]) ok dX6_iceComes_34 (by decide) rfl rfl ?_
        refine g_iload (n := 38) ok 0 dX6_iceComes_36 rfl rfl ?_
        refine g_if_eq (n := 41) (tgt := 51) ok dX6_iceComes_38 (by decide) rfl (fun c8 => ?_) (fun c8 => ?_)
        · refine g_iload (n := 53) ok 0 dX6_iceComes_51 rfl rfl ?_
          exact g_zret (x := 0) ok hr dX6_iceComes_53 (by decide)
        · exact absurd (by decide) c8
      · rw [if_neg c7]
        refine g_iconst (n := 30) (v := 1) ok dX6_iceComes_29 rfl rfl ?_
        refine g_goto (tgt := 34) ok dX6_iceComes_30 (by decide) ?_
        refine g_istore (n := 36) (lv' := [(7, vi 1), (0, vr 52), (1, vr 53), (2, vi patch), (3, vi hour), (4, vi v), (5, vi least), (6, vi most)]) ok dX6_iceComes_34 (by decide) rfl rfl ?_
        refine g_iload (n := 38) ok 0 dX6_iceComes_36 rfl rfl ?_
        refine g_if_eq (n := 41) (tgt := 51) ok dX6_iceComes_38 (by decide) rfl (fun c9 => ?_) (fun c9 => ?_)
        · exact absurd c9 (by decide)
        · refine g_aload_n (n := 42) ok 2 dX6_iceComes_41 rfl rfl rfl ?_
          refine g_bipush (n := 44) (v := 12) ok dX6_iceComes_42 rfl rfl ?_
          refine g_iload_n (n := 45) ok 3 dX6_iceComes_44 rfl rfl rfl ?_
          refine g_imul (n := 46) ok dX6_iceComes_45 rfl ?_
          refine g_top (nv_imul (a := 12) (b := ix patch) rfl (vx ha3)) ?_
          refine g_iload_n (n := 47) ok 4 dX6_iceComes_46 rfl rfl rfl ?_
          refine g_iadd (n := 48) ok dX6_iceComes_47 rfl ?_
          refine g_top (nv_iadd (a := 12 * (ix patch)) (b := ix hour) rfl (vx ha6)) ?_
          refine g_iload (n := 50) ok 5 dX6_iceComes_48 rfl rfl ?_
          refine g_iast (n := 51) (i := (12 * (ix patch)) + (ix hour)) (L := 24) ok dX6_iceComes_50 rfl rfl rfl (by omega) rfl ?_
          refine g_iload (n := 53) ok 0 dX6_iceComes_51 rfl rfl ?_
          exact g_zret (x := 1) ok hr dX6_iceComes_53 (by decide)

noncomputable def fX6_iceComes_o (I : HI) (patch : Int32) (hour : Int32) (v : Int32) (least : Int32) (most : Int32) : Int32 × HI :=
  if fX6_isFoot patch = 0 then (0, I) else (if fX6_isHour hour = 0 then (0, I) else (if fX6_in v.toInt64 least.toInt64 most.toInt64 = 0 then (0, I) else (1, (up I 54 ((12 * (ix patch)) + (ix hour)) v))))
theorem zX6_iceComes_o (I : HI) (patch : Int32) (hour : Int32) (v : Int32) (least : Int32) (most : Int32) : (fX6_iceComes_o I patch hour v least most).1 = 0 ∨ (fX6_iceComes_o I patch hour v least most).1 = 1 := by
  unfold fX6_iceComes_o
  repeat' (first | (split) | exact Or.inl rfl | exact Or.inr rfl | exact zX6_in .. | exact zX6_isFoot .. | exact zX6_isHour ..)
set_option maxHeartbeats 400000 in
set_option maxRecDepth 100000 in
theorem kX6_iceComes_o (I : HI) (patch : Int32) (hour : Int32) (v : Int32) (least : Int32) (most : Int32) : Cx yX6_iceComes cX6_iceComes 8 (some .boolean) 2 45 [vr 52, vr 54, vi patch, vi hour, vi v, vi least, vi most] I ((some (vi (((fX6_iceComes_o I patch hour v least most).1))), (fX6_iceComes_o I patch hour v least most).2)) := by
  refine Cx.mk (lv := [(0, vr 52), (1, vr 54), (2, vi patch), (3, vi hour), (4, vi v), (5, vi least), (6, vi most)]) (by decide) (Nat.le_of_ble_eq_true rfl) rfl (fun E ok hr => ?_)
  rw [fX6_iceComes_o]
  refine g_iload_n (n := 1) ok 2 dX6_iceComes_0 rfl rfl rfl ?_
  refine g_callS (n := 4) (rest := []) (av := [vi patch]) ok (kX6_isFoot I patch) knX6_isFoot q834 q835 dX6_iceComes_1 rfl rfl (Nat.le_of_ble_eq_true rfl) (by decide) (by decide) rfl ?_
  refine g_if_eq (n := 7) (tgt := 33) ok dX6_iceComes_4 (by decide) rfl (fun c1 => ?_) (fun c1 => ?_)
  · rw [if_pos c1]
    refine g_iconst (n := 34) (v := 0) ok dX6_iceComes_33 rfl rfl ?_
    refine g_istore (n := 36) (lv' := [(7, vi 0), (0, vr 52), (1, vr 54), (2, vi patch), (3, vi hour), (4, vi v), (5, vi least), (6, vi most)]) ok dX6_iceComes_34 (by decide) rfl rfl ?_
    refine g_iload (n := 38) ok 0 dX6_iceComes_36 rfl rfl ?_
    refine g_if_eq (n := 41) (tgt := 51) ok dX6_iceComes_38 (by decide) rfl (fun c2 => ?_) (fun c2 => ?_)
    · refine g_iload (n := 53) ok 0 dX6_iceComes_51 rfl rfl ?_
      exact g_zret (x := 0) ok hr dX6_iceComes_53 (by decide)
    · exact absurd (by decide) c2
  · rw [if_neg c1]
    have ha3 : vp_in patch 2 := isFoot6_in c1
    have ha3b := vb ha3
    refine g_iload_n (n := 8) ok 3 dX6_iceComes_7 rfl rfl rfl ?_
    refine g_callS (n := 11) (rest := []) (av := [vi hour]) ok (kX6_isHour I hour) knX6_isHour q837 q838 dX6_iceComes_8 rfl rfl (Nat.le_of_ble_eq_true rfl) (by decide) (by decide) rfl ?_
    refine g_if_eq (n := 14) (tgt := 33) ok dX6_iceComes_11 (by decide) rfl (fun c4 => ?_) (fun c4 => ?_)
    · rw [if_pos c4]
      refine g_iconst (n := 34) (v := 0) ok dX6_iceComes_33 rfl rfl ?_
      refine g_istore (n := 36) (lv' := [(7, vi 0), (0, vr 52), (1, vr 54), (2, vi patch), (3, vi hour), (4, vi v), (5, vi least), (6, vi most)]) ok dX6_iceComes_34 (by decide) rfl rfl ?_
      refine g_iload (n := 38) ok 0 dX6_iceComes_36 rfl rfl ?_
      refine g_if_eq (n := 41) (tgt := 51) ok dX6_iceComes_38 (by decide) rfl (fun c5 => ?_) (fun c5 => ?_)
      · refine g_iload (n := 53) ok 0 dX6_iceComes_51 rfl rfl ?_
        exact g_zret (x := 0) ok hr dX6_iceComes_53 (by decide)
      · exact absurd (by decide) c5
    · rw [if_neg c4]
      have ha6 : vp_in hour 12 := isHour6_in c4
      have ha6b := vb ha6
      refine g_iload (n := 16) ok 4 dX6_iceComes_14 rfl rfl ?_
      refine g_i2l (n := 17) ok dX6_iceComes_16 rfl ?_
      refine g_iload (n := 19) ok 5 dX6_iceComes_17 rfl rfl ?_
      refine g_i2l (n := 20) ok dX6_iceComes_19 rfl ?_
      refine g_iload (n := 22) ok 6 dX6_iceComes_20 rfl rfl ?_
      refine g_i2l (n := 23) ok dX6_iceComes_22 rfl ?_
      refine g_callS (n := 26) (rest := []) (av := [vl v.toInt64, vl least.toInt64, vl most.toInt64]) ok (kX6_in I v.toInt64 least.toInt64 most.toInt64) knX6_in q792 q793 dX6_iceComes_23 rfl rfl (Nat.le_of_ble_eq_true rfl) (by decide) (by decide) rfl ?_
      refine g_if_eq (n := 29) (tgt := 33) ok dX6_iceComes_26 (by decide) rfl (fun c7 => ?_) (fun c7 => ?_)
      · rw [if_pos c7]
        refine g_iconst (n := 34) (v := 0) ok dX6_iceComes_33 rfl rfl ?_
        refine g_istore (n := 36) (lv' := [(7, vi 0), (0, vr 52), (1, vr 54), (2, vi patch), (3, vi hour), (4, vi v), (5, vi least), (6, vi most)]) ok dX6_iceComes_34 (by decide) rfl rfl ?_
        refine g_iload (n := 38) ok 0 dX6_iceComes_36 rfl rfl ?_
        refine g_if_eq (n := 41) (tgt := 51) ok dX6_iceComes_38 (by decide) rfl (fun c8 => ?_) (fun c8 => ?_)
        · refine g_iload (n := 53) ok 0 dX6_iceComes_51 rfl rfl ?_
          exact g_zret (x := 0) ok hr dX6_iceComes_53 (by decide)
        · exact absurd (by decide) c8
      · rw [if_neg c7]
        refine g_iconst (n := 30) (v := 1) ok dX6_iceComes_29 rfl rfl ?_
        refine g_goto (tgt := 34) ok dX6_iceComes_30 (by decide) ?_
        refine g_istore (n := 36) (lv' := [(7, vi 1), (0, vr 52), (1, vr 54), (2, vi patch), (3, vi hour), (4, vi v), (5, vi least), (6, vi most)]) ok dX6_iceComes_34 (by decide) rfl rfl ?_
        refine g_iload (n := 38) ok 0 dX6_iceComes_36 rfl rfl ?_
        refine g_if_eq (n := 41) (tgt := 51) ok dX6_iceComes_38 (by decide) rfl (fun c9 => ?_) (fun c9 => ?_)
        · exact absurd c9 (by decide)
        · refine g_aload_n (n := 42) ok 2 dX6_iceComes_41 rfl rfl rfl ?_
          refine g_bipush (n := 44) (v := 12) ok dX6_iceComes_42 rfl rfl ?_
          refine g_iload_n (n := 45) ok 3 dX6_iceComes_44 rfl rfl rfl ?_
          refine g_imul (n := 46) ok dX6_iceComes_45 rfl ?_
          refine g_top (nv_imul (a := 12) (b := ix patch) rfl (vx ha3)) ?_
          refine g_iload_n (n := 47) ok 4 dX6_iceComes_46 rfl rfl rfl ?_
          refine g_iadd (n := 48) ok dX6_iceComes_47 rfl ?_
          refine g_top (nv_iadd (a := 12 * (ix patch)) (b := ix hour) rfl (vx ha6)) ?_
          refine g_iload (n := 50) ok 5 dX6_iceComes_48 rfl rfl ?_
          refine g_iast (n := 51) (i := (12 * (ix patch)) + (ix hour)) (L := 24) ok dX6_iceComes_50 rfl rfl rfl (by omega) rfl ?_
          refine g_iload (n := 53) ok 0 dX6_iceComes_51 rfl rfl ?_
          exact g_zret (x := 1) ok hr dX6_iceComes_53 (by decide)

noncomputable def fX6_traceComes (I : HI) (foot : Int32) (push : Int32) (lean : Int32) : Int32 × HI :=
  if fX6_isFoot foot = 0 then (0, I) else (if fX6_wrongTwo push lean = 0 then (if 6 ≤ I 52 5 then (0, I) else (1, ((fX6_drawBy I (I 52 3) (ix foot) push lean).2))) else (0, I))
theorem zX6_traceComes (I : HI) (foot : Int32) (push : Int32) (lean : Int32) : (fX6_traceComes I foot push lean).1 = 0 ∨ (fX6_traceComes I foot push lean).1 = 1 := by
  unfold fX6_traceComes
  repeat' (first | (split) | exact Or.inl rfl | exact Or.inr rfl | exact zX6_isFoot ..)
theorem knX6_traceComes : Kn yX6_traceComes cX6_traceComes 5 (some .boolean) 3 := ⟨q844, q8, ⟨by decide, by decide⟩, by decide +kernel⟩
set_option maxHeartbeats 400000 in
set_option maxRecDepth 100000 in
theorem kX6_traceComes (I : HI) (foot : Int32) (push : Int32) (lean : Int32) (hd : vp_in (I 52 5) 7) : Cx yX6_traceComes cX6_traceComes 5 (some .boolean) 4 100 [vr 52, vi foot, vi push, vi lean] I ((some (vi (((fX6_traceComes I foot push lean).1))), (fX6_traceComes I foot push lean).2)) := by
  refine Cx.mk (lv := [(0, vr 52), (1, vi foot), (2, vi push), (3, vi lean)]) (by decide) (Nat.le_of_ble_eq_true rfl) rfl (fun E ok hr => ?_)
  rw [fX6_traceComes]
  refine g_iload_n (n := 1) ok 1 dX6_traceComes_0 rfl rfl rfl ?_
  refine g_callS (n := 4) (rest := []) (av := [vi foot]) ok (kX6_isFoot I foot) knX6_isFoot q834 q835 dX6_traceComes_1 rfl rfl (Nat.le_of_ble_eq_true rfl) (by decide) (by decide) rfl ?_
  refine g_if_eq (n := 7) (tgt := 28) ok dX6_traceComes_4 (by decide) rfl (fun c1 => ?_) (fun c1 => ?_)
  · rw [if_pos c1]
    refine g_iconst (n := 29) (v := 0) ok dX6_traceComes_28 rfl rfl ?_
    refine g_istore (n := 31) (lv' := [(4, vi 0), (0, vr 52), (1, vi foot), (2, vi push), (3, vi lean)]) ok dX6_traceComes_29 (by decide) rfl rfl ?_
    refine g_iload (n := 33) ok 0 dX6_traceComes_31 rfl rfl ?_
    refine g_if_eq (n := 36) (tgt := 48) ok dX6_traceComes_33 (by decide) rfl (fun c2 => ?_) (fun c2 => ?_)
    · refine g_iload (n := 50) ok 0 dX6_traceComes_48 rfl rfl ?_
      exact g_zret (x := 0) ok hr dX6_traceComes_50 (by decide)
    · exact absurd (by decide) c2
  · rw [if_neg c1]
    have ha3 : vp_in foot 2 := isFoot6_in c1
    have ha3b := vb ha3
    refine g_iload_n (n := 8) ok 2 dX6_traceComes_7 rfl rfl rfl ?_
    refine g_iload_n (n := 9) ok 3 dX6_traceComes_8 rfl rfl rfl ?_
    refine g_callS (n := 12) (rest := []) (av := [vi push, vi lean]) ok (kX6_wrongTwo I push lean) knX6_wrongTwo q845 q846 dX6_traceComes_9 rfl rfl (Nat.le_of_ble_eq_true rfl) (by decide) (by decide) rfl ?_
    refine g_if_ne (n := 15) (tgt := 28) ok dX6_traceComes_12 (by decide) rfl (fun c4 => ?_) (fun c4 => ?_)
    · rw [if_neg c4]
      refine g_iconst (n := 29) (v := 0) ok dX6_traceComes_28 rfl rfl ?_
      refine g_istore (n := 31) (lv' := [(4, vi 0), (0, vr 52), (1, vi foot), (2, vi push), (3, vi lean)]) ok dX6_traceComes_29 (by decide) rfl rfl ?_
      refine g_iload (n := 33) ok 0 dX6_traceComes_31 rfl rfl ?_
      refine g_if_eq (n := 36) (tgt := 48) ok dX6_traceComes_33 (by decide) rfl (fun c5 => ?_) (fun c5 => ?_)
      · refine g_iload (n := 50) ok 0 dX6_traceComes_48 rfl rfl ?_
        exact g_zret (x := 0) ok hr dX6_traceComes_50 (by decide)
      · exact absurd (by decide) c5
    · rw [if_pos c4]
      have hx6 := wrongTwo_ne (wz0 c4)
      refine g_aload_n (n := 16) ok 0 dX6_traceComes_15 rfl rfl rfl ?_
      refine g_get (n := 19) (v := vi (I 52 5)) (c := 6) (k := 5) ok dX6_traceComes_16 clsX6 (by decide) q683 rfl rfl rfl ?_
      refine g_bipush (n := 21) (v := 6) ok dX6_traceComes_19 rfl rfl ?_
      refine g_icmp_ge (n := 24) (tgt := 28) ok dX6_traceComes_21 (by decide) rfl (fun c7 => ?_) (fun c7 => ?_)
      · rw [if_pos c7]
        refine g_iconst (n := 29) (v := 0) ok dX6_traceComes_28 rfl rfl ?_
        refine g_istore (n := 31) (lv' := [(4, vi 0), (0, vr 52), (1, vi foot), (2, vi push), (3, vi lean)]) ok dX6_traceComes_29 (by decide) rfl rfl ?_
        refine g_iload (n := 33) ok 0 dX6_traceComes_31 rfl rfl ?_
        refine g_if_eq (n := 36) (tgt := 48) ok dX6_traceComes_33 (by decide) rfl (fun c8 => ?_) (fun c8 => ?_)
        · refine g_iload (n := 50) ok 0 dX6_traceComes_48 rfl rfl ?_
          exact g_zret (x := 0) ok hr dX6_traceComes_50 (by decide)
        · exact absurd (by decide) c8
      · rw [if_neg c7]
        refine g_iconst (n := 25) (v := 1) ok dX6_traceComes_24 rfl rfl ?_
        refine g_goto (tgt := 29) ok dX6_traceComes_25 (by decide) ?_
        refine g_istore (n := 31) (lv' := [(4, vi 1), (0, vr 52), (1, vi foot), (2, vi push), (3, vi lean)]) ok dX6_traceComes_29 (by decide) rfl rfl ?_
        refine g_iload (n := 33) ok 0 dX6_traceComes_31 rfl rfl ?_
        refine g_if_eq (n := 36) (tgt := 48) ok dX6_traceComes_33 (by decide) rfl (fun c9 => ?_) (fun c9 => ?_)
        · exact absurd c9 (by decide)
        · refine g_aload_n (n := 37) ok 1 dX6_traceComes_36 rfl rfl rfl ?_
          refine g_aload_n (n := 38) ok 1 dX6_traceComes_37 rfl rfl rfl ?_
          refine g_get (n := 41) (v := vi (I 52 3)) (c := 6) (k := 3) ok dX6_traceComes_38 clsX6 (by decide) q681 rfl rfl rfl ?_
          refine g_iload_n (n := 42) ok 2 dX6_traceComes_41 rfl rfl rfl ?_
          refine g_iload_n (n := 43) ok 3 dX6_traceComes_42 rfl rfl rfl ?_
          refine g_iload_n (n := 44) ok 4 dX6_traceComes_43 rfl rfl rfl ?_
          refine g_callV (n := 47) (rest := []) (av := [vi (I 52 3), vi (nI (ix foot)), vi push, vi lean]) (j := 52) ok (kX6_drawBy I (I 52 3) (ix foot) push lean (by first | with_reducible assumption | exact vp_mono (by with_reducible assumption) (by omega)) (by first | with_reducible assumption | omega) (by first | with_reducible assumption | omega)) knX6_drawBy q848 q850 qs38 clsX6 rfl dX6_traceComes_44 (lcons rfl (lcons rfl (lcons (congrArg vi (vx ha3)) (lcons rfl (lcons rfl rfl))))) rfl (Nat.le_of_ble_eq_true rfl) (by decide) (by decide) rfl ?_
          have hp10 : (fX6_drawBy I (I 52 3) (ix foot) push lean).1 = ix (I 52 5) := rfl
          refine g_pop (n := 48) ok dX6_traceComes_47 rfl rfl ?_
          refine g_iload (n := 50) ok 0 dX6_traceComes_48 rfl rfl ?_
          exact g_zret (x := 1) ok hr dX6_traceComes_50 (by decide)

noncomputable def fX6_comes (I : HI) (k : Nat) : Int32 × HI :=
  if I 63 k = 104 then ((fX6_iceComes_h I (I 64 (3 * k)) (I 64 ((3 * k) + 1)) (I 64 ((3 * k) + 2)) 0 3).1, ((fX6_iceComes_h I (I 64 (3 * k)) (I 64 ((3 * k) + 1)) (I 64 ((3 * k) + 2)) 0 3).2)) else (if I 63 k = 107 then (if 7 ≤ I 64 (3 * k) then (0, (up (up I 52 3 (I 64 (3 * k))) 52 4 (I 64 ((3 * k) + 1)))) else (1, (up (up I 52 3 (I 64 (3 * k))) 52 4 (I 64 ((3 * k) + 1))))) else (if I 63 k = 111 then ((fX6_iceComes_o I (I 64 (3 * k)) (I 64 ((3 * k) + 1)) (I 64 ((3 * k) + 2)) 0 99).1, ((fX6_iceComes_o I (I 64 (3 * k)) (I 64 ((3 * k) + 1)) (I 64 ((3 * k) + 2)) 0 99).2)) else (if I 63 k = 115 then ((fX6_settingComes I (I 64 (3 * k)) (I 64 ((3 * k) + 1))).1, ((fX6_settingComes I (I 64 (3 * k)) (I 64 ((3 * k) + 1))).2)) else (if I 63 k = 116 then ((fX6_traceComes I (I 64 (3 * k)) (I 64 ((3 * k) + 1)) (I 64 ((3 * k) + 2))).1, ((fX6_traceComes I (I 64 (3 * k)) (I 64 ((3 * k) + 1)) (I 64 ((3 * k) + 2))).2)) else (1, (up I 52 5 0))))))
theorem knX6_comes : Kn yX6_comes cX6_comes 5 (some .boolean) 1 := ⟨q818, q8, ⟨by decide, by decide⟩, by decide +kernel⟩
set_option maxHeartbeats 400000 in
set_option maxRecDepth 100000 in
theorem kX6_comes (I : HI) (k : Nat) (hd : vp_in (I 52 5) 7) (hk : k < 49) : Cx yX6_comes cX6_comes 5 (some .boolean) 5 124 [vr 52, vi (nI k)] I ((some (vi (((fX6_comes I k).1))), (fX6_comes I k).2)) := by
  refine Cx.mk (lv := [(0, vr 52), (1, vi (nI k))]) (by decide) (Nat.le_of_ble_eq_true rfl) rfl (fun E ok hr => ?_)
  rw [fX6_comes]
  refine g_aload_n (n := 1) ok 0 dX6_comes_0 rfl rfl rfl ?_
  refine g_get (n := 4) (v := vr 64) (c := 6) (k := 19) ok dX6_comes_1 clsX6 (by decide) q697 rfl rfl rfl ?_
  refine g_iconst (n := 5) (v := 3) ok dX6_comes_4 rfl rfl ?_
  refine g_iload_n (n := 6) ok 1 dX6_comes_5 rfl rfl rfl ?_
  refine g_imul (n := 7) ok dX6_comes_6 rfl ?_
  refine g_top (nv_imul (a := 3) (b := k) rfl rfl) ?_
  refine g_iald (n := 8) (i := 3 * k) (L := 147) ok dX6_comes_7 rfl rfl rfl (by omega) rfl ?_
  refine g_istore_n (n := 9) (lv' := [(2, vi (I 64 (3 * k))), (0, vr 52), (1, vi (nI k))]) ok dX6_comes_8 rfl (by decide) rfl rfl ?_
  refine g_aload_n (n := 10) ok 1 dX6_comes_9 rfl rfl rfl ?_
  refine g_get (n := 13) (v := vr 64) (c := 6) (k := 19) ok dX6_comes_10 clsX6 (by decide) q697 rfl rfl rfl ?_
  refine g_iconst (n := 14) (v := 3) ok dX6_comes_13 rfl rfl ?_
  refine g_iload_n (n := 15) ok 2 dX6_comes_14 rfl rfl rfl ?_
  refine g_imul (n := 16) ok dX6_comes_15 rfl ?_
  refine g_top (nv_imul (a := 3) (b := k) rfl rfl) ?_
  refine g_iconst (n := 17) (v := 1) ok dX6_comes_16 rfl rfl ?_
  refine g_iadd (n := 18) ok dX6_comes_17 rfl ?_
  refine g_top (nv_iadd (a := 3 * k) (b := 1) rfl rfl) ?_
  refine g_iald (n := 19) (i := (3 * k) + 1) (L := 147) ok dX6_comes_18 rfl rfl rfl (by omega) rfl ?_
  refine g_istore_n (n := 20) (lv' := [(3, vi (I 64 ((3 * k) + 1))), (2, vi (I 64 (3 * k))), (0, vr 52), (1, vi (nI k))]) ok dX6_comes_19 rfl (by decide) rfl rfl ?_
  refine g_aload_n (n := 21) ok 2 dX6_comes_20 rfl rfl rfl ?_
  refine g_get (n := 24) (v := vr 64) (c := 6) (k := 19) ok dX6_comes_21 clsX6 (by decide) q697 rfl rfl rfl ?_
  refine g_iconst (n := 25) (v := 3) ok dX6_comes_24 rfl rfl ?_
  refine g_iload_n (n := 26) ok 3 dX6_comes_25 rfl rfl rfl ?_
  refine g_imul (n := 27) ok dX6_comes_26 rfl ?_
  refine g_top (nv_imul (a := 3) (b := k) rfl rfl) ?_
  refine g_iconst (n := 28) (v := 2) ok dX6_comes_27 rfl rfl ?_
  refine g_iadd (n := 29) ok dX6_comes_28 rfl ?_
  refine g_top (nv_iadd (a := 3 * k) (b := 2) rfl rfl) ?_
  refine g_iald (n := 30) (i := (3 * k) + 2) (L := 147) ok dX6_comes_29 rfl rfl rfl (by omega) rfl ?_
  refine g_istore (n := 32) (lv' := [(4, vi (I 64 ((3 * k) + 2))), (3, vi (I 64 ((3 * k) + 1))), (2, vi (I 64 (3 * k))), (0, vr 52), (1, vi (nI k))]) ok dX6_comes_30 (by decide) rfl rfl ?_
  refine g_aload_n (n := 33) ok 3 dX6_comes_32 rfl rfl rfl ?_
  refine g_get (n := 36) (v := vr 63) (c := 6) (k := 18) ok dX6_comes_33 clsX6 (by decide) q696 rfl rfl rfl ?_
  refine g_iload_n (n := 37) ok 4 dX6_comes_36 rfl rfl rfl ?_
  refine g_iald (n := 38) (i := k) (L := 49) ok dX6_comes_37 rfl rfl rfl (by omega) rfl ?_
  by_cases c1 : I 63 k = 104
  · rw [if_pos c1]
    refine g_tabIn (off := 95) (tgt := 133) ok dX6_comes_38 (by rw [c1]; decide) (by rw [c1]; decide) (by rw [c1]; rfl) (by decide) ?_
    refine g_aload_n (n := 134) ok 3 dX6_comes_133 rfl rfl rfl ?_
    refine g_aload_n (n := 135) ok 3 dX6_comes_134 rfl rfl rfl ?_
    refine g_get (n := 138) (v := vr 53) (c := 6) (k := 0) ok dX6_comes_135 clsX6 (by decide) q678 rfl rfl rfl ?_
    refine g_iload_n (n := 139) ok 2 dX6_comes_138 rfl rfl rfl ?_
    refine g_iload_n (n := 140) ok 1 dX6_comes_139 rfl rfl rfl ?_
    refine g_iload (n := 142) ok 0 dX6_comes_140 rfl rfl ?_
    refine g_iconst (n := 143) (v := 0) ok dX6_comes_142 rfl rfl ?_
    refine g_iconst (n := 144) (v := 3) ok dX6_comes_143 rfl rfl ?_
    refine g_callV (n := 147) (rest := []) (av := [vr 53, vi (I 64 (3 * k)), vi (I 64 ((3 * k) + 1)), vi (I 64 ((3 * k) + 2)), vi 0, vi 3]) (j := 52) ok (kX6_iceComes_h I (I 64 (3 * k)) (I 64 ((3 * k) + 1)) (I 64 ((3 * k) + 2)) 0 3) knX6_iceComes q830 q832 qs36 clsX6 rfl dX6_comes_144 rfl rfl (Nat.le_of_ble_eq_true rfl) (by decide) (by decide) rfl ?_
    exact g_zret (x := (fX6_iceComes_h I (I 64 (3 * k)) (I 64 ((3 * k) + 1)) (I 64 ((3 * k) + 2)) 0 3).1) ok hr dX6_comes_147 (by first | exact zX6_iceComes_h .. | exact zX6_iceComes_h)
  · rw [if_neg c1]
    by_cases c2 : I 63 k = 107
    · rw [if_pos c2]
      refine g_tabIn (off := 73) (tgt := 111) ok dX6_comes_38 (by rw [c2]; decide) (by rw [c2]; decide) (by rw [c2]; rfl) (by decide) ?_
      refine g_aload_n (n := 112) ok 3 dX6_comes_111 rfl rfl rfl ?_
      refine g_iload_n (n := 113) ok 2 dX6_comes_112 rfl rfl rfl ?_
      refine g_put (n := 116) (J := up I 52 3 (I 64 (3 * k))) (c := 6) (k := 3) ok dX6_comes_113 clsX6 tyX6 tyX6_ok nmX6 (by decide) q681 rfl rfl (fun _ => rfl) (fun _ => rfl) (Nat.le_of_ble_eq_true rfl) (fs_6_3 _ _ _) up_ne rfl ?_
      refine g_aload_n (n := 117) ok 3 dX6_comes_116 rfl rfl rfl ?_
      refine g_iload_n (n := 118) ok 1 dX6_comes_117 rfl rfl rfl ?_
      refine g_put (n := 121) (J := up (up I 52 3 (I 64 (3 * k))) 52 4 (I 64 ((3 * k) + 1))) (c := 6) (k := 4) ok dX6_comes_118 clsX6 tyX6 tyX6_ok nmX6 (by decide) q682 rfl rfl (fun _ => rfl) (fun _ => rfl) (Nat.le_of_ble_eq_true rfl) (fs_6_4 _ _ _) up_ne rfl ?_
      refine g_iload_n (n := 122) ok 2 dX6_comes_121 rfl rfl rfl ?_
      refine g_bipush (n := 124) (v := 7) ok dX6_comes_122 rfl rfl ?_
      refine g_icmp_ge (n := 127) (tgt := 131) ok dX6_comes_124 (by decide) rfl (fun c3 => ?_) (fun c3 => ?_)
      · rw [if_pos c3]
        refine g_iconst (n := 132) (v := 0) ok dX6_comes_131 rfl rfl ?_
        exact g_zret (x := 0) ok hr dX6_comes_132 (by decide)
      · rw [if_neg c3]
        refine g_iconst (n := 128) (v := 1) ok dX6_comes_127 rfl rfl ?_
        refine g_goto (tgt := 132) ok dX6_comes_128 (by decide) ?_
        exact g_zret (x := 1) ok hr dX6_comes_132 (by decide)
    · rw [if_neg c2]
      by_cases c4 : I 63 k = 111
      · rw [if_pos c4]
        refine g_tabIn (off := 110) (tgt := 148) ok dX6_comes_38 (by rw [c4]; decide) (by rw [c4]; decide) (by rw [c4]; rfl) (by decide) ?_
        refine g_aload_n (n := 149) ok 3 dX6_comes_148 rfl rfl rfl ?_
        refine g_aload_n (n := 150) ok 3 dX6_comes_149 rfl rfl rfl ?_
        refine g_get (n := 153) (v := vr 54) (c := 6) (k := 1) ok dX6_comes_150 clsX6 (by decide) q679 rfl rfl rfl ?_
        refine g_iload_n (n := 154) ok 2 dX6_comes_153 rfl rfl rfl ?_
        refine g_iload_n (n := 155) ok 1 dX6_comes_154 rfl rfl rfl ?_
        refine g_iload (n := 157) ok 0 dX6_comes_155 rfl rfl ?_
        refine g_iconst (n := 158) (v := 0) ok dX6_comes_157 rfl rfl ?_
        refine g_bipush (n := 160) (v := 99) ok dX6_comes_158 rfl rfl ?_
        refine g_callV (n := 163) (rest := []) (av := [vr 54, vi (I 64 (3 * k)), vi (I 64 ((3 * k) + 1)), vi (I 64 ((3 * k) + 2)), vi 0, vi 99]) (j := 52) ok (kX6_iceComes_o I (I 64 (3 * k)) (I 64 ((3 * k) + 1)) (I 64 ((3 * k) + 2)) 0 99) knX6_iceComes q830 q832 qs36 clsX6 rfl dX6_comes_160 rfl rfl (Nat.le_of_ble_eq_true rfl) (by decide) (by decide) rfl ?_
        exact g_zret (x := (fX6_iceComes_o I (I 64 (3 * k)) (I 64 ((3 * k) + 1)) (I 64 ((3 * k) + 2)) 0 99).1) ok hr dX6_comes_163 (by first | exact zX6_iceComes_o .. | exact zX6_iceComes_o)
      · rw [if_neg c4]
        by_cases c5 : I 63 k = 115
        · rw [if_pos c5]
          refine g_tabIn (off := 66) (tgt := 104) ok dX6_comes_38 (by rw [c5]; decide) (by rw [c5]; decide) (by rw [c5]; rfl) (by decide) ?_
          refine g_aload_n (n := 105) ok 3 dX6_comes_104 rfl rfl rfl ?_
          refine g_iload_n (n := 106) ok 2 dX6_comes_105 rfl rfl rfl ?_
          refine g_iload_n (n := 107) ok 1 dX6_comes_106 rfl rfl rfl ?_
          refine g_callV (n := 110) (rest := []) (av := [vi (I 64 (3 * k)), vi (I 64 ((3 * k) + 1))]) (j := 52) ok (kX6_settingComes I (I 64 (3 * k)) (I 64 ((3 * k) + 1))) knX6_settingComes q819 q821 qs35 clsX6 rfl dX6_comes_107 rfl rfl (Nat.le_of_ble_eq_true rfl) (by decide) (by decide) rfl ?_
          exact g_zret (x := (fX6_settingComes I (I 64 (3 * k)) (I 64 ((3 * k) + 1))).1) ok hr dX6_comes_110 (by first | exact zX6_settingComes .. | exact zX6_settingComes)
        · rw [if_neg c5]
          by_cases c6 : I 63 k = 116
          · rw [if_pos c6]
            refine g_tabIn (off := 126) (tgt := 164) ok dX6_comes_38 (by rw [c6]; decide) (by rw [c6]; decide) (by rw [c6]; rfl) (by decide) ?_
            refine g_aload_n (n := 165) ok 3 dX6_comes_164 rfl rfl rfl ?_
            refine g_iload_n (n := 166) ok 2 dX6_comes_165 rfl rfl rfl ?_
            refine g_iload_n (n := 167) ok 1 dX6_comes_166 rfl rfl rfl ?_
            refine g_iload (n := 169) ok 0 dX6_comes_167 rfl rfl ?_
            refine g_callV (n := 172) (rest := []) (av := [vi (I 64 (3 * k)), vi (I 64 ((3 * k) + 1)), vi (I 64 ((3 * k) + 2))]) (j := 52) ok (kX6_traceComes I (I 64 (3 * k)) (I 64 ((3 * k) + 1)) (I 64 ((3 * k) + 2)) (by first | with_reducible assumption | omega)) knX6_traceComes q841 q843 qs37 clsX6 rfl dX6_comes_169 rfl rfl (Nat.le_of_ble_eq_true rfl) (by decide) (by decide) rfl ?_
            exact g_zret (x := (fX6_traceComes I (I 64 (3 * k)) (I 64 ((3 * k) + 1)) (I 64 ((3 * k) + 2))).1) ok hr dX6_comes_172 (by first | exact zX6_traceComes .. | exact zX6_traceComes)
          · rw [if_neg c6]
            refine g_tabDef (tgt := 173) ok dX6_comes_38 (by have h0 : (I 63 k).toInt ≠ 104 := ne_toInt c1; have h1 : (I 63 k).toInt ≠ 107 := ne_toInt c2; have h2 : (I 63 k).toInt ≠ 111 := ne_toInt c4; have h3 : (I 63 k).toInt ≠ 115 := ne_toInt c5; have h4 : (I 63 k).toInt ≠ 116 := ne_toInt c6; rcases (show (I 63 k).toInt < 104 ∨ 116 < (I 63 k).toInt ∨ (I 63 k).toInt = 105 ∨ (I 63 k).toInt = 106 ∨ (I 63 k).toInt = 108 ∨ (I 63 k).toInt = 109 ∨ (I 63 k).toInt = 110 ∨ (I 63 k).toInt = 112 ∨ (I 63 k).toInt = 113 ∨ (I 63 k).toInt = 114 by omega) with h | h | h | h | h | h | h | h | h | h; exact Or.inl h; exact Or.inr (Or.inl h); all_goals exact Or.inr (Or.inr ⟨by rw [h]; rfl, by omega, by omega⟩)) (by decide) ?_
            refine g_aload_n (n := 174) ok 3 dX6_comes_173 rfl rfl rfl ?_
            refine g_iconst (n := 175) (v := 0) ok dX6_comes_174 rfl rfl ?_
            refine g_put (n := 178) (J := up I 52 5 0) (c := 6) (k := 5) ok dX6_comes_175 clsX6 tyX6 tyX6_ok nmX6 (by decide) q683 rfl rfl (fun _ => rfl) (fun _ => rfl) (Nat.le_of_ble_eq_true rfl) (fs_6_5 _ _ _) up_ne rfl ?_
            refine g_iconst (n := 179) (v := 1) ok dX6_comes_178 rfl rfl ?_
            exact g_zret (x := 1) ok hr dX6_comes_179 (by decide)

noncomputable def fJ6_compare_7cf53 (a0 : Int32) (a1 : Int32) : Int32 :=
  if a1 ≤ a0 then (if a0 = a1 then 0 else 1) else (-1)
theorem knJ6_compare_7cf53 : Kn yJ6_compare_7cf53 cJ6_compare_7cf53 2 (some .int) 2 := ⟨q487, q10, ⟨by decide, by decide⟩, by decide +kernel⟩
set_option maxHeartbeats 400000 in
set_option maxRecDepth 100000 in
theorem kJ6_compare_7cf53 (I : HI) (a0 : Int32) (a1 : Int32) : Cx yJ6_compare_7cf53 cJ6_compare_7cf53 2 (some .int) 0 0 [vi a0, vi a1] I ((some (vi ((fJ6_compare_7cf53 a0 a1))), I)) := by
  refine Cx.mk (lv := [(0, vi a0), (1, vi a1)]) (by decide) (Nat.le_of_ble_eq_true rfl) rfl (fun E ok hr => ?_)
  rw [fJ6_compare_7cf53]
  refine g_iload_n (n := 1) ok 0 dJ6_compare_7cf53_0 rfl rfl rfl ?_
  refine g_iload_n (n := 2) ok 1 dJ6_compare_7cf53_1 rfl rfl rfl ?_
  refine g_icmp_ge (n := 5) (tgt := 9) ok dJ6_compare_7cf53_2 (by decide) rfl (fun c1 => ?_) (fun c1 => ?_)
  · rw [if_pos c1]
    refine g_iload_n (n := 10) ok 0 dJ6_compare_7cf53_9 rfl rfl rfl ?_
    refine g_iload_n (n := 11) ok 1 dJ6_compare_7cf53_10 rfl rfl rfl ?_
    refine g_icmp_ne (n := 14) (tgt := 18) ok dJ6_compare_7cf53_11 (by decide) rfl (fun c2 => ?_) (fun c2 => ?_)
    · rw [if_neg c2]
      refine g_iconst (n := 19) (v := 1) ok dJ6_compare_7cf53_18 rfl rfl ?_
      exact g_iret ok hr dJ6_compare_7cf53_19
    · rw [if_pos c2]
      refine g_iconst (n := 15) (v := 0) ok dJ6_compare_7cf53_14 rfl rfl ?_
      refine g_goto (tgt := 19) ok dJ6_compare_7cf53_15 (by decide) ?_
      exact g_iret ok hr dJ6_compare_7cf53_19
  · rw [if_neg c1]
    refine g_iconst (n := 6) (v := -1) ok dJ6_compare_7cf53_5 rfl rfl ?_
    refine g_goto (tgt := 19) ok dJ6_compare_7cf53_6 (by decide) ?_
    exact g_iret ok hr dJ6_compare_7cf53_19

noncomputable def fJ6_bitCount_0f7a4 (a0 : Int32) : Int32 :=
  (((((((a0 - (((a0.toUInt32 >>> ((1 : Int32).toUInt32 &&& Int32.toUInt32 31)).toInt32) &&& 1431655765)) &&& 858993459) + ((((a0 - (((a0.toUInt32 >>> ((1 : Int32).toUInt32 &&& Int32.toUInt32 31)).toInt32) &&& 1431655765)).toUInt32 >>> ((2 : Int32).toUInt32 &&& Int32.toUInt32 31)).toInt32) &&& 858993459)) + (((((a0 - (((a0.toUInt32 >>> ((1 : Int32).toUInt32 &&& Int32.toUInt32 31)).toInt32) &&& 1431655765)) &&& 858993459) + ((((a0 - (((a0.toUInt32 >>> ((1 : Int32).toUInt32 &&& Int32.toUInt32 31)).toInt32) &&& 1431655765)).toUInt32 >>> ((2 : Int32).toUInt32 &&& Int32.toUInt32 31)).toInt32) &&& 858993459)).toUInt32 >>> ((4 : Int32).toUInt32 &&& Int32.toUInt32 31)).toInt32)) &&& 252645135) + (((((((a0 - (((a0.toUInt32 >>> ((1 : Int32).toUInt32 &&& Int32.toUInt32 31)).toInt32) &&& 1431655765)) &&& 858993459) + ((((a0 - (((a0.toUInt32 >>> ((1 : Int32).toUInt32 &&& Int32.toUInt32 31)).toInt32) &&& 1431655765)).toUInt32 >>> ((2 : Int32).toUInt32 &&& Int32.toUInt32 31)).toInt32) &&& 858993459)) + (((((a0 - (((a0.toUInt32 >>> ((1 : Int32).toUInt32 &&& Int32.toUInt32 31)).toInt32) &&& 1431655765)) &&& 858993459) + ((((a0 - (((a0.toUInt32 >>> ((1 : Int32).toUInt32 &&& Int32.toUInt32 31)).toInt32) &&& 1431655765)).toUInt32 >>> ((2 : Int32).toUInt32 &&& Int32.toUInt32 31)).toInt32) &&& 858993459)).toUInt32 >>> ((4 : Int32).toUInt32 &&& Int32.toUInt32 31)).toInt32)) &&& 252645135).toUInt32 >>> ((8 : Int32).toUInt32 &&& Int32.toUInt32 31)).toInt32)) + ((((((((a0 - (((a0.toUInt32 >>> ((1 : Int32).toUInt32 &&& Int32.toUInt32 31)).toInt32) &&& 1431655765)) &&& 858993459) + ((((a0 - (((a0.toUInt32 >>> ((1 : Int32).toUInt32 &&& Int32.toUInt32 31)).toInt32) &&& 1431655765)).toUInt32 >>> ((2 : Int32).toUInt32 &&& Int32.toUInt32 31)).toInt32) &&& 858993459)) + (((((a0 - (((a0.toUInt32 >>> ((1 : Int32).toUInt32 &&& Int32.toUInt32 31)).toInt32) &&& 1431655765)) &&& 858993459) + ((((a0 - (((a0.toUInt32 >>> ((1 : Int32).toUInt32 &&& Int32.toUInt32 31)).toInt32) &&& 1431655765)).toUInt32 >>> ((2 : Int32).toUInt32 &&& Int32.toUInt32 31)).toInt32) &&& 858993459)).toUInt32 >>> ((4 : Int32).toUInt32 &&& Int32.toUInt32 31)).toInt32)) &&& 252645135) + (((((((a0 - (((a0.toUInt32 >>> ((1 : Int32).toUInt32 &&& Int32.toUInt32 31)).toInt32) &&& 1431655765)) &&& 858993459) + ((((a0 - (((a0.toUInt32 >>> ((1 : Int32).toUInt32 &&& Int32.toUInt32 31)).toInt32) &&& 1431655765)).toUInt32 >>> ((2 : Int32).toUInt32 &&& Int32.toUInt32 31)).toInt32) &&& 858993459)) + (((((a0 - (((a0.toUInt32 >>> ((1 : Int32).toUInt32 &&& Int32.toUInt32 31)).toInt32) &&& 1431655765)) &&& 858993459) + ((((a0 - (((a0.toUInt32 >>> ((1 : Int32).toUInt32 &&& Int32.toUInt32 31)).toInt32) &&& 1431655765)).toUInt32 >>> ((2 : Int32).toUInt32 &&& Int32.toUInt32 31)).toInt32) &&& 858993459)).toUInt32 >>> ((4 : Int32).toUInt32 &&& Int32.toUInt32 31)).toInt32)) &&& 252645135).toUInt32 >>> ((8 : Int32).toUInt32 &&& Int32.toUInt32 31)).toInt32)).toUInt32 >>> ((16 : Int32).toUInt32 &&& Int32.toUInt32 31)).toInt32)) &&& 63
theorem knJ6_bitCount_0f7a4 : Kn yJ6_bitCount_0f7a4 cJ6_bitCount_0f7a4 1 (some .int) 1 := ⟨q553, q10, ⟨by decide, by decide⟩, by decide +kernel⟩
set_option maxHeartbeats 400000 in
set_option maxRecDepth 100000 in
theorem kJ6_bitCount_0f7a4 (I : HI) (a0 : Int32) : Cx yJ6_bitCount_0f7a4 cJ6_bitCount_0f7a4 1 (some .int) 0 0 [vi a0] I ((some (vi ((fJ6_bitCount_0f7a4 a0))), I)) := by
  refine Cx.mk (lv := [(0, vi a0)]) (by decide) (Nat.le_of_ble_eq_true rfl) rfl (fun E ok hr => ?_)
  rw [fJ6_bitCount_0f7a4]
  refine g_iload_n (n := 1) ok 0 dJ6_bitCount_0f7a4_0 rfl rfl rfl ?_
  refine g_iload_n (n := 2) ok 0 dJ6_bitCount_0f7a4_1 rfl rfl rfl ?_
  refine g_iconst (n := 3) (v := 1) ok dJ6_bitCount_0f7a4_2 rfl rfl ?_
  refine g_iushr (n := 4) ok dJ6_bitCount_0f7a4_3 rfl rfl ?_
  refine g_ldc_w (n := 7) ok dJ6_bitCount_0f7a4_4 q554 rfl ?_
  refine g_iand (n := 8) ok dJ6_bitCount_0f7a4_7 rfl ?_
  refine g_isub (n := 9) ok dJ6_bitCount_0f7a4_8 rfl ?_
  refine g_istore_n (n := 10) (lv' := [(0, vi (a0 - (((a0.toUInt32 >>> ((1 : Int32).toUInt32 &&& Int32.toUInt32 31)).toInt32) &&& 1431655765)))]) ok dJ6_bitCount_0f7a4_9 rfl (by decide) rfl rfl ?_
  refine g_iload_n (n := 11) ok 0 dJ6_bitCount_0f7a4_10 rfl rfl rfl ?_
  refine g_ldc_w (n := 14) ok dJ6_bitCount_0f7a4_11 q555 rfl ?_
  refine g_iand (n := 15) ok dJ6_bitCount_0f7a4_14 rfl ?_
  refine g_iload_n (n := 16) ok 0 dJ6_bitCount_0f7a4_15 rfl rfl rfl ?_
  refine g_iconst (n := 17) (v := 2) ok dJ6_bitCount_0f7a4_16 rfl rfl ?_
  refine g_iushr (n := 18) ok dJ6_bitCount_0f7a4_17 rfl rfl ?_
  refine g_ldc_w (n := 21) ok dJ6_bitCount_0f7a4_18 q555 rfl ?_
  refine g_iand (n := 22) ok dJ6_bitCount_0f7a4_21 rfl ?_
  refine g_iadd (n := 23) ok dJ6_bitCount_0f7a4_22 rfl ?_
  refine g_istore_n (n := 24) (lv' := [(0, vi (((a0 - (((a0.toUInt32 >>> ((1 : Int32).toUInt32 &&& Int32.toUInt32 31)).toInt32) &&& 1431655765)) &&& 858993459) + ((((a0 - (((a0.toUInt32 >>> ((1 : Int32).toUInt32 &&& Int32.toUInt32 31)).toInt32) &&& 1431655765)).toUInt32 >>> ((2 : Int32).toUInt32 &&& Int32.toUInt32 31)).toInt32) &&& 858993459)))]) ok dJ6_bitCount_0f7a4_23 rfl (by decide) rfl rfl ?_
  refine g_iload_n (n := 25) ok 0 dJ6_bitCount_0f7a4_24 rfl rfl rfl ?_
  refine g_iload_n (n := 26) ok 0 dJ6_bitCount_0f7a4_25 rfl rfl rfl ?_
  refine g_iconst (n := 27) (v := 4) ok dJ6_bitCount_0f7a4_26 rfl rfl ?_
  refine g_iushr (n := 28) ok dJ6_bitCount_0f7a4_27 rfl rfl ?_
  refine g_iadd (n := 29) ok dJ6_bitCount_0f7a4_28 rfl ?_
  refine g_ldc_w (n := 32) ok dJ6_bitCount_0f7a4_29 q556 rfl ?_
  refine g_iand (n := 33) ok dJ6_bitCount_0f7a4_32 rfl ?_
  refine g_istore_n (n := 34) (lv' := [(0, vi (((((a0 - (((a0.toUInt32 >>> ((1 : Int32).toUInt32 &&& Int32.toUInt32 31)).toInt32) &&& 1431655765)) &&& 858993459) + ((((a0 - (((a0.toUInt32 >>> ((1 : Int32).toUInt32 &&& Int32.toUInt32 31)).toInt32) &&& 1431655765)).toUInt32 >>> ((2 : Int32).toUInt32 &&& Int32.toUInt32 31)).toInt32) &&& 858993459)) + (((((a0 - (((a0.toUInt32 >>> ((1 : Int32).toUInt32 &&& Int32.toUInt32 31)).toInt32) &&& 1431655765)) &&& 858993459) + ((((a0 - (((a0.toUInt32 >>> ((1 : Int32).toUInt32 &&& Int32.toUInt32 31)).toInt32) &&& 1431655765)).toUInt32 >>> ((2 : Int32).toUInt32 &&& Int32.toUInt32 31)).toInt32) &&& 858993459)).toUInt32 >>> ((4 : Int32).toUInt32 &&& Int32.toUInt32 31)).toInt32)) &&& 252645135))]) ok dJ6_bitCount_0f7a4_33 rfl (by decide) rfl rfl ?_
  refine g_iload_n (n := 35) ok 0 dJ6_bitCount_0f7a4_34 rfl rfl rfl ?_
  refine g_iload_n (n := 36) ok 0 dJ6_bitCount_0f7a4_35 rfl rfl rfl ?_
  refine g_bipush (n := 38) (v := 8) ok dJ6_bitCount_0f7a4_36 rfl rfl ?_
  refine g_iushr (n := 39) ok dJ6_bitCount_0f7a4_38 rfl rfl ?_
  refine g_iadd (n := 40) ok dJ6_bitCount_0f7a4_39 rfl ?_
  refine g_istore_n (n := 41) (lv' := [(0, vi ((((((a0 - (((a0.toUInt32 >>> ((1 : Int32).toUInt32 &&& Int32.toUInt32 31)).toInt32) &&& 1431655765)) &&& 858993459) + ((((a0 - (((a0.toUInt32 >>> ((1 : Int32).toUInt32 &&& Int32.toUInt32 31)).toInt32) &&& 1431655765)).toUInt32 >>> ((2 : Int32).toUInt32 &&& Int32.toUInt32 31)).toInt32) &&& 858993459)) + (((((a0 - (((a0.toUInt32 >>> ((1 : Int32).toUInt32 &&& Int32.toUInt32 31)).toInt32) &&& 1431655765)) &&& 858993459) + ((((a0 - (((a0.toUInt32 >>> ((1 : Int32).toUInt32 &&& Int32.toUInt32 31)).toInt32) &&& 1431655765)).toUInt32 >>> ((2 : Int32).toUInt32 &&& Int32.toUInt32 31)).toInt32) &&& 858993459)).toUInt32 >>> ((4 : Int32).toUInt32 &&& Int32.toUInt32 31)).toInt32)) &&& 252645135) + (((((((a0 - (((a0.toUInt32 >>> ((1 : Int32).toUInt32 &&& Int32.toUInt32 31)).toInt32) &&& 1431655765)) &&& 858993459) + ((((a0 - (((a0.toUInt32 >>> ((1 : Int32).toUInt32 &&& Int32.toUInt32 31)).toInt32) &&& 1431655765)).toUInt32 >>> ((2 : Int32).toUInt32 &&& Int32.toUInt32 31)).toInt32) &&& 858993459)) + (((((a0 - (((a0.toUInt32 >>> ((1 : Int32).toUInt32 &&& Int32.toUInt32 31)).toInt32) &&& 1431655765)) &&& 858993459) + ((((a0 - (((a0.toUInt32 >>> ((1 : Int32).toUInt32 &&& Int32.toUInt32 31)).toInt32) &&& 1431655765)).toUInt32 >>> ((2 : Int32).toUInt32 &&& Int32.toUInt32 31)).toInt32) &&& 858993459)).toUInt32 >>> ((4 : Int32).toUInt32 &&& Int32.toUInt32 31)).toInt32)) &&& 252645135).toUInt32 >>> ((8 : Int32).toUInt32 &&& Int32.toUInt32 31)).toInt32)))]) ok dJ6_bitCount_0f7a4_40 rfl (by decide) rfl rfl ?_
  refine g_iload_n (n := 42) ok 0 dJ6_bitCount_0f7a4_41 rfl rfl rfl ?_
  refine g_iload_n (n := 43) ok 0 dJ6_bitCount_0f7a4_42 rfl rfl rfl ?_
  refine g_bipush (n := 45) (v := 16) ok dJ6_bitCount_0f7a4_43 rfl rfl ?_
  refine g_iushr (n := 46) ok dJ6_bitCount_0f7a4_45 rfl rfl ?_
  refine g_iadd (n := 47) ok dJ6_bitCount_0f7a4_46 rfl ?_
  refine g_istore_n (n := 48) (lv' := [(0, vi (((((((a0 - (((a0.toUInt32 >>> ((1 : Int32).toUInt32 &&& Int32.toUInt32 31)).toInt32) &&& 1431655765)) &&& 858993459) + ((((a0 - (((a0.toUInt32 >>> ((1 : Int32).toUInt32 &&& Int32.toUInt32 31)).toInt32) &&& 1431655765)).toUInt32 >>> ((2 : Int32).toUInt32 &&& Int32.toUInt32 31)).toInt32) &&& 858993459)) + (((((a0 - (((a0.toUInt32 >>> ((1 : Int32).toUInt32 &&& Int32.toUInt32 31)).toInt32) &&& 1431655765)) &&& 858993459) + ((((a0 - (((a0.toUInt32 >>> ((1 : Int32).toUInt32 &&& Int32.toUInt32 31)).toInt32) &&& 1431655765)).toUInt32 >>> ((2 : Int32).toUInt32 &&& Int32.toUInt32 31)).toInt32) &&& 858993459)).toUInt32 >>> ((4 : Int32).toUInt32 &&& Int32.toUInt32 31)).toInt32)) &&& 252645135) + (((((((a0 - (((a0.toUInt32 >>> ((1 : Int32).toUInt32 &&& Int32.toUInt32 31)).toInt32) &&& 1431655765)) &&& 858993459) + ((((a0 - (((a0.toUInt32 >>> ((1 : Int32).toUInt32 &&& Int32.toUInt32 31)).toInt32) &&& 1431655765)).toUInt32 >>> ((2 : Int32).toUInt32 &&& Int32.toUInt32 31)).toInt32) &&& 858993459)) + (((((a0 - (((a0.toUInt32 >>> ((1 : Int32).toUInt32 &&& Int32.toUInt32 31)).toInt32) &&& 1431655765)) &&& 858993459) + ((((a0 - (((a0.toUInt32 >>> ((1 : Int32).toUInt32 &&& Int32.toUInt32 31)).toInt32) &&& 1431655765)).toUInt32 >>> ((2 : Int32).toUInt32 &&& Int32.toUInt32 31)).toInt32) &&& 858993459)).toUInt32 >>> ((4 : Int32).toUInt32 &&& Int32.toUInt32 31)).toInt32)) &&& 252645135).toUInt32 >>> ((8 : Int32).toUInt32 &&& Int32.toUInt32 31)).toInt32)) + ((((((((a0 - (((a0.toUInt32 >>> ((1 : Int32).toUInt32 &&& Int32.toUInt32 31)).toInt32) &&& 1431655765)) &&& 858993459) + ((((a0 - (((a0.toUInt32 >>> ((1 : Int32).toUInt32 &&& Int32.toUInt32 31)).toInt32) &&& 1431655765)).toUInt32 >>> ((2 : Int32).toUInt32 &&& Int32.toUInt32 31)).toInt32) &&& 858993459)) + (((((a0 - (((a0.toUInt32 >>> ((1 : Int32).toUInt32 &&& Int32.toUInt32 31)).toInt32) &&& 1431655765)) &&& 858993459) + ((((a0 - (((a0.toUInt32 >>> ((1 : Int32).toUInt32 &&& Int32.toUInt32 31)).toInt32) &&& 1431655765)).toUInt32 >>> ((2 : Int32).toUInt32 &&& Int32.toUInt32 31)).toInt32) &&& 858993459)).toUInt32 >>> ((4 : Int32).toUInt32 &&& Int32.toUInt32 31)).toInt32)) &&& 252645135) + (((((((a0 - (((a0.toUInt32 >>> ((1 : Int32).toUInt32 &&& Int32.toUInt32 31)).toInt32) &&& 1431655765)) &&& 858993459) + ((((a0 - (((a0.toUInt32 >>> ((1 : Int32).toUInt32 &&& Int32.toUInt32 31)).toInt32) &&& 1431655765)).toUInt32 >>> ((2 : Int32).toUInt32 &&& Int32.toUInt32 31)).toInt32) &&& 858993459)) + (((((a0 - (((a0.toUInt32 >>> ((1 : Int32).toUInt32 &&& Int32.toUInt32 31)).toInt32) &&& 1431655765)) &&& 858993459) + ((((a0 - (((a0.toUInt32 >>> ((1 : Int32).toUInt32 &&& Int32.toUInt32 31)).toInt32) &&& 1431655765)).toUInt32 >>> ((2 : Int32).toUInt32 &&& Int32.toUInt32 31)).toInt32) &&& 858993459)).toUInt32 >>> ((4 : Int32).toUInt32 &&& Int32.toUInt32 31)).toInt32)) &&& 252645135).toUInt32 >>> ((8 : Int32).toUInt32 &&& Int32.toUInt32 31)).toInt32)).toUInt32 >>> ((16 : Int32).toUInt32 &&& Int32.toUInt32 31)).toInt32)))]) ok dJ6_bitCount_0f7a4_47 rfl (by decide) rfl rfl ?_
  refine g_iload_n (n := 49) ok 0 dJ6_bitCount_0f7a4_48 rfl rfl rfl ?_
  refine g_bipush (n := 51) (v := 63) ok dJ6_bitCount_0f7a4_49 rfl rfl ?_
  refine g_iand (n := 52) ok dJ6_bitCount_0f7a4_51 rfl ?_
  exact g_iret ok hr dJ6_bitCount_0f7a4_52

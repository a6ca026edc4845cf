noncomputable def fX3_hasTrace (I : HI) (t : Int32) : Int32 :=
  fX5_within t 0 ((I 1 6) - 1)
theorem zX3_hasTrace (I : HI) (t : Int32) : (fX3_hasTrace I t) = 0 ∨ (fX3_hasTrace I t) = 1 := by
  unfold fX3_hasTrace
  repeat' (first | (split) | exact Or.inl rfl | exact Or.inr rfl | exact zX5_within ..)
theorem knX3_hasTrace : Kn yX3_hasTrace cX3_hasTrace 2 (some .boolean) 1 := ⟨q373, q2, ⟨by decide, by decide⟩, by decide +kernel⟩
set_option maxHeartbeats 400000 in
set_option maxRecDepth 100000 in
theorem kX3_hasTrace (I : HI) (t : Int32) : Cx yX3_hasTrace cX3_hasTrace 2 (some .boolean) 1 22 [vr 1, vi t] I ((some (vi ((fX3_hasTrace I t))), I)) := by
  refine Cx.mk (lv := [(0, vr 1), (1, vi t)]) (by decide) (Nat.le_of_ble_eq_true rfl) rfl (fun E ok hr => ?_)
  rw [fX3_hasTrace]
  refine g_iload_n (n := 1) ok 1 dX3_hasTrace_0 rfl rfl rfl ?_
  refine g_iconst (n := 2) (v := 0) ok dX3_hasTrace_1 rfl rfl ?_
  refine g_aload_n (n := 3) ok 0 dX3_hasTrace_2 rfl rfl rfl ?_
  refine g_get (n := 6) (v := vi (I 1 6)) (c := 3) (k := 6) ok dX3_hasTrace_3 clsX3 (by decide) q81 rfl rfl rfl ?_
  refine g_iconst (n := 7) (v := 1) ok dX3_hasTrace_6 rfl rfl ?_
  refine g_isub (n := 8) ok dX3_hasTrace_7 rfl ?_
  refine g_callSN (n := 11) (rest := []) (av := [vi t, vi 0, vi ((I 1 6) - 1)]) ok (kX5_within I t 0 ((I 1 6) - 1)) knX5_within q374 q194 dX3_hasTrace_8 rfl rfl (Nat.le_of_ble_eq_true rfl) (by decide) (by decide) rfl ?_
  exact g_zret (x := fX5_within t 0 ((I 1 6) - 1)) ok hr dX3_hasTrace_11 (by first | exact zX5_within .. | exact zX5_within)
theorem hasTrace_lt {I : HI} {t : Int32} (hd : vp_in (I 1 6) 7) (h : ¬ fX3_hasTrace I t = 0) : vp_in t 6 ∧ ix t < ix (I 1 6) := by
  have hb := vb hd
  have e := vx hd
  unfold fX3_hasTrace fX5_within at h
  split at h
  · exact absurd rfl h
  · rename_i c
    split at h
    · exact absurd rfl h
    · rename_i c2
      obtain ⟨j, hj, rfl⟩ := nI_of (fun q => c q)
      rcases Nat.eq_zero_or_pos (ix (I 1 6)) with z | z
      · rw [e, z] at c2
        exact absurd (Int32.lt_of_lt_of_le (show nI 0 - 1 < 0 by decide +kernel) (nI_pos' hj)) c2
      · rw [e, show nI (ix (I 1 6)) - 1 = nI (ix (I 1 6) - 1) from nv_isub (a := ix (I 1 6)) (b := 1) rfl rfl (by omega)] at c2
        have h3 : j ≤ ix (I 1 6) - 1 := by
          rcases Nat.lt_or_ge (ix (I 1 6) - 1) j with q | q
          · exact absurd (nI_lt q hj) c2
          · exact q
        have h4 : ix (nI j) = j := nI_clamp hj
        exact ⟨vp_in_nI (by omega) (by omega), by rw [h4]; omega⟩
theorem hasTrace_in {I : HI} {t : Int32} (hd : vp_in (I 1 6) 7) (h : ¬ fX3_hasTrace I t = 0) : vp_in t 6 := (hasTrace_lt hd h).1

noncomputable def fX3_latestAhead_x11 (x11_3 : Nat) : Option Nat :=
  none
noncomputable def fX3_latestAhead_b11 (I : HI) (foot : Int32) (x11_3 : Nat) : (Option Nat) ⊕ (Nat) :=
  if nI x11_3 - 1 < 0 then Sum.inl (fX3_latestAhead_x11 x11_3) else (if I (6 + 2 * (x11_3 - 1)) 0 = foot then Sum.inl (some (6 + 2 * (x11_3 - 1))) else Sum.inr (x11_3 - 1))
noncomputable def fX3_latestAhead (I : HI) (foot : Int32) (number : Nat) : Option Nat :=
  whE ((min number (ix (I 1 6))) + 1) (fun (s : Nat) => fX3_latestAhead_b11 I foot s) none (min number (ix (I 1 6)))
theorem knX3_latestAhead : Kn yX3_latestAhead cX3_latestAhead 4 (some (.object "EightOnIce$Trace")) 2 := ⟨q295, q2, ⟨by decide, by decide⟩, by decide +kernel⟩
set_option maxHeartbeats 400000 in
set_option maxRecDepth 100000 in
theorem kX3_latestAhead (I : HI) (foot : Int32) (number : Nat) (hd : vp_in (I 1 6) 7) (hn : number ≤ 6) : Cx yX3_latestAhead cX3_latestAhead 4 (some (.object "EightOnIce$Trace")) 1 21 [vr 1, vi foot, vi (nI number)] I ((some (vo ((fX3_latestAhead I foot number))), I)) := by
  refine Cx.mk (lv := [(0, vr 1), (1, vi foot), (2, vi (nI number))]) (by decide) (Nat.le_of_ble_eq_true rfl) rfl (fun E ok hr => ?_)
  have hd1 := vb hd
  rw [fX3_latestAhead]
  refine g_iload_n (n := 1) ok 2 dX3_latestAhead_0 rfl rfl rfl ?_
  refine g_aload_n (n := 2) ok 0 dX3_latestAhead_1 rfl rfl rfl ?_
  refine g_get (n := 5) (v := vi (I 1 6)) (c := 3) (k := 6) ok dX3_latestAhead_2 clsX3 (by decide) q81 rfl rfl rfl ?_
  refine g_mmin (n := 8) (rest := []) ok dX3_latestAhead_5 q296 q297 q298 (Nat.le_of_ble_eq_true rfl) (by decide) (by decide) rfl ?_
  refine g_top (imin_n (a := number) (b := ix (I 1 6)) rfl (vx hd) (by omega) (by omega)) ?_
  refine g_iconst (n := 9) (v := 1) ok dX3_latestAhead_8 rfl rfl ?_
  refine g_isub (n := 10) ok dX3_latestAhead_9 rfl ?_
  refine g_istore_n (n := 11) (lv' := [(3, vi ((nI (min number (ix (I 1 6)))) - 1)), (0, vr 1), (1, vi foot), (2, vi (nI number))]) ok dX3_latestAhead_10 rfl (by decide) rfl rfl ?_
  have X11 : ∀ (x11_3 : Nat) (hk : x11_3 ≤ 6), G E 4 ((some (vo ((fX3_latestAhead_x11 x11_3))), I)) I 41 [] [] := by
    intro x11_3 hk
    rw [fX3_latestAhead_x11]
    refine g_null (n := 42) ok dX3_latestAhead_41 rfl ?_
    exact g_aret ok hr dX3_latestAhead_42
  have L11 : ∀ (n11 : Nat) (x11_3 : Nat) (hk : x11_3 ≤ 6) (hm : x11_3 < n11), G E 4 ((some (vo ((whE n11 (fun (s : Nat) => fX3_latestAhead_b11 I foot s) none x11_3))), I)) I 11 [(3, vi (nI x11_3 - 1)), (0, vr 1), (1, vi foot)] [] := by
    intro n11
    induction n11 with
    | zero =>
      intro x11_3 hk hm
      exact absurd hm (Nat.not_lt_zero _)
    | succ n11 ih =>
      intro x11_3 hk hm
      rw [whE_s]
      show G E 4 ((some (vo ((Sum.elim id (fun (s : Nat) => whE n11 (fun (s : Nat) => fX3_latestAhead_b11 I foot s) none s) (fX3_latestAhead_b11 I foot x11_3)))), I)) _ _ _ _
      rw [fX3_latestAhead_b11]
      refine g_iload_n (n := 12) ok 0 dX3_latestAhead_11 rfl rfl rfl ?_
      refine g_if_lt (n := 15) (tgt := 41) ok dX3_latestAhead_12 (by decide) rfl (fun c1 => ?_) (fun c1 => ?_)
      · rw [if_pos c1]
        refine g_sub [] rfl ?_
        exact X11 x11_3 hk
      · rw [if_neg c1]
        have hp2 : 0 < x11_3 := pred_pos c1
        have h0 : 0 < x11_3 := pred_pos c1
        refine g_aload_n (n := 16) ok 1 dX3_latestAhead_15 rfl rfl rfl ?_
        refine g_get (n := 19) (v := vr 5) (c := 3) (k := 5) ok dX3_latestAhead_16 clsX3 (by decide) q78 rfl rfl rfl ?_
        refine g_iload_n (n := 20) ok 0 dX3_latestAhead_19 rfl rfl rfl ?_
        refine g_aald (n := 21) (i := x11_3 - 1) (L := 6) ok dX3_latestAhead_20 rfl rfl (nv_isub (a := x11_3) (b := 1) rfl rfl (by omega)) (by omega) rfl ?_
        have hT3 : Tr (6 + 2 * (x11_3 - 1)) := tr_now (n := x11_3 - 1) (by omega)
        refine g_get (n := 24) (v := vi (I (6 + 2 * (x11_3 - 1)) 0)) (c := 4) (k := 0) ok dX3_latestAhead_21 clsX4 (by decide) q38 hT3.1 rfl rfl ?_
        refine g_iload_n (n := 25) ok 2 dX3_latestAhead_24 rfl rfl rfl ?_
        refine g_icmp_ne (n := 28) (tgt := 35) ok dX3_latestAhead_25 (by decide) rfl (fun c4 => ?_) (fun c4 => ?_)
        · rw [if_neg c4]
          refine g_iinc (n := 38) (v := nI (x11_3 - 1) - 1) (lv' := [(3, vi (nI (x11_3 - 1) - 1)), (0, vr 1), (1, vi foot)]) ok 0 dX3_latestAhead_35 rfl (iinc_m (a := x11_3 - 1) (nv_isub (a := x11_3) (b := 1) rfl rfl (by omega))) (by decide) rfl rfl ?_
          refine g_goto (tgt := 11) ok dX3_latestAhead_38 (by decide) ?_
          exact ih (x11_3 - 1) (by omega) (by omega)
        · rw [if_pos c4]
          refine g_aload_n (n := 29) ok 1 dX3_latestAhead_28 rfl rfl rfl ?_
          refine g_get (n := 32) (v := vr 5) (c := 3) (k := 5) ok dX3_latestAhead_29 clsX3 (by decide) q78 rfl rfl rfl ?_
          refine g_iload_n (n := 33) ok 0 dX3_latestAhead_32 rfl rfl rfl ?_
          refine g_aald (n := 34) (i := x11_3 - 1) (L := 6) ok dX3_latestAhead_33 rfl rfl (nv_isub (a := x11_3) (b := 1) rfl rfl (by omega)) (by omega) rfl ?_
          have hT5 : Tr (6 + 2 * (x11_3 - 1)) := tr_now (n := x11_3 - 1) (by omega)
          exact g_aret ok hr dX3_latestAhead_34
  refine g_sub [0, 1, 2] rfl ?_
  exact L11 ((min number (ix (I 1 6))) + 1) (min number (ix (I 1 6))) (by omega) (by omega)

noncomputable def fX3_latestOf (I : HI) (foot : Int32) : Option Nat :=
  fX3_latestAhead I foot (ix (I 1 6))
theorem knX3_latestOf : Kn yX3_latestOf cX3_latestOf 2 (some (.object "EightOnIce$Trace")) 1 := ⟨q291, q2, ⟨by decide, by decide⟩, by decide +kernel⟩
set_option maxHeartbeats 400000 in
set_option maxRecDepth 100000 in
theorem kX3_latestOf (I : HI) (foot : Int32) (hd : vp_in (I 1 6) 7) : Cx yX3_latestOf cX3_latestOf 2 (some (.object "EightOnIce$Trace")) 2 44 [vr 1, vi foot] I ((some (vo ((fX3_latestOf I foot))), I)) := by
  refine Cx.mk (lv := [(0, vr 1), (1, vi foot)]) (by decide) (Nat.le_of_ble_eq_true rfl) rfl (fun E ok hr => ?_)
  have hd1 := vb hd
  rw [fX3_latestOf]
  refine g_aload_n (n := 1) ok 0 dX3_latestOf_0 rfl rfl rfl ?_
  refine g_iload_n (n := 2) ok 1 dX3_latestOf_1 rfl rfl rfl ?_
  refine g_aload_n (n := 3) ok 0 dX3_latestOf_2 rfl rfl rfl ?_
  refine g_get (n := 6) (v := vi (I 1 6)) (c := 3) (k := 6) ok dX3_latestOf_3 clsX3 (by decide) q81 rfl rfl rfl ?_
  refine g_callV (n := 9) (rest := []) (av := [vi foot, vi (nI (ix (I 1 6)))]) (j := 1) ok (kX3_latestAhead I foot (ix (I 1 6)) (by first | with_reducible assumption | omega) (by first | with_reducible assumption | omega)) knX3_latestAhead q292 q293 q294 clsX3 rfl dX3_latestOf_6 (lcons (congrArg vi (vx hd)) (lcons rfl (lcons rfl rfl))) rfl (Nat.le_of_ble_eq_true rfl) (by decide) (by decide) rfl ?_
  exact g_aret ok hr dX3_latestOf_9
theorem latestAhead_tr {I : HI} {foot : Int32} {number : Nat} (hn : number ≤ 6) : ∀ t, fX3_latestAhead I foot number = some t → ∃ n, n < 6 ∧ t = 6 + 2 * n := by
  unfold fX3_latestAhead
  refine whE_res (fun k => k ≤ 6) (fun r => ∀ t, r = some t → ∃ n, n < 6 ∧ t = 6 + 2 * n) _ _ (fun t h => by cases h) ?_ ?_ _ _ (by omega)
  · intro s r hs hf t hr
    unfold fX3_latestAhead_b11 at hf
    split at hf
    · cases hf
      cases hr
    · rename_i c
      have := pred_pos c
      split at hf
      · cases hf
        cases hr
        exact ⟨s - 1, by omega, rfl⟩
      · cases hf
  · intro s t hs hf
    unfold fX3_latestAhead_b11 at hf
    split at hf
    · cases hf
    · split at hf
      · cases hf
      · cases hf
        omega
theorem latestAhead_tr2 {I : HI} {foot : Int32} {number : Nat} (hn : number ≤ 6) : ∀ t, fX3_latestAhead I foot number = some t → Tr t := fun t h => by
  obtain ⟨n, hn, e⟩ := latestAhead_tr hn t h
  rw [e]
  exact tr_now hn
theorem latestOf_tr {I : HI} {foot : Int32} (hd : vp_in (I 1 6) 7) : ∀ t, fX3_latestOf I foot = some t → Tr t := fun t h => by
  obtain ⟨n, hn, e⟩ := latestAhead_tr (by have := vb hd; omega) t h
  rw [e]
  exact tr_now hn

noncomputable def fX3_looked (I : HI) (plain : Int32) (o : Option Nat) (h : Nat) : Int32 :=
  if o = none then plain else plain + (((I (Option.getD o 0 + 1) h) - plain) / 2)
theorem knX3_looked : Kn yX3_looked cX3_looked 4 (some .int) 3 := ⟨q314, q2, ⟨by decide, by decide⟩, by decide +kernel⟩
set_option maxHeartbeats 400000 in
set_option maxRecDepth 100000 in
theorem kX3_looked (I : HI) (plain : Int32) (o : Option Nat) (h : Nat) (ho : ∀ t, o = some t → Tr t) (hh : h < 12) : Cx yX3_looked cX3_looked 4 (some .int) 0 0 [vr 1, vi plain, vo o, vi (nI h)] I ((some (vi ((fX3_looked I plain o h))), I)) := by
  refine Cx.mk (lv := [(0, vr 1), (1, vi plain), (2, vo o), (3, vi (nI h))]) (by decide) (Nat.le_of_ble_eq_true rfl) rfl (fun E ok hr => ?_)
  rw [fX3_looked]
  refine g_aload_n (n := 1) ok 2 dX3_looked_0 rfl rfl rfl ?_
  refine g_ifnonnull (n := 4) (tgt := 8) ok dX3_looked_1 (by decide) rfl (fun c1 => ?_) (fun c1 => ?_)
  · rw [if_neg c1]
    have hj2 : o = some (Option.getD o 0) := opt_some c1
    have hT3 := ho _ hj2
    refine g_iload_n (n := 9) ok 1 dX3_looked_8 rfl rfl rfl ?_
    refine g_aload_n (n := 10) ok 2 dX3_looked_9 rfl rfl rfl ?_
    refine g_topo hj2 ?_
    refine g_get (n := 13) (v := vr (Option.getD o 0 + 1)) (c := 4) (k := 3) ok dX3_looked_10 clsX4 (by decide) q48 hT3.1 rfl rfl ?_
    refine g_iload_n (n := 14) ok 3 dX3_looked_13 rfl rfl rfl ?_
    refine g_iald (n := 15) (i := h) (L := 12) ok dX3_looked_14 hT3.2.1 hT3.2.2 rfl (by omega) rfl ?_
    refine g_iload_n (n := 16) ok 1 dX3_looked_15 rfl rfl rfl ?_
    refine g_isub (n := 17) ok dX3_looked_16 rfl ?_
    refine g_iconst (n := 18) (v := 2) ok dX3_looked_17 rfl rfl ?_
    refine g_idiv (n := 19) ok dX3_looked_18 (by decide) rfl ?_
    refine g_iadd (n := 20) ok dX3_looked_19 rfl ?_
    exact g_iret ok hr dX3_looked_20
  · rw [if_pos c1]
    refine g_iload_n (n := 5) ok 1 dX3_looked_4 rfl rfl rfl ?_
    refine g_goto (tgt := 20) ok dX3_looked_5 (by decide) ?_
    exact g_iret ok hr dX3_looked_20

noncomputable def fX3_centred (I : HI) (plain : Int32) : Int32 :=
  plain + (((I 4 0) - plain) / 4)
theorem knX3_centred : Kn yX3_centred cX3_centred 2 (some .int) 1 := ⟨q318, q2, ⟨by decide, by decide⟩, by decide +kernel⟩
set_option maxHeartbeats 400000 in
set_option maxRecDepth 100000 in
theorem kX3_centred (I : HI) (plain : Int32) : Cx yX3_centred cX3_centred 2 (some .int) 0 0 [vr 1, vi plain] I ((some (vi ((fX3_centred I plain))), I)) := by
  refine Cx.mk (lv := [(0, vr 1), (1, vi plain)]) (by decide) (Nat.le_of_ble_eq_true rfl) rfl (fun E ok hr => ?_)
  rw [fX3_centred]
  refine g_iload_n (n := 1) ok 1 dX3_centred_0 rfl rfl rfl ?_
  refine g_aload_n (n := 2) ok 0 dX3_centred_1 rfl rfl rfl ?_
  refine g_get (n := 5) (v := vr 4) (c := 3) (k := 2) ok dX3_centred_2 clsX3 (by decide) q67 rfl rfl rfl ?_
  refine g_iconst (n := 6) (v := 0) ok dX3_centred_5 rfl rfl ?_
  refine g_iald (n := 7) (i := 0) (L := 5) ok dX3_centred_6 rfl rfl rfl (by omega) rfl ?_
  refine g_iload_n (n := 8) ok 1 dX3_centred_7 rfl rfl rfl ?_
  refine g_isub (n := 9) ok dX3_centred_8 rfl ?_
  refine g_iconst (n := 10) (v := 4) ok dX3_centred_9 rfl rfl ?_
  refine g_idiv (n := 11) ok dX3_centred_10 (by decide) rfl ?_
  refine g_iadd (n := 12) ok dX3_centred_11 rfl ?_
  exact g_iret ok hr dX3_centred_12

noncomputable def fX3_wobbleOf (I : HI) (h : Int32) : Int32 :=
  if h = I 1 4 then I 1 4 else (if h = (I 1 4) + 1 then -(I 1 4) else 0)
theorem knX3_wobbleOf : Kn yX3_wobbleOf cX3_wobbleOf 2 (some .int) 1 := ⟨q325, q2, ⟨by decide, by decide⟩, by decide +kernel⟩
set_option maxHeartbeats 400000 in
set_option maxRecDepth 100000 in
theorem kX3_wobbleOf (I : HI) (h : Int32) : Cx yX3_wobbleOf cX3_wobbleOf 2 (some .int) 0 0 [vr 1, vi h] I ((some (vi ((fX3_wobbleOf I h))), I)) := by
  refine Cx.mk (lv := [(0, vr 1), (1, vi h)]) (by decide) (Nat.le_of_ble_eq_true rfl) rfl (fun E ok hr => ?_)
  rw [fX3_wobbleOf]
  refine g_iload_n (n := 1) ok 1 dX3_wobbleOf_0 rfl rfl rfl ?_
  refine g_aload_n (n := 2) ok 0 dX3_wobbleOf_1 rfl rfl rfl ?_
  refine g_get (n := 5) (v := vi (I 1 4)) (c := 3) (k := 4) ok dX3_wobbleOf_2 clsX3 (by decide) q75 rfl rfl rfl ?_
  refine g_icmp_ne (n := 8) (tgt := 13) ok dX3_wobbleOf_5 (by decide) rfl (fun c1 => ?_) (fun c1 => ?_)
  · rw [if_neg c1]
    refine g_iload_n (n := 14) ok 1 dX3_wobbleOf_13 rfl rfl rfl ?_
    refine g_aload_n (n := 15) ok 0 dX3_wobbleOf_14 rfl rfl rfl ?_
    refine g_get (n := 18) (v := vi (I 1 4)) (c := 3) (k := 4) ok dX3_wobbleOf_15 clsX3 (by decide) q75 rfl rfl rfl ?_
    refine g_iconst (n := 19) (v := 1) ok dX3_wobbleOf_18 rfl rfl ?_
    refine g_iadd (n := 20) ok dX3_wobbleOf_19 rfl ?_
    refine g_icmp_ne (n := 23) (tgt := 31) ok dX3_wobbleOf_20 (by decide) rfl (fun c2 => ?_) (fun c2 => ?_)
    · rw [if_neg c2]
      refine g_iconst (n := 32) (v := 0) ok dX3_wobbleOf_31 rfl rfl ?_
      exact g_iret ok hr dX3_wobbleOf_32
    · rw [if_pos c2]
      refine g_aload_n (n := 24) ok 0 dX3_wobbleOf_23 rfl rfl rfl ?_
      refine g_get (n := 27) (v := vi (I 1 4)) (c := 3) (k := 4) ok dX3_wobbleOf_24 clsX3 (by decide) q75 rfl rfl rfl ?_
      refine g_ineg (n := 28) ok dX3_wobbleOf_27 rfl ?_
      refine g_goto (tgt := 32) ok dX3_wobbleOf_28 (by decide) ?_
      exact g_iret ok hr dX3_wobbleOf_32
  · rw [if_pos c1]
    refine g_aload_n (n := 9) ok 0 dX3_wobbleOf_8 rfl rfl rfl ?_
    refine g_get (n := 12) (v := vi (I 1 4)) (c := 3) (k := 4) ok dX3_wobbleOf_9 clsX3 (by decide) q75 rfl rfl rfl ?_
    exact g_iret ok hr dX3_wobbleOf_12

noncomputable def fX3_ledAstray (I : HI) (r : Int32) (old : Int32) : Int32 :=
  if old = 0 then r else r + (((old - r) * (I 1 4)) / 10)
theorem knX3_ledAstray : Kn yX3_ledAstray cX3_ledAstray 3 (some .int) 2 := ⟨q329, q2, ⟨by decide, by decide⟩, by decide +kernel⟩
set_option maxHeartbeats 400000 in
set_option maxRecDepth 100000 in
theorem kX3_ledAstray (I : HI) (r : Int32) (old : Int32) : Cx yX3_ledAstray cX3_ledAstray 3 (some .int) 0 0 [vr 1, vi r, vi old] I ((some (vi ((fX3_ledAstray I r old))), I)) := by
  refine Cx.mk (lv := [(0, vr 1), (1, vi r), (2, vi old)]) (by decide) (Nat.le_of_ble_eq_true rfl) rfl (fun E ok hr => ?_)
  rw [fX3_ledAstray]
  refine g_iload_n (n := 1) ok 2 dX3_ledAstray_0 rfl rfl rfl ?_
  refine g_if_ne (n := 4) (tgt := 8) ok dX3_ledAstray_1 (by decide) rfl (fun c1 => ?_) (fun c1 => ?_)
  · rw [if_neg c1]
    refine g_iload_n (n := 9) ok 1 dX3_ledAstray_8 rfl rfl rfl ?_
    refine g_iload_n (n := 10) ok 2 dX3_ledAstray_9 rfl rfl rfl ?_
    refine g_iload_n (n := 11) ok 1 dX3_ledAstray_10 rfl rfl rfl ?_
    refine g_isub (n := 12) ok dX3_ledAstray_11 rfl ?_
    refine g_aload_n (n := 13) ok 0 dX3_ledAstray_12 rfl rfl rfl ?_
    refine g_get (n := 16) (v := vi (I 1 4)) (c := 3) (k := 4) ok dX3_ledAstray_13 clsX3 (by decide) q75 rfl rfl rfl ?_
    refine g_imul (n := 17) ok dX3_ledAstray_16 rfl ?_
    refine g_bipush (n := 19) (v := 10) ok dX3_ledAstray_17 rfl rfl ?_
    refine g_idiv (n := 20) ok dX3_ledAstray_19 (by decide) rfl ?_
    refine g_iadd (n := 21) ok dX3_ledAstray_20 rfl ?_
    exact g_iret ok hr dX3_ledAstray_21
  · rw [if_pos c1]
    refine g_iload_n (n := 5) ok 1 dX3_ledAstray_4 rfl rfl rfl ?_
    refine g_goto (tgt := 21) ok dX3_ledAstray_5 (by decide) ?_
    exact g_iret ok hr dX3_ledAstray_21

noncomputable def fX3_radiusBy (I : HI) (kind : Int32) (foot : Nat) (h : Nat) (plain : Int32) (o : Option Nat) : Int32 :=
  if kind = 1 then fX3_looked I plain o h else (if kind = 2 then fX3_centred I plain else (if kind = 3 then fX3_looked I plain o (fX5_hourAhead h) else (if kind = 4 then plain + ((nI h) - (nI h) / 2 * 2) else (if kind = 5 then (fX3_centred I plain) + (fX3_wobbleOf I (nI h)) else (if kind = 6 then fX3_ledAstray I (fX3_looked I plain o h) (I 3 (fX5_spot foot h)) else plain)))))
theorem knX3_radiusBy : Kn yX3_radiusBy cX3_radiusBy 6 (some .int) 5 := ⟨q310, q2, ⟨by decide, by decide⟩, by decide +kernel⟩
set_option maxHeartbeats 400000 in
set_option maxRecDepth 100000 in
theorem kX3_radiusBy (I : HI) (kind : Int32) (foot : Nat) (h : Nat) (plain : Int32) (o : Option Nat) (hf : foot < 2) (hh : h < 12) (ho : ∀ t, o = some t → Tr t) : Cx yX3_radiusBy cX3_radiusBy 6 (some .int) 1 23 [vr 1, vi kind, vi (nI foot), vi (nI h), vi plain, vo o] I ((some (vi ((fX3_radiusBy I kind foot h plain o))), I)) := by
  refine Cx.mk (lv := [(0, vr 1), (1, vi kind), (2, vi (nI foot)), (3, vi (nI h)), (4, vi plain), (5, vo o)]) (by decide) (Nat.le_of_ble_eq_true rfl) rfl (fun E ok hr => ?_)
  rw [fX3_radiusBy]
  refine g_iload_n (n := 1) ok 1 dX3_radiusBy_0 rfl rfl rfl ?_
  by_cases c1 : kind = 1
  · rw [if_pos c1]
    refine g_tabIn (off := 39) (tgt := 40) ok dX3_radiusBy_1 (by rw [c1]; decide) (by rw [c1]; decide) (by rw [c1]; rfl) (by decide) ?_
    refine g_aload_n (n := 41) ok 0 dX3_radiusBy_40 rfl rfl rfl ?_
    refine g_iload (n := 43) ok 4 dX3_radiusBy_41 rfl rfl ?_
    refine g_aload (n := 45) ok 5 dX3_radiusBy_43 rfl rfl ?_
    refine g_iload_n (n := 46) ok 3 dX3_radiusBy_45 rfl rfl rfl ?_
    refine g_callV (n := 49) (rest := []) (av := [vi plain, vo o, vi (nI h)]) (j := 1) ok (kX3_looked I plain o h (by first | with_reducible assumption | omega) (by first | with_reducible assumption | omega)) knX3_looked q311 q312 q313 clsX3 rfl dX3_radiusBy_46 rfl rfl (Nat.le_of_ble_eq_true rfl) (by decide) (by decide) rfl ?_
    exact g_iret ok hr dX3_radiusBy_49
  · rw [if_neg c1]
    by_cases c2 : kind = 2
    · rw [if_pos c2]
      refine g_tabIn (off := 49) (tgt := 50) ok dX3_radiusBy_1 (by rw [c2]; decide) (by rw [c2]; decide) (by rw [c2]; rfl) (by decide) ?_
      refine g_aload_n (n := 51) ok 0 dX3_radiusBy_50 rfl rfl rfl ?_
      refine g_iload (n := 53) ok 4 dX3_radiusBy_51 rfl rfl ?_
      refine g_callV (n := 56) (rest := []) (av := [vi plain]) (j := 1) ok (kX3_centred I plain) knX3_centred q315 q316 q317 clsX3 rfl dX3_radiusBy_53 rfl rfl (Nat.le_of_ble_eq_true rfl) (by decide) (by decide) rfl ?_
      exact g_iret ok hr dX3_radiusBy_56
    · rw [if_neg c2]
      by_cases c3 : kind = 3
      · rw [if_pos c3]
        refine g_tabIn (off := 56) (tgt := 57) ok dX3_radiusBy_1 (by rw [c3]; decide) (by rw [c3]; decide) (by rw [c3]; rfl) (by decide) ?_
        refine g_aload_n (n := 58) ok 0 dX3_radiusBy_57 rfl rfl rfl ?_
        refine g_iload (n := 60) ok 4 dX3_radiusBy_58 rfl rfl ?_
        refine g_aload (n := 62) ok 5 dX3_radiusBy_60 rfl rfl ?_
        refine g_iload_n (n := 63) ok 3 dX3_radiusBy_62 rfl rfl rfl ?_
        refine g_callSN (n := 66) (rest := [vo o, vi plain, vr 1]) (av := [vi (nI h)]) ok (kX5_hourAhead I h (by first | with_reducible assumption | omega)) knX5_hourAhead q319 q320 dX3_radiusBy_63 rfl rfl (Nat.le_of_ble_eq_true rfl) (by decide) (by decide) rfl ?_
        have hp4 := fX5_hourAhead_lt h (by omega)
        refine g_callV (n := 69) (rest := []) (av := [vi plain, vo o, vi (nI (fX5_hourAhead h))]) (j := 1) ok (kX3_looked I plain o (fX5_hourAhead h) (by first | with_reducible assumption | omega) (by first | with_reducible assumption | omega)) knX3_looked q311 q312 q313 clsX3 rfl dX3_radiusBy_66 rfl rfl (Nat.le_of_ble_eq_true rfl) (by decide) (by decide) rfl ?_
        exact g_iret ok hr dX3_radiusBy_69
      · rw [if_neg c3]
        by_cases c5 : kind = 4
        · rw [if_pos c5]
          refine g_tabIn (off := 69) (tgt := 70) ok dX3_radiusBy_1 (by rw [c5]; decide) (by rw [c5]; decide) (by rw [c5]; rfl) (by decide) ?_
          refine g_iload (n := 72) ok 4 dX3_radiusBy_70 rfl rfl ?_
          refine g_iload_n (n := 73) ok 3 dX3_radiusBy_72 rfl rfl rfl ?_
          refine g_iconst (n := 74) (v := 2) ok dX3_radiusBy_73 rfl rfl ?_
          refine g_irem (n := 75) ok dX3_radiusBy_74 (by decide) rfl ?_
          refine g_iadd (n := 76) ok dX3_radiusBy_75 rfl ?_
          exact g_iret ok hr dX3_radiusBy_76
        · rw [if_neg c5]
          by_cases c6 : kind = 5
          · rw [if_pos c6]
            refine g_tabIn (off := 76) (tgt := 77) ok dX3_radiusBy_1 (by rw [c6]; decide) (by rw [c6]; decide) (by rw [c6]; rfl) (by decide) ?_
            refine g_aload_n (n := 78) ok 0 dX3_radiusBy_77 rfl rfl rfl ?_
            refine g_iload (n := 80) ok 4 dX3_radiusBy_78 rfl rfl ?_
            refine g_callV (n := 83) (rest := []) (av := [vi plain]) (j := 1) ok (kX3_centred I plain) knX3_centred q315 q316 q317 clsX3 rfl dX3_radiusBy_80 rfl rfl (Nat.le_of_ble_eq_true rfl) (by decide) (by decide) rfl ?_
            refine g_aload_n (n := 84) ok 0 dX3_radiusBy_83 rfl rfl rfl ?_
            refine g_iload_n (n := 85) ok 3 dX3_radiusBy_84 rfl rfl rfl ?_
            refine g_callV (n := 88) (rest := [vi (fX3_centred I plain)]) (av := [vi (nI h)]) (j := 1) ok (kX3_wobbleOf I (nI h)) knX3_wobbleOf q322 q323 q324 clsX3 rfl dX3_radiusBy_85 rfl rfl (Nat.le_of_ble_eq_true rfl) (by decide) (by decide) rfl ?_
            refine g_iadd (n := 89) ok dX3_radiusBy_88 rfl ?_
            exact g_iret ok hr dX3_radiusBy_89
          · rw [if_neg c6]
            by_cases c7 : kind = 6
            · rw [if_pos c7]
              refine g_tabIn (off := 89) (tgt := 90) ok dX3_radiusBy_1 (by rw [c7]; decide) (by rw [c7]; decide) (by rw [c7]; rfl) (by decide) ?_
              refine g_aload_n (n := 91) ok 0 dX3_radiusBy_90 rfl rfl rfl ?_
              refine g_aload_n (n := 92) ok 0 dX3_radiusBy_91 rfl rfl rfl ?_
              refine g_iload (n := 94) ok 4 dX3_radiusBy_92 rfl rfl ?_
              refine g_aload (n := 96) ok 5 dX3_radiusBy_94 rfl rfl ?_
              refine g_iload_n (n := 97) ok 3 dX3_radiusBy_96 rfl rfl rfl ?_
              refine g_callV (n := 100) (rest := [vr 1]) (av := [vi plain, vo o, vi (nI h)]) (j := 1) ok (kX3_looked I plain o h (by first | with_reducible assumption | omega) (by first | with_reducible assumption | omega)) knX3_looked q311 q312 q313 clsX3 rfl dX3_radiusBy_97 rfl rfl (Nat.le_of_ble_eq_true rfl) (by decide) (by decide) rfl ?_
              refine g_aload_n (n := 101) ok 0 dX3_radiusBy_100 rfl rfl rfl ?_
              refine g_get (n := 104) (v := vr 3) (c := 3) (k := 1) ok dX3_radiusBy_101 clsX3 (by decide) q64 rfl rfl rfl ?_
              refine g_iload_n (n := 105) ok 2 dX3_radiusBy_104 rfl rfl rfl ?_
              refine g_iload_n (n := 106) ok 3 dX3_radiusBy_105 rfl rfl rfl ?_
              refine g_callSN (n := 109) (rest := [vr 3, vi (fX3_looked I plain o h), vr 1]) (av := [vi (nI foot), vi (nI h)]) ok (kX5_spot I foot h) knX5_spot q303 q278 dX3_radiusBy_106 rfl rfl (Nat.le_of_ble_eq_true rfl) (by decide) (by decide) rfl ?_
              have hp8 : fX5_spot foot h = foot * 12 + h := rfl
              refine g_iald (n := 110) (i := (fX5_spot foot h)) (L := 24) ok dX3_radiusBy_109 rfl rfl rfl (by omega) rfl ?_
              refine g_callV (n := 113) (rest := []) (av := [vi (fX3_looked I plain o h), vi (I 3 (fX5_spot foot h))]) (j := 1) ok (kX3_ledAstray I (fX3_looked I plain o h) (I 3 (fX5_spot foot h))) knX3_ledAstray q326 q327 q328 clsX3 rfl dX3_radiusBy_110 rfl rfl (Nat.le_of_ble_eq_true rfl) (by decide) (by decide) rfl ?_
              exact g_iret ok hr dX3_radiusBy_113
            · rw [if_neg c7]
              refine g_tabOut (tgt := 114) ok dX3_radiusBy_1 (by have h0 : kind.toInt ≠ 1 := ne_toInt c1; have h1 : kind.toInt ≠ 2 := ne_toInt c2; have h2 : kind.toInt ≠ 3 := ne_toInt c3; have h3 : kind.toInt ≠ 4 := ne_toInt c5; have h4 : kind.toInt ≠ 5 := ne_toInt c6; have h5 : kind.toInt ≠ 6 := ne_toInt c7; omega) (by decide) ?_
              refine g_iload (n := 116) ok 4 dX3_radiusBy_114 rfl rfl ?_
              exact g_iret ok hr dX3_radiusBy_116

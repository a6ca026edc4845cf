def w0 : EV := fun _ _ _ _ => .inr (0, [])
def w1 : EV := fun B cI cT => ue (w0 B cI cT) 0 (.inr (5, [.null, .null, .int 0, .null, .null, .null, .null, .int 0, .null]))
theorem knX5_init : Kn yX5_init cX5_init 1 none 0 := ⟨q15, q1, ⟨by decide, by decide⟩, by decide +kernel⟩
def w2 : EV := fun B cI cT => ue (w1 B cI cT) 1 (.inr (3, [.null, .null, .null, .int 0, .int 0, .null, .int 0]))
theorem knX3_init : Kn yX3_init cX3_init 2 none 0 := ⟨q23, q2, ⟨by decide, by decide⟩, by decide +kernel⟩
def w3 : EV := fun B cI cT => ue (w2 B cI cT) 2 (.inl (cI, 24, .inl (fun _ => 0)))
def w4 : EV := fun B cI cT => ue (w3 B cI cT) 1 (.inr (3, [.ref (B + 2), .null, .null, .int 0, .int 0, .null, .int 0]))
def w5 : EV := fun B cI cT => ue (w4 B cI cT) 3 (.inl (cI, 24, .inl (fun _ => 0)))
def w6 : EV := fun B cI cT => ue (w5 B cI cT) 1 (.inr (3, [.ref (B + 2), .ref (B + 3), .null, .int 0, .int 0, .null, .int 0]))
def w7 : EV := fun B cI cT => ue (w6 B cI cT) 4 (.inl (cI, 5, .inl (fun _ => 0)))
def w8 : EV := fun B cI cT => ue (w7 B cI cT) 1 (.inr (3, [.ref (B + 2), .ref (B + 3), .ref (B + 4), .int 0, .int 0, .null, .int 0]))
def w9 : EV := fun B cI cT => ue (w8 B cI cT) 1 (.inr (3, [.ref (B + 2), .ref (B + 3), .ref (B + 4), .int 0, .int 0, .null, .int 0]))
def w10 : EV := fun B cI cT => ue (w9 B cI cT) 5 (.inl (cT, 6, .inr (.inr (.inr (.inr (fun _ => none))))))
def w11 : EV := fun B cI cT => ue (w10 B cI cT) 1 (.inr (3, [.ref (B + 2), .ref (B + 3), .ref (B + 4), .int 0, .int 0, .ref (B + 5), .int 0]))
def w12 : EV := fun B cI cT => ue (w11 B cI cT) 4 (.inl (cI, 5, .inl (va_cpy sFirst (fun _ => 0) 0 0 5)))
def w13 : EV := fun B cI cT => ue (w12 B cI cT) 6 (.inr (4, [.int 0, .int 0, .int 0, .null]))
def w14 : EV := fun B cI cT => ue (w13 B cI cT) 7 (.inl (cI, 12, .inl (fun _ => 0)))
def w15 : EV := fun B cI cT => ue (w14 B cI cT) 6 (.inr (4, [.int 0, .int 0, .int 0, .ref (B + 7)]))
def w16 : EV := fun B cI cT => ue (w15 B cI cT) 5 (.inl (cT, 6, .inr (.inr (.inr (.inr (va_up (fun _ => none) 0 (some (B + 6))))))))
def w17 : EV := fun B cI cT => ue (w16 B cI cT) 8 (.inr (4, [.int 0, .int 0, .int 0, .null]))
def w18 : EV := fun B cI cT => ue (w17 B cI cT) 9 (.inl (cI, 12, .inl (fun _ => 0)))
def w19 : EV := fun B cI cT => ue (w18 B cI cT) 8 (.inr (4, [.int 0, .int 0, .int 0, .ref (B + 9)]))
def w20 : EV := fun B cI cT => ue (w19 B cI cT) 5 (.inl (cT, 6, .inr (.inr (.inr (.inr (va_up (va_up (fun _ => none) 0 (some (B + 6))) 1 (some (B + 8))))))))
def w21 : EV := fun B cI cT => ue (w20 B cI cT) 10 (.inr (4, [.int 0, .int 0, .int 0, .null]))
def w22 : EV := fun B cI cT => ue (w21 B cI cT) 11 (.inl (cI, 12, .inl (fun _ => 0)))
def w23 : EV := fun B cI cT => ue (w22 B cI cT) 10 (.inr (4, [.int 0, .int 0, .int 0, .ref (B + 11)]))
def w24 : EV := fun B cI cT => ue (w23 B cI cT) 5 (.inl (cT, 6, .inr (.inr (.inr (.inr (va_up (va_up (va_up (fun _ => none) 0 (some (B + 6))) 1 (some (B + 8))) 2 (some (B + 10))))))))
def w25 : EV := fun B cI cT => ue (w24 B cI cT) 12 (.inr (4, [.int 0, .int 0, .int 0, .null]))
def w26 : EV := fun B cI cT => ue (w25 B cI cT) 13 (.inl (cI, 12, .inl (fun _ => 0)))
def w27 : EV := fun B cI cT => ue (w26 B cI cT) 12 (.inr (4, [.int 0, .int 0, .int 0, .ref (B + 13)]))
def w28 : EV := fun B cI cT => ue (w27 B cI cT) 5 (.inl (cT, 6, .inr (.inr (.inr (.inr (va_up (va_up (va_up (va_up (fun _ => none) 0 (some (B + 6))) 1 (some (B + 8))) 2 (some (B + 10))) 3 (some (B + 12))))))))
def w29 : EV := fun B cI cT => ue (w28 B cI cT) 14 (.inr (4, [.int 0, .int 0, .int 0, .null]))
def w30 : EV := fun B cI cT => ue (w29 B cI cT) 15 (.inl (cI, 12, .inl (fun _ => 0)))
def w31 : EV := fun B cI cT => ue (w30 B cI cT) 14 (.inr (4, [.int 0, .int 0, .int 0, .ref (B + 15)]))
def w32 : EV := fun B cI cT => ue (w31 B cI cT) 5 (.inl (cT, 6, .inr (.inr (.inr (.inr (va_up (va_up (va_up (va_up (va_up (fun _ => none) 0 (some (B + 6))) 1 (some (B + 8))) 2 (some (B + 10))) 3 (some (B + 12))) 4 (some (B + 14))))))))
def w33 : EV := fun B cI cT => ue (w32 B cI cT) 16 (.inr (4, [.int 0, .int 0, .int 0, .null]))
def w34 : EV := fun B cI cT => ue (w33 B cI cT) 17 (.inl (cI, 12, .inl (fun _ => 0)))
def w35 : EV := fun B cI cT => ue (w34 B cI cT) 16 (.inr (4, [.int 0, .int 0, .int 0, .ref (B + 17)]))
def w36 : EV := fun B cI cT => ue (w35 B cI cT) 5 (.inl (cT, 6, .inr (.inr (.inr (.inr (va_up (va_up (va_up (va_up (va_up (va_up (fun _ => none) 0 (some (B + 6))) 1 (some (B + 8))) 2 (some (B + 10))) 3 (some (B + 12))) 4 (some (B + 14))) 5 (some (B + 16))))))))
theorem kX3_init_1 : Ck yX3_init cX3_init 2 2 60 [vr 1] 16 155 2 w2 18 w36 := by
  refine Ck.mk (lv := [(0, vr 1)]) (by decide) (Nat.le_of_ble_eq_true rfl) rfl (fun E t0 ok hr hk hin hF hc hs => ?_)
  refine k_aload_n (np := 1) ok 0 dX3_init_0 rfl rfl rfl ?_
  refine k_obj (np := 4) ok dX3_init_1 q24 q17 q18 (by decide) (by decide) (by decide) rfl ?_
  refine k_aload_n (np := 5) ok 0 dX3_init_4 rfl rfl rfl ?_
  refine k_bipush (np := 7) (v := 24) ok dX3_init_5 rfl rfl ?_
  refine k_newi (np := 9) (N := 24) ok dX3_init_7 rfl (by decide) (by decide) (Nat.le_trans (by decide) hc) (Nat.le_trans (by decide) hs) rfl ?_
  show Gk E 2 1 24 3 (w3 (e_B E) (e_cI E) (e_cT E)) 9 [(0, vr 1)] [vr 2, vr 1] _
  refine k_put (np := 12) (c := 3) (k := 0) (fs := [.null, .null, .null, .int 0, .int 0, .null, .int 0]) ok hin dX3_init_9 clsX3 tyX3 tyX3_ok nmX3 (by decide) q61 (by decide) rfl rfl (fun _ => rfl) (fun _ => rfl) (Nat.le_of_ble_eq_true rfl) rfl ?_
  show Gk E 2 1 24 3 (w4 (e_B E) (e_cI E) (e_cT E)) 12 [(0, vr 1)] [] _
  refine k_aload_n (np := 13) ok 0 dX3_init_12 rfl rfl rfl ?_
  refine k_bipush (np := 15) (v := 24) ok dX3_init_13 rfl rfl ?_
  refine k_newi (np := 17) (N := 24) ok dX3_init_15 rfl (by decide) (by decide) (Nat.le_trans (by decide) hc) (Nat.le_trans (by decide) hs) rfl ?_
  show Gk E 2 2 48 4 (w5 (e_B E) (e_cI E) (e_cT E)) 17 [(0, vr 1)] [vr 3, vr 1] _
  refine k_put (np := 20) (c := 3) (k := 1) (fs := [.ref (e_B E + 2), .null, .null, .int 0, .int 0, .null, .int 0]) ok hin dX3_init_17 clsX3 tyX3 tyX3_ok nmX3 (by decide) q64 (by decide) rfl rfl (fun _ => rfl) (fun _ => rfl) (Nat.le_of_ble_eq_true rfl) rfl ?_
  show Gk E 2 2 48 4 (w6 (e_B E) (e_cI E) (e_cT E)) 20 [(0, vr 1)] [] _
  refine k_aload_n (np := 21) ok 0 dX3_init_20 rfl rfl rfl ?_
  refine k_iconst (np := 22) (v := 5) ok dX3_init_21 rfl rfl ?_
  refine k_newi (np := 24) (N := 5) ok dX3_init_22 rfl (by decide) (by decide) (Nat.le_trans (by decide) hc) (Nat.le_trans (by decide) hs) rfl ?_
  show Gk E 2 3 53 5 (w7 (e_B E) (e_cI E) (e_cT E)) 24 [(0, vr 1)] [vr 4, vr 1] _
  refine k_put (np := 27) (c := 3) (k := 2) (fs := [.ref (e_B E + 2), .ref (e_B E + 3), .null, .int 0, .int 0, .null, .int 0]) ok hin dX3_init_24 clsX3 tyX3 tyX3_ok nmX3 (by decide) q67 (by decide) rfl rfl (fun _ => rfl) (fun _ => rfl) (Nat.le_of_ble_eq_true rfl) rfl ?_
  show Gk E 2 3 53 5 (w8 (e_B E) (e_cI E) (e_cT E)) 27 [(0, vr 1)] [] _
  refine k_aload_n (np := 28) ok 0 dX3_init_27 rfl rfl rfl ?_
  refine k_iconst (np := 29) (v := 0) ok dX3_init_28 rfl rfl ?_
  refine k_put (np := 32) (c := 3) (k := 3) (fs := [.ref (e_B E + 2), .ref (e_B E + 3), .ref (e_B E + 4), .int 0, .int 0, .null, .int 0]) ok hin dX3_init_29 clsX3 tyX3 tyX3_ok nmX3 (by decide) q71 (by decide) rfl rfl (fun _ => rfl) (fun _ => rfl) (Nat.le_of_ble_eq_true rfl) rfl ?_
  show Gk E 2 3 53 5 (w9 (e_B E) (e_cI E) (e_cT E)) 32 [(0, vr 1)] [] _
  refine k_aload_n (np := 33) ok 0 dX3_init_32 rfl rfl rfl ?_
  refine k_bipush (np := 35) (v := 6) ok dX3_init_33 rfl rfl ?_
  refine k_newq (np := 38) (N := 6) ok hF dX3_init_35 q25 rfl (by decide) (by decide) (Nat.le_trans (by decide) hc) (Nat.le_trans (by decide) hs) rfl ?_
  show Gk E 2 4 59 6 (w10 (e_B E) (e_cI E) (e_cT E)) 38 [(0, vr 1)] [vr 5, vr 1] _
  refine k_put (np := 41) (c := 3) (k := 5) (fs := [.ref (e_B E + 2), .ref (e_B E + 3), .ref (e_B E + 4), .int 0, .int 0, .null, .int 0]) ok hin dX3_init_38 clsX3 tyX3 tyX3_ok nmX3 (by decide) q78 (by decide) rfl rfl (fun _ => rfl) (fun _ => rfl) (Nat.le_of_ble_eq_true rfl) rfl ?_
  show Gk E 2 4 59 6 (w11 (e_B E) (e_cI E) (e_cT E)) 41 [(0, vr 1)] [] _
  refine k_gets0 (np := 44) ok hF dX3_init_41 rfl ?_
  refine k_iconst (np := 45) (v := 0) ok dX3_init_44 rfl rfl ?_
  refine k_aload_n (np := 46) ok 0 dX3_init_45 rfl rfl rfl ?_
  refine k_get (np := 49) (c := 3) (k := 2) (v := vr 4) (fs := [.ref (e_B E + 2), .ref (e_B E + 3), .ref (e_B E + 4), .int 0, .int 0, .ref (e_B E + 5), .int 0]) ok dX3_init_46 clsX3 (by decide) q67 (by decide) rfl rfl rfl ?_
  refine k_iconst (np := 50) (v := 0) ok dX3_init_49 rfl rfl ?_
  refine k_iconst (np := 51) (v := 5) ok dX3_init_50 rfl rfl ?_
  refine k_copy (np := 54) (f := (fun _ => 0)) ok hF dX3_init_51 q29 q31 q30 q3 (by decide) rfl (by decide) (by decide) (by decide) rfl ?_
  show Gk E 2 4 59 6 (w12 (e_B E) (e_cI E) (e_cT E)) 54 [(0, vr 1)] [] _
  refine k_iconst (np := 55) (v := 0) ok dX3_init_54 rfl rfl ?_
  refine k_istore_n (np := 56) (lv' := [(1, vi 0), (0, vr 1)]) ok dX3_init_55 rfl (by decide) rfl rfl ?_
  refine k_iload_n (np := 57) ok 0 dX3_init_56 rfl rfl rfl ?_
  refine k_bipush (np := 59) (v := 6) ok dX3_init_57 rfl rfl ?_
  refine k_icmp_ge (np := 62) (tgt := 81) ok dX3_init_59 (by decide) rfl (fun h => absurd h (show ¬ (6 : Int32) ≤ 0 by decide)) (fun _ => ?_)
  refine k_aload_n (np := 63) ok 1 dX3_init_62 rfl rfl rfl ?_
  refine k_get (np := 66) (c := 3) (k := 5) (v := vr 5) (fs := [.ref (e_B E + 2), .ref (e_B E + 3), .ref (e_B E + 4), .int 0, .int 0, .ref (e_B E + 5), .int 0]) ok dX3_init_63 clsX3 (by decide) q78 (by decide) rfl rfl rfl ?_
  refine k_iload_n (np := 67) ok 0 dX3_init_66 rfl rfl rfl ?_
  refine k_newo (np := 70) (c := 4) (fs := [.int 0, .int 0, .int 0, .null]) ok dX3_init_67 clsX4 tyX4 tyX4_ok q25 q32 q4 (by decide) (Nat.le_trans (by decide) hc) (Nat.le_trans (by decide) hs) rfl ?_
  show Gk E 2 5 63 7 (w13 (e_B E) (e_cI E) (e_cT E)) 70 [(1, vi 0), (0, vr 1)] [vr 6, vi 0, vr 5] _
  refine k_dup (np := 71) ok dX3_init_70 rfl rfl ?_
  refine k_ctorN (np := 74) (f := w13) (av := []) (rest := [vr 6, vi 0, vr 5]) ok hF (kX4_init (e := w13) (j := 6) (n := 7) (by decide) (fun _ _ _ => rfl)) knX4_init q34 rfl q33 dX3_init_71 rfl rfl rfl (by decide) (by decide) (by decide) (Nat.le_trans (by decide) hc) (Nat.le_trans (by decide) hs) rfl ?_
  show Gk E 2 6 75 8 (w15 (e_B E) (e_cI E) (e_cT E)) 74 [(1, vi 0), (0, vr 1)] [vr 6, vi 0, vr 5] _
  refine k_astq (np := 75) (L := 6) (i := 0) (c2 := 4) (f := (fun _ => none)) (fs := [.int 0, .int 0, .int 0, .ref (e_B E + 7)]) ok dX3_init_74 (by decide) rfl clsX4 (by decide) rfl rfl (by decide) (by decide) rfl ?_
  show Gk E 2 6 75 8 (w16 (e_B E) (e_cI E) (e_cT E)) 75 [(1, vi 0), (0, vr 1)] [] _
  refine k_iinc (np := 78) (v := 1) (lv' := [(1, vi 1), (0, vr 1)]) ok 0 dX3_init_75 rfl (by decide) (by decide) rfl rfl ?_
  refine k_goto (tgt := 56) ok dX3_init_78 (by decide) ?_
  refine k_iload_n (np := 57) ok 0 dX3_init_56 rfl rfl rfl ?_
  refine k_bipush (np := 59) (v := 6) ok dX3_init_57 rfl rfl ?_
  refine k_icmp_ge (np := 62) (tgt := 81) ok dX3_init_59 (by decide) rfl (fun h => absurd h (show ¬ (6 : Int32) ≤ 1 by decide)) (fun _ => ?_)
  refine k_aload_n (np := 63) ok 1 dX3_init_62 rfl rfl rfl ?_
  refine k_get (np := 66) (c := 3) (k := 5) (v := vr 5) (fs := [.ref (e_B E + 2), .ref (e_B E + 3), .ref (e_B E + 4), .int 0, .int 0, .ref (e_B E + 5), .int 0]) ok dX3_init_63 clsX3 (by decide) q78 (by decide) rfl rfl rfl ?_
  refine k_iload_n (np := 67) ok 0 dX3_init_66 rfl rfl rfl ?_
  refine k_newo (np := 70) (c := 4) (fs := [.int 0, .int 0, .int 0, .null]) ok dX3_init_67 clsX4 tyX4 tyX4_ok q25 q32 q4 (by decide) (Nat.le_trans (by decide) hc) (Nat.le_trans (by decide) hs) rfl ?_
  show Gk E 2 7 79 9 (w17 (e_B E) (e_cI E) (e_cT E)) 70 [(1, vi 1), (0, vr 1)] [vr 8, vi 1, vr 5] _
  refine k_dup (np := 71) ok dX3_init_70 rfl rfl ?_
  refine k_ctorN (np := 74) (f := w17) (av := []) (rest := [vr 8, vi 1, vr 5]) ok hF (kX4_init (e := w17) (j := 8) (n := 9) (by decide) (fun _ _ _ => rfl)) knX4_init q34 rfl q33 dX3_init_71 rfl rfl rfl (by decide) (by decide) (by decide) (Nat.le_trans (by decide) hc) (Nat.le_trans (by decide) hs) rfl ?_
  show Gk E 2 8 91 10 (w19 (e_B E) (e_cI E) (e_cT E)) 74 [(1, vi 1), (0, vr 1)] [vr 8, vi 1, vr 5] _
  refine k_astq (np := 75) (L := 6) (i := 1) (c2 := 4) (f := (va_up (fun _ => none) 0 (some (e_B E + 6)))) (fs := [.int 0, .int 0, .int 0, .ref (e_B E + 9)]) ok dX3_init_74 (by decide) rfl clsX4 (by decide) rfl rfl (by decide) (by decide) rfl ?_
  show Gk E 2 8 91 10 (w20 (e_B E) (e_cI E) (e_cT E)) 75 [(1, vi 1), (0, vr 1)] [] _
  refine k_iinc (np := 78) (v := 2) (lv' := [(1, vi 2), (0, vr 1)]) ok 0 dX3_init_75 rfl (by decide) (by decide) rfl rfl ?_
  refine k_goto (tgt := 56) ok dX3_init_78 (by decide) ?_
  refine k_iload_n (np := 57) ok 0 dX3_init_56 rfl rfl rfl ?_
  refine k_bipush (np := 59) (v := 6) ok dX3_init_57 rfl rfl ?_
  refine k_icmp_ge (np := 62) (tgt := 81) ok dX3_init_59 (by decide) rfl (fun h => absurd h (show ¬ (6 : Int32) ≤ 2 by decide)) (fun _ => ?_)
  refine k_aload_n (np := 63) ok 1 dX3_init_62 rfl rfl rfl ?_
  refine k_get (np := 66) (c := 3) (k := 5) (v := vr 5) (fs := [.ref (e_B E + 2), .ref (e_B E + 3), .ref (e_B E + 4), .int 0, .int 0, .ref (e_B E + 5), .int 0]) ok dX3_init_63 clsX3 (by decide) q78 (by decide) rfl rfl rfl ?_
  refine k_iload_n (np := 67) ok 0 dX3_init_66 rfl rfl rfl ?_
  refine k_newo (np := 70) (c := 4) (fs := [.int 0, .int 0, .int 0, .null]) ok dX3_init_67 clsX4 tyX4 tyX4_ok q25 q32 q4 (by decide) (Nat.le_trans (by decide) hc) (Nat.le_trans (by decide) hs) rfl ?_
  show Gk E 2 9 95 11 (w21 (e_B E) (e_cI E) (e_cT E)) 70 [(1, vi 2), (0, vr 1)] [vr 10, vi 2, vr 5] _
  refine k_dup (np := 71) ok dX3_init_70 rfl rfl ?_
  refine k_ctorN (np := 74) (f := w21) (av := []) (rest := [vr 10, vi 2, vr 5]) ok hF (kX4_init (e := w21) (j := 10) (n := 11) (by decide) (fun _ _ _ => rfl)) knX4_init q34 rfl q33 dX3_init_71 rfl rfl rfl (by decide) (by decide) (by decide) (Nat.le_trans (by decide) hc) (Nat.le_trans (by decide) hs) rfl ?_
  show Gk E 2 10 107 12 (w23 (e_B E) (e_cI E) (e_cT E)) 74 [(1, vi 2), (0, vr 1)] [vr 10, vi 2, vr 5] _
  refine k_astq (np := 75) (L := 6) (i := 2) (c2 := 4) (f := (va_up (va_up (fun _ => none) 0 (some (e_B E + 6))) 1 (some (e_B E + 8)))) (fs := [.int 0, .int 0, .int 0, .ref (e_B E + 11)]) ok dX3_init_74 (by decide) rfl clsX4 (by decide) rfl rfl (by decide) (by decide) rfl ?_
  show Gk E 2 10 107 12 (w24 (e_B E) (e_cI E) (e_cT E)) 75 [(1, vi 2), (0, vr 1)] [] _
  refine k_iinc (np := 78) (v := 3) (lv' := [(1, vi 3), (0, vr 1)]) ok 0 dX3_init_75 rfl (by decide) (by decide) rfl rfl ?_
  refine k_goto (tgt := 56) ok dX3_init_78 (by decide) ?_
  refine k_iload_n (np := 57) ok 0 dX3_init_56 rfl rfl rfl ?_
  refine k_bipush (np := 59) (v := 6) ok dX3_init_57 rfl rfl ?_
  refine k_icmp_ge (np := 62) (tgt := 81) ok dX3_init_59 (by decide) rfl (fun h => absurd h (show ¬ (6 : Int32) ≤ 3 by decide)) (fun _ => ?_)
  refine k_aload_n (np := 63) ok 1 dX3_init_62 rfl rfl rfl ?_
  refine k_get (np := 66) (c := 3) (k := 5) (v := vr 5) (fs := [.ref (e_B E + 2), .ref (e_B E + 3), .ref (e_B E + 4), .int 0, .int 0, .ref (e_B E + 5), .int 0]) ok dX3_init_63 clsX3 (by decide) q78 (by decide) rfl rfl rfl ?_
  refine k_iload_n (np := 67) ok 0 dX3_init_66 rfl rfl rfl ?_
  refine k_newo (np := 70) (c := 4) (fs := [.int 0, .int 0, .int 0, .null]) ok dX3_init_67 clsX4 tyX4 tyX4_ok q25 q32 q4 (by decide) (Nat.le_trans (by decide) hc) (Nat.le_trans (by decide) hs) rfl ?_
  show Gk E 2 11 111 13 (w25 (e_B E) (e_cI E) (e_cT E)) 70 [(1, vi 3), (0, vr 1)] [vr 12, vi 3, vr 5] _
  refine k_dup (np := 71) ok dX3_init_70 rfl rfl ?_
  refine k_ctorN (np := 74) (f := w25) (av := []) (rest := [vr 12, vi 3, vr 5]) ok hF (kX4_init (e := w25) (j := 12) (n := 13) (by decide) (fun _ _ _ => rfl)) knX4_init q34 rfl q33 dX3_init_71 rfl rfl rfl (by decide) (by decide) (by decide) (Nat.le_trans (by decide) hc) (Nat.le_trans (by decide) hs) rfl ?_
  show Gk E 2 12 123 14 (w27 (e_B E) (e_cI E) (e_cT E)) 74 [(1, vi 3), (0, vr 1)] [vr 12, vi 3, vr 5] _
  refine k_astq (np := 75) (L := 6) (i := 3) (c2 := 4) (f := (va_up (va_up (va_up (fun _ => none) 0 (some (e_B E + 6))) 1 (some (e_B E + 8))) 2 (some (e_B E + 10)))) (fs := [.int 0, .int 0, .int 0, .ref (e_B E + 13)]) ok dX3_init_74 (by decide) rfl clsX4 (by decide) rfl rfl (by decide) (by decide) rfl ?_
  show Gk E 2 12 123 14 (w28 (e_B E) (e_cI E) (e_cT E)) 75 [(1, vi 3), (0, vr 1)] [] _
  refine k_iinc (np := 78) (v := 4) (lv' := [(1, vi 4), (0, vr 1)]) ok 0 dX3_init_75 rfl (by decide) (by decide) rfl rfl ?_
  refine k_goto (tgt := 56) ok dX3_init_78 (by decide) ?_
  refine k_iload_n (np := 57) ok 0 dX3_init_56 rfl rfl rfl ?_
  refine k_bipush (np := 59) (v := 6) ok dX3_init_57 rfl rfl ?_
  refine k_icmp_ge (np := 62) (tgt := 81) ok dX3_init_59 (by decide) rfl (fun h => absurd h (show ¬ (6 : Int32) ≤ 4 by decide)) (fun _ => ?_)
  refine k_aload_n (np := 63) ok 1 dX3_init_62 rfl rfl rfl ?_
  refine k_get (np := 66) (c := 3) (k := 5) (v := vr 5) (fs := [.ref (e_B E + 2), .ref (e_B E + 3), .ref (e_B E + 4), .int 0, .int 0, .ref (e_B E + 5), .int 0]) ok dX3_init_63 clsX3 (by decide) q78 (by decide) rfl rfl rfl ?_
  refine k_iload_n (np := 67) ok 0 dX3_init_66 rfl rfl rfl ?_
  refine k_newo (np := 70) (c := 4) (fs := [.int 0, .int 0, .int 0, .null]) ok dX3_init_67 clsX4 tyX4 tyX4_ok q25 q32 q4 (by decide) (Nat.le_trans (by decide) hc) (Nat.le_trans (by decide) hs) rfl ?_
  show Gk E 2 13 127 15 (w29 (e_B E) (e_cI E) (e_cT E)) 70 [(1, vi 4), (0, vr 1)] [vr 14, vi 4, vr 5] _
  refine k_dup (np := 71) ok dX3_init_70 rfl rfl ?_
  refine k_ctorN (np := 74) (f := w29) (av := []) (rest := [vr 14, vi 4, vr 5]) ok hF (kX4_init (e := w29) (j := 14) (n := 15) (by decide) (fun _ _ _ => rfl)) knX4_init q34 rfl q33 dX3_init_71 rfl rfl rfl (by decide) (by decide) (by decide) (Nat.le_trans (by decide) hc) (Nat.le_trans (by decide) hs) rfl ?_
  show Gk E 2 14 139 16 (w31 (e_B E) (e_cI E) (e_cT E)) 74 [(1, vi 4), (0, vr 1)] [vr 14, vi 4, vr 5] _
  refine k_astq (np := 75) (L := 6) (i := 4) (c2 := 4) (f := (va_up (va_up (va_up (va_up (fun _ => none) 0 (some (e_B E + 6))) 1 (some (e_B E + 8))) 2 (some (e_B E + 10))) 3 (some (e_B E + 12)))) (fs := [.int 0, .int 0, .int 0, .ref (e_B E + 15)]) ok dX3_init_74 (by decide) rfl clsX4 (by decide) rfl rfl (by decide) (by decide) rfl ?_
  show Gk E 2 14 139 16 (w32 (e_B E) (e_cI E) (e_cT E)) 75 [(1, vi 4), (0, vr 1)] [] _
  refine k_iinc (np := 78) (v := 5) (lv' := [(1, vi 5), (0, vr 1)]) ok 0 dX3_init_75 rfl (by decide) (by decide) rfl rfl ?_
  refine k_goto (tgt := 56) ok dX3_init_78 (by decide) ?_
  refine k_iload_n (np := 57) ok 0 dX3_init_56 rfl rfl rfl ?_
  refine k_bipush (np := 59) (v := 6) ok dX3_init_57 rfl rfl ?_
  refine k_icmp_ge (np := 62) (tgt := 81) ok dX3_init_59 (by decide) rfl (fun h => absurd h (show ¬ (6 : Int32) ≤ 5 by decide)) (fun _ => ?_)
  refine k_aload_n (np := 63) ok 1 dX3_init_62 rfl rfl rfl ?_
  refine k_get (np := 66) (c := 3) (k := 5) (v := vr 5) (fs := [.ref (e_B E + 2), .ref (e_B E + 3), .ref (e_B E + 4), .int 0, .int 0, .ref (e_B E + 5), .int 0]) ok dX3_init_63 clsX3 (by decide) q78 (by decide) rfl rfl rfl ?_
  refine k_iload_n (np := 67) ok 0 dX3_init_66 rfl rfl rfl ?_
  refine k_newo (np := 70) (c := 4) (fs := [.int 0, .int 0, .int 0, .null]) ok dX3_init_67 clsX4 tyX4 tyX4_ok q25 q32 q4 (by decide) (Nat.le_trans (by decide) hc) (Nat.le_trans (by decide) hs) rfl ?_
  show Gk E 2 15 143 17 (w33 (e_B E) (e_cI E) (e_cT E)) 70 [(1, vi 5), (0, vr 1)] [vr 16, vi 5, vr 5] _
  refine k_dup (np := 71) ok dX3_init_70 rfl rfl ?_
  refine k_ctorN (np := 74) (f := w33) (av := []) (rest := [vr 16, vi 5, vr 5]) ok hF (kX4_init (e := w33) (j := 16) (n := 17) (by decide) (fun _ _ _ => rfl)) knX4_init q34 rfl q33 dX3_init_71 rfl rfl rfl (by decide) (by decide) (by decide) (Nat.le_trans (by decide) hc) (Nat.le_trans (by decide) hs) rfl ?_
  show Gk E 2 16 155 18 (w35 (e_B E) (e_cI E) (e_cT E)) 74 [(1, vi 5), (0, vr 1)] [vr 16, vi 5, vr 5] _
  refine k_astq (np := 75) (L := 6) (i := 5) (c2 := 4) (f := (va_up (va_up (va_up (va_up (va_up (fun _ => none) 0 (some (e_B E + 6))) 1 (some (e_B E + 8))) 2 (some (e_B E + 10))) 3 (some (e_B E + 12))) 4 (some (e_B E + 14)))) (fs := [.int 0, .int 0, .int 0, .ref (e_B E + 17)]) ok dX3_init_74 (by decide) rfl clsX4 (by decide) rfl rfl (by decide) (by decide) rfl ?_
  show Gk E 2 16 155 18 (w36 (e_B E) (e_cI E) (e_cT E)) 75 [(1, vi 5), (0, vr 1)] [] _
  refine k_iinc (np := 78) (v := 6) (lv' := [(1, vi 6), (0, vr 1)]) ok 0 dX3_init_75 rfl (by decide) (by decide) rfl rfl ?_
  refine k_goto (tgt := 56) ok dX3_init_78 (by decide) ?_
  refine k_iload_n (np := 57) ok 0 dX3_init_56 rfl rfl rfl ?_
  refine k_bipush (np := 59) (v := 6) ok dX3_init_57 rfl rfl ?_
  refine k_icmp_ge (np := 62) (tgt := 81) ok dX3_init_59 (by decide) rfl (fun _ => ?_) (fun h => absurd (show (6 : Int32) ≤ 6 by decide) h)
  exact k_ret ok hr hk dX3_init_81
def w37 : EV := fun B cI cT => ue (w36 B cI cT) 0 (.inr (5, [.ref (B + 1), .null, .int 0, .null, .null, .null, .null, .int 0, .null]))
def w38 : EV := fun B cI cT => ue (w37 B cI cT) 18 (.inr (3, [.null, .null, .null, .int 0, .int 0, .null, .int 0]))
def w39 : EV := fun B cI cT => ue (w38 B cI cT) 19 (.inl (cI, 24, .inl (fun _ => 0)))
def w40 : EV := fun B cI cT => ue (w39 B cI cT) 18 (.inr (3, [.ref (B + 19), .null, .null, .int 0, .int 0, .null, .int 0]))
def w41 : EV := fun B cI cT => ue (w40 B cI cT) 20 (.inl (cI, 24, .inl (fun _ => 0)))
def w42 : EV := fun B cI cT => ue (w41 B cI cT) 18 (.inr (3, [.ref (B + 19), .ref (B + 20), .null, .int 0, .int 0, .null, .int 0]))
def w43 : EV := fun B cI cT => ue (w42 B cI cT) 21 (.inl (cI, 5, .inl (fun _ => 0)))
def w44 : EV := fun B cI cT => ue (w43 B cI cT) 18 (.inr (3, [.ref (B + 19), .ref (B + 20), .ref (B + 21), .int 0, .int 0, .null, .int 0]))
def w45 : EV := fun B cI cT => ue (w44 B cI cT) 18 (.inr (3, [.ref (B + 19), .ref (B + 20), .ref (B + 21), .int 0, .int 0, .null, .int 0]))
def w46 : EV := fun B cI cT => ue (w45 B cI cT) 22 (.inl (cT, 6, .inr (.inr (.inr (.inr (fun _ => none))))))
def w47 : EV := fun B cI cT => ue (w46 B cI cT) 18 (.inr (3, [.ref (B + 19), .ref (B + 20), .ref (B + 21), .int 0, .int 0, .ref (B + 22), .int 0]))
def w48 : EV := fun B cI cT => ue (w47 B cI cT) 21 (.inl (cI, 5, .inl (va_cpy sFirst (fun _ => 0) 0 0 5)))
def w49 : EV := fun B cI cT => ue (w48 B cI cT) 23 (.inr (4, [.int 0, .int 0, .int 0, .null]))
def w50 : EV := fun B cI cT => ue (w49 B cI cT) 24 (.inl (cI, 12, .inl (fun _ => 0)))
def w51 : EV := fun B cI cT => ue (w50 B cI cT) 23 (.inr (4, [.int 0, .int 0, .int 0, .ref (B + 24)]))
def w52 : EV := fun B cI cT => ue (w51 B cI cT) 22 (.inl (cT, 6, .inr (.inr (.inr (.inr (va_up (fun _ => none) 0 (some (B + 23))))))))
def w53 : EV := fun B cI cT => ue (w52 B cI cT) 25 (.inr (4, [.int 0, .int 0, .int 0, .null]))
def w54 : EV := fun B cI cT => ue (w53 B cI cT) 26 (.inl (cI, 12, .inl (fun _ => 0)))
def w55 : EV := fun B cI cT => ue (w54 B cI cT) 25 (.inr (4, [.int 0, .int 0, .int 0, .ref (B + 26)]))
def w56 : EV := fun B cI cT => ue (w55 B cI cT) 22 (.inl (cT, 6, .inr (.inr (.inr (.inr (va_up (va_up (fun _ => none) 0 (some (B + 23))) 1 (some (B + 25))))))))
def w57 : EV := fun B cI cT => ue (w56 B cI cT) 27 (.inr (4, [.int 0, .int 0, .int 0, .null]))
def w58 : EV := fun B cI cT => ue (w57 B cI cT) 28 (.inl (cI, 12, .inl (fun _ => 0)))
def w59 : EV := fun B cI cT => ue (w58 B cI cT) 27 (.inr (4, [.int 0, .int 0, .int 0, .ref (B + 28)]))
def w60 : EV := fun B cI cT => ue (w59 B cI cT) 22 (.inl (cT, 6, .inr (.inr (.inr (.inr (va_up (va_up (va_up (fun _ => none) 0 (some (B + 23))) 1 (some (B + 25))) 2 (some (B + 27))))))))
def w61 : EV := fun B cI cT => ue (w60 B cI cT) 29 (.inr (4, [.int 0, .int 0, .int 0, .null]))
def w62 : EV := fun B cI cT => ue (w61 B cI cT) 30 (.inl (cI, 12, .inl (fun _ => 0)))
def w63 : EV := fun B cI cT => ue (w62 B cI cT) 29 (.inr (4, [.int 0, .int 0, .int 0, .ref (B + 30)]))
def w64 : EV := fun B cI cT => ue (w63 B cI cT) 22 (.inl (cT, 6, .inr (.inr (.inr (.inr (va_up (va_up (va_up (va_up (fun _ => none) 0 (some (B + 23))) 1 (some (B + 25))) 2 (some (B + 27))) 3 (some (B + 29))))))))
def w65 : EV := fun B cI cT => ue (w64 B cI cT) 31 (.inr (4, [.int 0, .int 0, .int 0, .null]))
def w66 : EV := fun B cI cT => ue (w65 B cI cT) 32 (.inl (cI, 12, .inl (fun _ => 0)))
def w67 : EV := fun B cI cT => ue (w66 B cI cT) 31 (.inr (4, [.int 0, .int 0, .int 0, .ref (B + 32)]))
def w68 : EV := fun B cI cT => ue (w67 B cI cT) 22 (.inl (cT, 6, .inr (.inr (.inr (.inr (va_up (va_up (va_up (va_up (va_up (fun _ => none) 0 (some (B + 23))) 1 (some (B + 25))) 2 (some (B + 27))) 3 (some (B + 29))) 4 (some (B + 31))))))))
def w69 : EV := fun B cI cT => ue (w68 B cI cT) 33 (.inr (4, [.int 0, .int 0, .int 0, .null]))
def w70 : EV := fun B cI cT => ue (w69 B cI cT) 34 (.inl (cI, 12, .inl (fun _ => 0)))
def w71 : EV := fun B cI cT => ue (w70 B cI cT) 33 (.inr (4, [.int 0, .int 0, .int 0, .ref (B + 34)]))
def w72 : EV := fun B cI cT => ue (w71 B cI cT) 22 (.inl (cT, 6, .inr (.inr (.inr (.inr (va_up (va_up (va_up (va_up (va_up (va_up (fun _ => none) 0 (some (B + 23))) 1 (some (B + 25))) 2 (some (B + 27))) 3 (some (B + 29))) 4 (some (B + 31))) 5 (some (B + 33))))))))
theorem kX3_init_18 : Ck yX3_init cX3_init 2 2 60 [vr 18] 16 155 19 w38 35 w72 := by
  refine Ck.mk (lv := [(0, vr 18)]) (by decide) (Nat.le_of_ble_eq_true rfl) rfl (fun E t0 ok hr hk hin hF hc hs => ?_)
  refine k_aload_n (np := 1) ok 0 dX3_init_0 rfl rfl rfl ?_
  refine k_obj (np := 4) ok dX3_init_1 q24 q17 q18 (by decide) (by decide) (by decide) rfl ?_
  refine k_aload_n (np := 5) ok 0 dX3_init_4 rfl rfl rfl ?_
  refine k_bipush (np := 7) (v := 24) ok dX3_init_5 rfl rfl ?_
  refine k_newi (np := 9) (N := 24) ok dX3_init_7 rfl (by decide) (by decide) (Nat.le_trans (by decide) hc) (Nat.le_trans (by decide) hs) rfl ?_
  show Gk E 2 1 24 20 (w39 (e_B E) (e_cI E) (e_cT E)) 9 [(0, vr 18)] [vr 19, vr 18] _
  refine k_put (np := 12) (c := 3) (k := 0) (fs := [.null, .null, .null, .int 0, .int 0, .null, .int 0]) ok hin dX3_init_9 clsX3 tyX3 tyX3_ok nmX3 (by decide) q61 (by decide) rfl rfl (fun _ => rfl) (fun _ => rfl) (Nat.le_of_ble_eq_true rfl) rfl ?_
  show Gk E 2 1 24 20 (w40 (e_B E) (e_cI E) (e_cT E)) 12 [(0, vr 18)] [] _
  refine k_aload_n (np := 13) ok 0 dX3_init_12 rfl rfl rfl ?_
  refine k_bipush (np := 15) (v := 24) ok dX3_init_13 rfl rfl ?_
  refine k_newi (np := 17) (N := 24) ok dX3_init_15 rfl (by decide) (by decide) (Nat.le_trans (by decide) hc) (Nat.le_trans (by decide) hs) rfl ?_
  show Gk E 2 2 48 21 (w41 (e_B E) (e_cI E) (e_cT E)) 17 [(0, vr 18)] [vr 20, vr 18] _
  refine k_put (np := 20) (c := 3) (k := 1) (fs := [.ref (e_B E + 19), .null, .null, .int 0, .int 0, .null, .int 0]) ok hin dX3_init_17 clsX3 tyX3 tyX3_ok nmX3 (by decide) q64 (by decide) rfl rfl (fun _ => rfl) (fun _ => rfl) (Nat.le_of_ble_eq_true rfl) rfl ?_
  show Gk E 2 2 48 21 (w42 (e_B E) (e_cI E) (e_cT E)) 20 [(0, vr 18)] [] _
  refine k_aload_n (np := 21) ok 0 dX3_init_20 rfl rfl rfl ?_
  refine k_iconst (np := 22) (v := 5) ok dX3_init_21 rfl rfl ?_
  refine k_newi (np := 24) (N := 5) ok dX3_init_22 rfl (by decide) (by decide) (Nat.le_trans (by decide) hc) (Nat.le_trans (by decide) hs) rfl ?_
  show Gk E 2 3 53 22 (w43 (e_B E) (e_cI E) (e_cT E)) 24 [(0, vr 18)] [vr 21, vr 18] _
  refine k_put (np := 27) (c := 3) (k := 2) (fs := [.ref (e_B E + 19), .ref (e_B E + 20), .null, .int 0, .int 0, .null, .int 0]) ok hin dX3_init_24 clsX3 tyX3 tyX3_ok nmX3 (by decide) q67 (by decide) rfl rfl (fun _ => rfl) (fun _ => rfl) (Nat.le_of_ble_eq_true rfl) rfl ?_
  show Gk E 2 3 53 22 (w44 (e_B E) (e_cI E) (e_cT E)) 27 [(0, vr 18)] [] _
  refine k_aload_n (np := 28) ok 0 dX3_init_27 rfl rfl rfl ?_
  refine k_iconst (np := 29) (v := 0) ok dX3_init_28 rfl rfl ?_
  refine k_put (np := 32) (c := 3) (k := 3) (fs := [.ref (e_B E + 19), .ref (e_B E + 20), .ref (e_B E + 21), .int 0, .int 0, .null, .int 0]) ok hin dX3_init_29 clsX3 tyX3 tyX3_ok nmX3 (by decide) q71 (by decide) rfl rfl (fun _ => rfl) (fun _ => rfl) (Nat.le_of_ble_eq_true rfl) rfl ?_
  show Gk E 2 3 53 22 (w45 (e_B E) (e_cI E) (e_cT E)) 32 [(0, vr 18)] [] _
  refine k_aload_n (np := 33) ok 0 dX3_init_32 rfl rfl rfl ?_
  refine k_bipush (np := 35) (v := 6) ok dX3_init_33 rfl rfl ?_
  refine k_newq (np := 38) (N := 6) ok hF dX3_init_35 q25 rfl (by decide) (by decide) (Nat.le_trans (by decide) hc) (Nat.le_trans (by decide) hs) rfl ?_
  show Gk E 2 4 59 23 (w46 (e_B E) (e_cI E) (e_cT E)) 38 [(0, vr 18)] [vr 22, vr 18] _
  refine k_put (np := 41) (c := 3) (k := 5) (fs := [.ref (e_B E + 19), .ref (e_B E + 20), .ref (e_B E + 21), .int 0, .int 0, .null, .int 0]) ok hin dX3_init_38 clsX3 tyX3 tyX3_ok nmX3 (by decide) q78 (by decide) rfl rfl (fun _ => rfl) (fun _ => rfl) (Nat.le_of_ble_eq_true rfl) rfl ?_
  show Gk E 2 4 59 23 (w47 (e_B E) (e_cI E) (e_cT E)) 41 [(0, vr 18)] [] _
  refine k_gets0 (np := 44) ok hF dX3_init_41 rfl ?_
  refine k_iconst (np := 45) (v := 0) ok dX3_init_44 rfl rfl ?_
  refine k_aload_n (np := 46) ok 0 dX3_init_45 rfl rfl rfl ?_
  refine k_get (np := 49) (c := 3) (k := 2) (v := vr 21) (fs := [.ref (e_B E + 19), .ref (e_B E + 20), .ref (e_B E + 21), .int 0, .int 0, .ref (e_B E + 22), .int 0]) ok dX3_init_46 clsX3 (by decide) q67 (by decide) rfl rfl rfl ?_
  refine k_iconst (np := 50) (v := 0) ok dX3_init_49 rfl rfl ?_
  refine k_iconst (np := 51) (v := 5) ok dX3_init_50 rfl rfl ?_
  refine k_copy (np := 54) (f := (fun _ => 0)) ok hF dX3_init_51 q29 q31 q30 q3 (by decide) rfl (by decide) (by decide) (by decide) rfl ?_
  show Gk E 2 4 59 23 (w48 (e_B E) (e_cI E) (e_cT E)) 54 [(0, vr 18)] [] _
  refine k_iconst (np := 55) (v := 0) ok dX3_init_54 rfl rfl ?_
  refine k_istore_n (np := 56) (lv' := [(1, vi 0), (0, vr 18)]) ok dX3_init_55 rfl (by decide) rfl rfl ?_
  refine k_iload_n (np := 57) ok 0 dX3_init_56 rfl rfl rfl ?_
  refine k_bipush (np := 59) (v := 6) ok dX3_init_57 rfl rfl ?_
  refine k_icmp_ge (np := 62) (tgt := 81) ok dX3_init_59 (by decide) rfl (fun h => absurd h (show ¬ (6 : Int32) ≤ 0 by decide)) (fun _ => ?_)
  refine k_aload_n (np := 63) ok 1 dX3_init_62 rfl rfl rfl ?_
  refine k_get (np := 66) (c := 3) (k := 5) (v := vr 22) (fs := [.ref (e_B E + 19), .ref (e_B E + 20), .ref (e_B E + 21), .int 0, .int 0, .ref (e_B E + 22), .int 0]) ok dX3_init_63 clsX3 (by decide) q78 (by decide) rfl rfl rfl ?_
  refine k_iload_n (np := 67) ok 0 dX3_init_66 rfl rfl rfl ?_
  refine k_newo (np := 70) (c := 4) (fs := [.int 0, .int 0, .int 0, .null]) ok dX3_init_67 clsX4 tyX4 tyX4_ok q25 q32 q4 (by decide) (Nat.le_trans (by decide) hc) (Nat.le_trans (by decide) hs) rfl ?_
  show Gk E 2 5 63 24 (w49 (e_B E) (e_cI E) (e_cT E)) 70 [(1, vi 0), (0, vr 18)] [vr 23, vi 0, vr 22] _
  refine k_dup (np := 71) ok dX3_init_70 rfl rfl ?_
  refine k_ctorN (np := 74) (f := w49) (av := []) (rest := [vr 23, vi 0, vr 22]) ok hF (kX4_init (e := w49) (j := 23) (n := 24) (by decide) (fun _ _ _ => rfl)) knX4_init q34 rfl q33 dX3_init_71 rfl rfl rfl (by decide) (by decide) (by decide) (Nat.le_trans (by decide) hc) (Nat.le_trans (by decide) hs) rfl ?_
  show Gk E 2 6 75 25 (w51 (e_B E) (e_cI E) (e_cT E)) 74 [(1, vi 0), (0, vr 18)] [vr 23, vi 0, vr 22] _
  refine k_astq (np := 75) (L := 6) (i := 0) (c2 := 4) (f := (fun _ => none)) (fs := [.int 0, .int 0, .int 0, .ref (e_B E + 24)]) ok dX3_init_74 (by decide) rfl clsX4 (by decide) rfl rfl (by decide) (by decide) rfl ?_
  show Gk E 2 6 75 25 (w52 (e_B E) (e_cI E) (e_cT E)) 75 [(1, vi 0), (0, vr 18)] [] _
  refine k_iinc (np := 78) (v := 1) (lv' := [(1, vi 1), (0, vr 18)]) ok 0 dX3_init_75 rfl (by decide) (by decide) rfl rfl ?_
  refine k_goto (tgt := 56) ok dX3_init_78 (by decide) ?_
  refine k_iload_n (np := 57) ok 0 dX3_init_56 rfl rfl rfl ?_
  refine k_bipush (np := 59) (v := 6) ok dX3_init_57 rfl rfl ?_
  refine k_icmp_ge (np := 62) (tgt := 81) ok dX3_init_59 (by decide) rfl (fun h => absurd h (show ¬ (6 : Int32) ≤ 1 by decide)) (fun _ => ?_)
  refine k_aload_n (np := 63) ok 1 dX3_init_62 rfl rfl rfl ?_
  refine k_get (np := 66) (c := 3) (k := 5) (v := vr 22) (fs := [.ref (e_B E + 19), .ref (e_B E + 20), .ref (e_B E + 21), .int 0, .int 0, .ref (e_B E + 22), .int 0]) ok dX3_init_63 clsX3 (by decide) q78 (by decide) rfl rfl rfl ?_
  refine k_iload_n (np := 67) ok 0 dX3_init_66 rfl rfl rfl ?_
  refine k_newo (np := 70) (c := 4) (fs := [.int 0, .int 0, .int 0, .null]) ok dX3_init_67 clsX4 tyX4 tyX4_ok q25 q32 q4 (by decide) (Nat.le_trans (by decide) hc) (Nat.le_trans (by decide) hs) rfl ?_
  show Gk E 2 7 79 26 (w53 (e_B E) (e_cI E) (e_cT E)) 70 [(1, vi 1), (0, vr 18)] [vr 25, vi 1, vr 22] _
  refine k_dup (np := 71) ok dX3_init_70 rfl rfl ?_
  refine k_ctorN (np := 74) (f := w53) (av := []) (rest := [vr 25, vi 1, vr 22]) ok hF (kX4_init (e := w53) (j := 25) (n := 26) (by decide) (fun _ _ _ => rfl)) knX4_init q34 rfl q33 dX3_init_71 rfl rfl rfl (by decide) (by decide) (by decide) (Nat.le_trans (by decide) hc) (Nat.le_trans (by decide) hs) rfl ?_
  show Gk E 2 8 91 27 (w55 (e_B E) (e_cI E) (e_cT E)) 74 [(1, vi 1), (0, vr 18)] [vr 25, vi 1, vr 22] _
  refine k_astq (np := 75) (L := 6) (i := 1) (c2 := 4) (f := (va_up (fun _ => none) 0 (some (e_B E + 23)))) (fs := [.int 0, .int 0, .int 0, .ref (e_B E + 26)]) ok dX3_init_74 (by decide) rfl clsX4 (by decide) rfl rfl (by decide) (by decide) rfl ?_
  show Gk E 2 8 91 27 (w56 (e_B E) (e_cI E) (e_cT E)) 75 [(1, vi 1), (0, vr 18)] [] _
  refine k_iinc (np := 78) (v := 2) (lv' := [(1, vi 2), (0, vr 18)]) ok 0 dX3_init_75 rfl (by decide) (by decide) rfl rfl ?_
  refine k_goto (tgt := 56) ok dX3_init_78 (by decide) ?_
  refine k_iload_n (np := 57) ok 0 dX3_init_56 rfl rfl rfl ?_
  refine k_bipush (np := 59) (v := 6) ok dX3_init_57 rfl rfl ?_
  refine k_icmp_ge (np := 62) (tgt := 81) ok dX3_init_59 (by decide) rfl (fun h => absurd h (show ¬ (6 : Int32) ≤ 2 by decide)) (fun _ => ?_)
  refine k_aload_n (np := 63) ok 1 dX3_init_62 rfl rfl rfl ?_
  refine k_get (np := 66) (c := 3) (k := 5) (v := vr 22) (fs := [.ref (e_B E + 19), .ref (e_B E + 20), .ref (e_B E + 21), .int 0, .int 0, .ref (e_B E + 22), .int 0]) ok dX3_init_63 clsX3 (by decide) q78 (by decide) rfl rfl rfl ?_
  refine k_iload_n (np := 67) ok 0 dX3_init_66 rfl rfl rfl ?_
  refine k_newo (np := 70) (c := 4) (fs := [.int 0, .int 0, .int 0, .null]) ok dX3_init_67 clsX4 tyX4 tyX4_ok q25 q32 q4 (by decide) (Nat.le_trans (by decide) hc) (Nat.le_trans (by decide) hs) rfl ?_
  show Gk E 2 9 95 28 (w57 (e_B E) (e_cI E) (e_cT E)) 70 [(1, vi 2), (0, vr 18)] [vr 27, vi 2, vr 22] _
  refine k_dup (np := 71) ok dX3_init_70 rfl rfl ?_
  refine k_ctorN (np := 74) (f := w57) (av := []) (rest := [vr 27, vi 2, vr 22]) ok hF (kX4_init (e := w57) (j := 27) (n := 28) (by decide) (fun _ _ _ => rfl)) knX4_init q34 rfl q33 dX3_init_71 rfl rfl rfl (by decide) (by decide) (by decide) (Nat.le_trans (by decide) hc) (Nat.le_trans (by decide) hs) rfl ?_
  show Gk E 2 10 107 29 (w59 (e_B E) (e_cI E) (e_cT E)) 74 [(1, vi 2), (0, vr 18)] [vr 27, vi 2, vr 22] _
  refine k_astq (np := 75) (L := 6) (i := 2) (c2 := 4) (f := (va_up (va_up (fun _ => none) 0 (some (e_B E + 23))) 1 (some (e_B E + 25)))) (fs := [.int 0, .int 0, .int 0, .ref (e_B E + 28)]) ok dX3_init_74 (by decide) rfl clsX4 (by decide) rfl rfl (by decide) (by decide) rfl ?_
  show Gk E 2 10 107 29 (w60 (e_B E) (e_cI E) (e_cT E)) 75 [(1, vi 2), (0, vr 18)] [] _
  refine k_iinc (np := 78) (v := 3) (lv' := [(1, vi 3), (0, vr 18)]) ok 0 dX3_init_75 rfl (by decide) (by decide) rfl rfl ?_
  refine k_goto (tgt := 56) ok dX3_init_78 (by decide) ?_
  refine k_iload_n (np := 57) ok 0 dX3_init_56 rfl rfl rfl ?_
  refine k_bipush (np := 59) (v := 6) ok dX3_init_57 rfl rfl ?_
  refine k_icmp_ge (np := 62) (tgt := 81) ok dX3_init_59 (by decide) rfl (fun h => absurd h (show ¬ (6 : Int32) ≤ 3 by decide)) (fun _ => ?_)
  refine k_aload_n (np := 63) ok 1 dX3_init_62 rfl rfl rfl ?_
  refine k_get (np := 66) (c := 3) (k := 5) (v := vr 22) (fs := [.ref (e_B E + 19), .ref (e_B E + 20), .ref (e_B E + 21), .int 0, .int 0, .ref (e_B E + 22), .int 0]) ok dX3_init_63 clsX3 (by decide) q78 (by decide) rfl rfl rfl ?_
  refine k_iload_n (np := 67) ok 0 dX3_init_66 rfl rfl rfl ?_
  refine k_newo (np := 70) (c := 4) (fs := [.int 0, .int 0, .int 0, .null]) ok dX3_init_67 clsX4 tyX4 tyX4_ok q25 q32 q4 (by decide) (Nat.le_trans (by decide) hc) (Nat.le_trans (by decide) hs) rfl ?_
  show Gk E 2 11 111 30 (w61 (e_B E) (e_cI E) (e_cT E)) 70 [(1, vi 3), (0, vr 18)] [vr 29, vi 3, vr 22] _
  refine k_dup (np := 71) ok dX3_init_70 rfl rfl ?_
  refine k_ctorN (np := 74) (f := w61) (av := []) (rest := [vr 29, vi 3, vr 22]) ok hF (kX4_init (e := w61) (j := 29) (n := 30) (by decide) (fun _ _ _ => rfl)) knX4_init q34 rfl q33 dX3_init_71 rfl rfl rfl (by decide) (by decide) (by decide) (Nat.le_trans (by decide) hc) (Nat.le_trans (by decide) hs) rfl ?_
  show Gk E 2 12 123 31 (w63 (e_B E) (e_cI E) (e_cT E)) 74 [(1, vi 3), (0, vr 18)] [vr 29, vi 3, vr 22] _
  refine k_astq (np := 75) (L := 6) (i := 3) (c2 := 4) (f := (va_up (va_up (va_up (fun _ => none) 0 (some (e_B E + 23))) 1 (some (e_B E + 25))) 2 (some (e_B E + 27)))) (fs := [.int 0, .int 0, .int 0, .ref (e_B E + 30)]) ok dX3_init_74 (by decide) rfl clsX4 (by decide) rfl rfl (by decide) (by decide) rfl ?_
  show Gk E 2 12 123 31 (w64 (e_B E) (e_cI E) (e_cT E)) 75 [(1, vi 3), (0, vr 18)] [] _
  refine k_iinc (np := 78) (v := 4) (lv' := [(1, vi 4), (0, vr 18)]) ok 0 dX3_init_75 rfl (by decide) (by decide) rfl rfl ?_
  refine k_goto (tgt := 56) ok dX3_init_78 (by decide) ?_
  refine k_iload_n (np := 57) ok 0 dX3_init_56 rfl rfl rfl ?_
  refine k_bipush (np := 59) (v := 6) ok dX3_init_57 rfl rfl ?_
  refine k_icmp_ge (np := 62) (tgt := 81) ok dX3_init_59 (by decide) rfl (fun h => absurd h (show ¬ (6 : Int32) ≤ 4 by decide)) (fun _ => ?_)
  refine k_aload_n (np := 63) ok 1 dX3_init_62 rfl rfl rfl ?_
  refine k_get (np := 66) (c := 3) (k := 5) (v := vr 22) (fs := [.ref (e_B E + 19), .ref (e_B E + 20), .ref (e_B E + 21), .int 0, .int 0, .ref (e_B E + 22), .int 0]) ok dX3_init_63 clsX3 (by decide) q78 (by decide) rfl rfl rfl ?_
  refine k_iload_n (np := 67) ok 0 dX3_init_66 rfl rfl rfl ?_
  refine k_newo (np := 70) (c := 4) (fs := [.int 0, .int 0, .int 0, .null]) ok dX3_init_67 clsX4 tyX4 tyX4_ok q25 q32 q4 (by decide) (Nat.le_trans (by decide) hc) (Nat.le_trans (by decide) hs) rfl ?_
  show Gk E 2 13 127 32 (w65 (e_B E) (e_cI E) (e_cT E)) 70 [(1, vi 4), (0, vr 18)] [vr 31, vi 4, vr 22] _
  refine k_dup (np := 71) ok dX3_init_70 rfl rfl ?_
  refine k_ctorN (np := 74) (f := w65) (av := []) (rest := [vr 31, vi 4, vr 22]) ok hF (kX4_init (e := w65) (j := 31) (n := 32) (by decide) (fun _ _ _ => rfl)) knX4_init q34 rfl q33 dX3_init_71 rfl rfl rfl (by decide) (by decide) (by decide) (Nat.le_trans (by decide) hc) (Nat.le_trans (by decide) hs) rfl ?_
  show Gk E 2 14 139 33 (w67 (e_B E) (e_cI E) (e_cT E)) 74 [(1, vi 4), (0, vr 18)] [vr 31, vi 4, vr 22] _
  refine k_astq (np := 75) (L := 6) (i := 4) (c2 := 4) (f := (va_up (va_up (va_up (va_up (fun _ => none) 0 (some (e_B E + 23))) 1 (some (e_B E + 25))) 2 (some (e_B E + 27))) 3 (some (e_B E + 29)))) (fs := [.int 0, .int 0, .int 0, .ref (e_B E + 32)]) ok dX3_init_74 (by decide) rfl clsX4 (by decide) rfl rfl (by decide) (by decide) rfl ?_
  show Gk E 2 14 139 33 (w68 (e_B E) (e_cI E) (e_cT E)) 75 [(1, vi 4), (0, vr 18)] [] _
  refine k_iinc (np := 78) (v := 5) (lv' := [(1, vi 5), (0, vr 18)]) ok 0 dX3_init_75 rfl (by decide) (by decide) rfl rfl ?_
  refine k_goto (tgt := 56) ok dX3_init_78 (by decide) ?_
  refine k_iload_n (np := 57) ok 0 dX3_init_56 rfl rfl rfl ?_
  refine k_bipush (np := 59) (v := 6) ok dX3_init_57 rfl rfl ?_
  refine k_icmp_ge (np := 62) (tgt := 81) ok dX3_init_59 (by decide) rfl (fun h => absurd h (show ¬ (6 : Int32) ≤ 5 by decide)) (fun _ => ?_)
  refine k_aload_n (np := 63) ok 1 dX3_init_62 rfl rfl rfl ?_
  refine k_get (np := 66) (c := 3) (k := 5) (v := vr 22) (fs := [.ref (e_B E + 19), .ref (e_B E + 20), .ref (e_B E + 21), .int 0, .int 0, .ref (e_B E + 22), .int 0]) ok dX3_init_63 clsX3 (by decide) q78 (by decide) rfl rfl rfl ?_
  refine k_iload_n (np := 67) ok 0 dX3_init_66 rfl rfl rfl ?_
  refine k_newo (np := 70) (c := 4) (fs := [.int 0, .int 0, .int 0, .null]) ok dX3_init_67 clsX4 tyX4 tyX4_ok q25 q32 q4 (by decide) (Nat.le_trans (by decide) hc) (Nat.le_trans (by decide) hs) rfl ?_
  show Gk E 2 15 143 34 (w69 (e_B E) (e_cI E) (e_cT E)) 70 [(1, vi 5), (0, vr 18)] [vr 33, vi 5, vr 22] _
  refine k_dup (np := 71) ok dX3_init_70 rfl rfl ?_
  refine k_ctorN (np := 74) (f := w69) (av := []) (rest := [vr 33, vi 5, vr 22]) ok hF (kX4_init (e := w69) (j := 33) (n := 34) (by decide) (fun _ _ _ => rfl)) knX4_init q34 rfl q33 dX3_init_71 rfl rfl rfl (by decide) (by decide) (by decide) (Nat.le_trans (by decide) hc) (Nat.le_trans (by decide) hs) rfl ?_
  show Gk E 2 16 155 35 (w71 (e_B E) (e_cI E) (e_cT E)) 74 [(1, vi 5), (0, vr 18)] [vr 33, vi 5, vr 22] _
  refine k_astq (np := 75) (L := 6) (i := 5) (c2 := 4) (f := (va_up (va_up (va_up (va_up (va_up (fun _ => none) 0 (some (e_B E + 23))) 1 (some (e_B E + 25))) 2 (some (e_B E + 27))) 3 (some (e_B E + 29))) 4 (some (e_B E + 31)))) (fs := [.int 0, .int 0, .int 0, .ref (e_B E + 34)]) ok dX3_init_74 (by decide) rfl clsX4 (by decide) rfl rfl (by decide) (by decide) rfl ?_
  show Gk E 2 16 155 35 (w72 (e_B E) (e_cI E) (e_cT E)) 75 [(1, vi 5), (0, vr 18)] [] _
  refine k_iinc (np := 78) (v := 6) (lv' := [(1, vi 6), (0, vr 18)]) ok 0 dX3_init_75 rfl (by decide) (by decide) rfl rfl ?_
  refine k_goto (tgt := 56) ok dX3_init_78 (by decide) ?_
  refine k_iload_n (np := 57) ok 0 dX3_init_56 rfl rfl rfl ?_
  refine k_bipush (np := 59) (v := 6) ok dX3_init_57 rfl rfl ?_
  refine k_icmp_ge (np := 62) (tgt := 81) ok dX3_init_59 (by decide) rfl (fun _ => ?_) (fun h => absurd (show (6 : Int32) ≤ 6 by decide) h)
  exact k_ret ok hr hk dX3_init_81
def w73 : EV := fun B cI cT => ue (w72 B cI cT) 0 (.inr (5, [.ref (B + 1), .ref (B + 18), .int 0, .null, .null, .null, .null, .int 0, .null]))
def w74 : EV := fun B cI cT => ue (w73 B cI cT) 35 (.inr (2, [.null, .null]))
theorem knX2_init : Kn yX2_init cX2_init 2 none 1 := ⟨q104, q5, ⟨by decide, by decide⟩, by decide +kernel⟩
def w75 : EV := fun B cI cT => ue (w74 B cI cT) 36 (.inl (cI, 30, .inl (fun _ => 0)))
def w76 : EV := fun B cI cT => ue (w75 B cI cT) 35 (.inr (2, [.null, .ref (B + 36)]))
def w77 : EV := fun B cI cT => ue (w76 B cI cT) 35 (.inr (2, [.ref (B + 1), .ref (B + 36)]))
theorem kX2_init_35 : Ck yX2_init cX2_init 2 1 20 [vr 35, vr 1] 1 30 36 w74 37 w77 := by
  refine Ck.mk (lv := [(0, vr 35), (1, vr 1)]) (by decide) (Nat.le_of_ble_eq_true rfl) rfl (fun E t0 ok hr hk hin hF hc hs => ?_)
  refine k_aload_n (np := 1) ok 0 dX2_init_0 rfl rfl rfl ?_
  refine k_obj (np := 4) ok dX2_init_1 q105 q17 q18 (by decide) (by decide) (by decide) rfl ?_
  refine k_aload_n (np := 5) ok 0 dX2_init_4 rfl rfl rfl ?_
  refine k_bipush (np := 7) (v := 30) ok dX2_init_5 rfl rfl ?_
  refine k_newi (np := 9) (N := 30) ok dX2_init_7 rfl (by decide) (by decide) (Nat.le_trans (by decide) hc) (Nat.le_trans (by decide) hs) rfl ?_
  show Gk E 2 1 30 37 (w75 (e_B E) (e_cI E) (e_cT E)) 9 [(0, vr 35), (1, vr 1)] [vr 36, vr 35] _
  refine k_put (np := 12) (c := 2) (k := 1) (fs := [.null, .null]) ok hin dX2_init_9 clsX2 tyX2 tyX2_ok nmX2 (by decide) q107 (by decide) rfl rfl (fun _ => rfl) (fun _ => rfl) (Nat.le_of_ble_eq_true rfl) rfl ?_
  show Gk E 2 1 30 37 (w76 (e_B E) (e_cI E) (e_cT E)) 12 [(0, vr 35), (1, vr 1)] [] _
  refine k_aload_n (np := 13) ok 0 dX2_init_12 rfl rfl rfl ?_
  refine k_aload_n (np := 14) ok 1 dX2_init_13 rfl rfl rfl ?_
  refine k_put (np := 17) (c := 2) (k := 0) (fs := [.null, .ref (e_B E + 36)]) ok hin dX2_init_14 clsX2 tyX2 tyX2_ok nmX2 (by decide) q106 (by decide) rfl rfl (fun _ => rfl) (fun _ => rfl) (Nat.le_of_ble_eq_true rfl) rfl ?_
  show Gk E 2 1 30 37 (w77 (e_B E) (e_cI E) (e_cT E)) 17 [(0, vr 35), (1, vr 1)] [] _
  exact k_ret ok hr hk dX2_init_17
def w78 : EV := fun B cI cT => ue (w77 B cI cT) 0 (.inr (5, [.ref (B + 1), .ref (B + 18), .int 0, .ref (B + 35), .null, .null, .null, .int 0, .null]))
def w79 : EV := fun B cI cT => ue (w78 B cI cT) 37 (.inr (1, [.null, .null, .int 0]))
theorem knX1_init : Kn yX1_init cX1_init 3 none 1 := ⟨q117, q6, ⟨by decide, by decide⟩, by decide +kernel⟩
def w80 : EV := fun B cI cT => ue (w79 B cI cT) 38 (.inl (cT, 4, .inr (.inr (.inr (.inr (fun _ => none))))))
def w81 : EV := fun B cI cT => ue (w80 B cI cT) 37 (.inr (1, [.null, .ref (B + 38), .int 0]))
def w82 : EV := fun B cI cT => ue (w81 B cI cT) 37 (.inr (1, [.ref (B + 1), .ref (B + 38), .int 0]))
def w83 : EV := fun B cI cT => ue (w82 B cI cT) 39 (.inr (4, [.int 0, .int 0, .int 0, .null]))
def w84 : EV := fun B cI cT => ue (w83 B cI cT) 40 (.inl (cI, 12, .inl (fun _ => 0)))
def w85 : EV := fun B cI cT => ue (w84 B cI cT) 39 (.inr (4, [.int 0, .int 0, .int 0, .ref (B + 40)]))
def w86 : EV := fun B cI cT => ue (w85 B cI cT) 38 (.inl (cT, 4, .inr (.inr (.inr (.inr (va_up (fun _ => none) 0 (some (B + 39))))))))
def w87 : EV := fun B cI cT => ue (w86 B cI cT) 41 (.inr (4, [.int 0, .int 0, .int 0, .null]))
def w88 : EV := fun B cI cT => ue (w87 B cI cT) 42 (.inl (cI, 12, .inl (fun _ => 0)))
def w89 : EV := fun B cI cT => ue (w88 B cI cT) 41 (.inr (4, [.int 0, .int 0, .int 0, .ref (B + 42)]))
def w90 : EV := fun B cI cT => ue (w89 B cI cT) 38 (.inl (cT, 4, .inr (.inr (.inr (.inr (va_up (va_up (fun _ => none) 0 (some (B + 39))) 1 (some (B + 41))))))))
def w91 : EV := fun B cI cT => ue (w90 B cI cT) 43 (.inr (4, [.int 0, .int 0, .int 0, .null]))
def w92 : EV := fun B cI cT => ue (w91 B cI cT) 44 (.inl (cI, 12, .inl (fun _ => 0)))
def w93 : EV := fun B cI cT => ue (w92 B cI cT) 43 (.inr (4, [.int 0, .int 0, .int 0, .ref (B + 44)]))
def w94 : EV := fun B cI cT => ue (w93 B cI cT) 38 (.inl (cT, 4, .inr (.inr (.inr (.inr (va_up (va_up (va_up (fun _ => none) 0 (some (B + 39))) 1 (some (B + 41))) 2 (some (B + 43))))))))
def w95 : EV := fun B cI cT => ue (w94 B cI cT) 45 (.inr (4, [.int 0, .int 0, .int 0, .null]))
def w96 : EV := fun B cI cT => ue (w95 B cI cT) 46 (.inl (cI, 12, .inl (fun _ => 0)))
def w97 : EV := fun B cI cT => ue (w96 B cI cT) 45 (.inr (4, [.int 0, .int 0, .int 0, .ref (B + 46)]))
def w98 : EV := fun B cI cT => ue (w97 B cI cT) 38 (.inl (cT, 4, .inr (.inr (.inr (.inr (va_up (va_up (va_up (va_up (fun _ => none) 0 (some (B + 39))) 1 (some (B + 41))) 2 (some (B + 43))) 3 (some (B + 45))))))))
theorem kX1_init_37 : Ck yX1_init cX1_init 3 2 40 [vr 37, vr 1] 9 68 38 w79 47 w98 := by
  refine Ck.mk (lv := [(0, vr 37), (1, vr 1)]) (by decide) (Nat.le_of_ble_eq_true rfl) rfl (fun E t0 ok hr hk hin hF hc hs => ?_)
  refine k_aload_n (np := 1) ok 0 dX1_init_0 rfl rfl rfl ?_
  refine k_obj (np := 4) ok dX1_init_1 q118 q17 q18 (by decide) (by decide) (by decide) rfl ?_
  refine k_aload_n (np := 5) ok 0 dX1_init_4 rfl rfl rfl ?_
  refine k_iconst (np := 6) (v := 4) ok dX1_init_5 rfl rfl ?_
  refine k_newq (np := 9) (N := 4) ok hF dX1_init_6 q119 rfl (by decide) (by decide) (Nat.le_trans (by decide) hc) (Nat.le_trans (by decide) hs) rfl ?_
  show Gk E 3 1 4 39 (w80 (e_B E) (e_cI E) (e_cT E)) 9 [(0, vr 37), (1, vr 1)] [vr 38, vr 37] _
  refine k_put (np := 12) (c := 1) (k := 1) (fs := [.null, .null, .int 0]) ok hin dX1_init_9 clsX1 tyX1 tyX1_ok nmX1 (by decide) q122 (by decide) rfl rfl (fun _ => rfl) (fun _ => rfl) (Nat.le_of_ble_eq_true rfl) rfl ?_
  show Gk E 3 1 4 39 (w81 (e_B E) (e_cI E) (e_cT E)) 12 [(0, vr 37), (1, vr 1)] [] _
  refine k_aload_n (np := 13) ok 0 dX1_init_12 rfl rfl rfl ?_
  refine k_aload_n (np := 14) ok 1 dX1_init_13 rfl rfl rfl ?_
  refine k_put (np := 17) (c := 1) (k := 0) (fs := [.null, .ref (e_B E + 38), .int 0]) ok hin dX1_init_14 clsX1 tyX1 tyX1_ok nmX1 (by decide) q121 (by decide) rfl rfl (fun _ => rfl) (fun _ => rfl) (Nat.le_of_ble_eq_true rfl) rfl ?_
  show Gk E 3 1 4 39 (w82 (e_B E) (e_cI E) (e_cT E)) 17 [(0, vr 37), (1, vr 1)] [] _
  refine k_iconst (np := 18) (v := 0) ok dX1_init_17 rfl rfl ?_
  refine k_istore_n (np := 19) (lv' := [(2, vi 0), (0, vr 37), (1, vr 1)]) ok dX1_init_18 rfl (by decide) rfl rfl ?_
  refine k_iload_n (np := 20) ok 0 dX1_init_19 rfl rfl rfl ?_
  refine k_iconst (np := 21) (v := 4) ok dX1_init_20 rfl rfl ?_
  refine k_icmp_ge (np := 24) (tgt := 43) ok dX1_init_21 (by decide) rfl (fun h => absurd h (show ¬ (4 : Int32) ≤ 0 by decide)) (fun _ => ?_)
  refine k_aload_n (np := 25) ok 1 dX1_init_24 rfl rfl rfl ?_
  refine k_get (np := 28) (c := 1) (k := 1) (v := vr 38) (fs := [.ref (e_B E + 1), .ref (e_B E + 38), .int 0]) ok dX1_init_25 clsX1 (by decide) q122 (by decide) rfl rfl rfl ?_
  refine k_iload_n (np := 29) ok 0 dX1_init_28 rfl rfl rfl ?_
  refine k_newo (np := 32) (c := 4) (fs := [.int 0, .int 0, .int 0, .null]) ok dX1_init_29 clsX4 tyX4 tyX4_ok q119 q32 q4 (by decide) (Nat.le_trans (by decide) hc) (Nat.le_trans (by decide) hs) rfl ?_
  show Gk E 3 2 8 40 (w83 (e_B E) (e_cI E) (e_cT E)) 32 [(2, vi 0), (0, vr 37), (1, vr 1)] [vr 39, vi 0, vr 38] _
  refine k_dup (np := 33) ok dX1_init_32 rfl rfl ?_
  refine k_ctorN (np := 36) (f := w83) (av := []) (rest := [vr 39, vi 0, vr 38]) ok hF (kX4_init (e := w83) (j := 39) (n := 40) (by decide) (fun _ _ _ => rfl)) knX4_init q34 rfl q120 dX1_init_33 rfl rfl rfl (by decide) (by decide) (by decide) (Nat.le_trans (by decide) hc) (Nat.le_trans (by decide) hs) rfl ?_
  show Gk E 3 3 20 41 (w85 (e_B E) (e_cI E) (e_cT E)) 36 [(2, vi 0), (0, vr 37), (1, vr 1)] [vr 39, vi 0, vr 38] _
  refine k_astq (np := 37) (L := 4) (i := 0) (c2 := 4) (f := (fun _ => none)) (fs := [.int 0, .int 0, .int 0, .ref (e_B E + 40)]) ok dX1_init_36 (by decide) rfl clsX4 (by decide) rfl rfl (by decide) (by decide) rfl ?_
  show Gk E 3 3 20 41 (w86 (e_B E) (e_cI E) (e_cT E)) 37 [(2, vi 0), (0, vr 37), (1, vr 1)] [] _
  refine k_iinc (np := 40) (v := 1) (lv' := [(2, vi 1), (0, vr 37), (1, vr 1)]) ok 0 dX1_init_37 rfl (by decide) (by decide) rfl rfl ?_
  refine k_goto (tgt := 19) ok dX1_init_40 (by decide) ?_
  refine k_iload_n (np := 20) ok 0 dX1_init_19 rfl rfl rfl ?_
  refine k_iconst (np := 21) (v := 4) ok dX1_init_20 rfl rfl ?_
  refine k_icmp_ge (np := 24) (tgt := 43) ok dX1_init_21 (by decide) rfl (fun h => absurd h (show ¬ (4 : Int32) ≤ 1 by decide)) (fun _ => ?_)
  refine k_aload_n (np := 25) ok 1 dX1_init_24 rfl rfl rfl ?_
  refine k_get (np := 28) (c := 1) (k := 1) (v := vr 38) (fs := [.ref (e_B E + 1), .ref (e_B E + 38), .int 0]) ok dX1_init_25 clsX1 (by decide) q122 (by decide) rfl rfl rfl ?_
  refine k_iload_n (np := 29) ok 0 dX1_init_28 rfl rfl rfl ?_
  refine k_newo (np := 32) (c := 4) (fs := [.int 0, .int 0, .int 0, .null]) ok dX1_init_29 clsX4 tyX4 tyX4_ok q119 q32 q4 (by decide) (Nat.le_trans (by decide) hc) (Nat.le_trans (by decide) hs) rfl ?_
  show Gk E 3 4 24 42 (w87 (e_B E) (e_cI E) (e_cT E)) 32 [(2, vi 1), (0, vr 37), (1, vr 1)] [vr 41, vi 1, vr 38] _
  refine k_dup (np := 33) ok dX1_init_32 rfl rfl ?_
  refine k_ctorN (np := 36) (f := w87) (av := []) (rest := [vr 41, vi 1, vr 38]) ok hF (kX4_init (e := w87) (j := 41) (n := 42) (by decide) (fun _ _ _ => rfl)) knX4_init q34 rfl q120 dX1_init_33 rfl rfl rfl (by decide) (by decide) (by decide) (Nat.le_trans (by decide) hc) (Nat.le_trans (by decide) hs) rfl ?_
  show Gk E 3 5 36 43 (w89 (e_B E) (e_cI E) (e_cT E)) 36 [(2, vi 1), (0, vr 37), (1, vr 1)] [vr 41, vi 1, vr 38] _
  refine k_astq (np := 37) (L := 4) (i := 1) (c2 := 4) (f := (va_up (fun _ => none) 0 (some (e_B E + 39)))) (fs := [.int 0, .int 0, .int 0, .ref (e_B E + 42)]) ok dX1_init_36 (by decide) rfl clsX4 (by decide) rfl rfl (by decide) (by decide) rfl ?_
  show Gk E 3 5 36 43 (w90 (e_B E) (e_cI E) (e_cT E)) 37 [(2, vi 1), (0, vr 37), (1, vr 1)] [] _
  refine k_iinc (np := 40) (v := 2) (lv' := [(2, vi 2), (0, vr 37), (1, vr 1)]) ok 0 dX1_init_37 rfl (by decide) (by decide) rfl rfl ?_
  refine k_goto (tgt := 19) ok dX1_init_40 (by decide) ?_
  refine k_iload_n (np := 20) ok 0 dX1_init_19 rfl rfl rfl ?_
  refine k_iconst (np := 21) (v := 4) ok dX1_init_20 rfl rfl ?_
  refine k_icmp_ge (np := 24) (tgt := 43) ok dX1_init_21 (by decide) rfl (fun h => absurd h (show ¬ (4 : Int32) ≤ 2 by decide)) (fun _ => ?_)
  refine k_aload_n (np := 25) ok 1 dX1_init_24 rfl rfl rfl ?_
  refine k_get (np := 28) (c := 1) (k := 1) (v := vr 38) (fs := [.ref (e_B E + 1), .ref (e_B E + 38), .int 0]) ok dX1_init_25 clsX1 (by decide) q122 (by decide) rfl rfl rfl ?_
  refine k_iload_n (np := 29) ok 0 dX1_init_28 rfl rfl rfl ?_
  refine k_newo (np := 32) (c := 4) (fs := [.int 0, .int 0, .int 0, .null]) ok dX1_init_29 clsX4 tyX4 tyX4_ok q119 q32 q4 (by decide) (Nat.le_trans (by decide) hc) (Nat.le_trans (by decide) hs) rfl ?_
  show Gk E 3 6 40 44 (w91 (e_B E) (e_cI E) (e_cT E)) 32 [(2, vi 2), (0, vr 37), (1, vr 1)] [vr 43, vi 2, vr 38] _
  refine k_dup (np := 33) ok dX1_init_32 rfl rfl ?_
  refine k_ctorN (np := 36) (f := w91) (av := []) (rest := [vr 43, vi 2, vr 38]) ok hF (kX4_init (e := w91) (j := 43) (n := 44) (by decide) (fun _ _ _ => rfl)) knX4_init q34 rfl q120 dX1_init_33 rfl rfl rfl (by decide) (by decide) (by decide) (Nat.le_trans (by decide) hc) (Nat.le_trans (by decide) hs) rfl ?_
  show Gk E 3 7 52 45 (w93 (e_B E) (e_cI E) (e_cT E)) 36 [(2, vi 2), (0, vr 37), (1, vr 1)] [vr 43, vi 2, vr 38] _
  refine k_astq (np := 37) (L := 4) (i := 2) (c2 := 4) (f := (va_up (va_up (fun _ => none) 0 (some (e_B E + 39))) 1 (some (e_B E + 41)))) (fs := [.int 0, .int 0, .int 0, .ref (e_B E + 44)]) ok dX1_init_36 (by decide) rfl clsX4 (by decide) rfl rfl (by decide) (by decide) rfl ?_
  show Gk E 3 7 52 45 (w94 (e_B E) (e_cI E) (e_cT E)) 37 [(2, vi 2), (0, vr 37), (1, vr 1)] [] _
  refine k_iinc (np := 40) (v := 3) (lv' := [(2, vi 3), (0, vr 37), (1, vr 1)]) ok 0 dX1_init_37 rfl (by decide) (by decide) rfl rfl ?_
  refine k_goto (tgt := 19) ok dX1_init_40 (by decide) ?_
  refine k_iload_n (np := 20) ok 0 dX1_init_19 rfl rfl rfl ?_
  refine k_iconst (np := 21) (v := 4) ok dX1_init_20 rfl rfl ?_
  refine k_icmp_ge (np := 24) (tgt := 43) ok dX1_init_21 (by decide) rfl (fun h => absurd h (show ¬ (4 : Int32) ≤ 3 by decide)) (fun _ => ?_)
  refine k_aload_n (np := 25) ok 1 dX1_init_24 rfl rfl rfl ?_
  refine k_get (np := 28) (c := 1) (k := 1) (v := vr 38) (fs := [.ref (e_B E + 1), .ref (e_B E + 38), .int 0]) ok dX1_init_25 clsX1 (by decide) q122 (by decide) rfl rfl rfl ?_
  refine k_iload_n (np := 29) ok 0 dX1_init_28 rfl rfl rfl ?_
  refine k_newo (np := 32) (c := 4) (fs := [.int 0, .int 0, .int 0, .null]) ok dX1_init_29 clsX4 tyX4 tyX4_ok q119 q32 q4 (by decide) (Nat.le_trans (by decide) hc) (Nat.le_trans (by decide) hs) rfl ?_
  show Gk E 3 8 56 46 (w95 (e_B E) (e_cI E) (e_cT E)) 32 [(2, vi 3), (0, vr 37), (1, vr 1)] [vr 45, vi 3, vr 38] _
  refine k_dup (np := 33) ok dX1_init_32 rfl rfl ?_
  refine k_ctorN (np := 36) (f := w95) (av := []) (rest := [vr 45, vi 3, vr 38]) ok hF (kX4_init (e := w95) (j := 45) (n := 46) (by decide) (fun _ _ _ => rfl)) knX4_init q34 rfl q120 dX1_init_33 rfl rfl rfl (by decide) (by decide) (by decide) (Nat.le_trans (by decide) hc) (Nat.le_trans (by decide) hs) rfl ?_
  show Gk E 3 9 68 47 (w97 (e_B E) (e_cI E) (e_cT E)) 36 [(2, vi 3), (0, vr 37), (1, vr 1)] [vr 45, vi 3, vr 38] _
  refine k_astq (np := 37) (L := 4) (i := 3) (c2 := 4) (f := (va_up (va_up (va_up (fun _ => none) 0 (some (e_B E + 39))) 1 (some (e_B E + 41))) 2 (some (e_B E + 43)))) (fs := [.int 0, .int 0, .int 0, .ref (e_B E + 46)]) ok dX1_init_36 (by decide) rfl clsX4 (by decide) rfl rfl (by decide) (by decide) rfl ?_
  show Gk E 3 9 68 47 (w98 (e_B E) (e_cI E) (e_cT E)) 37 [(2, vi 3), (0, vr 37), (1, vr 1)] [] _
  refine k_iinc (np := 40) (v := 4) (lv' := [(2, vi 4), (0, vr 37), (1, vr 1)]) ok 0 dX1_init_37 rfl (by decide) (by decide) rfl rfl ?_
  refine k_goto (tgt := 19) ok dX1_init_40 (by decide) ?_
  refine k_iload_n (np := 20) ok 0 dX1_init_19 rfl rfl rfl ?_
  refine k_iconst (np := 21) (v := 4) ok dX1_init_20 rfl rfl ?_
  refine k_icmp_ge (np := 24) (tgt := 43) ok dX1_init_21 (by decide) rfl (fun _ => ?_) (fun h => absurd (show (4 : Int32) ≤ 4 by decide) h)
  exact k_ret ok hr hk dX1_init_43
def w99 : EV := fun B cI cT => ue (w98 B cI cT) 0 (.inr (5, [.ref (B + 1), .ref (B + 18), .int 0, .ref (B + 35), .ref (B + 37), .null, .null, .int 0, .null]))
def w100 : EV := fun B cI cT => ue (w99 B cI cT) 47 (.inr (0, [.null, .int 0, .null, .int 0, .int 0]))
theorem knX0_init : Kn yX0_init cX0_init 1 none 0 := ⟨q135, q7, ⟨by decide, by decide⟩, by decide +kernel⟩
def w101 : EV := fun B cI cT => ue (w100 B cI cT) 48 (.inl (cI, 96, .inl (fun _ => 0)))
def w102 : EV := fun B cI cT => ue (w101 B cI cT) 47 (.inr (0, [.ref (B + 48), .int 0, .null, .int 0, .int 0]))
def w103 : EV := fun B cI cT => ue (w102 B cI cT) 49 (.inl (cI, 96, .inl (fun _ => 0)))
def w104 : EV := fun B cI cT => ue (w103 B cI cT) 47 (.inr (0, [.ref (B + 48), .int 0, .ref (B + 49), .int 0, .int 0]))
theorem kX0_init_47 : Ck yX0_init cX0_init 1 1 20 [vr 47] 2 192 48 w100 50 w104 := by
  refine Ck.mk (lv := [(0, vr 47)]) (by decide) (Nat.le_of_ble_eq_true rfl) rfl (fun E t0 ok hr hk hin hF hc hs => ?_)
  refine k_aload_n (np := 1) ok 0 dX0_init_0 rfl rfl rfl ?_
  refine k_obj (np := 4) ok dX0_init_1 q136 q17 q18 (by decide) (by decide) (by decide) rfl ?_
  refine k_aload_n (np := 5) ok 0 dX0_init_4 rfl rfl rfl ?_
  refine k_bipush (np := 7) (v := 96) ok dX0_init_5 rfl rfl ?_
  refine k_newi (np := 9) (N := 96) ok dX0_init_7 rfl (by decide) (by decide) (Nat.le_trans (by decide) hc) (Nat.le_trans (by decide) hs) rfl ?_
  show Gk E 1 1 96 49 (w101 (e_B E) (e_cI E) (e_cT E)) 9 [(0, vr 47)] [vr 48, vr 47] _
  refine k_put (np := 12) (c := 0) (k := 0) (fs := [.null, .int 0, .null, .int 0, .int 0]) ok hin dX0_init_9 clsX0 tyX0 tyX0_ok nmX0 (by decide) q137 (by decide) rfl rfl (fun _ => rfl) (fun _ => rfl) (Nat.le_of_ble_eq_true rfl) rfl ?_
  show Gk E 1 1 96 49 (w102 (e_B E) (e_cI E) (e_cT E)) 12 [(0, vr 47)] [] _
  refine k_aload_n (np := 13) ok 0 dX0_init_12 rfl rfl rfl ?_
  refine k_bipush (np := 15) (v := 96) ok dX0_init_13 rfl rfl ?_
  refine k_newi (np := 17) (N := 96) ok dX0_init_15 rfl (by decide) (by decide) (Nat.le_trans (by decide) hc) (Nat.le_trans (by decide) hs) rfl ?_
  show Gk E 1 2 192 50 (w103 (e_B E) (e_cI E) (e_cT E)) 17 [(0, vr 47)] [vr 49, vr 47] _
  refine k_put (np := 20) (c := 0) (k := 2) (fs := [.ref (e_B E + 48), .int 0, .null, .int 0, .int 0]) ok hin dX0_init_17 clsX0 tyX0 tyX0_ok nmX0 (by decide) q140 (by decide) rfl rfl (fun _ => rfl) (fun _ => rfl) (Nat.le_of_ble_eq_true rfl) rfl ?_
  show Gk E 1 2 192 50 (w104 (e_B E) (e_cI E) (e_cT E)) 20 [(0, vr 47)] [] _
  exact k_ret ok hr hk dX0_init_20
def w105 : EV := fun B cI cT => ue (w104 B cI cT) 0 (.inr (5, [.ref (B + 1), .ref (B + 18), .int 0, .ref (B + 35), .ref (B + 37), .ref (B + 47), .null, .int 0, .null]))
def w106 : EV := fun B cI cT => ue (w105 B cI cT) 50 (.inl (cI, 12, .inl (fun _ => 0)))
def w107 : EV := fun B cI cT => ue (w106 B cI cT) 0 (.inr (5, [.ref (B + 1), .ref (B + 18), .int 0, .ref (B + 35), .ref (B + 37), .ref (B + 47), .ref (B + 50), .int 0, .null]))
def w108 : EV := fun B cI cT => ue (w107 B cI cT) 51 (.inl (cI, 7, .inl (fun _ => 0)))
def w109 : EV := fun B cI cT => ue (w108 B cI cT) 0 (.inr (5, [.ref (B + 1), .ref (B + 18), .int 0, .ref (B + 35), .ref (B + 37), .ref (B + 47), .ref (B + 50), .int 0, .ref (B + 51)]))
theorem kX5_init_0 : Ck yX5_init cX5_init 1 3 81 [vr 0] 51 643 1 w1 52 w109 := by
  refine Ck.mk (lv := [(0, vr 0)]) (by decide) (Nat.le_of_ble_eq_true rfl) rfl (fun E t0 ok hr hk hin hF hc hs => ?_)
  refine k_aload_n (np := 1) ok 0 dX5_init_0 rfl rfl rfl ?_
  refine k_obj (np := 4) ok dX5_init_1 q16 q17 q18 (by decide) (by decide) (by decide) rfl ?_
  refine k_aload_n (np := 5) ok 0 dX5_init_4 rfl rfl rfl ?_
  refine k_newo (np := 8) (c := 3) (fs := [.null, .null, .null, .int 0, .int 0, .null, .int 0]) ok dX5_init_5 clsX3 tyX3 tyX3_ok q19 q20 q2 (by decide) (Nat.le_trans (by decide) hc) (Nat.le_trans (by decide) hs) rfl ?_
  show Gk E 1 1 7 2 (w2 (e_B E) (e_cI E) (e_cT E)) 8 [(0, vr 0)] [vr 1, vr 0] _
  refine k_dup (np := 9) ok dX5_init_8 rfl rfl ?_
  refine k_ctor (np := 12) (f := w2) (av := []) (rest := [vr 1, vr 0]) ok hF kX3_init_1 knX3_init q22 rfl q21 dX5_init_9 rfl rfl rfl (by decide) (by decide) (by decide) (Nat.le_trans (by decide) hc) (Nat.le_trans (by decide) hs) rfl ?_
  show Gk E 1 17 162 18 (w36 (e_B E) (e_cI E) (e_cT E)) 12 [(0, vr 0)] [vr 1, vr 0] _
  refine k_put (np := 15) (c := 5) (k := 0) (fs := [.null, .null, .int 0, .null, .null, .null, .null, .int 0, .null]) ok hin dX5_init_12 clsX5 tyX5 tyX5_ok nmX5 (by decide) q154 (by decide) rfl rfl (fun _ => rfl) (fun _ => rfl) (Nat.le_of_ble_eq_true rfl) rfl ?_
  show Gk E 1 17 162 18 (w37 (e_B E) (e_cI E) (e_cT E)) 15 [(0, vr 0)] [] _
  refine k_aload_n (np := 16) ok 0 dX5_init_15 rfl rfl rfl ?_
  refine k_newo (np := 19) (c := 3) (fs := [.null, .null, .null, .int 0, .int 0, .null, .int 0]) ok dX5_init_16 clsX3 tyX3 tyX3_ok q19 q20 q2 (by decide) (Nat.le_trans (by decide) hc) (Nat.le_trans (by decide) hs) rfl ?_
  show Gk E 1 18 169 19 (w38 (e_B E) (e_cI E) (e_cT E)) 19 [(0, vr 0)] [vr 18, vr 0] _
  refine k_dup (np := 20) ok dX5_init_19 rfl rfl ?_
  refine k_ctor (np := 23) (f := w38) (av := []) (rest := [vr 18, vr 0]) ok hF kX3_init_18 knX3_init q22 rfl q21 dX5_init_20 rfl rfl rfl (by decide) (by decide) (by decide) (Nat.le_trans (by decide) hc) (Nat.le_trans (by decide) hs) rfl ?_
  show Gk E 1 34 324 35 (w72 (e_B E) (e_cI E) (e_cT E)) 23 [(0, vr 0)] [vr 18, vr 0] _
  refine k_put (np := 26) (c := 5) (k := 1) (fs := [.ref (e_B E + 1), .null, .int 0, .null, .null, .null, .null, .int 0, .null]) ok hin dX5_init_23 clsX5 tyX5 tyX5_ok nmX5 (by decide) q155 (by decide) rfl rfl (fun _ => rfl) (fun _ => rfl) (Nat.le_of_ble_eq_true rfl) rfl ?_
  show Gk E 1 34 324 35 (w73 (e_B E) (e_cI E) (e_cT E)) 26 [(0, vr 0)] [] _
  refine k_aload_n (np := 27) ok 0 dX5_init_26 rfl rfl rfl ?_
  refine k_newo (np := 30) (c := 2) (fs := [.null, .null]) ok dX5_init_27 clsX2 tyX2 tyX2_ok q100 q101 q5 (by decide) (Nat.le_trans (by decide) hc) (Nat.le_trans (by decide) hs) rfl ?_
  show Gk E 1 35 326 36 (w74 (e_B E) (e_cI E) (e_cT E)) 30 [(0, vr 0)] [vr 35, vr 0] _
  refine k_dup (np := 31) ok dX5_init_30 rfl rfl ?_
  refine k_aload_n (np := 32) ok 0 dX5_init_31 rfl rfl rfl ?_
  refine k_get (np := 35) (c := 5) (k := 0) (v := vr 1) (fs := [.ref (e_B E + 1), .ref (e_B E + 18), .int 0, .null, .null, .null, .null, .int 0, .null]) ok dX5_init_32 clsX5 (by decide) q154 (by decide) rfl rfl rfl ?_
  refine k_ctor (np := 38) (f := w74) (av := [vr 1]) (rest := [vr 35, vr 0]) ok hF kX2_init_35 knX2_init q103 rfl q102 dX5_init_35 rfl rfl rfl (by decide) (by decide) (by decide) (Nat.le_trans (by decide) hc) (Nat.le_trans (by decide) hs) rfl ?_
  show Gk E 1 36 356 37 (w77 (e_B E) (e_cI E) (e_cT E)) 38 [(0, vr 0)] [vr 35, vr 0] _
  refine k_put (np := 41) (c := 5) (k := 3) (fs := [.ref (e_B E + 1), .ref (e_B E + 18), .int 0, .null, .null, .null, .null, .int 0, .null]) ok hin dX5_init_38 clsX5 tyX5 tyX5_ok nmX5 (by decide) q157 (by decide) rfl rfl (fun _ => rfl) (fun _ => rfl) (Nat.le_of_ble_eq_true rfl) rfl ?_
  show Gk E 1 36 356 37 (w78 (e_B E) (e_cI E) (e_cT E)) 41 [(0, vr 0)] [] _
  refine k_aload_n (np := 42) ok 0 dX5_init_41 rfl rfl rfl ?_
  refine k_newo (np := 45) (c := 1) (fs := [.null, .null, .int 0]) ok dX5_init_42 clsX1 tyX1 tyX1_ok q113 q114 q6 (by decide) (Nat.le_trans (by decide) hc) (Nat.le_trans (by decide) hs) rfl ?_
  show Gk E 1 37 359 38 (w79 (e_B E) (e_cI E) (e_cT E)) 45 [(0, vr 0)] [vr 37, vr 0] _
  refine k_dup (np := 46) ok dX5_init_45 rfl rfl ?_
  refine k_aload_n (np := 47) ok 0 dX5_init_46 rfl rfl rfl ?_
  refine k_get (np := 50) (c := 5) (k := 0) (v := vr 1) (fs := [.ref (e_B E + 1), .ref (e_B E + 18), .int 0, .ref (e_B E + 35), .null, .null, .null, .int 0, .null]) ok dX5_init_47 clsX5 (by decide) q154 (by decide) rfl rfl rfl ?_
  refine k_ctor (np := 53) (f := w79) (av := [vr 1]) (rest := [vr 37, vr 0]) ok hF kX1_init_37 knX1_init q116 rfl q115 dX5_init_50 rfl rfl rfl (by decide) (by decide) (by decide) (Nat.le_trans (by decide) hc) (Nat.le_trans (by decide) hs) rfl ?_
  show Gk E 1 46 427 47 (w98 (e_B E) (e_cI E) (e_cT E)) 53 [(0, vr 0)] [vr 37, vr 0] _
  refine k_put (np := 56) (c := 5) (k := 4) (fs := [.ref (e_B E + 1), .ref (e_B E + 18), .int 0, .ref (e_B E + 35), .null, .null, .null, .int 0, .null]) ok hin dX5_init_53 clsX5 tyX5 tyX5_ok nmX5 (by decide) q158 (by decide) rfl rfl (fun _ => rfl) (fun _ => rfl) (Nat.le_of_ble_eq_true rfl) rfl ?_
  show Gk E 1 46 427 47 (w99 (e_B E) (e_cI E) (e_cT E)) 56 [(0, vr 0)] [] _
  refine k_aload_n (np := 57) ok 0 dX5_init_56 rfl rfl rfl ?_
  refine k_newo (np := 60) (c := 0) (fs := [.null, .int 0, .null, .int 0, .int 0]) ok dX5_init_57 clsX0 tyX0 tyX0_ok q131 q132 q7 (by decide) (Nat.le_trans (by decide) hc) (Nat.le_trans (by decide) hs) rfl ?_
  show Gk E 1 47 432 48 (w100 (e_B E) (e_cI E) (e_cT E)) 60 [(0, vr 0)] [vr 47, vr 0] _
  refine k_dup (np := 61) ok dX5_init_60 rfl rfl ?_
  refine k_ctorN (np := 64) (f := w100) (av := []) (rest := [vr 47, vr 0]) ok hF kX0_init_47 knX0_init q134 rfl q133 dX5_init_61 rfl rfl rfl (by decide) (by decide) (by decide) (Nat.le_trans (by decide) hc) (Nat.le_trans (by decide) hs) rfl ?_
  show Gk E 1 49 624 50 (w104 (e_B E) (e_cI E) (e_cT E)) 64 [(0, vr 0)] [vr 47, vr 0] _
  refine k_put (np := 67) (c := 5) (k := 5) (fs := [.ref (e_B E + 1), .ref (e_B E + 18), .int 0, .ref (e_B E + 35), .ref (e_B E + 37), .null, .null, .int 0, .null]) ok hin dX5_init_64 clsX5 tyX5 tyX5_ok nmX5 (by decide) q159 (by decide) rfl rfl (fun _ => rfl) (fun _ => rfl) (Nat.le_of_ble_eq_true rfl) rfl ?_
  show Gk E 1 49 624 50 (w105 (e_B E) (e_cI E) (e_cT E)) 67 [(0, vr 0)] [] _
  refine k_aload_n (np := 68) ok 0 dX5_init_67 rfl rfl rfl ?_
  refine k_bipush (np := 70) (v := 12) ok dX5_init_68 rfl rfl ?_
  refine k_newi (np := 72) (N := 12) ok dX5_init_70 rfl (by decide) (by decide) (Nat.le_trans (by decide) hc) (Nat.le_trans (by decide) hs) rfl ?_
  show Gk E 1 50 636 51 (w106 (e_B E) (e_cI E) (e_cT E)) 72 [(0, vr 0)] [vr 50, vr 0] _
  refine k_put (np := 75) (c := 5) (k := 6) (fs := [.ref (e_B E + 1), .ref (e_B E + 18), .int 0, .ref (e_B E + 35), .ref (e_B E + 37), .ref (e_B E + 47), .null, .int 0, .null]) ok hin dX5_init_72 clsX5 tyX5 tyX5_ok nmX5 (by decide) q160 (by decide) rfl rfl (fun _ => rfl) (fun _ => rfl) (Nat.le_of_ble_eq_true rfl) rfl ?_
  show Gk E 1 50 636 51 (w107 (e_B E) (e_cI E) (e_cT E)) 75 [(0, vr 0)] [] _
  refine k_aload_n (np := 76) ok 0 dX5_init_75 rfl rfl rfl ?_
  refine k_bipush (np := 78) (v := 7) ok dX5_init_76 rfl rfl ?_
  refine k_newi (np := 80) (N := 7) ok dX5_init_78 rfl (by decide) (by decide) (Nat.le_trans (by decide) hc) (Nat.le_trans (by decide) hs) rfl ?_
  show Gk E 1 51 643 52 (w108 (e_B E) (e_cI E) (e_cT E)) 80 [(0, vr 0)] [vr 51, vr 0] _
  refine k_put (np := 83) (c := 5) (k := 8) (fs := [.ref (e_B E + 1), .ref (e_B E + 18), .int 0, .ref (e_B E + 35), .ref (e_B E + 37), .ref (e_B E + 47), .ref (e_B E + 50), .int 0, .null]) ok hin dX5_init_80 clsX5 tyX5 tyX5_ok nmX5 (by decide) q162 (by decide) rfl rfl (fun _ => rfl) (fun _ => rfl) (Nat.le_of_ble_eq_true rfl) rfl ?_
  show Gk E 1 51 643 52 (w109 (e_B E) (e_cI E) (e_cT E)) 83 [(0, vr 0)] [] _
  exact k_ret ok hr hk dX5_init_83

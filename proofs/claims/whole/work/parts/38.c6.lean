def w110 : EV := fun B cI cT => ue (w109 B cI cT) 52 (.inr (6, [.null, .null, .null, .int 0, .int 0, .int 0, .null, .null, .null, .null, .int 0, .null, .null, .int 0, .int 0, .int 0, .int 0, .null, .null, .null, .null, .null, .int 0, .int 0, .int 0, .null, .null, .int 0, .int 0]))
theorem knX6_init : Kn yX6_init cX6_init 1 none 0 := ⟨q676, q8, ⟨by decide, by decide⟩, by decide +kernel⟩
def w111 : EV := fun B cI cT => ue (w110 B cI cT) 53 (.inl (cI, 24, .inl (fun _ => 0)))
def w112 : EV := fun B cI cT => ue (w111 B cI cT) 52 (.inr (6, [.ref (B + 53), .null, .null, .int 0, .int 0, .int 0, .null, .null, .null, .null, .int 0, .null, .null, .int 0, .int 0, .int 0, .int 0, .null, .null, .null, .null, .null, .int 0, .int 0, .int 0, .null, .null, .int 0, .int 0]))
def w113 : EV := fun B cI cT => ue (w112 B cI cT) 54 (.inl (cI, 24, .inl (fun _ => 0)))
def w114 : EV := fun B cI cT => ue (w113 B cI cT) 52 (.inr (6, [.ref (B + 53), .ref (B + 54), .null, .int 0, .int 0, .int 0, .null, .null, .null, .null, .int 0, .null, .null, .int 0, .int 0, .int 0, .int 0, .null, .null, .null, .null, .null, .int 0, .int 0, .int 0, .null, .null, .int 0, .int 0]))
def w115 : EV := fun B cI cT => ue (w114 B cI cT) 55 (.inl (cI, 5, .inl (fun _ => 0)))
def w116 : EV := fun B cI cT => ue (w115 B cI cT) 52 (.inr (6, [.ref (B + 53), .ref (B + 54), .ref (B + 55), .int 0, .int 0, .int 0, .null, .null, .null, .null, .int 0, .null, .null, .int 0, .int 0, .int 0, .int 0, .null, .null, .null, .null, .null, .int 0, .int 0, .int 0, .null, .null, .int 0, .int 0]))
def w117 : EV := fun B cI cT => ue (w116 B cI cT) 56 (.inl (cI, 27, .inl (fun _ => 0)))
def w118 : EV := fun B cI cT => ue (w117 B cI cT) 52 (.inr (6, [.ref (B + 53), .ref (B + 54), .ref (B + 55), .int 0, .int 0, .int 0, .ref (B + 56), .null, .null, .null, .int 0, .null, .null, .int 0, .int 0, .int 0, .int 0, .null, .null, .null, .null, .null, .int 0, .int 0, .int 0, .null, .null, .int 0, .int 0]))
def w119 : EV := fun B cI cT => ue (w118 B cI cT) 57 (.inl (cI, 27, .inl (fun _ => 0)))
def w120 : EV := fun B cI cT => ue (w119 B cI cT) 52 (.inr (6, [.ref (B + 53), .ref (B + 54), .ref (B + 55), .int 0, .int 0, .int 0, .ref (B + 56), .ref (B + 57), .null, .null, .int 0, .null, .null, .int 0, .int 0, .int 0, .int 0, .null, .null, .null, .null, .null, .int 0, .int 0, .int 0, .null, .null, .int 0, .int 0]))
def w121 : EV := fun B cI cT => ue (w120 B cI cT) 58 (.inl (cI, 27, .inl (fun _ => 0)))
def w122 : EV := fun B cI cT => ue (w121 B cI cT) 52 (.inr (6, [.ref (B + 53), .ref (B + 54), .ref (B + 55), .int 0, .int 0, .int 0, .ref (B + 56), .ref (B + 57), .ref (B + 58), .null, .int 0, .null, .null, .int 0, .int 0, .int 0, .int 0, .null, .null, .null, .null, .null, .int 0, .int 0, .int 0, .null, .null, .int 0, .int 0]))
def w123 : EV := fun B cI cT => ue (w122 B cI cT) 59 (.inl (cI, 324, .inl (fun _ => 0)))
def w124 : EV := fun B cI cT => ue (w123 B cI cT) 52 (.inr (6, [.ref (B + 53), .ref (B + 54), .ref (B + 55), .int 0, .int 0, .int 0, .ref (B + 56), .ref (B + 57), .ref (B + 58), .ref (B + 59), .int 0, .null, .null, .int 0, .int 0, .int 0, .int 0, .null, .null, .null, .null, .null, .int 0, .int 0, .int 0, .null, .null, .int 0, .int 0]))
def w125 : EV := fun B cI cT => ue (w124 B cI cT) 60 (.inl (cI, 7, .inl (fun _ => 0)))
def w126 : EV := fun B cI cT => ue (w125 B cI cT) 52 (.inr (6, [.ref (B + 53), .ref (B + 54), .ref (B + 55), .int 0, .int 0, .int 0, .ref (B + 56), .ref (B + 57), .ref (B + 58), .ref (B + 59), .int 0, .ref (B + 60), .null, .int 0, .int 0, .int 0, .int 0, .null, .null, .null, .null, .null, .int 0, .int 0, .int 0, .null, .null, .int 0, .int 0]))
def w127 : EV := fun B cI cT => ue (w126 B cI cT) 61 (.inl (cI, 96, .inl (fun _ => 0)))
def w128 : EV := fun B cI cT => ue (w127 B cI cT) 52 (.inr (6, [.ref (B + 53), .ref (B + 54), .ref (B + 55), .int 0, .int 0, .int 0, .ref (B + 56), .ref (B + 57), .ref (B + 58), .ref (B + 59), .int 0, .ref (B + 60), .ref (B + 61), .int 0, .int 0, .int 0, .int 0, .null, .null, .null, .null, .null, .int 0, .int 0, .int 0, .null, .null, .int 0, .int 0]))
def w129 : EV := fun B cI cT => ue (w128 B cI cT) 62 (.inl (cI, 49, .inl (fun _ => 0)))
def w130 : EV := fun B cI cT => ue (w129 B cI cT) 52 (.inr (6, [.ref (B + 53), .ref (B + 54), .ref (B + 55), .int 0, .int 0, .int 0, .ref (B + 56), .ref (B + 57), .ref (B + 58), .ref (B + 59), .int 0, .ref (B + 60), .ref (B + 61), .int 0, .int 0, .int 0, .int 0, .ref (B + 62), .null, .null, .null, .null, .int 0, .int 0, .int 0, .null, .null, .int 0, .int 0]))
def w131 : EV := fun B cI cT => ue (w130 B cI cT) 63 (.inl (cI, 49, .inl (fun _ => 0)))
def w132 : EV := fun B cI cT => ue (w131 B cI cT) 52 (.inr (6, [.ref (B + 53), .ref (B + 54), .ref (B + 55), .int 0, .int 0, .int 0, .ref (B + 56), .ref (B + 57), .ref (B + 58), .ref (B + 59), .int 0, .ref (B + 60), .ref (B + 61), .int 0, .int 0, .int 0, .int 0, .ref (B + 62), .ref (B + 63), .null, .null, .null, .int 0, .int 0, .int 0, .null, .null, .int 0, .int 0]))
def w133 : EV := fun B cI cT => ue (w132 B cI cT) 64 (.inl (cI, 147, .inl (fun _ => 0)))
def w134 : EV := fun B cI cT => ue (w133 B cI cT) 52 (.inr (6, [.ref (B + 53), .ref (B + 54), .ref (B + 55), .int 0, .int 0, .int 0, .ref (B + 56), .ref (B + 57), .ref (B + 58), .ref (B + 59), .int 0, .ref (B + 60), .ref (B + 61), .int 0, .int 0, .int 0, .int 0, .ref (B + 62), .ref (B + 63), .ref (B + 64), .null, .null, .int 0, .int 0, .int 0, .null, .null, .int 0, .int 0]))
def w135 : EV := fun B cI cT => ue (w134 B cI cT) 65 (.inl (cI, 146, .inl (fun _ => 0)))
def w136 : EV := fun B cI cT => ue (w135 B cI cT) 52 (.inr (6, [.ref (B + 53), .ref (B + 54), .ref (B + 55), .int 0, .int 0, .int 0, .ref (B + 56), .ref (B + 57), .ref (B + 58), .ref (B + 59), .int 0, .ref (B + 60), .ref (B + 61), .int 0, .int 0, .int 0, .int 0, .ref (B + 62), .ref (B + 63), .ref (B + 64), .ref (B + 65), .null, .int 0, .int 0, .int 0, .null, .null, .int 0, .int 0]))
def w137 : EV := fun B cI cT => ue (w136 B cI cT) 66 (.inl (cI, 146, .inl (fun _ => 0)))
def w138 : EV := fun B cI cT => ue (w137 B cI cT) 52 (.inr (6, [.ref (B + 53), .ref (B + 54), .ref (B + 55), .int 0, .int 0, .int 0, .ref (B + 56), .ref (B + 57), .ref (B + 58), .ref (B + 59), .int 0, .ref (B + 60), .ref (B + 61), .int 0, .int 0, .int 0, .int 0, .ref (B + 62), .ref (B + 63), .ref (B + 64), .ref (B + 65), .ref (B + 66), .int 0, .int 0, .int 0, .null, .null, .int 0, .int 0]))
def w139 : EV := fun B cI cT => ue (w138 B cI cT) 67 (.inl (cI, 12, .inl (fun _ => 0)))
def w140 : EV := fun B cI cT => ue (w139 B cI cT) 52 (.inr (6, [.ref (B + 53), .ref (B + 54), .ref (B + 55), .int 0, .int 0, .int 0, .ref (B + 56), .ref (B + 57), .ref (B + 58), .ref (B + 59), .int 0, .ref (B + 60), .ref (B + 61), .int 0, .int 0, .int 0, .int 0, .ref (B + 62), .ref (B + 63), .ref (B + 64), .ref (B + 65), .ref (B + 66), .int 0, .int 0, .int 0, .null, .ref (B + 67), .int 0, .int 0]))
def w141 : EV := fun B cI cT => ue (w140 B cI cT) 52 (.inr (6, [.ref (B + 53), .ref (B + 54), .ref (B + 55), .int 0, .int 0, .int 0, .ref (B + 56), .ref (B + 57), .ref (B + 58), .ref (B + 59), .int 0, .ref (B + 60), .ref (B + 61), .int 0, .int 0, .int 0, .int 0, .ref (B + 62), .ref (B + 63), .ref (B + 64), .ref (B + 65), .ref (B + 66), .int 0, .int 0, .int 0, .null, .ref (B + 67), .int 0, .int 0]))
def w142 : EV := fun B cI cT => ue (w141 B cI cT) 55 (.inl (cI, 5, .inl (upd (fun _ => 0) 0 40)))
def w143 : EV := fun B cI cT => ue (w142 B cI cT) 55 (.inl (cI, 5, .inl (upd (upd (fun _ => 0) 0 40) 1 1)))
def w144 : EV := fun B cI cT => ue (w143 B cI cT) 55 (.inl (cI, 5, .inl (upd (upd (upd (fun _ => 0) 0 40) 1 1) 2 60)))
theorem kX6_init_52 : Ck yX6_init cX6_init 1 1 20 [vr 52] 15 1110 53 w110 68 w144 := by
  refine Ck.mk (lv := [(0, vr 52)]) (by decide) (Nat.le_of_ble_eq_true rfl) rfl (fun E t0 ok hr hk hin hF hc hs => ?_)
  refine k_aload_n (np := 1) ok 0 dX6_init_0 rfl rfl rfl ?_
  refine k_obj (np := 4) ok dX6_init_1 q677 q17 q18 (by decide) (by decide) (by decide) rfl ?_
  refine k_aload_n (np := 5) ok 0 dX6_init_4 rfl rfl rfl ?_
  refine k_bipush (np := 7) (v := 24) ok dX6_init_5 rfl rfl ?_
  refine k_newi (np := 9) (N := 24) ok dX6_init_7 rfl (by decide) (by decide) (Nat.le_trans (by decide) hc) (Nat.le_trans (by decide) hs) rfl ?_
  show Gk E 1 1 24 54 (w111 (e_B E) (e_cI E) (e_cT E)) 9 [(0, vr 52)] [vr 53, vr 52] _
  refine k_put (np := 12) (c := 6) (k := 0) (fs := [.null, .null, .null, .int 0, .int 0, .int 0, .null, .null, .null, .null, .int 0, .null, .null, .int 0, .int 0, .int 0, .int 0, .null, .null, .null, .null, .null, .int 0, .int 0, .int 0, .null, .null, .int 0, .int 0]) ok hin dX6_init_9 clsX6 tyX6 tyX6_ok nmX6 (by decide) q678 (by decide) rfl rfl (fun _ => rfl) (fun _ => rfl) (Nat.le_of_ble_eq_true rfl) rfl ?_
  show Gk E 1 1 24 54 (w112 (e_B E) (e_cI E) (e_cT E)) 12 [(0, vr 52)] [] _
  refine k_aload_n (np := 13) ok 0 dX6_init_12 rfl rfl rfl ?_
  refine k_bipush (np := 15) (v := 24) ok dX6_init_13 rfl rfl ?_
  refine k_newi (np := 17) (N := 24) ok dX6_init_15 rfl (by decide) (by decide) (Nat.le_trans (by decide) hc) (Nat.le_trans (by decide) hs) rfl ?_
  show Gk E 1 2 48 55 (w113 (e_B E) (e_cI E) (e_cT E)) 17 [(0, vr 52)] [vr 54, vr 52] _
  refine k_put (np := 20) (c := 6) (k := 1) (fs := [.ref (e_B E + 53), .null, .null, .int 0, .int 0, .int 0, .null, .null, .null, .null, .int 0, .null, .null, .int 0, .int 0, .int 0, .int 0, .null, .null, .null, .null, .null, .int 0, .int 0, .int 0, .null, .null, .int 0, .int 0]) ok hin dX6_init_17 clsX6 tyX6 tyX6_ok nmX6 (by decide) q679 (by decide) rfl rfl (fun _ => rfl) (fun _ => rfl) (Nat.le_of_ble_eq_true rfl) rfl ?_
  show Gk E 1 2 48 55 (w114 (e_B E) (e_cI E) (e_cT E)) 20 [(0, vr 52)] [] _
  refine k_aload_n (np := 21) ok 0 dX6_init_20 rfl rfl rfl ?_
  refine k_iconst (np := 22) (v := 5) ok dX6_init_21 rfl rfl ?_
  refine k_newi (np := 24) (N := 5) ok dX6_init_22 rfl (by decide) (by decide) (Nat.le_trans (by decide) hc) (Nat.le_trans (by decide) hs) rfl ?_
  show Gk E 1 3 53 56 (w115 (e_B E) (e_cI E) (e_cT E)) 24 [(0, vr 52)] [vr 55, vr 52] _
  refine k_put (np := 27) (c := 6) (k := 2) (fs := [.ref (e_B E + 53), .ref (e_B E + 54), .null, .int 0, .int 0, .int 0, .null, .null, .null, .null, .int 0, .null, .null, .int 0, .int 0, .int 0, .int 0, .null, .null, .null, .null, .null, .int 0, .int 0, .int 0, .null, .null, .int 0, .int 0]) ok hin dX6_init_24 clsX6 tyX6 tyX6_ok nmX6 (by decide) q680 (by decide) rfl rfl (fun _ => rfl) (fun _ => rfl) (Nat.le_of_ble_eq_true rfl) rfl ?_
  show Gk E 1 3 53 56 (w116 (e_B E) (e_cI E) (e_cT E)) 27 [(0, vr 52)] [] _
  refine k_aload_n (np := 28) ok 0 dX6_init_27 rfl rfl rfl ?_
  refine k_bipush (np := 30) (v := 27) ok dX6_init_28 rfl rfl ?_
  refine k_newi (np := 32) (N := 27) ok dX6_init_30 rfl (by decide) (by decide) (Nat.le_trans (by decide) hc) (Nat.le_trans (by decide) hs) rfl ?_
  show Gk E 1 4 80 57 (w117 (e_B E) (e_cI E) (e_cT E)) 32 [(0, vr 52)] [vr 56, vr 52] _
  refine k_put (np := 35) (c := 6) (k := 6) (fs := [.ref (e_B E + 53), .ref (e_B E + 54), .ref (e_B E + 55), .int 0, .int 0, .int 0, .null, .null, .null, .null, .int 0, .null, .null, .int 0, .int 0, .int 0, .int 0, .null, .null, .null, .null, .null, .int 0, .int 0, .int 0, .null, .null, .int 0, .int 0]) ok hin dX6_init_32 clsX6 tyX6 tyX6_ok nmX6 (by decide) q684 (by decide) rfl rfl (fun _ => rfl) (fun _ => rfl) (Nat.le_of_ble_eq_true rfl) rfl ?_
  show Gk E 1 4 80 57 (w118 (e_B E) (e_cI E) (e_cT E)) 35 [(0, vr 52)] [] _
  refine k_aload_n (np := 36) ok 0 dX6_init_35 rfl rfl rfl ?_
  refine k_bipush (np := 38) (v := 27) ok dX6_init_36 rfl rfl ?_
  refine k_newi (np := 40) (N := 27) ok dX6_init_38 rfl (by decide) (by decide) (Nat.le_trans (by decide) hc) (Nat.le_trans (by decide) hs) rfl ?_
  show Gk E 1 5 107 58 (w119 (e_B E) (e_cI E) (e_cT E)) 40 [(0, vr 52)] [vr 57, vr 52] _
  refine k_put (np := 43) (c := 6) (k := 7) (fs := [.ref (e_B E + 53), .ref (e_B E + 54), .ref (e_B E + 55), .int 0, .int 0, .int 0, .ref (e_B E + 56), .null, .null, .null, .int 0, .null, .null, .int 0, .int 0, .int 0, .int 0, .null, .null, .null, .null, .null, .int 0, .int 0, .int 0, .null, .null, .int 0, .int 0]) ok hin dX6_init_40 clsX6 tyX6 tyX6_ok nmX6 (by decide) q685 (by decide) rfl rfl (fun _ => rfl) (fun _ => rfl) (Nat.le_of_ble_eq_true rfl) rfl ?_
  show Gk E 1 5 107 58 (w120 (e_B E) (e_cI E) (e_cT E)) 43 [(0, vr 52)] [] _
  refine k_aload_n (np := 44) ok 0 dX6_init_43 rfl rfl rfl ?_
  refine k_bipush (np := 46) (v := 27) ok dX6_init_44 rfl rfl ?_
  refine k_newi (np := 48) (N := 27) ok dX6_init_46 rfl (by decide) (by decide) (Nat.le_trans (by decide) hc) (Nat.le_trans (by decide) hs) rfl ?_
  show Gk E 1 6 134 59 (w121 (e_B E) (e_cI E) (e_cT E)) 48 [(0, vr 52)] [vr 58, vr 52] _
  refine k_put (np := 51) (c := 6) (k := 8) (fs := [.ref (e_B E + 53), .ref (e_B E + 54), .ref (e_B E + 55), .int 0, .int 0, .int 0, .ref (e_B E + 56), .ref (e_B E + 57), .null, .null, .int 0, .null, .null, .int 0, .int 0, .int 0, .int 0, .null, .null, .null, .null, .null, .int 0, .int 0, .int 0, .null, .null, .int 0, .int 0]) ok hin dX6_init_48 clsX6 tyX6 tyX6_ok nmX6 (by decide) q686 (by decide) rfl rfl (fun _ => rfl) (fun _ => rfl) (Nat.le_of_ble_eq_true rfl) rfl ?_
  show Gk E 1 6 134 59 (w122 (e_B E) (e_cI E) (e_cT E)) 51 [(0, vr 52)] [] _
  refine k_aload_n (np := 52) ok 0 dX6_init_51 rfl rfl rfl ?_
  refine k_sipush (np := 55) (v := 324) ok dX6_init_52 rfl rfl ?_
  refine k_newi (np := 57) (N := 324) ok dX6_init_55 rfl (by decide) (by decide) (Nat.le_trans (by decide) hc) (Nat.le_trans (by decide) hs) rfl ?_
  show Gk E 1 7 458 60 (w123 (e_B E) (e_cI E) (e_cT E)) 57 [(0, vr 52)] [vr 59, vr 52] _
  refine k_put (np := 60) (c := 6) (k := 9) (fs := [.ref (e_B E + 53), .ref (e_B E + 54), .ref (e_B E + 55), .int 0, .int 0, .int 0, .ref (e_B E + 56), .ref (e_B E + 57), .ref (e_B E + 58), .null, .int 0, .null, .null, .int 0, .int 0, .int 0, .int 0, .null, .null, .null, .null, .null, .int 0, .int 0, .int 0, .null, .null, .int 0, .int 0]) ok hin dX6_init_57 clsX6 tyX6 tyX6_ok nmX6 (by decide) q687 (by decide) rfl rfl (fun _ => rfl) (fun _ => rfl) (Nat.le_of_ble_eq_true rfl) rfl ?_
  show Gk E 1 7 458 60 (w124 (e_B E) (e_cI E) (e_cT E)) 60 [(0, vr 52)] [] _
  refine k_aload_n (np := 61) ok 0 dX6_init_60 rfl rfl rfl ?_
  refine k_bipush (np := 63) (v := 7) ok dX6_init_61 rfl rfl ?_
  refine k_newi (np := 65) (N := 7) ok dX6_init_63 rfl (by decide) (by decide) (Nat.le_trans (by decide) hc) (Nat.le_trans (by decide) hs) rfl ?_
  show Gk E 1 8 465 61 (w125 (e_B E) (e_cI E) (e_cT E)) 65 [(0, vr 52)] [vr 60, vr 52] _
  refine k_put (np := 68) (c := 6) (k := 11) (fs := [.ref (e_B E + 53), .ref (e_B E + 54), .ref (e_B E + 55), .int 0, .int 0, .int 0, .ref (e_B E + 56), .ref (e_B E + 57), .ref (e_B E + 58), .ref (e_B E + 59), .int 0, .null, .null, .int 0, .int 0, .int 0, .int 0, .null, .null, .null, .null, .null, .int 0, .int 0, .int 0, .null, .null, .int 0, .int 0]) ok hin dX6_init_65 clsX6 tyX6 tyX6_ok nmX6 (by decide) q689 (by decide) rfl rfl (fun _ => rfl) (fun _ => rfl) (Nat.le_of_ble_eq_true rfl) rfl ?_
  show Gk E 1 8 465 61 (w126 (e_B E) (e_cI E) (e_cT E)) 68 [(0, vr 52)] [] _
  refine k_aload_n (np := 69) ok 0 dX6_init_68 rfl rfl rfl ?_
  refine k_bipush (np := 71) (v := 96) ok dX6_init_69 rfl rfl ?_
  refine k_newi (np := 73) (N := 96) ok dX6_init_71 rfl (by decide) (by decide) (Nat.le_trans (by decide) hc) (Nat.le_trans (by decide) hs) rfl ?_
  show Gk E 1 9 561 62 (w127 (e_B E) (e_cI E) (e_cT E)) 73 [(0, vr 52)] [vr 61, vr 52] _
  refine k_put (np := 76) (c := 6) (k := 12) (fs := [.ref (e_B E + 53), .ref (e_B E + 54), .ref (e_B E + 55), .int 0, .int 0, .int 0, .ref (e_B E + 56), .ref (e_B E + 57), .ref (e_B E + 58), .ref (e_B E + 59), .int 0, .ref (e_B E + 60), .null, .int 0, .int 0, .int 0, .int 0, .null, .null, .null, .null, .null, .int 0, .int 0, .int 0, .null, .null, .int 0, .int 0]) ok hin dX6_init_73 clsX6 tyX6 tyX6_ok nmX6 (by decide) q690 (by decide) rfl rfl (fun _ => rfl) (fun _ => rfl) (Nat.le_of_ble_eq_true rfl) rfl ?_
  show Gk E 1 9 561 62 (w128 (e_B E) (e_cI E) (e_cT E)) 76 [(0, vr 52)] [] _
  refine k_aload_n (np := 77) ok 0 dX6_init_76 rfl rfl rfl ?_
  refine k_bipush (np := 79) (v := 49) ok dX6_init_77 rfl rfl ?_
  refine k_newi (np := 81) (N := 49) ok dX6_init_79 rfl (by decide) (by decide) (Nat.le_trans (by decide) hc) (Nat.le_trans (by decide) hs) rfl ?_
  show Gk E 1 10 610 63 (w129 (e_B E) (e_cI E) (e_cT E)) 81 [(0, vr 52)] [vr 62, vr 52] _
  refine k_put (np := 84) (c := 6) (k := 17) (fs := [.ref (e_B E + 53), .ref (e_B E + 54), .ref (e_B E + 55), .int 0, .int 0, .int 0, .ref (e_B E + 56), .ref (e_B E + 57), .ref (e_B E + 58), .ref (e_B E + 59), .int 0, .ref (e_B E + 60), .ref (e_B E + 61), .int 0, .int 0, .int 0, .int 0, .null, .null, .null, .null, .null, .int 0, .int 0, .int 0, .null, .null, .int 0, .int 0]) ok hin dX6_init_81 clsX6 tyX6 tyX6_ok nmX6 (by decide) q695 (by decide) rfl rfl (fun _ => rfl) (fun _ => rfl) (Nat.le_of_ble_eq_true rfl) rfl ?_
  show Gk E 1 10 610 63 (w130 (e_B E) (e_cI E) (e_cT E)) 84 [(0, vr 52)] [] _
  refine k_aload_n (np := 85) ok 0 dX6_init_84 rfl rfl rfl ?_
  refine k_bipush (np := 87) (v := 49) ok dX6_init_85 rfl rfl ?_
  refine k_newi (np := 89) (N := 49) ok dX6_init_87 rfl (by decide) (by decide) (Nat.le_trans (by decide) hc) (Nat.le_trans (by decide) hs) rfl ?_
  show Gk E 1 11 659 64 (w131 (e_B E) (e_cI E) (e_cT E)) 89 [(0, vr 52)] [vr 63, vr 52] _
  refine k_put (np := 92) (c := 6) (k := 18) (fs := [.ref (e_B E + 53), .ref (e_B E + 54), .ref (e_B E + 55), .int 0, .int 0, .int 0, .ref (e_B E + 56), .ref (e_B E + 57), .ref (e_B E + 58), .ref (e_B E + 59), .int 0, .ref (e_B E + 60), .ref (e_B E + 61), .int 0, .int 0, .int 0, .int 0, .ref (e_B E + 62), .null, .null, .null, .null, .int 0, .int 0, .int 0, .null, .null, .int 0, .int 0]) ok hin dX6_init_89 clsX6 tyX6 tyX6_ok nmX6 (by decide) q696 (by decide) rfl rfl (fun _ => rfl) (fun _ => rfl) (Nat.le_of_ble_eq_true rfl) rfl ?_
  show Gk E 1 11 659 64 (w132 (e_B E) (e_cI E) (e_cT E)) 92 [(0, vr 52)] [] _
  refine k_aload_n (np := 93) ok 0 dX6_init_92 rfl rfl rfl ?_
  refine k_sipush (np := 96) (v := 147) ok dX6_init_93 rfl rfl ?_
  refine k_newi (np := 98) (N := 147) ok dX6_init_96 rfl (by decide) (by decide) (Nat.le_trans (by decide) hc) (Nat.le_trans (by decide) hs) rfl ?_
  show Gk E 1 12 806 65 (w133 (e_B E) (e_cI E) (e_cT E)) 98 [(0, vr 52)] [vr 64, vr 52] _
  refine k_put (np := 101) (c := 6) (k := 19) (fs := [.ref (e_B E + 53), .ref (e_B E + 54), .ref (e_B E + 55), .int 0, .int 0, .int 0, .ref (e_B E + 56), .ref (e_B E + 57), .ref (e_B E + 58), .ref (e_B E + 59), .int 0, .ref (e_B E + 60), .ref (e_B E + 61), .int 0, .int 0, .int 0, .int 0, .ref (e_B E + 62), .ref (e_B E + 63), .null, .null, .null, .int 0, .int 0, .int 0, .null, .null, .int 0, .int 0]) ok hin dX6_init_98 clsX6 tyX6 tyX6_ok nmX6 (by decide) q697 (by decide) rfl rfl (fun _ => rfl) (fun _ => rfl) (Nat.le_of_ble_eq_true rfl) rfl ?_
  show Gk E 1 12 806 65 (w134 (e_B E) (e_cI E) (e_cT E)) 101 [(0, vr 52)] [] _
  refine k_aload_n (np := 102) ok 0 dX6_init_101 rfl rfl rfl ?_
  refine k_sipush (np := 105) (v := 146) ok dX6_init_102 rfl rfl ?_
  refine k_newi (np := 107) (N := 146) ok dX6_init_105 rfl (by decide) (by decide) (Nat.le_trans (by decide) hc) (Nat.le_trans (by decide) hs) rfl ?_
  show Gk E 1 13 952 66 (w135 (e_B E) (e_cI E) (e_cT E)) 107 [(0, vr 52)] [vr 65, vr 52] _
  refine k_put (np := 110) (c := 6) (k := 20) (fs := [.ref (e_B E + 53), .ref (e_B E + 54), .ref (e_B E + 55), .int 0, .int 0, .int 0, .ref (e_B E + 56), .ref (e_B E + 57), .ref (e_B E + 58), .ref (e_B E + 59), .int 0, .ref (e_B E + 60), .ref (e_B E + 61), .int 0, .int 0, .int 0, .int 0, .ref (e_B E + 62), .ref (e_B E + 63), .ref (e_B E + 64), .null, .null, .int 0, .int 0, .int 0, .null, .null, .int 0, .int 0]) ok hin dX6_init_107 clsX6 tyX6 tyX6_ok nmX6 (by decide) q698 (by decide) rfl rfl (fun _ => rfl) (fun _ => rfl) (Nat.le_of_ble_eq_true rfl) rfl ?_
  show Gk E 1 13 952 66 (w136 (e_B E) (e_cI E) (e_cT E)) 110 [(0, vr 52)] [] _
  refine k_aload_n (np := 111) ok 0 dX6_init_110 rfl rfl rfl ?_
  refine k_sipush (np := 114) (v := 146) ok dX6_init_111 rfl rfl ?_
  refine k_newi (np := 116) (N := 146) ok dX6_init_114 rfl (by decide) (by decide) (Nat.le_trans (by decide) hc) (Nat.le_trans (by decide) hs) rfl ?_
  show Gk E 1 14 1098 67 (w137 (e_B E) (e_cI E) (e_cT E)) 116 [(0, vr 52)] [vr 66, vr 52] _
  refine k_put (np := 119) (c := 6) (k := 21) (fs := [.ref (e_B E + 53), .ref (e_B E + 54), .ref (e_B E + 55), .int 0, .int 0, .int 0, .ref (e_B E + 56), .ref (e_B E + 57), .ref (e_B E + 58), .ref (e_B E + 59), .int 0, .ref (e_B E + 60), .ref (e_B E + 61), .int 0, .int 0, .int 0, .int 0, .ref (e_B E + 62), .ref (e_B E + 63), .ref (e_B E + 64), .ref (e_B E + 65), .null, .int 0, .int 0, .int 0, .null, .null, .int 0, .int 0]) ok hin dX6_init_116 clsX6 tyX6 tyX6_ok nmX6 (by decide) q699 (by decide) rfl rfl (fun _ => rfl) (fun _ => rfl) (Nat.le_of_ble_eq_true rfl) rfl ?_
  show Gk E 1 14 1098 67 (w138 (e_B E) (e_cI E) (e_cT E)) 119 [(0, vr 52)] [] _
  refine k_aload_n (np := 120) ok 0 dX6_init_119 rfl rfl rfl ?_
  refine k_bipush (np := 122) (v := 12) ok dX6_init_120 rfl rfl ?_
  refine k_newi (np := 124) (N := 12) ok dX6_init_122 rfl (by decide) (by decide) (Nat.le_trans (by decide) hc) (Nat.le_trans (by decide) hs) rfl ?_
  show Gk E 1 15 1110 68 (w139 (e_B E) (e_cI E) (e_cT E)) 124 [(0, vr 52)] [vr 67, vr 52] _
  refine k_put (np := 127) (c := 6) (k := 26) (fs := [.ref (e_B E + 53), .ref (e_B E + 54), .ref (e_B E + 55), .int 0, .int 0, .int 0, .ref (e_B E + 56), .ref (e_B E + 57), .ref (e_B E + 58), .ref (e_B E + 59), .int 0, .ref (e_B E + 60), .ref (e_B E + 61), .int 0, .int 0, .int 0, .int 0, .ref (e_B E + 62), .ref (e_B E + 63), .ref (e_B E + 64), .ref (e_B E + 65), .ref (e_B E + 66), .int 0, .int 0, .int 0, .null, .null, .int 0, .int 0]) ok hin dX6_init_124 clsX6 tyX6 tyX6_ok nmX6 (by decide) q704 (by decide) rfl rfl (fun _ => rfl) (fun _ => rfl) (Nat.le_of_ble_eq_true rfl) rfl ?_
  show Gk E 1 15 1110 68 (w140 (e_B E) (e_cI E) (e_cT E)) 127 [(0, vr 52)] [] _
  refine k_aload_n (np := 128) ok 0 dX6_init_127 rfl rfl rfl ?_
  refine k_iconst (np := 129) (v := 0) ok dX6_init_128 rfl rfl ?_
  refine k_put (np := 132) (c := 6) (k := 10) (fs := [.ref (e_B E + 53), .ref (e_B E + 54), .ref (e_B E + 55), .int 0, .int 0, .int 0, .ref (e_B E + 56), .ref (e_B E + 57), .ref (e_B E + 58), .ref (e_B E + 59), .int 0, .ref (e_B E + 60), .ref (e_B E + 61), .int 0, .int 0, .int 0, .int 0, .ref (e_B E + 62), .ref (e_B E + 63), .ref (e_B E + 64), .ref (e_B E + 65), .ref (e_B E + 66), .int 0, .int 0, .int 0, .null, .ref (e_B E + 67), .int 0, .int 0]) ok hin dX6_init_129 clsX6 tyX6 tyX6_ok nmX6 (by decide) q688 (by decide) rfl rfl (fun _ => rfl) (fun _ => rfl) (Nat.le_of_ble_eq_true rfl) rfl ?_
  show Gk E 1 15 1110 68 (w141 (e_B E) (e_cI E) (e_cT E)) 132 [(0, vr 52)] [] _
  refine k_aload_n (np := 133) ok 0 dX6_init_132 rfl rfl rfl ?_
  refine k_get (np := 136) (c := 6) (k := 2) (v := vr 55) (fs := [.ref (e_B E + 53), .ref (e_B E + 54), .ref (e_B E + 55), .int 0, .int 0, .int 0, .ref (e_B E + 56), .ref (e_B E + 57), .ref (e_B E + 58), .ref (e_B E + 59), .int 0, .ref (e_B E + 60), .ref (e_B E + 61), .int 0, .int 0, .int 0, .int 0, .ref (e_B E + 62), .ref (e_B E + 63), .ref (e_B E + 64), .ref (e_B E + 65), .ref (e_B E + 66), .int 0, .int 0, .int 0, .null, .ref (e_B E + 67), .int 0, .int 0]) ok dX6_init_133 clsX6 (by decide) q680 (by decide) rfl rfl rfl ?_
  refine k_iconst (np := 137) (v := 0) ok dX6_init_136 rfl rfl ?_
  refine k_bipush (np := 139) (v := 40) ok dX6_init_137 rfl rfl ?_
  refine k_iast (np := 140) (L := 5) (i := 0) (f := (fun _ => 0)) ok dX6_init_139 (by decide) rfl rfl (by decide) (by decide) rfl ?_
  show Gk E 1 15 1110 68 (w142 (e_B E) (e_cI E) (e_cT E)) 140 [(0, vr 52)] [] _
  refine k_aload_n (np := 141) ok 0 dX6_init_140 rfl rfl rfl ?_
  refine k_get (np := 144) (c := 6) (k := 2) (v := vr 55) (fs := [.ref (e_B E + 53), .ref (e_B E + 54), .ref (e_B E + 55), .int 0, .int 0, .int 0, .ref (e_B E + 56), .ref (e_B E + 57), .ref (e_B E + 58), .ref (e_B E + 59), .int 0, .ref (e_B E + 60), .ref (e_B E + 61), .int 0, .int 0, .int 0, .int 0, .ref (e_B E + 62), .ref (e_B E + 63), .ref (e_B E + 64), .ref (e_B E + 65), .ref (e_B E + 66), .int 0, .int 0, .int 0, .null, .ref (e_B E + 67), .int 0, .int 0]) ok dX6_init_141 clsX6 (by decide) q680 (by decide) rfl rfl rfl ?_
  refine k_iconst (np := 145) (v := 1) ok dX6_init_144 rfl rfl ?_
  refine k_iconst (np := 146) (v := 1) ok dX6_init_145 rfl rfl ?_
  refine k_iast (np := 147) (L := 5) (i := 1) (f := (upd (fun _ => 0) 0 40)) ok dX6_init_146 (by decide) rfl rfl (by decide) (by decide) rfl ?_
  show Gk E 1 15 1110 68 (w143 (e_B E) (e_cI E) (e_cT E)) 147 [(0, vr 52)] [] _
  refine k_aload_n (np := 148) ok 0 dX6_init_147 rfl rfl rfl ?_
  refine k_get (np := 151) (c := 6) (k := 2) (v := vr 55) (fs := [.ref (e_B E + 53), .ref (e_B E + 54), .ref (e_B E + 55), .int 0, .int 0, .int 0, .ref (e_B E + 56), .ref (e_B E + 57), .ref (e_B E + 58), .ref (e_B E + 59), .int 0, .ref (e_B E + 60), .ref (e_B E + 61), .int 0, .int 0, .int 0, .int 0, .ref (e_B E + 62), .ref (e_B E + 63), .ref (e_B E + 64), .ref (e_B E + 65), .ref (e_B E + 66), .int 0, .int 0, .int 0, .null, .ref (e_B E + 67), .int 0, .int 0]) ok dX6_init_148 clsX6 (by decide) q680 (by decide) rfl rfl rfl ?_
  refine k_iconst (np := 152) (v := 2) ok dX6_init_151 rfl rfl ?_
  refine k_bipush (np := 154) (v := 60) ok dX6_init_152 rfl rfl ?_
  refine k_iast (np := 155) (L := 5) (i := 2) (f := (upd (upd (fun _ => 0) 0 40) 1 1)) ok dX6_init_154 (by decide) rfl rfl (by decide) (by decide) rfl ?_
  show Gk E 1 15 1110 68 (w144 (e_B E) (e_cI E) (e_cT E)) 155 [(0, vr 52)] [] _
  exact k_ret ok hr hk dX6_init_155

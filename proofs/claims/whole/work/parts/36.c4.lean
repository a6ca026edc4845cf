abbrev zi (n : Nat) : ClassId → va_E := fun cI => .inl (cI, n, .inl (fun _ => 0))
abbrev z4 : va_E := .inr (4, [.int 0, .int 0, .int 0, .null])
def e4 (e : EV) (j n : Nat) : EV := fun B cI cT => ue (ue (e B cI cT) n (zi 12 cI)) j (.inr (4, [.int 0, .int 0, .int 0, .ref (B + n)]))
theorem knX4_init : Kn yX4_init cX4_init 1 none 0 := ⟨q35, q4, ⟨by decide, by decide⟩, by decide +kernel⟩
theorem kX4_init {e : EV} {j n : Nat} (hj : j < n) (he : ∀ B cI cT, e B cI cT j = z4) : Ck yX4_init cX4_init 1 1 20 [vr j] 1 12 n e (n + 1) (e4 e j n) := by
  refine Ck.mk (lv := [(0, vr j)]) (by decide) (Nat.le_of_ble_eq_true rfl) rfl (fun E t0 ok hr hk hin hF hc hs => ?_)
  refine k_aload_n (np := 1) ok 0 dX4_init_0 rfl rfl rfl ?_
  refine k_obj (np := 4) ok dX4_init_1 q36 q17 q18 (by decide) (by decide) (by decide) rfl ?_
  refine k_aload_n (np := 5) ok 0 dX4_init_4 rfl rfl rfl ?_
  refine k_bipush (np := 7) (v := 12) ok dX4_init_5 rfl rfl ?_
  refine k_newi (np := 9) (N := 12) ok dX4_init_7 rfl (by decide) (by decide) hc hs rfl ?_
  refine k_put (np := 12) (c := 4) (k := 3) (fs := [.int 0, .int 0, .int 0, .null]) ok hin dX4_init_9 clsX4 tyX4 tyX4_ok nmX4 (by decide) q47 (by omega) (by unfold ue; rw [if_neg (by omega)]; exact he _ _ _) rfl (fun _ => rfl) (fun _ => rfl) (by decide) rfl ?_
  exact k_ret ok hr hk dX4_init_12

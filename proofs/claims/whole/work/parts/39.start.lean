def I0 : HI := fun a => match a with
  | 4 => va_cpy sFirst (fun _ => 0) 0 0 5
  | 21 => va_cpy sFirst (fun _ => 0) 0 0 5
  | 55 => upd (upd (upd (fun _ => 0) 0 40) 1 1) 2 60
  | _ => fun _ => 0
theorem arr_same {cA : ClassId} {n : Nat} {f g : Nat → Value} (h : ∀ i, i < n → f i = g i) : arrV cA n f = arrV cA n g := by
  unfold arrV
  congr 1
  apply Array.ext
  · simp
  · intro i h1 h2
    simp at h1
    simp [h i h1]
set_option maxRecDepth 100000 in
theorem cw_0 (D : va_G) (B : Nat) (cI cT : ClassId) (H : Heap) (h : va_at D vwCl (B + 0, w144 B cI cT 0) H) : va_at D vwCl (B + 0, cel B cI cT I0 0) H := (show w144 B cI cT 0 = cel B cI cT I0 0 from rfl) ▸ h
set_option maxRecDepth 100000 in
theorem cw_1 (D : va_G) (B : Nat) (cI cT : ClassId) (H : Heap) (h : va_at D vwCl (B + 1, w144 B cI cT 1) H) : va_at D vwCl (B + 1, cel B cI cT I0 1) H := (show w144 B cI cT 1 = cel B cI cT I0 1 from rfl) ▸ h
set_option maxRecDepth 100000 in
theorem cw_2 (D : va_G) (B : Nat) (cI cT : ClassId) (H : Heap) (h : va_at D vwCl (B + 2, w144 B cI cT 2) H) : va_at D vwCl (B + 2, cel B cI cT I0 2) H := (show w144 B cI cT 2 = cel B cI cT I0 2 from rfl) ▸ h
set_option maxRecDepth 100000 in
theorem cw_3 (D : va_G) (B : Nat) (cI cT : ClassId) (H : Heap) (h : va_at D vwCl (B + 3, w144 B cI cT 3) H) : va_at D vwCl (B + 3, cel B cI cT I0 3) H := (show w144 B cI cT 3 = cel B cI cT I0 3 from rfl) ▸ h
set_option maxRecDepth 100000 in
theorem cw_4 (D : va_G) (B : Nat) (cI cT : ClassId) (H : Heap) (h : va_at D vwCl (B + 4, w144 B cI cT 4) H) : va_at D vwCl (B + 4, cel B cI cT I0 4) H := (show w144 B cI cT 4 = cel B cI cT I0 4 from rfl) ▸ h
set_option maxRecDepth 100000 in
theorem cw_5 (D : va_G) (B : Nat) (cI cT : ClassId) (H : Heap) (h : va_at D vwCl (B + 5, w144 B cI cT 5) H) : va_at D vwCl (B + 5, cel B cI cT I0 5) H := by
  have h1 : H[B + 5]? = some (vp_cell cT (6, .inr (.inr (.inr (.inr (va_up (va_up (va_up (va_up (va_up (va_up (fun _ => none) 0 (some (B + 6))) 1 (some (B + 8))) 2 (some (B + 10))) 3 (some (B + 12))) 4 (some (B + 14))) 5 (some (B + 16)))))))) := h
  show H[B + 5]? = some (vp_cell cT (6, .inr (.inr (.inr (.inr (fun n => some (B + (5 + 1 + 2 * n))))))))
  rw [h1, vp_cell_q, vp_cell_q]
  exact congrArg some (arr_same (fun i hi => by
    rcases (show i = 0 ∨ i = 1 ∨ i = 2 ∨ i = 3 ∨ i = 4 ∨ i = 5 by omega) with rfl | rfl | rfl | rfl | rfl | rfl <;> rfl))
set_option maxRecDepth 100000 in
theorem cw_6 (D : va_G) (B : Nat) (cI cT : ClassId) (H : Heap) (h : va_at D vwCl (B + 6, w144 B cI cT 6) H) : va_at D vwCl (B + 6, cel B cI cT I0 6) H := (show w144 B cI cT 6 = cel B cI cT I0 6 from rfl) ▸ h
set_option maxRecDepth 100000 in
theorem cw_7 (D : va_G) (B : Nat) (cI cT : ClassId) (H : Heap) (h : va_at D vwCl (B + 7, w144 B cI cT 7) H) : va_at D vwCl (B + 7, cel B cI cT I0 7) H := (show w144 B cI cT 7 = cel B cI cT I0 7 from rfl) ▸ h
set_option maxRecDepth 100000 in
theorem cw_8 (D : va_G) (B : Nat) (cI cT : ClassId) (H : Heap) (h : va_at D vwCl (B + 8, w144 B cI cT 8) H) : va_at D vwCl (B + 8, cel B cI cT I0 8) H := (show w144 B cI cT 8 = cel B cI cT I0 8 from rfl) ▸ h
set_option maxRecDepth 100000 in
theorem cw_9 (D : va_G) (B : Nat) (cI cT : ClassId) (H : Heap) (h : va_at D vwCl (B + 9, w144 B cI cT 9) H) : va_at D vwCl (B + 9, cel B cI cT I0 9) H := (show w144 B cI cT 9 = cel B cI cT I0 9 from rfl) ▸ h
set_option maxRecDepth 100000 in
theorem cw_10 (D : va_G) (B : Nat) (cI cT : ClassId) (H : Heap) (h : va_at D vwCl (B + 10, w144 B cI cT 10) H) : va_at D vwCl (B + 10, cel B cI cT I0 10) H := (show w144 B cI cT 10 = cel B cI cT I0 10 from rfl) ▸ h
set_option maxRecDepth 100000 in
theorem cw_11 (D : va_G) (B : Nat) (cI cT : ClassId) (H : Heap) (h : va_at D vwCl (B + 11, w144 B cI cT 11) H) : va_at D vwCl (B + 11, cel B cI cT I0 11) H := (show w144 B cI cT 11 = cel B cI cT I0 11 from rfl) ▸ h
set_option maxRecDepth 100000 in
theorem cw_12 (D : va_G) (B : Nat) (cI cT : ClassId) (H : Heap) (h : va_at D vwCl (B + 12, w144 B cI cT 12) H) : va_at D vwCl (B + 12, cel B cI cT I0 12) H := (show w144 B cI cT 12 = cel B cI cT I0 12 from rfl) ▸ h
set_option maxRecDepth 100000 in
theorem cw_13 (D : va_G) (B : Nat) (cI cT : ClassId) (H : Heap) (h : va_at D vwCl (B + 13, w144 B cI cT 13) H) : va_at D vwCl (B + 13, cel B cI cT I0 13) H := (show w144 B cI cT 13 = cel B cI cT I0 13 from rfl) ▸ h
set_option maxRecDepth 100000 in
theorem cw_14 (D : va_G) (B : Nat) (cI cT : ClassId) (H : Heap) (h : va_at D vwCl (B + 14, w144 B cI cT 14) H) : va_at D vwCl (B + 14, cel B cI cT I0 14) H := (show w144 B cI cT 14 = cel B cI cT I0 14 from rfl) ▸ h
set_option maxRecDepth 100000 in
theorem cw_15 (D : va_G) (B : Nat) (cI cT : ClassId) (H : Heap) (h : va_at D vwCl (B + 15, w144 B cI cT 15) H) : va_at D vwCl (B + 15, cel B cI cT I0 15) H := (show w144 B cI cT 15 = cel B cI cT I0 15 from rfl) ▸ h
set_option maxRecDepth 100000 in
theorem cw_16 (D : va_G) (B : Nat) (cI cT : ClassId) (H : Heap) (h : va_at D vwCl (B + 16, w144 B cI cT 16) H) : va_at D vwCl (B + 16, cel B cI cT I0 16) H := (show w144 B cI cT 16 = cel B cI cT I0 16 from rfl) ▸ h
set_option maxRecDepth 100000 in
theorem cw_17 (D : va_G) (B : Nat) (cI cT : ClassId) (H : Heap) (h : va_at D vwCl (B + 17, w144 B cI cT 17) H) : va_at D vwCl (B + 17, cel B cI cT I0 17) H := (show w144 B cI cT 17 = cel B cI cT I0 17 from rfl) ▸ h
set_option maxRecDepth 100000 in
theorem cw_18 (D : va_G) (B : Nat) (cI cT : ClassId) (H : Heap) (h : va_at D vwCl (B + 18, w144 B cI cT 18) H) : va_at D vwCl (B + 18, cel B cI cT I0 18) H := (show w144 B cI cT 18 = cel B cI cT I0 18 from rfl) ▸ h
set_option maxRecDepth 100000 in
theorem cw_19 (D : va_G) (B : Nat) (cI cT : ClassId) (H : Heap) (h : va_at D vwCl (B + 19, w144 B cI cT 19) H) : va_at D vwCl (B + 19, cel B cI cT I0 19) H := (show w144 B cI cT 19 = cel B cI cT I0 19 from rfl) ▸ h
set_option maxRecDepth 100000 in
theorem cw_20 (D : va_G) (B : Nat) (cI cT : ClassId) (H : Heap) (h : va_at D vwCl (B + 20, w144 B cI cT 20) H) : va_at D vwCl (B + 20, cel B cI cT I0 20) H := (show w144 B cI cT 20 = cel B cI cT I0 20 from rfl) ▸ h
set_option maxRecDepth 100000 in
theorem cw_21 (D : va_G) (B : Nat) (cI cT : ClassId) (H : Heap) (h : va_at D vwCl (B + 21, w144 B cI cT 21) H) : va_at D vwCl (B + 21, cel B cI cT I0 21) H := (show w144 B cI cT 21 = cel B cI cT I0 21 from rfl) ▸ h
set_option maxRecDepth 100000 in
theorem cw_22 (D : va_G) (B : Nat) (cI cT : ClassId) (H : Heap) (h : va_at D vwCl (B + 22, w144 B cI cT 22) H) : va_at D vwCl (B + 22, cel B cI cT I0 22) H := by
  have h1 : H[B + 22]? = some (vp_cell cT (6, .inr (.inr (.inr (.inr (va_up (va_up (va_up (va_up (va_up (va_up (fun _ => none) 0 (some (B + 23))) 1 (some (B + 25))) 2 (some (B + 27))) 3 (some (B + 29))) 4 (some (B + 31))) 5 (some (B + 33)))))))) := h
  show H[B + 22]? = some (vp_cell cT (6, .inr (.inr (.inr (.inr (fun n => some (B + (22 + 1 + 2 * n))))))))
  rw [h1, vp_cell_q, vp_cell_q]
  exact congrArg some (arr_same (fun i hi => by
    rcases (show i = 0 ∨ i = 1 ∨ i = 2 ∨ i = 3 ∨ i = 4 ∨ i = 5 by omega) with rfl | rfl | rfl | rfl | rfl | rfl <;> rfl))
set_option maxRecDepth 100000 in
theorem cw_23 (D : va_G) (B : Nat) (cI cT : ClassId) (H : Heap) (h : va_at D vwCl (B + 23, w144 B cI cT 23) H) : va_at D vwCl (B + 23, cel B cI cT I0 23) H := (show w144 B cI cT 23 = cel B cI cT I0 23 from rfl) ▸ h
set_option maxRecDepth 100000 in
theorem cw_24 (D : va_G) (B : Nat) (cI cT : ClassId) (H : Heap) (h : va_at D vwCl (B + 24, w144 B cI cT 24) H) : va_at D vwCl (B + 24, cel B cI cT I0 24) H := (show w144 B cI cT 24 = cel B cI cT I0 24 from rfl) ▸ h
set_option maxRecDepth 100000 in
theorem cw_25 (D : va_G) (B : Nat) (cI cT : ClassId) (H : Heap) (h : va_at D vwCl (B + 25, w144 B cI cT 25) H) : va_at D vwCl (B + 25, cel B cI cT I0 25) H := (show w144 B cI cT 25 = cel B cI cT I0 25 from rfl) ▸ h
set_option maxRecDepth 100000 in
theorem cw_26 (D : va_G) (B : Nat) (cI cT : ClassId) (H : Heap) (h : va_at D vwCl (B + 26, w144 B cI cT 26) H) : va_at D vwCl (B + 26, cel B cI cT I0 26) H := (show w144 B cI cT 26 = cel B cI cT I0 26 from rfl) ▸ h
set_option maxRecDepth 100000 in
theorem cw_27 (D : va_G) (B : Nat) (cI cT : ClassId) (H : Heap) (h : va_at D vwCl (B + 27, w144 B cI cT 27) H) : va_at D vwCl (B + 27, cel B cI cT I0 27) H := (show w144 B cI cT 27 = cel B cI cT I0 27 from rfl) ▸ h
set_option maxRecDepth 100000 in
theorem cw_28 (D : va_G) (B : Nat) (cI cT : ClassId) (H : Heap) (h : va_at D vwCl (B + 28, w144 B cI cT 28) H) : va_at D vwCl (B + 28, cel B cI cT I0 28) H := (show w144 B cI cT 28 = cel B cI cT I0 28 from rfl) ▸ h
set_option maxRecDepth 100000 in
theorem cw_29 (D : va_G) (B : Nat) (cI cT : ClassId) (H : Heap) (h : va_at D vwCl (B + 29, w144 B cI cT 29) H) : va_at D vwCl (B + 29, cel B cI cT I0 29) H := (show w144 B cI cT 29 = cel B cI cT I0 29 from rfl) ▸ h
set_option maxRecDepth 100000 in
theorem cw_30 (D : va_G) (B : Nat) (cI cT : ClassId) (H : Heap) (h : va_at D vwCl (B + 30, w144 B cI cT 30) H) : va_at D vwCl (B + 30, cel B cI cT I0 30) H := (show w144 B cI cT 30 = cel B cI cT I0 30 from rfl) ▸ h
set_option maxRecDepth 100000 in
theorem cw_31 (D : va_G) (B : Nat) (cI cT : ClassId) (H : Heap) (h : va_at D vwCl (B + 31, w144 B cI cT 31) H) : va_at D vwCl (B + 31, cel B cI cT I0 31) H := (show w144 B cI cT 31 = cel B cI cT I0 31 from rfl) ▸ h
set_option maxRecDepth 100000 in
theorem cw_32 (D : va_G) (B : Nat) (cI cT : ClassId) (H : Heap) (h : va_at D vwCl (B + 32, w144 B cI cT 32) H) : va_at D vwCl (B + 32, cel B cI cT I0 32) H := (show w144 B cI cT 32 = cel B cI cT I0 32 from rfl) ▸ h
set_option maxRecDepth 100000 in
theorem cw_33 (D : va_G) (B : Nat) (cI cT : ClassId) (H : Heap) (h : va_at D vwCl (B + 33, w144 B cI cT 33) H) : va_at D vwCl (B + 33, cel B cI cT I0 33) H := (show w144 B cI cT 33 = cel B cI cT I0 33 from rfl) ▸ h
set_option maxRecDepth 100000 in
theorem cw_34 (D : va_G) (B : Nat) (cI cT : ClassId) (H : Heap) (h : va_at D vwCl (B + 34, w144 B cI cT 34) H) : va_at D vwCl (B + 34, cel B cI cT I0 34) H := (show w144 B cI cT 34 = cel B cI cT I0 34 from rfl) ▸ h
set_option maxRecDepth 100000 in
theorem cw_35 (D : va_G) (B : Nat) (cI cT : ClassId) (H : Heap) (h : va_at D vwCl (B + 35, w144 B cI cT 35) H) : va_at D vwCl (B + 35, cel B cI cT I0 35) H := (show w144 B cI cT 35 = cel B cI cT I0 35 from rfl) ▸ h
set_option maxRecDepth 100000 in
theorem cw_36 (D : va_G) (B : Nat) (cI cT : ClassId) (H : Heap) (h : va_at D vwCl (B + 36, w144 B cI cT 36) H) : va_at D vwCl (B + 36, cel B cI cT I0 36) H := (show w144 B cI cT 36 = cel B cI cT I0 36 from rfl) ▸ h
set_option maxRecDepth 100000 in
theorem cw_37 (D : va_G) (B : Nat) (cI cT : ClassId) (H : Heap) (h : va_at D vwCl (B + 37, w144 B cI cT 37) H) : va_at D vwCl (B + 37, cel B cI cT I0 37) H := (show w144 B cI cT 37 = cel B cI cT I0 37 from rfl) ▸ h
set_option maxRecDepth 100000 in
theorem cw_38 (D : va_G) (B : Nat) (cI cT : ClassId) (H : Heap) (h : va_at D vwCl (B + 38, w144 B cI cT 38) H) : va_at D vwCl (B + 38, cel B cI cT I0 38) H := by
  have h1 : H[B + 38]? = some (vp_cell cT (4, .inr (.inr (.inr (.inr (va_up (va_up (va_up (va_up (fun _ => none) 0 (some (B + 39))) 1 (some (B + 41))) 2 (some (B + 43))) 3 (some (B + 45)))))))) := h
  show H[B + 38]? = some (vp_cell cT (4, .inr (.inr (.inr (.inr (fun n => some (B + (38 + 1 + 2 * n))))))))
  rw [h1, vp_cell_q, vp_cell_q]
  exact congrArg some (arr_same (fun i hi => by
    rcases (show i = 0 ∨ i = 1 ∨ i = 2 ∨ i = 3 by omega) with rfl | rfl | rfl | rfl <;> rfl))
set_option maxRecDepth 100000 in
theorem cw_39 (D : va_G) (B : Nat) (cI cT : ClassId) (H : Heap) (h : va_at D vwCl (B + 39, w144 B cI cT 39) H) : va_at D vwCl (B + 39, cel B cI cT I0 39) H := (show w144 B cI cT 39 = cel B cI cT I0 39 from rfl) ▸ h
set_option maxRecDepth 100000 in
theorem cw_40 (D : va_G) (B : Nat) (cI cT : ClassId) (H : Heap) (h : va_at D vwCl (B + 40, w144 B cI cT 40) H) : va_at D vwCl (B + 40, cel B cI cT I0 40) H := (show w144 B cI cT 40 = cel B cI cT I0 40 from rfl) ▸ h
set_option maxRecDepth 100000 in
theorem cw_41 (D : va_G) (B : Nat) (cI cT : ClassId) (H : Heap) (h : va_at D vwCl (B + 41, w144 B cI cT 41) H) : va_at D vwCl (B + 41, cel B cI cT I0 41) H := (show w144 B cI cT 41 = cel B cI cT I0 41 from rfl) ▸ h
set_option maxRecDepth 100000 in
theorem cw_42 (D : va_G) (B : Nat) (cI cT : ClassId) (H : Heap) (h : va_at D vwCl (B + 42, w144 B cI cT 42) H) : va_at D vwCl (B + 42, cel B cI cT I0 42) H := (show w144 B cI cT 42 = cel B cI cT I0 42 from rfl) ▸ h
set_option maxRecDepth 100000 in
theorem cw_43 (D : va_G) (B : Nat) (cI cT : ClassId) (H : Heap) (h : va_at D vwCl (B + 43, w144 B cI cT 43) H) : va_at D vwCl (B + 43, cel B cI cT I0 43) H := (show w144 B cI cT 43 = cel B cI cT I0 43 from rfl) ▸ h
set_option maxRecDepth 100000 in
theorem cw_44 (D : va_G) (B : Nat) (cI cT : ClassId) (H : Heap) (h : va_at D vwCl (B + 44, w144 B cI cT 44) H) : va_at D vwCl (B + 44, cel B cI cT I0 44) H := (show w144 B cI cT 44 = cel B cI cT I0 44 from rfl) ▸ h
set_option maxRecDepth 100000 in
theorem cw_45 (D : va_G) (B : Nat) (cI cT : ClassId) (H : Heap) (h : va_at D vwCl (B + 45, w144 B cI cT 45) H) : va_at D vwCl (B + 45, cel B cI cT I0 45) H := (show w144 B cI cT 45 = cel B cI cT I0 45 from rfl) ▸ h
set_option maxRecDepth 100000 in
theorem cw_46 (D : va_G) (B : Nat) (cI cT : ClassId) (H : Heap) (h : va_at D vwCl (B + 46, w144 B cI cT 46) H) : va_at D vwCl (B + 46, cel B cI cT I0 46) H := (show w144 B cI cT 46 = cel B cI cT I0 46 from rfl) ▸ h
set_option maxRecDepth 100000 in
theorem cw_47 (D : va_G) (B : Nat) (cI cT : ClassId) (H : Heap) (h : va_at D vwCl (B + 47, w144 B cI cT 47) H) : va_at D vwCl (B + 47, cel B cI cT I0 47) H := (show w144 B cI cT 47 = cel B cI cT I0 47 from rfl) ▸ h
set_option maxRecDepth 100000 in
theorem cw_48 (D : va_G) (B : Nat) (cI cT : ClassId) (H : Heap) (h : va_at D vwCl (B + 48, w144 B cI cT 48) H) : va_at D vwCl (B + 48, cel B cI cT I0 48) H := (show w144 B cI cT 48 = cel B cI cT I0 48 from rfl) ▸ h
set_option maxRecDepth 100000 in
theorem cw_49 (D : va_G) (B : Nat) (cI cT : ClassId) (H : Heap) (h : va_at D vwCl (B + 49, w144 B cI cT 49) H) : va_at D vwCl (B + 49, cel B cI cT I0 49) H := (show w144 B cI cT 49 = cel B cI cT I0 49 from rfl) ▸ h
set_option maxRecDepth 100000 in
theorem cw_50 (D : va_G) (B : Nat) (cI cT : ClassId) (H : Heap) (h : va_at D vwCl (B + 50, w144 B cI cT 50) H) : va_at D vwCl (B + 50, cel B cI cT I0 50) H := (show w144 B cI cT 50 = cel B cI cT I0 50 from rfl) ▸ h
set_option maxRecDepth 100000 in
theorem cw_51 (D : va_G) (B : Nat) (cI cT : ClassId) (H : Heap) (h : va_at D vwCl (B + 51, w144 B cI cT 51) H) : va_at D vwCl (B + 51, cel B cI cT I0 51) H := (show w144 B cI cT 51 = cel B cI cT I0 51 from rfl) ▸ h
set_option maxRecDepth 100000 in
theorem cw_52 (D : va_G) (B : Nat) (cI cT : ClassId) (H : Heap) (h : va_at D vwCl (B + 52, w144 B cI cT 52) H) : va_at D vwCl (B + 52, cel B cI cT I0 52) H := (show w144 B cI cT 52 = cel B cI cT I0 52 from rfl) ▸ h
set_option maxRecDepth 100000 in
theorem cw_53 (D : va_G) (B : Nat) (cI cT : ClassId) (H : Heap) (h : va_at D vwCl (B + 53, w144 B cI cT 53) H) : va_at D vwCl (B + 53, cel B cI cT I0 53) H := (show w144 B cI cT 53 = cel B cI cT I0 53 from rfl) ▸ h
set_option maxRecDepth 100000 in
theorem cw_54 (D : va_G) (B : Nat) (cI cT : ClassId) (H : Heap) (h : va_at D vwCl (B + 54, w144 B cI cT 54) H) : va_at D vwCl (B + 54, cel B cI cT I0 54) H := (show w144 B cI cT 54 = cel B cI cT I0 54 from rfl) ▸ h
set_option maxRecDepth 100000 in
theorem cw_55 (D : va_G) (B : Nat) (cI cT : ClassId) (H : Heap) (h : va_at D vwCl (B + 55, w144 B cI cT 55) H) : va_at D vwCl (B + 55, cel B cI cT I0 55) H := (show w144 B cI cT 55 = cel B cI cT I0 55 from rfl) ▸ h
set_option maxRecDepth 100000 in
theorem cw_56 (D : va_G) (B : Nat) (cI cT : ClassId) (H : Heap) (h : va_at D vwCl (B + 56, w144 B cI cT 56) H) : va_at D vwCl (B + 56, cel B cI cT I0 56) H := (show w144 B cI cT 56 = cel B cI cT I0 56 from rfl) ▸ h
set_option maxRecDepth 100000 in
theorem cw_57 (D : va_G) (B : Nat) (cI cT : ClassId) (H : Heap) (h : va_at D vwCl (B + 57, w144 B cI cT 57) H) : va_at D vwCl (B + 57, cel B cI cT I0 57) H := (show w144 B cI cT 57 = cel B cI cT I0 57 from rfl) ▸ h
set_option maxRecDepth 100000 in
theorem cw_58 (D : va_G) (B : Nat) (cI cT : ClassId) (H : Heap) (h : va_at D vwCl (B + 58, w144 B cI cT 58) H) : va_at D vwCl (B + 58, cel B cI cT I0 58) H := (show w144 B cI cT 58 = cel B cI cT I0 58 from rfl) ▸ h
set_option maxRecDepth 100000 in
theorem cw_59 (D : va_G) (B : Nat) (cI cT : ClassId) (H : Heap) (h : va_at D vwCl (B + 59, w144 B cI cT 59) H) : va_at D vwCl (B + 59, cel B cI cT I0 59) H := (show w144 B cI cT 59 = cel B cI cT I0 59 from rfl) ▸ h
set_option maxRecDepth 100000 in
theorem cw_60 (D : va_G) (B : Nat) (cI cT : ClassId) (H : Heap) (h : va_at D vwCl (B + 60, w144 B cI cT 60) H) : va_at D vwCl (B + 60, cel B cI cT I0 60) H := (show w144 B cI cT 60 = cel B cI cT I0 60 from rfl) ▸ h
set_option maxRecDepth 100000 in
theorem cw_61 (D : va_G) (B : Nat) (cI cT : ClassId) (H : Heap) (h : va_at D vwCl (B + 61, w144 B cI cT 61) H) : va_at D vwCl (B + 61, cel B cI cT I0 61) H := (show w144 B cI cT 61 = cel B cI cT I0 61 from rfl) ▸ h
set_option maxRecDepth 100000 in
theorem cw_62 (D : va_G) (B : Nat) (cI cT : ClassId) (H : Heap) (h : va_at D vwCl (B + 62, w144 B cI cT 62) H) : va_at D vwCl (B + 62, cel B cI cT I0 62) H := (show w144 B cI cT 62 = cel B cI cT I0 62 from rfl) ▸ h
set_option maxRecDepth 100000 in
theorem cw_63 (D : va_G) (B : Nat) (cI cT : ClassId) (H : Heap) (h : va_at D vwCl (B + 63, w144 B cI cT 63) H) : va_at D vwCl (B + 63, cel B cI cT I0 63) H := (show w144 B cI cT 63 = cel B cI cT I0 63 from rfl) ▸ h
set_option maxRecDepth 100000 in
theorem cw_64 (D : va_G) (B : Nat) (cI cT : ClassId) (H : Heap) (h : va_at D vwCl (B + 64, w144 B cI cT 64) H) : va_at D vwCl (B + 64, cel B cI cT I0 64) H := (show w144 B cI cT 64 = cel B cI cT I0 64 from rfl) ▸ h
set_option maxRecDepth 100000 in
theorem cw_65 (D : va_G) (B : Nat) (cI cT : ClassId) (H : Heap) (h : va_at D vwCl (B + 65, w144 B cI cT 65) H) : va_at D vwCl (B + 65, cel B cI cT I0 65) H := (show w144 B cI cT 65 = cel B cI cT I0 65 from rfl) ▸ h
set_option maxRecDepth 100000 in
theorem cw_66 (D : va_G) (B : Nat) (cI cT : ClassId) (H : Heap) (h : va_at D vwCl (B + 66, w144 B cI cT 66) H) : va_at D vwCl (B + 66, cel B cI cT I0 66) H := (show w144 B cI cT 66 = cel B cI cT I0 66 from rfl) ▸ h
set_option maxRecDepth 100000 in
theorem cw_67 (D : va_G) (B : Nat) (cI cT : ClassId) (H : Heap) (h : va_at D vwCl (B + 67, w144 B cI cT 67) H) : va_at D vwCl (B + 67, cel B cI cT I0 67) H := (show w144 B cI cT 67 = cel B cI cT I0 67 from rfl) ▸ h
set_option maxRecDepth 100000 in
theorem start_P {D : va_G} {B : Nat} {cI cT : ClassId} {H : Heap} (h : va_P D vwCl (gw B 68 (w144 B cI cT)) H) : va_P D vwCl (pw B cI cT I0) H := by
  intro k q hq
  have hk : k < 68 := by rw [← pw_len (B := B) (cI := cI) (cT := cT) (I := I0)]; exact (List.getElem?_eq_some_iff.mp hq).1
  have h1 := h k _ (gw_get hk)
  rw [pw_get hk] at hq
  cases hq
  rcases (show k = 0 ∨ k = 1 ∨ k = 2 ∨ k = 3 ∨ k = 4 ∨ k = 5 ∨ k = 6 ∨ k = 7 ∨ k = 8 ∨ k = 9 ∨ k = 10 ∨ k = 11 ∨ k = 12 ∨ k = 13 ∨ k = 14 ∨ k = 15 ∨ k = 16 ∨ k = 17 ∨ k = 18 ∨ k = 19 ∨ k = 20 ∨ k = 21 ∨ k = 22 ∨ k = 23 ∨ k = 24 ∨ k = 25 ∨ k = 26 ∨ k = 27 ∨ k = 28 ∨ k = 29 ∨ k = 30 ∨ k = 31 ∨ k = 32 ∨ k = 33 ∨ k = 34 ∨ k = 35 ∨ k = 36 ∨ k = 37 ∨ k = 38 ∨ k = 39 ∨ k = 40 ∨ k = 41 ∨ k = 42 ∨ k = 43 ∨ k = 44 ∨ k = 45 ∨ k = 46 ∨ k = 47 ∨ k = 48 ∨ k = 49 ∨ k = 50 ∨ k = 51 ∨ k = 52 ∨ k = 53 ∨ k = 54 ∨ k = 55 ∨ k = 56 ∨ k = 57 ∨ k = 58 ∨ k = 59 ∨ k = 60 ∨ k = 61 ∨ k = 62 ∨ k = 63 ∨ k = 64 ∨ k = 65 ∨ k = 66 ∨ k = 67 by omega) with rfl | rfl | rfl | rfl | rfl | rfl | rfl | rfl | rfl | rfl | rfl | rfl | rfl | rfl | rfl | rfl | rfl | rfl | rfl | rfl | rfl | rfl | rfl | rfl | rfl | rfl | rfl | rfl | rfl | rfl | rfl | rfl | rfl | rfl | rfl | rfl | rfl | rfl | rfl | rfl | rfl | rfl | rfl | rfl | rfl | rfl | rfl | rfl | rfl | rfl | rfl | rfl | rfl | rfl | rfl | rfl | rfl | rfl | rfl | rfl | rfl | rfl | rfl | rfl | rfl | rfl | rfl | rfl
  · exact cw_0 D B cI cT H h1
  · exact cw_1 D B cI cT H h1
  · exact cw_2 D B cI cT H h1
  · exact cw_3 D B cI cT H h1
  · exact cw_4 D B cI cT H h1
  · exact cw_5 D B cI cT H h1
  · exact cw_6 D B cI cT H h1
  · exact cw_7 D B cI cT H h1
  · exact cw_8 D B cI cT H h1
  · exact cw_9 D B cI cT H h1
  · exact cw_10 D B cI cT H h1
  · exact cw_11 D B cI cT H h1
  · exact cw_12 D B cI cT H h1
  · exact cw_13 D B cI cT H h1
  · exact cw_14 D B cI cT H h1
  · exact cw_15 D B cI cT H h1
  · exact cw_16 D B cI cT H h1
  · exact cw_17 D B cI cT H h1
  · exact cw_18 D B cI cT H h1
  · exact cw_19 D B cI cT H h1
  · exact cw_20 D B cI cT H h1
  · exact cw_21 D B cI cT H h1
  · exact cw_22 D B cI cT H h1
  · exact cw_23 D B cI cT H h1
  · exact cw_24 D B cI cT H h1
  · exact cw_25 D B cI cT H h1
  · exact cw_26 D B cI cT H h1
  · exact cw_27 D B cI cT H h1
  · exact cw_28 D B cI cT H h1
  · exact cw_29 D B cI cT H h1
  · exact cw_30 D B cI cT H h1
  · exact cw_31 D B cI cT H h1
  · exact cw_32 D B cI cT H h1
  · exact cw_33 D B cI cT H h1
  · exact cw_34 D B cI cT H h1
  · exact cw_35 D B cI cT H h1
  · exact cw_36 D B cI cT H h1
  · exact cw_37 D B cI cT H h1
  · exact cw_38 D B cI cT H h1
  · exact cw_39 D B cI cT H h1
  · exact cw_40 D B cI cT H h1
  · exact cw_41 D B cI cT H h1
  · exact cw_42 D B cI cT H h1
  · exact cw_43 D B cI cT H h1
  · exact cw_44 D B cI cT H h1
  · exact cw_45 D B cI cT H h1
  · exact cw_46 D B cI cT H h1
  · exact cw_47 D B cI cT H h1
  · exact cw_48 D B cI cT H h1
  · exact cw_49 D B cI cT H h1
  · exact cw_50 D B cI cT H h1
  · exact cw_51 D B cI cT H h1
  · exact cw_52 D B cI cT H h1
  · exact cw_53 D B cI cT H h1
  · exact cw_54 D B cI cT H h1
  · exact cw_55 D B cI cT H h1
  · exact cw_56 D B cI cT H h1
  · exact cw_57 D B cI cT H h1
  · exact cw_58 D B cI cT H h1
  · exact cw_59 D B cI cT H h1
  · exact cw_60 D B cI cT H h1
  · exact cw_61 D B cI cT H h1
  · exact cw_62 D B cI cT H h1
  · exact cw_63 D B cI cT H h1
  · exact cw_64 D B cI cT H h1
  · exact cw_65 D B cI cT H h1
  · exact cw_66 D B cI cT H h1
  · exact cw_67 D B cI cT H h1

def Lw (E : EvT) (b L : Nat) (xs : Nat → Int32) : Prop := Eok E cL_law RL 4 9 362 ∧ va_X b L xs (e_s E) (e_s E).heap ∧ b < (e_s E).heap.size ∧ (e_s E).heap.size ≤ e_B E ∧ L ≤ 3072
def lvL (b i : Nat) : List (Nat × Pv) := [(3, vi (nI i)), (2, vr 52), (1, vr 0), (0, vw b)]
section LawA
variable {E : EvT} {b L pc n i : Nat} {xs : Nat → Int32} {T : Option Pv × HI} {I : HI} {lv lv' : List (Nat × Pv)} {st : List Pv}
theorem g_sld (h : Lw E b L xs) {x : Int32} (d : decode cL_law pc = .ok (.iaload, 1)) (hx : x = nI i) (hi : i < L) (hn : pc + 1 = n) (kk : G E 4 T I n lv (vi (xs i) :: st)) : G E 4 T I pc lv (vi x :: vw b :: st) := by
  subst hn
  obtain ⟨ok, hX, hbl, hB, hL⟩ := h
  have hc := cl_of hx hi (by omega : L < 2 ^ 31)
  intro H locs ls hP hS hl
  have k2 := kk H locs ls hP hS hl
  rw [← hc] at k2
  exact va_sld ok.1 ok.2.1 hX hbl (by omega) hS (in_of hx hi (by omega)) d k2
theorem g_slen (h : Lw E b L xs) (d : decode cL_law pc = .ok (.arraylength, 1)) (hn : pc + 1 = n) (kk : G E 4 T I n lv (vi (nI L) :: st)) : G E 4 T I pc lv (vw b :: st) := by
  subst hn
  obtain ⟨ok, hX, hbl, hB, hL⟩ := h
  exact fun H locs ls hP hS hl => va_slen ok.1 ok.2.1 hX hbl (by omega) hS d (kk H locs ls hP hS hl)
theorem g_arg (h : Lw E b L xs) {k np : Nat} {kI : Int} (d0 : decode cL_law pc = .ok (.aload_n 0, 1)) (d1 : decode cL_law (pc + 1) = .ok (.iload_n 3, 1)) (d2 : decode cL_law (pc + 1 + 1) = .ok (.iconst kI, 1)) (d3 : decode cL_law (pc + 1 + 1 + 1) = .ok (.iadd, 1)) (d4 : decode cL_law (pc + 1 + 1 + 1 + 1) = .ok (.iaload, 1)) (hk : Int32.ofInt kI = nI k) (hi : i + k < L) (hn : pc + 5 = np) (kk : G E 4 T I np (lvL b i) (vi (xs (i + k)) :: st)) : G E 4 T I pc (lvL b i) st := by
  subst hn
  have ok := h.1
  refine g_aload_n ok 3 d0 rfl rfl rfl ?_
  refine g_iload_n ok 0 d1 rfl rfl rfl ?_
  refine g_iconst ok d2 hk rfl ?_
  refine g_iadd ok d3 rfl ?_
  exact g_sld h d4 (nI_add i k) hi rfl kk
end LawA

/-! a growing world: the first n cells of the pool -/
def gw (B n : Nat) (e : Nat → va_E) : va_W := (List.range n).map (fun j => (B + j, e j))
def ue (e : Nat → va_E) (j : Nat) (v : va_E) : Nat → va_E := fun i => if i = j then v else e i
theorem gw_get {B n j : Nat} {e : Nat → va_E} (hj : j < n) : (gw B n e)[j]? = some (B + j, e j) := by simp [gw, hj]
theorem gw_len {B n : Nat} {e : Nat → va_E} : (gw B n e).length = n := by simp [gw]
theorem gw_lt {B n k : Nat} {e : Nat → va_E} {q : Nat × va_E} (h : (gw B n e)[k]? = some q) : k < n := by
  have h1 := (List.getElem?_eq_some_iff.mp h).1
  rw [gw_len] at h1
  exact h1
theorem gw_D {B n : Nat} {e : Nat → va_E} : va_D (fun q => B ≤ q) (gw B n e) := by
  refine ⟨fun i j p q hp hq h => ?_, fun k q hq => ?_⟩
  · rw [gw_get (gw_lt hp)] at hp
    rw [gw_get (gw_lt hq)] at hq
    cases hp; cases hq
    exact Nat.add_left_cancel h
  · rw [gw_get (gw_lt hq)] at hq
    cases hq
    exact Nat.le_add_right _ _
theorem gw_set {B n j : Nat} {e : Nat → va_E} {v : va_E} (hj : j < n) : (gw B n e).set j (B + j, v) = gw B n (ue e j v) := by
  apply List.ext_getElem?
  intro i
  by_cases hi : i = j
  · subst hi
    rw [List.getElem?_set_self (by rw [gw_len]; exact hj), gw_get hj]
    simp [ue]
  · rw [List.getElem?_set_ne (fun e => hi e.symm)]
    by_cases hn : i < n
    · rw [gw_get hn, gw_get hn]; simp [ue, hi]
    · rw [List.getElem?_eq_none (by rw [gw_len]; omega), List.getElem?_eq_none (by rw [gw_len]; omega)]
theorem gw_push {B n : Nat} {e : Nat → va_E} {v : va_E} : gw B n e ++ [(B + n, v)] = gw B (n + 1) (ue e n v) := by
  apply List.ext_getElem?
  intro i
  rcases Nat.lt_trichotomy i n with h | h | h
  · rw [List.getElem?_append_left (by rw [gw_len]; exact h), gw_get h, gw_get (by omega)]
    simp [ue, Nat.ne_of_lt h]
  · subst h
    rw [List.getElem?_append_right (by rw [gw_len]; exact Nat.le_refl _), gw_len, Nat.sub_self, gw_get (by omega)]
    simp [ue]
  · rw [List.getElem?_eq_none (by rw [List.length_append, gw_len]; simp; omega), List.getElem?_eq_none (by rw [gw_len]; omega)]
def sFirst (i : Nat) : Int32 := if i = 0 then 40 else if i = 1 then 1 else if i = 2 then 60 else 0
def Zf (B t0 : Nat) (U : State) : Prop := va_Z "EightOnIce" "SETTING_FIRST" "[I" (.ref t0) (fun q => B ≤ q) U U.heap ∧ va_T .int t0 5 (fun j => .int (sFirst j)) (fun q => B ≤ q) U U.heap ∧ t0 < B ∧ va_AO "EightOnIce$Trace" U ∧ va_Nw (.fieldLinkNest "EightOnIce$Rink" 31 "EightOnIce" "SETTING_FIRST" "[I" "EightOnIce") U
def Wc (D : va_G) (cI cT : ClassId) (B t0 t1 t2 n : Nat) (e : Nat → va_E) (U : State) : Prop := va_P D vwCl (gw B n e) U.heap ∧ va_K D vwCl (tys2 cI cT) U ∧ U.heap.size = B + n ∧ Zt B t1 t2 U ∧ Nx U ∧ Zf B t0 U
def Qc (D : va_G) (B n : Nat) (e : Nat → va_E) : Array Value → State → Outcome → State → Prop := fun _ st oc t => (oc = .returned none ∧ va_P D vwCl (gw B n e) t.heap ∧ t.heap.size = B + n) ∧ va_F (fun q => B ≤ q) st t
abbrev EV : Type := Nat → ClassId → ClassId → Nat → va_E
def Ck (y : MethodName) (cc : ByteArray) (maxL fr lo : Nat) (av : List Pv) (dc ds n : Nat) (e : EV) (n' : Nat) (e' : EV) : Prop :=
  ∀ (l : Launch) (D : va_G) (cI cT : ClassId) (B t0 t1 t2 : Nat), Met l y (Cond.code y cc maxL none :: wG) { frames := fr, cells := dc, slots := ds, locals := lo } (va_Pc (av.map (pv B)) (Wc D cI cT B t0 t1 t2 n (e B cI cT))) (Qc D B n' (e' B cI cT)) dc ds (fun q => B ≤ q)
def Gk (E : EvT) (nL ce sl n : Nat) (e : Nat → va_E) (pc : Nat) (lv : List (Nat × Pv)) (st : List Pv) (Q : State → Prop) : Prop :=
  ∀ (H : Heap) (locs : List Loc) (ls : Array Slot), va_P (e_D E) vwCl (gw (e_B E) n e) H → H.size = e_B E + n → va_S (fun q => e_B E ≤ q) (e_s E).heap H locs → lv_has ls nL (lvm (e_B E) lv) →
    W (e_p E) (e_l E) (e_e E) (e_R E) (e_s E) (e_m E) (e_a E) (e_b E) (e_me E) (e_c E) H locs ce sl Q (F0 (e_m E) pc ls (st.map (pv (e_B E))))
section Ctor
variable {E : EvT} {cc : ByteArray} {own : String} {nL fr lo ce sl n pc np : Nat} {e e' : Nat → va_E} {lv lv' : List (Nat × Pv)} {st rest : List Pv} {Q : State → Prop}
theorem k_iconst (ok : Eok E cc own nL fr lo) {k : Int} {v : Int32} (d : decode cc pc = .ok (.iconst k, 1)) (hv : Int32.ofInt k = v) (hn : pc + 1 = np) (kk : Gk E nL ce sl n e np lv (vi v :: st) Q) : Gk E nL ce sl n e pc lv st Q := by
  subst hn
  exact fun H locs ls hP hz hS hl => lv_iconst ok.1 ok.2.1 d hv (kk H locs ls hP hz hS hl)
theorem k_bipush (ok : Eok E cc own nL fr lo) {k : Int} {v : Int32} (d : decode cc pc = .ok (.bipush k, 2)) (hv : (Int8.ofInt k).toInt32 = v) (hn : pc + 2 = np) (kk : Gk E nL ce sl n e np lv (vi v :: st) Q) : Gk E nL ce sl n e pc lv st Q := by
  subst hn
  exact fun H locs ls hP hz hS hl => lv_bipush ok.1 ok.2.1 d hv (kk H locs ls hP hz hS hl)
theorem k_sipush (ok : Eok E cc own nL fr lo) {k : Int} {v : Int32} (d : decode cc pc = .ok (.sipush k, 3)) (hv : (Int16.ofInt k).toInt32 = v) (hn : pc + 3 = np) (kk : Gk E nL ce sl n e np lv (vi v :: st) Q) : Gk E nL ce sl n e pc lv st Q := by
  subst hn
  exact fun H locs ls hP hz hS hl => lv_sipush ok.1 ok.2.1 d hv (kk H locs ls hP hz hS hl)
theorem k_aload_n (ok : Eok E cc own nL fr lo) {k : Fin 4} {i j : Nat} (q : Nat) (d : decode cc pc = .ok (.aload_n k, 1)) (hi : (k : Nat) = i) (hq : lv[q]? = some (i, vr j)) (hn : pc + 1 = np) (kk : Gk E nL ce sl n e np lv (vr j :: st) Q) : Gk E nL ce sl n e pc lv st Q := by
  subst hn
  exact fun H locs ls hP hz hS hl => lv_aload_n ok.1 ok.2.1 d hi (lvm_at hl hq) (kk H locs ls hP hz hS hl)
theorem k_iload_n (ok : Eok E cc own nL fr lo) {k : Fin 4} {i : Nat} {x : Int32} (q : Nat) (d : decode cc pc = .ok (.iload_n k, 1)) (hi : (k : Nat) = i) (hq : lv[q]? = some (i, vi x)) (hn : pc + 1 = np) (kk : Gk E nL ce sl n e np lv (vi x :: st) Q) : Gk E nL ce sl n e pc lv st Q := by
  subst hn
  exact fun H locs ls hP hz hS hl => lv_iload_n ok.1 ok.2.1 d hi (lvm_at hl hq) (kk H locs ls hP hz hS hl)
theorem k_istore_n (ok : Eok E cc own nL fr lo) {k : Fin 4} {i : Nat} {x : Int32} (d : decode cc pc = .ok (.istore_n k, 1)) (hi : (k : Nat) = i) (hi2 : i < nL) (hv : (i, vi x) :: lv.filter (fun q => !(q.1 == i) && !(q.1 + 1 == i && isL q.2)) = lv') (hn : pc + 1 = np) (kk : Gk E nL ce sl n e np lv' st Q) : Gk E nL ce sl n e pc lv (vi x :: st) Q := by
  subst hn
  exact fun H locs ls hP hz hS hl => lv_istore_n ok.1 ok.2.1 d hi hl hi2 (lvm_store (ls := ls) hv) (fun ls' hl' => kk H locs ls' hP hz hS hl')
theorem k_iinc (ok : Eok E cc own nL fr lo) {i : Nat} {k : Int} {x v : Int32} (q : Nat) (d : decode cc pc = .ok (.iinc i k, 3)) (hq : lv[q]? = some (i, vi x)) (hk : x + Int32.ofInt k = v) (hi2 : i < nL) (hv : (i, vi v) :: lv.filter (fun q => !(q.1 == i) && !(q.1 + 1 == i && isL q.2)) = lv') (hn : pc + 3 = np) (kk : Gk E nL ce sl n e np lv' st Q) : Gk E nL ce sl n e pc lv st Q := by
  subst hn
  exact fun H locs ls hP hz hS hl => lv_iinc (k := q) ok.1 ok.2.1 d hl (by simp only [lvm, List.getElem?_map, hq]; rfl) hk hi2 (lvm_store (ls := ls) hv) (fun ls' hl' => kk H locs ls' hP hz hS hl')
theorem k_dup (ok : Eok E cc own nL fr lo) {v : Pv} (d : decode cc pc = .ok (.dup, 1)) (hv : isL v = false) (hn : pc + 1 = np) (kk : Gk E nL ce sl n e np lv (v :: v :: st) Q) : Gk E nL ce sl n e pc lv (v :: st) Q := by
  subst hn
  exact fun H locs ls hP hz hS hl => lv_dup ok.1 ok.2.1 d (cat1 hv) (kk H locs ls hP hz hS hl)
theorem k_goto (ok : Eok E cc own nL fr lo) {off : Int} {tgt : Nat} (d : decode cc pc = .ok (.goto off, 3)) (ht : (pc : Int) + off = (tgt : Int)) (kk : Gk E nL ce sl n e tgt lv st Q) : Gk E nL ce sl n e pc lv st Q := fun H locs ls hP hz hS hl => lv_goto ok.1 ok.2.1 d ht (kk H locs ls hP hz hS hl)
theorem k_icmp_ge (ok : Eok E cc own nL fr lo) {x y : Int32} {off : Int} {tgt : Nat} (d : decode cc pc = .ok (.if_icmp .ge off, 3)) (ht : (pc : Int) + off = (tgt : Int)) (hn : pc + 3 = np) (kt : y ≤ x → Gk E nL ce sl n e tgt lv st Q) (kf : ¬ y ≤ x → Gk E nL ce sl n e np lv st Q) : Gk E nL ce sl n e pc lv (vi y :: vi x :: st) Q := by
  subst hn
  exact fun H locs ls hP hz hS hl => lv_icmp_ge ok.1 ok.2.1 d ht (fun c => kt c H locs ls hP hz hS hl) (fun c => kf c H locs ls hP hz hS hl)
theorem k_newi (ok : Eok E cc own nL fr lo) {x : Int32} {N : Nat} (d : decode cc pc = .ok (.newarray .int, 2)) (hN : x.toNatClampNeg = N) (h0 : ¬ x < 0) (hb : N * 4 ≤ 536870912) (hce : ce + 1 ≤ (e_R E).cells) (hsl : sl + N ≤ (e_R E).slots) (hn : pc + 2 = np) (kk : Gk E nL (ce + 1) (sl + N) (n + 1) (ue e n (.inl (e_cI E, N, .inl (fun _ => 0)))) np lv (vr n :: st) Q) : Gk E nL ce sl n e pc lv (vi x :: st) Q := by
  subst hn
  intro H locs ls hP hz hS hl
  refine va_newaK ok.1 ok.2.1 (atype := .int) (ok.word q60 rfl) rfl d rfl h0 hN hb hce hsl hz fun H1 cA e1 z1 o1 hAr hNm => ?_
  have hc : cA = e_cI E := by
    have h1 := (ok.2.2.2.2.2.2.1.2 0 _ rfl).2
    exact Option.some.inj (hNm.symm.trans h1)
  subst hc
  refine kk H1 locs ls ?_ (by rw [z1]; omega) ⟨Nat.le_trans hS.1 (by omega), fun x h1 h2 => (o1 x (by have := hS.1; omega)).trans (hS.2.1 x h1 h2), hS.2.2⟩ hl
  rw [← gw_push]
  refine ((hP.kept (fun k x hx => o1 x.1 (by rw [← hz]; exact (hP k x hx).lt))).app (fun k x hx => ?_))
  have hz : k < 1 := (List.getElem?_eq_some_iff.mp hx).1
  rw [show k = 0 by omega] at hx
  cases hx
  show H1[e_B E + n]? = some (vp_cell _ _)
  rw [e1, vp_cell_i]
  rfl
end Ctor

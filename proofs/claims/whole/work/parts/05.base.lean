/-! the pool: 68 cells from B on; all ints in one table I (cell, place); all references fixed -/
abbrev HI : Type := Nat → Nat → Int32
abbrev Pv : Type := Int32 ⊕ (Int64 ⊕ (Option Nat ⊕ Nat))
abbrev vi (x : Int32) : Pv := .inl x
abbrev vl (x : Int64) : Pv := .inr (.inl x)
abbrev vo (o : Option Nat) : Pv := .inr (.inr (.inl o))
abbrev vr (j : Nat) : Pv := .inr (.inr (.inl (some j)))
abbrev vn : Pv := .inr (.inr (.inl none))
abbrev vw (a : Nat) : Pv := .inr (.inr (.inr a))
def pv (B : Nat) : Pv → Value
  | .inl x => .int x
  | .inr (.inl x) => .long x
  | .inr (.inr (.inl none)) => .null
  | .inr (.inr (.inl (some j))) => .ref (B + j)
  | .inr (.inr (.inr a)) => .ref a
def isL : Pv → Bool
  | .inr (.inl _) => true
  | _ => false
def ix (x : Int32) : Nat := x.toNatClampNeg
def kin (x : Int32) : Option Nat := if x = 0 then none else some (ix x)
def kdL : List Nat := [5, 3,7,7,7,8, 4,7,4,7,4,7,4,7,4,7,4,7, 3,7,7,7,8, 4,7,4,7,4,7,4,7,4,7,4,7, 2,7, 1,8, 4,7,4,7,4,7,4,7, 0,7,7, 7,7, 6, 7,7,7,7,7,7,7,7,7,7,7,7,7,7,7]
def kd (j : Nat) : Nat := kdL.getD j 9
def lnL : List Nat := [0, 0,24,24,5,6, 0,12,0,12,0,12,0,12,0,12,0,12, 0,24,24,5,6, 0,12,0,12,0,12,0,12,0,12,0,12, 0,30, 0,4, 0,12,0,12,0,12,0,12, 0,96,96, 12,7, 0, 24,24,5,27,27,27,324,7,96,49,49,147,146,146,12]
def ln (j : Nat) : Nat := lnL.getD j 0
theorem kd_lt {j : Nat} (h : kd j ≠ 9) : j < 68 := by
  rcases Nat.lt_or_ge j 68 with q | q
  · exact q
  · exact absurd (by unfold kd; rw [List.getD_eq_getElem?_getD, List.getElem?_eq_none (by simpa [kdL] using q)]; rfl) h
def fls (I : HI) (c j : Nat) : List Pv := match c with
  | 0 => [vr (j + 1), vi (I j 1), vr (j + 2), vi (I j 3), vi (I j 4)]
  | 1 => [vr 1, vr (j + 1), vi (I j 2)]
  | 2 => [vr 1, vr (j + 1)]
  | 3 => [vr (j + 1), vr (j + 2), vr (j + 3), vi (I j 3), vi (I j 4), vr (j + 4), vi (I j 6)]
  | 4 => [vi (I j 0), vi (I j 1), vi (I j 2), vr (j + 1)]
  | 5 => [vr 1, vr 18, vi (I j 2), vr 35, vr 37, vr 47, vr 50, vi (I j 7), vr 51]
  | _ => [vr 53, vr 54, vr 55, vi (I j 3), vi (I j 4), vi (I j 5), vr 56, vr 57, vr 58, vr 59, vi (I j 10), vr 60, vr 61, vi (I j 13), vi (I j 14), vi (I j 15), vi (I j 16), vr 62, vr 63, vr 64, vr 65, vr 66, vi (I j 22), vi (I j 23), vi (I j 24), vo (kin (I j 25)), vr 67, vi (I j 27), vi (I j 28)]
def cel (B : Nat) (cI cT : ClassId) (I : HI) (j : Nat) : va_E :=
  if kd j = 7 then .inl (cI, ln j, .inl (I j)) else if kd j = 8 then .inl (cT, ln j, .inr (.inr (.inr (.inr (fun n => some (B + (j + 1 + 2 * n))))))) else .inr (kd j, (fls I (kd j) j).map (pv B))
def pw (B : Nat) (cI cT : ClassId) (I : HI) : va_W := (List.range 68).map (fun j => (B + j, cel B cI cT I j))
def up (I : HI) (j k : Nat) (v : Int32) : HI := fun a b => if a = j then (if b = k then v else I a b) else I a b
theorem pw_get {B : Nat} {cI cT : ClassId} {I : HI} {j : Nat} (hj : j < 68) : (pw B cI cT I)[j]? = some (B + j, cel B cI cT I j) := by simp [pw, hj]
theorem pw_len {B : Nat} {cI cT : ClassId} {I : HI} : (pw B cI cT I).length = 68 := by simp [pw]
theorem pw_D {B : Nat} {cI cT : ClassId} {I : HI} : va_D (fun q => B ≤ q) (pw B cI cT I) := by
  have hlt : ∀ {k : Nat} {q : Nat × va_E}, (pw B cI cT I)[k]? = some q → k < 68 := fun h => by rw [← pw_len (B := B) (cI := cI) (cT := cT) (I := I)]; exact (List.getElem?_eq_some_iff.mp h).1
  refine ⟨fun i j p q hp hq h => ?_, fun k q hq => ?_⟩
  · rw [pw_get (hlt hp)] at hp
    rw [pw_get (hlt hq)] at hq
    cases hp; cases hq
    exact Nat.add_left_cancel h
  · rw [pw_get (hlt hq)] at hq
    cases hq
    exact Nat.le_add_right _ _
theorem cel_congr {B : Nat} {cI cT : ClassId} {I J : HI} {j : Nat} (h : I j = J j) : cel B cI cT I j = cel B cI cT J j := by
  unfold cel fls
  rw [h]
theorem pw_set {B : Nat} {cI cT : ClassId} {I : HI} {j : Nat} (hj : j < 68) (J : HI) (h : ∀ i, i ≠ j → J i = I i) : (pw B cI cT I).set j (B + j, cel B cI cT J j) = pw B cI cT J := by
  apply List.ext_getElem?
  intro i
  by_cases hi : i = j
  · subst hi
    rw [List.getElem?_set_self (by rw [pw_len]; exact hj), pw_get hj]
  · rw [List.getElem?_set_ne (fun e => hi e.symm)]
    by_cases h68 : i < 68
    · rw [pw_get h68, pw_get h68, cel_congr (h i hi)]
    · rw [List.getElem?_eq_none (by rw [pw_len]; omega), List.getElem?_eq_none (by rw [pw_len]; omega)]
theorem up_ne {I : HI} {j k : Nat} {v : Int32} : ∀ i, i ≠ j → up I j k v i = I i := fun i h => by funext b; simp [up, h]
theorem up_self {I : HI} {j k : Nat} {v : Int32} : up I j k v j = upd (I j) k v := by funext b; simp [up, upd]
theorem cel_int {B : Nat} {cI cT : ClassId} {I : HI} {j : Nat} (h : kd j = 7) : cel B cI cT I j = .inl (cI, ln j, .inl (I j)) := by simp [cel, h]
theorem cel_tr {B : Nat} {cI cT : ClassId} {I : HI} {j : Nat} (h : kd j = 8) : cel B cI cT I j = .inl (cT, ln j, .inr (.inr (.inr (.inr (fun n => some (B + (j + 1 + 2 * n))))))) := by simp [cel, h]
theorem cel_ob {B : Nat} {cI cT : ClassId} {I : HI} {j c : Nat} (h : kd j = c) (hc : c < 7) : cel B cI cT I j = .inr (c, (fls I c j).map (pv B)) := by
  subst h
  unfold cel
  rw [if_neg (by omega), if_neg (by omega)]
theorem pv_cat (B : Nat) (v : Pv) : ((pv B v).category == 2) = isL v := by
  rcases v with x | x | (_ | x) | x <;> rfl
/-- the statics' rows -/
def sLeast (i : Nat) : Int32 := if i = 0 then 10 else 0
def sMost (i : Nat) : Int32 := if i = 0 then 99 else if i = 2 then 100 else 9
abbrev tys2 (cI cT : ClassId) : List (ClassId × FieldType) := [(cI, .int), (cT, .object "EightOnIce$Trace")]
def Zt (B t1 t2 : Nat) (U : State) : Prop := va_Z "EightOnIce" "SETTING_LEAST" "[I" (.ref t1) (fun q => B ≤ q) U U.heap ∧ va_T .int t1 5 (fun j => .int (sLeast j)) (fun q => B ≤ q) U U.heap ∧ va_Z "EightOnIce" "SETTING_MOST" "[I" (.ref t2) (fun q => B ≤ q) U U.heap ∧ va_T .int t2 5 (fun j => .int (sMost j)) (fun q => B ≤ q) U U.heap
abbrev EvT : Type := Program × Launch × Env × Room × State × MethodId × Array Value × List Frame × Method × Code × va_G × ClassId × ClassId × Nat × Nat × Nat × Nat × Nat × ((Option Pv × HI) → State → Prop)
abbrev e_p (E : EvT) : Program := E.1
abbrev e_l (E : EvT) : Launch := E.2.1
abbrev e_e (E : EvT) : Env := E.2.2.1
abbrev e_R (E : EvT) : Room := E.2.2.2.1
abbrev e_s (E : EvT) : State := E.2.2.2.2.1
abbrev e_m (E : EvT) : MethodId := E.2.2.2.2.2.1
abbrev e_a (E : EvT) : Array Value := E.2.2.2.2.2.2.1
abbrev e_b (E : EvT) : List Frame := E.2.2.2.2.2.2.2.1
abbrev e_me (E : EvT) : Method := E.2.2.2.2.2.2.2.2.1
abbrev e_c (E : EvT) : Code := E.2.2.2.2.2.2.2.2.2.1
abbrev e_D (E : EvT) : va_G := E.2.2.2.2.2.2.2.2.2.2.1
abbrev e_cI (E : EvT) : ClassId := E.2.2.2.2.2.2.2.2.2.2.2.1
abbrev e_cT (E : EvT) : ClassId := E.2.2.2.2.2.2.2.2.2.2.2.2.1
abbrev e_B (E : EvT) : Nat := E.2.2.2.2.2.2.2.2.2.2.2.2.2.1
abbrev e_t1 (E : EvT) : Nat := E.2.2.2.2.2.2.2.2.2.2.2.2.2.2.1
abbrev e_t2 (E : EvT) : Nat := E.2.2.2.2.2.2.2.2.2.2.2.2.2.2.2.1
abbrev e_ce (E : EvT) : Nat := E.2.2.2.2.2.2.2.2.2.2.2.2.2.2.2.2.1
abbrev e_sl (E : EvT) : Nat := E.2.2.2.2.2.2.2.2.2.2.2.2.2.2.2.2.2.1
abbrev e_Q (E : EvT) : (Option Pv × HI) → State → Prop := E.2.2.2.2.2.2.2.2.2.2.2.2.2.2.2.2.2.2
def isNest : Cond → Bool
  | .methodLinkNest .. => true
  | _ => false
def wG : List Cond := lw_tbl.filter goodWord
def Nx (U : State) : Prop := ∀ w ∈ lw_tbl, isNest w = true → va_Nw w U
theorem Nx.warm {s U : State} (hW : s.WarmedH U.vm) (h : Nx s) : Nx U := fun w hw hn => by
  have h1 := h w hw hn
  cases w <;> first | exact va_Nw.warmM hW h1 | (cases hn)
/-- the world of a pool in a state -/
def Wd (D : va_G) (cI cT : ClassId) (B t1 t2 : Nat) (I : HI) (U : State) : Prop := va_P D vwCl (pw B cI cT I) U.heap ∧ va_K D vwCl (tys2 cI cT) U ∧ B ≤ U.heap.size ∧ Zt B t1 t2 U ∧ Nx U
def lvm (B : Nat) (lv : List (Nat × Pv)) : List (Nat × Value) := lv.map (fun q => (q.1, pv B q.2))
/-- from place pc, with these locals, this stack and this pool, the run comes to the target T -/
def G (E : EvT) (nL : Nat) (T : Option Pv × HI) (I : HI) (pc : Nat) (lv : List (Nat × Pv)) (st : List Pv) : Prop :=
  ∀ (H : Heap) (locs : List Loc) (ls : Array Slot), va_P (e_D E) vwCl (pw (e_B E) (e_cI E) (e_cT E) I) H → va_S (fun q => e_B E ≤ q) (e_s E).heap H locs → lv_has ls nL (lvm (e_B E) lv) →
    W (e_p E) (e_l E) (e_e E) (e_R E) (e_s E) (e_m E) (e_a E) (e_b E) (e_me E) (e_c E) H locs (e_ce E) (e_sl E) (e_Q E T) (F0 (e_m E) pc ls (st.map (pv (e_B E))))
def Eok (E : EvT) (cc : ByteArray) (own : String) (nL fr lo : Nat) : Prop :=
  (e_p E).tables.exec = Jvm.exec ∧ (e_c E).code = cc ∧ (e_c E).maxLocals = nL ∧ (e_s E).vm.findClass own = some (e_m E).cls ∧ (∀ w ∈ wG, w.before (e_a E) (e_s E) = true) ∧ Nx (e_s E) ∧ va_K (e_D E) vwCl (tys2 (e_cI E) (e_cT E)) (e_s E) ∧ e_B E ≤ (e_s E).heap.size ∧ Zt (e_B E) (e_t1 E) (e_t2 E) (e_s E) ∧ fr ≤ (e_R E).frames ∧ lo ≤ (e_R E).locals ∧ e_ce E ≤ (e_R E).cells ∧ e_sl E ≤ (e_R E).slots
/-- what a contract says at its end -/
def Qe (D : va_G) (cI cT : ClassId) (B : Nat) (T : Option Pv × HI) : Array Value → State → Outcome → State → Prop := fun _ st oc t => (oc = .returned (T.1.map (pv B)) ∧ va_P D vwCl (pw B cI cT T.2) t.heap) ∧ va_F (fun q => B ≤ q) st t
def Er (E : EvT) (ret : Option FieldType) : Prop := (e_me E).sig.returnType = ret ∧ (e_me E).locks = false ∧ e_ce E = 0 ∧ e_sl E = 0 ∧ e_Q E = fun T => MQ (e_b E) (Qe (e_D E) (e_cI E) (e_cT E) (e_B E) T) (e_a E) (e_s E) 0 0 (fun q => e_B E ≤ q)
/-- a contract: from the pool I with these arguments the method comes to the target T -/
def Cx (y : MethodName) (cc : ByteArray) (maxL : Nat) (ret : Option FieldType) (fr lo : Nat) (av : List Pv) (I : HI) (T : Option Pv × HI) : Prop :=
  ∀ (l : Launch) (D : va_G) (cI cT : ClassId) (B t1 t2 : Nat), Met l y (Cond.code y cc maxL ret :: wG) { frames := fr, cells := 0, slots := 0, locals := lo } (va_Pc (av.map (pv B)) (Wd D cI cT B t1 t2 I)) (Qe D cI cT B T) 0 0 (fun q => B ≤ q)
def largs : Nat → List Pv → List (Nat × Pv)
  | _, [] => []
  | i, v :: vs => (i, v) :: largs (bif isL v then i + 2 else i + 1) vs
theorem largs_ok (B : Nat) : ∀ (i : Nat) (vs : List Pv), lv_args i (vs.map (pv B)) = lvm B (largs i vs)
  | _, [] => rfl
  | i, v :: vs => by
    have h := pv_cat B v
    have e : (if (pv B v).category = 2 then i + 2 else i + 1) = (bif isL v then i + 2 else i + 1) := by
      rw [← h]
      by_cases q : (pv B v).category = 2
      · simp [q]
      · rw [if_neg q, show ((pv B v).category == 2) = false from by simpa using q]; rfl
    show (i, pv B v) :: lv_args _ _ = (i, pv B v) :: lvm B _
    rw [e, largs_ok B _ vs]
theorem va_Z.at {C n d : String} {v : Value} {A : Nat → Prop} {u U : State} (hvm : u.vm.Alike U.vm) (hq : ∀ a : Nat, a < u.heap.size → ¬ A a → U.heap[a]? = u.heap[a]?) (h : va_Z C n d v A u u.heap) : va_Z C n d v A U U.heap := (h.kept hq).moved hvm
theorem va_T.at {ty : FieldType} {t N : Nat} {f : Nat → Value} {A : Nat → Prop} {u U : State} (hvm : u.vm.Alike U.vm) (hq : ∀ a : Nat, a < u.heap.size → ¬ A a → U.heap[a]? = u.heap[a]?) (h : va_T ty t N f A u u.heap) : va_T ty t N f A U U.heap := (h.kept hq).moved hvm
theorem Zt.at {B t1 t2 : Nat} {u U : State} (hvm : u.vm.Alike U.vm) (hq : ∀ a : Nat, a < u.heap.size → ¬ B ≤ a → U.heap[a]? = u.heap[a]?) (h : Zt B t1 t2 u) : Zt B t1 t2 U := ⟨h.1.at hvm hq, h.2.1.at hvm hq, h.2.2.1.at hvm hq, h.2.2.2.at hvm hq⟩
theorem Wd.blind (D : va_G) (cI cT : ClassId) (B t1 t2 : Nat) (I : HI) (av : List Value) : FrameBlind (va_Pc av (Wd D cI cT B t1 t2 I)) := fun a U g mk q => by
  obtain ⟨q0, q1, q2, q3, q4, q5⟩ := q
  refine ⟨q0, q1, va_K.moved (u := U) (U := U.calling g mk a) (Vm.Alike.refl U.vm) q2, q3, Zt.at (u := U) (U := U.calling g mk a) (Vm.Alike.refl U.vm) (fun _ _ _ => rfl) q4, fun w hw hn => ?_⟩
  have h1 := q5 w hw hn
  cases w <;> first | exact va_Nw.same rfl rfl h1 | (cases hn)
theorem good_wG : GoodIn wG wG := fun w h => ⟨h, good_of_word (List.mem_filter.mp h).2⟩
theorem good_code {y : MethodName} {cc : ByteArray} {n : Nat} {ret : Option FieldType} (h : Cond.code y cc n ret ∈ lw_tbl) : GoodIn wG (Cond.code y cc n ret :: wG) := fun w hw => by
  rcases List.mem_cons.mp hw with rfl | hw
  · exact ⟨List.mem_filter.mpr ⟨h, rfl⟩, Or.inl rfl⟩
  · exact good_wG w hw
def lsz : List Pv → Nat
  | [] => 0
  | v :: vs => (bif isL v then 2 else 1) + lsz vs
theorem pv_cats (B : Nat) (v : Pv) : (pv B v).category = bif isL v then 2 else 1 := by rcases v with x | x | (_ | x) | x <;> rfl
theorem lsz_sum (B : Nat) : ∀ vs : List Pv, ((vs.map (pv B)).map fun v => v.category).sum = lsz vs
  | [] => rfl
  | v :: vs => by
    show (pv B v).category + ((vs.map (pv B)).map fun v => v.category).sum = _ + lsz vs
    rw [pv_cats, ← lsz_sum B vs]
theorem lsz_len (B : Nat) : ∀ vs : List Pv, (lg_sl (vs.map (pv B))).length = lsz vs
  | [] => rfl
  | v :: vs => by
    have h := lsz_len B vs
    rcases v with x | x | (_ | x) | x <;> simp [lg_sl, pv, lsz, isL, Value.category, ← h] <;> omega
/-- a method's proof begins -/
theorem Cx.mk {y : MethodName} {cc : ByteArray} {maxL : Nat} {ret : Option FieldType} {fr lo : Nat} {av : List Pv} {I : HI} {T : Option Pv × HI} {lv : List (Nat × Pv)} (hy : plainName y.cls = true) (hn : lsz av ≤ maxL) (hlv : largs 0 av = lv)
    (h : ∀ E : EvT, Eok E cc y.cls maxL fr lo → Er E ret → G E maxL T I 0 lv []) : Cx y cc maxL ret fr lo av I T := by
  intro l D cI cT B t1 t2
  refine Met.ofW (cc := cc) (maxL := maxL) (ret := ret) hy rfl ?_
  intro p e s m args below meth c s₁ Bd hml hv
  obtain ⟨rfl, hP, hK, hB, hZ, hN⟩ := hv
  subst hlv
  have hts := atoms_spec (ws := Cond.code y cc maxL ret :: wG) Bd.pre
  have hl := lv_entry (av.map (pv B)) (n := maxL) (by rw [lsz_len]; exact hn)
  rw [lg_entry_eq]
  rw [largs_ok B 0 av] at hl
  exact h (p, l, e, _, s, m, (av.map (pv B)).toArray, below, meth, c, D, cI, cT, B, t1, t2, 0, 0, fun T => MQ below (Qe D cI cT B T) (av.map (pv B)).toArray s 0 0 (fun q => B ≤ q)) ⟨Bd.exec, Bd.bytes, hml, findClass_of_methodNamed Bd.named, fun w hw => hts w (List.mem_cons_of_mem _ hw), hN, hK, hB, hZ, Nat.le_refl _, Nat.le_refl _, Nat.zero_le _, Nat.zero_le _⟩ ⟨Bd.returns, Bd.notSynchronized, rfl, rfl, rfl⟩ s.heap [] _ hP va_S.rf hl

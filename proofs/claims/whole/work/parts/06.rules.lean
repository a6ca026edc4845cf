section Rules
variable {E : EvT} {cc : ByteArray} {own : String} {nL fr lo : Nat} {T : Option Pv × HI} {I : HI} {pc n : Nat} {lv lv' : List (Nat × Pv)} {st rest : List Pv}
theorem lvm_at {B q i : Nat} {v : Pv} {ls : Array Slot} (h : lv_has ls nL (lvm B lv)) (hq : lv[q]? = some (i, v)) : ls[i]? = some (.val (pv B v)) := lv_at h q (by simp [lvm, hq])
theorem lvm_filter {B i : Nat} : (lvm B lv).filter (fun q => !(q.1 == i) && !(q.1 + 1 == i && q.2.category == 2)) = lvm B (lv.filter (fun q => !(q.1 == i) && !(q.1 + 1 == i && isL q.2))) := by
  unfold lvm
  rw [List.filter_map]
  congr 1
  apply List.filter_congr
  intro q _
  simp only [Function.comp, pv_cat]
theorem lvm_store {B i : Nat} {v : Pv} {ls : Array Slot} (hl : (i, v) :: lv.filter (fun q => !(q.1 == i) && !(q.1 + 1 == i && isL q.2)) = lv') : (i, pv B v) :: (lvm B lv).filter (fun q => !(q.1 == i) && !(q.1 + 1 == i && q.2.category == 2)) = lvm B lv' := by
  rw [lvm_filter, ← hl]; rfl
theorem Eok.word (ok : Eok E cc own nL fr lo) {w : Cond} (h : w ∈ lw_tbl) (hg : goodWord w = true) : w.before (e_a E) (e_s E) = true := ok.2.2.2.2.1 w (List.mem_filter.mpr ⟨h, hg⟩)

theorem g_iconst (ok : Eok E cc own nL fr lo) {k : Int} {v : Int32} (d : decode cc pc = .ok (.iconst k, 1)) (hv : Int32.ofInt k = v) (hn : pc + 1 = n) (kk : G E nL T I n lv (vi v :: st)) : G E nL T I pc lv st := by
  subst hn
  exact fun H locs ls hP hS hl => lv_iconst ok.1 ok.2.1 d hv (kk H locs ls hP hS hl)
theorem g_bipush (ok : Eok E cc own nL fr lo) {k : Int} {v : Int32} (d : decode cc pc = .ok (.bipush k, 2)) (hv : (Int8.ofInt k).toInt32 = v) (hn : pc + 2 = n) (kk : G E nL T I n lv (vi v :: st)) : G E nL T I pc lv st := by
  subst hn
  exact fun H locs ls hP hS hl => lv_bipush ok.1 ok.2.1 d hv (kk H locs ls hP hS hl)
theorem g_sipush (ok : Eok E cc own nL fr lo) {k : Int} {v : Int32} (d : decode cc pc = .ok (.sipush k, 3)) (hv : (Int16.ofInt k).toInt32 = v) (hn : pc + 3 = n) (kk : G E nL T I n lv (vi v :: st)) : G E nL T I pc lv st := by
  subst hn
  exact fun H locs ls hP hS hl => lv_sipush ok.1 ok.2.1 d hv (kk H locs ls hP hS hl)
theorem g_lconst (ok : Eok E cc own nL fr lo) {k : Fin 2} {v : Int64} (d : decode cc pc = .ok (.lconst k, 1)) (hv : Int64.ofNat (k : Nat) = v) (hn : pc + 1 = n) (kk : G E nL T I n lv (vl v :: st)) : G E nL T I pc lv st := by
  subst hn
  exact fun H locs ls hP hS hl => lv_lconst ok.1 ok.2.1 d hv (kk H locs ls hP hS hl)
theorem g_ldc (ok : Eok E cc own nL fr lo) {k : Nat} {v : Int32} (d : decode cc pc = .ok (.ldc k, 2)) (hw : Cond.constant own k v ∈ lw_tbl) (hn : pc + 2 = n) (kk : G E nL T I n lv (vi v :: st)) : G E nL T I pc lv st := by
  subst hn
  exact fun H locs ls hP hS hl => lv_ldc ok.1 ok.2.1 ok.2.2.2.1 (ok.word hw rfl) d (kk H locs ls hP hS hl)
theorem g_ldc_w (ok : Eok E cc own nL fr lo) {k : Nat} {v : Int32} (d : decode cc pc = .ok (.ldc_w k, 3)) (hw : Cond.constant own k v ∈ lw_tbl) (hn : pc + 3 = n) (kk : G E nL T I n lv (vi v :: st)) : G E nL T I pc lv st := by
  subst hn
  exact fun H locs ls hP hS hl => lv_ldcw ok.1 ok.2.1 ok.2.2.2.1 (ok.word hw rfl) d (kk H locs ls hP hS hl)
theorem g_ldc2_w (ok : Eok E cc own nL fr lo) {k : Nat} {v : Int64} (d : decode cc pc = .ok (.ldc2_w k, 3)) (hw : Cond.constantLong own k v ∈ lw_tbl) (hn : pc + 3 = n) (kk : G E nL T I n lv (vl v :: st)) : G E nL T I pc lv st := by
  subst hn
  exact fun H locs ls hP hS hl => lv_ldc2 ok.1 ok.2.1 ok.2.2.2.1 (ok.word hw rfl) d (kk H locs ls hP hS hl)
theorem g_null (ok : Eok E cc own nL fr lo)  (d : decode cc pc = .ok (.aconst_null, 1))  (hn : pc + 1 = n) (kk : G E nL T I n lv (vn :: st)) : G E nL T I pc lv st := by
  subst hn
  exact fun H locs ls hP hS hl => lv_null ok.1 ok.2.1 d (kk H locs ls hP hS hl)
theorem g_iload_n (ok : Eok E cc own nL fr lo) {k : Fin 4} {i : Nat} {x : Int32} (q : Nat) (d : decode cc pc = .ok (.iload_n k, 1)) (hi : (k : Nat) = i) (hq : lv[q]? = some (i, vi x)) (hn : pc + 1 = n) (kk : G E nL T I n lv (vi x :: st)) : G E nL T I pc lv st := by
  subst hn
  exact fun H locs ls hP hS hl => lv_iload_n ok.1 ok.2.1 d hi (lvm_at hl hq) (kk H locs ls hP hS hl)
theorem g_lload_n (ok : Eok E cc own nL fr lo) {k : Fin 4} {i : Nat} {x : Int64} (q : Nat) (d : decode cc pc = .ok (.lload_n k, 1)) (hi : (k : Nat) = i) (hq : lv[q]? = some (i, vl x)) (hn : pc + 1 = n) (kk : G E nL T I n lv (vl x :: st)) : G E nL T I pc lv st := by
  subst hn
  exact fun H locs ls hP hS hl => lv_lload_n ok.1 ok.2.1 d hi (lvm_at hl hq) (kk H locs ls hP hS hl)
theorem g_aload_n (ok : Eok E cc own nL fr lo) {k : Fin 4} {i : Nat} {x : Option Nat ⊕ Nat} (q : Nat) (d : decode cc pc = .ok (.aload_n k, 1)) (hi : (k : Nat) = i) (hq : lv[q]? = some (i, .inr (.inr x))) (hn : pc + 1 = n) (kk : G E nL T I n lv (.inr (.inr x) :: st)) : G E nL T I pc lv st := by
  subst hn
  exact fun H locs ls hP hS hl => by
    have h1 := lvm_at hl hq
    have h2 := kk H locs ls hP hS hl
    rcases x with (_ | x) | x
    · exact lv_aload_nN ok.1 ok.2.1 d hi h1 h2
    · exact lv_aload_n ok.1 ok.2.1 d hi h1 h2
    · exact lv_aload_n ok.1 ok.2.1 d hi h1 h2
theorem g_istore_n (ok : Eok E cc own nL fr lo) {k : Fin 4} {i : Nat} {x : Int32} (d : decode cc pc = .ok (.istore_n k, 1)) (hi : (k : Nat) = i) (hi2 : i < nL) (hv : (i, vi x) :: lv.filter (fun q => !(q.1 == i) && !(q.1 + 1 == i && isL q.2)) = lv') (hn : pc + 1 = n) (kk : G E nL T I n lv' st) : G E nL T I pc lv (vi x :: st) := by
  subst hn
  exact fun H locs ls hP hS hl => lv_istore_n ok.1 ok.2.1 d hi hl hi2 (lvm_store (ls := ls) hv) (fun ls' hl' => kk H locs ls' hP hS hl')
theorem g_astore_n (ok : Eok E cc own nL fr lo) {k : Fin 4} {i : Nat} {x : Option Nat ⊕ Nat} (d : decode cc pc = .ok (.astore_n k, 1)) (hi : (k : Nat) = i) (hi2 : i < nL) (hv : (i, .inr (.inr x)) :: lv.filter (fun q => !(q.1 == i) && !(q.1 + 1 == i && isL q.2)) = lv') (hn : pc + 1 = n) (kk : G E nL T I n lv' st) : G E nL T I pc lv (.inr (.inr x) :: st) := by
  subst hn
  intro H locs ls hP hS hl
  have h3 := lvm_store (B := e_B E) (ls := ls) hv
  rcases x with (_ | x) | x
  · exact lv_astore_nN ok.1 ok.2.1 d hi hl hi2 h3 (fun ls' hl' => kk H locs ls' hP hS hl')
  · exact lv_astore_n ok.1 ok.2.1 d hi hl hi2 h3 (fun ls' hl' => kk H locs ls' hP hS hl')
  · exact lv_astore_n ok.1 ok.2.1 d hi hl hi2 h3 (fun ls' hl' => kk H locs ls' hP hS hl')
theorem g_iload (ok : Eok E cc own nL fr lo) {i : Nat} {x : Int32} (q : Nat) (d : decode cc pc = .ok (.iload i, 2)) (hq : lv[q]? = some (i, vi x)) (hn : pc + 2 = n) (kk : G E nL T I n lv (vi x :: st)) : G E nL T I pc lv st := by
  subst hn
  exact fun H locs ls hP hS hl => lv_iload ok.1 ok.2.1 d (lvm_at hl hq) (kk H locs ls hP hS hl)
theorem g_lload (ok : Eok E cc own nL fr lo) {i : Nat} {x : Int64} (q : Nat) (d : decode cc pc = .ok (.lload i, 2)) (hq : lv[q]? = some (i, vl x)) (hn : pc + 2 = n) (kk : G E nL T I n lv (vl x :: st)) : G E nL T I pc lv st := by
  subst hn
  exact fun H locs ls hP hS hl => lv_lload ok.1 ok.2.1 d (lvm_at hl hq) (kk H locs ls hP hS hl)
theorem g_aload (ok : Eok E cc own nL fr lo) {i : Nat} {x : Option Nat ⊕ Nat} (q : Nat) (d : decode cc pc = .ok (.aload i, 2)) (hq : lv[q]? = some (i, .inr (.inr x))) (hn : pc + 2 = n) (kk : G E nL T I n lv (.inr (.inr x) :: st)) : G E nL T I pc lv st := by
  subst hn
  exact fun H locs ls hP hS hl => by
    have h1 := lvm_at hl hq
    have h2 := kk H locs ls hP hS hl
    rcases x with (_ | x) | x
    · exact lv_aloadN ok.1 ok.2.1 d h1 h2
    · exact lv_aload ok.1 ok.2.1 d h1 h2
    · exact lv_aload ok.1 ok.2.1 d h1 h2
theorem g_istore (ok : Eok E cc own nL fr lo) {i : Nat} {x : Int32} (d : decode cc pc = .ok (.istore i, 2)) (hi2 : i < nL) (hv : (i, vi x) :: lv.filter (fun q => !(q.1 == i) && !(q.1 + 1 == i && isL q.2)) = lv') (hn : pc + 2 = n) (kk : G E nL T I n lv' st) : G E nL T I pc lv (vi x :: st) := by
  subst hn
  exact fun H locs ls hP hS hl => lv_istore ok.1 ok.2.1 d hl hi2 (lvm_store (ls := ls) hv) (fun ls' hl' => kk H locs ls' hP hS hl')
theorem g_astore (ok : Eok E cc own nL fr lo) {i : Nat} {x : Option Nat ⊕ Nat} (d : decode cc pc = .ok (.astore i, 2)) (hi2 : i < nL) (hv : (i, .inr (.inr x)) :: lv.filter (fun q => !(q.1 == i) && !(q.1 + 1 == i && isL q.2)) = lv') (hn : pc + 2 = n) (kk : G E nL T I n lv' st) : G E nL T I pc lv (.inr (.inr x) :: st) := by
  subst hn
  intro H locs ls hP hS hl
  have h3 := lvm_store (B := e_B E) (ls := ls) hv
  rcases x with (_ | x) | x
  · exact lv_astoreN ok.1 ok.2.1 d hl hi2 h3 (fun ls' hl' => kk H locs ls' hP hS hl')
  · exact lv_astore ok.1 ok.2.1 d hl hi2 h3 (fun ls' hl' => kk H locs ls' hP hS hl')
  · exact lv_astore ok.1 ok.2.1 d hl hi2 h3 (fun ls' hl' => kk H locs ls' hP hS hl')
theorem g_iinc (ok : Eok E cc own nL fr lo) {i : Nat} {k : Int} {x v : Int32} (q : Nat) (d : decode cc pc = .ok (.iinc i k, 3)) (hq : lv[q]? = some (i, vi x)) (hk : x + Int32.ofInt k = v) (hi2 : i < nL) (hv : (i, vi v) :: lv.filter (fun q => !(q.1 == i) && !(q.1 + 1 == i && isL q.2)) = lv') (hn : pc + 3 = n) (kk : G E nL T I n lv' st) : G E nL T I pc lv st := by
  subst hn
  exact fun H locs ls hP hS hl => lv_iinc (k := q) ok.1 ok.2.1 d hl (by simp only [lvm, List.getElem?_map, hq]; rfl) hk hi2 (lvm_store (ls := ls) hv) (fun ls' hl' => kk H locs ls' hP hS hl')
theorem g_iadd (ok : Eok E cc own nL fr lo) {x y : Int32} (d : decode cc pc = .ok (.iadd, 1))  (hn : pc + 1 = n) (kk : G E nL T I n lv (vi (x + y) :: st)) : G E nL T I pc lv (vi y :: vi x :: st) := by
  subst hn
  exact fun H locs ls hP hS hl => lv_iadd ok.1 ok.2.1 d (kk H locs ls hP hS hl)
theorem g_isub (ok : Eok E cc own nL fr lo) {x y : Int32} (d : decode cc pc = .ok (.isub, 1))  (hn : pc + 1 = n) (kk : G E nL T I n lv (vi (x - y) :: st)) : G E nL T I pc lv (vi y :: vi x :: st) := by
  subst hn
  exact fun H locs ls hP hS hl => lv_isub ok.1 ok.2.1 d (kk H locs ls hP hS hl)
theorem g_imul (ok : Eok E cc own nL fr lo) {x y : Int32} (d : decode cc pc = .ok (.imul, 1))  (hn : pc + 1 = n) (kk : G E nL T I n lv (vi (x * y) :: st)) : G E nL T I pc lv (vi y :: vi x :: st) := by
  subst hn
  exact fun H locs ls hP hS hl => lv_imul ok.1 ok.2.1 d (kk H locs ls hP hS hl)
theorem g_iand (ok : Eok E cc own nL fr lo) {x y : Int32} (d : decode cc pc = .ok (.iand, 1))  (hn : pc + 1 = n) (kk : G E nL T I n lv (vi (x &&& y) :: st)) : G E nL T I pc lv (vi y :: vi x :: st) := by
  subst hn
  exact fun H locs ls hP hS hl => lv_iand ok.1 ok.2.1 d (kk H locs ls hP hS hl)
theorem g_ior (ok : Eok E cc own nL fr lo) {x y : Int32} (d : decode cc pc = .ok (.ior, 1))  (hn : pc + 1 = n) (kk : G E nL T I n lv (vi (x ||| y) :: st)) : G E nL T I pc lv (vi y :: vi x :: st) := by
  subst hn
  exact fun H locs ls hP hS hl => lv_ior ok.1 ok.2.1 d (kk H locs ls hP hS hl)
theorem g_ishl (ok : Eok E cc own nL fr lo) {x y : Int32} (d : decode cc pc = .ok (.ishl, 1))  (hn : pc + 1 = n) (kk : G E nL T I n lv (vi (x <<< (y &&& 31)) :: st)) : G E nL T I pc lv (vi y :: vi x :: st) := by
  subst hn
  exact fun H locs ls hP hS hl => lv_ishl ok.1 ok.2.1 d (kk H locs ls hP hS hl)
theorem g_ishr (ok : Eok E cc own nL fr lo) {x y : Int32} (d : decode cc pc = .ok (.ishr, 1))  (hn : pc + 1 = n) (kk : G E nL T I n lv (vi (x >>> (y &&& 31)) :: st)) : G E nL T I pc lv (vi y :: vi x :: st) := by
  subst hn
  exact fun H locs ls hP hS hl => lv_ishr ok.1 ok.2.1 d (kk H locs ls hP hS hl)
theorem g_iushr (ok : Eok E cc own nL fr lo) {x y v : Int32} (d : decode cc pc = .ok (.iushr, 1)) (hv : (x.toUInt32 >>> (y.toUInt32 &&& Int32.toUInt32 31)).toInt32 = v) (hn : pc + 1 = n) (kk : G E nL T I n lv (vi v :: st)) : G E nL T I pc lv (vi y :: vi x :: st) := by
  subst hn
  exact fun H locs ls hP hS hl => lv_iushr ok.1 ok.2.1 d hv (kk H locs ls hP hS hl)
theorem g_idiv (ok : Eok E cc own nL fr lo) {x y : Int32} (d : decode cc pc = .ok (.idiv, 1)) (h0 : ¬ y = 0) (hn : pc + 1 = n) (kk : G E nL T I n lv (vi (x / y) :: st)) : G E nL T I pc lv (vi y :: vi x :: st) := by
  subst hn
  exact fun H locs ls hP hS hl => lv_idiv ok.1 ok.2.1 d h0 (kk H locs ls hP hS hl)
theorem g_irem (ok : Eok E cc own nL fr lo) {x y : Int32} (d : decode cc pc = .ok (.irem, 1)) (h0 : ¬ y = 0) (hn : pc + 1 = n) (kk : G E nL T I n lv (vi (x - x / y * y) :: st)) : G E nL T I pc lv (vi y :: vi x :: st) := by
  subst hn
  exact fun H locs ls hP hS hl => lv_irem ok.1 ok.2.1 d h0 (kk H locs ls hP hS hl)
theorem g_ineg (ok : Eok E cc own nL fr lo) {x : Int32} (d : decode cc pc = .ok (.ineg, 1))  (hn : pc + 1 = n) (kk : G E nL T I n lv (vi (-x) :: st)) : G E nL T I pc lv (vi x :: st) := by
  subst hn
  exact fun H locs ls hP hS hl => lv_ineg ok.1 ok.2.1 d (kk H locs ls hP hS hl)
theorem g_i2l (ok : Eok E cc own nL fr lo) {x : Int32} (d : decode cc pc = .ok (.i2l, 1))  (hn : pc + 1 = n) (kk : G E nL T I n lv (vl x.toInt64 :: st)) : G E nL T I pc lv (vi x :: st) := by
  subst hn
  exact fun H locs ls hP hS hl => lv_i2l ok.1 ok.2.1 d rfl (kk H locs ls hP hS hl)
theorem g_lsub (ok : Eok E cc own nL fr lo) {x y : Int64} (d : decode cc pc = .ok (.lsub, 1))  (hn : pc + 1 = n) (kk : G E nL T I n lv (vl (x - y) :: st)) : G E nL T I pc lv (vl y :: vl x :: st) := by
  subst hn
  exact fun H locs ls hP hS hl => lv_lsub ok.1 ok.2.1 d (kk H locs ls hP hS hl)
theorem g_lcmp (ok : Eok E cc own nL fr lo) {x y : Int64} (d : decode cc pc = .ok (.lcmp, 1))  (hn : pc + 1 = n) (kk : G E nL T I n lv (vi (lg_cmp x y) :: st)) : G E nL T I pc lv (vl y :: vl x :: st) := by
  subst hn
  exact fun H locs ls hP hS hl => W.lcmp ok.1 ok.2.1 d (kk H locs ls hP hS hl)
theorem cat1 {B : Nat} {v : Pv} (h : isL v = false) : (pv B v).category = 1 := by rcases v with x | x | (_ | x) | x <;> first | rfl | (cases h)
theorem g_dup (ok : Eok E cc own nL fr lo) {v : Pv} (d : decode cc pc = .ok (.dup, 1)) (hv : isL v = false) (hn : pc + 1 = n) (kk : G E nL T I n lv (v :: v :: st)) : G E nL T I pc lv (v :: st) := by
  subst hn
  exact fun H locs ls hP hS hl => lv_dup ok.1 ok.2.1 d (cat1 hv) (kk H locs ls hP hS hl)
theorem g_pop (ok : Eok E cc own nL fr lo) {v : Pv} (d : decode cc pc = .ok (.pop, 1)) (hv : isL v = false) (hn : pc + 1 = n) (kk : G E nL T I n lv st) : G E nL T I pc lv (v :: st) := by
  subst hn
  exact fun H locs ls hP hS hl => lv_pop ok.1 ok.2.1 d (cat1 hv) (kk H locs ls hP hS hl)
theorem g_dup2 (ok : Eok E cc own nL fr lo) {v w : Pv} (d : decode cc pc = .ok (.dup2, 1)) (hv : isL v = false) (hw : isL w = false) (hn : pc + 1 = n) (kk : G E nL T I n lv (v :: w :: v :: w :: st)) : G E nL T I pc lv (v :: w :: st) := by
  subst hn
  exact fun H locs ls hP hS hl => lv_dup2_11 ok.1 ok.2.1 d (cat1 hv) (cat1 hw) (kk H locs ls hP hS hl)
theorem g_goto (ok : Eok E cc own nL fr lo) {off : Int} {tgt : Nat} (d : decode cc pc = .ok (.goto off, 3)) (ht : (pc : Int) + off = (tgt : Int)) (kk : G E nL T I tgt lv st) : G E nL T I pc lv st := fun H locs ls hP hS hl => lv_goto ok.1 ok.2.1 d ht (kk H locs ls hP hS hl)
theorem g_icmp_eq (ok : Eok E cc own nL fr lo) {x y : Int32} {off : Int} {tgt : Nat} (d : decode cc pc = .ok (.if_icmp .eq off, 3)) (ht : (pc : Int) + off = (tgt : Int)) (hn : pc + 3 = n) (kt : x = y → G E nL T I tgt lv st) (kf : ¬ x = y → G E nL T I n lv st) : G E nL T I pc lv (vi y :: vi x :: st) := by
  subst hn
  exact fun H locs ls hP hS hl => lv_icmp_eq ok.1 ok.2.1 d ht (fun c => kt c H locs ls hP hS hl) (fun c => kf c H locs ls hP hS hl)
theorem g_if_eq (ok : Eok E cc own nL fr lo) {x : Int32} {off : Int} {tgt : Nat} (d : decode cc pc = .ok (.ifCond .eq off, 3)) (ht : (pc : Int) + off = (tgt : Int)) (hn : pc + 3 = n) (kt : x = 0 → G E nL T I tgt lv st) (kf : ¬ x = 0 → G E nL T I n lv st) : G E nL T I pc lv (vi x :: st) := by
  subst hn
  exact fun H locs ls hP hS hl => lv_if_eq ok.1 ok.2.1 d ht (fun c => kt c H locs ls hP hS hl) (fun c => kf c H locs ls hP hS hl)
theorem g_icmp_ne (ok : Eok E cc own nL fr lo) {x y : Int32} {off : Int} {tgt : Nat} (d : decode cc pc = .ok (.if_icmp .ne off, 3)) (ht : (pc : Int) + off = (tgt : Int)) (hn : pc + 3 = n) (kt : ¬ x = y → G E nL T I tgt lv st) (kf : x = y → G E nL T I n lv st) : G E nL T I pc lv (vi y :: vi x :: st) := by
  subst hn
  exact fun H locs ls hP hS hl => lv_icmp_ne ok.1 ok.2.1 d ht (fun c => kt c H locs ls hP hS hl) (fun c => kf c H locs ls hP hS hl)
theorem g_if_ne (ok : Eok E cc own nL fr lo) {x : Int32} {off : Int} {tgt : Nat} (d : decode cc pc = .ok (.ifCond .ne off, 3)) (ht : (pc : Int) + off = (tgt : Int)) (hn : pc + 3 = n) (kt : ¬ x = 0 → G E nL T I tgt lv st) (kf : x = 0 → G E nL T I n lv st) : G E nL T I pc lv (vi x :: st) := by
  subst hn
  exact fun H locs ls hP hS hl => lv_if_ne ok.1 ok.2.1 d ht (fun c => kt c H locs ls hP hS hl) (fun c => kf c H locs ls hP hS hl)
theorem g_icmp_lt (ok : Eok E cc own nL fr lo) {x y : Int32} {off : Int} {tgt : Nat} (d : decode cc pc = .ok (.if_icmp .lt off, 3)) (ht : (pc : Int) + off = (tgt : Int)) (hn : pc + 3 = n) (kt : x < y → G E nL T I tgt lv st) (kf : ¬ x < y → G E nL T I n lv st) : G E nL T I pc lv (vi y :: vi x :: st) := by
  subst hn
  exact fun H locs ls hP hS hl => lv_icmp_lt ok.1 ok.2.1 d ht (fun c => kt c H locs ls hP hS hl) (fun c => kf c H locs ls hP hS hl)
theorem g_if_lt (ok : Eok E cc own nL fr lo) {x : Int32} {off : Int} {tgt : Nat} (d : decode cc pc = .ok (.ifCond .lt off, 3)) (ht : (pc : Int) + off = (tgt : Int)) (hn : pc + 3 = n) (kt : x < 0 → G E nL T I tgt lv st) (kf : ¬ x < 0 → G E nL T I n lv st) : G E nL T I pc lv (vi x :: st) := by
  subst hn
  exact fun H locs ls hP hS hl => lv_if_lt ok.1 ok.2.1 d ht (fun c => kt c H locs ls hP hS hl) (fun c => kf c H locs ls hP hS hl)
theorem g_icmp_ge (ok : Eok E cc own nL fr lo) {x y : Int32} {off : Int} {tgt : Nat} (d : decode cc pc = .ok (.if_icmp .ge off, 3)) (ht : (pc : Int) + off = (tgt : Int)) (hn : pc + 3 = n) (kt : y ≤ x → G E nL T I tgt lv st) (kf : ¬ y ≤ x → G E nL T I n lv st) : G E nL T I pc lv (vi y :: vi x :: st) := by
  subst hn
  exact fun H locs ls hP hS hl => lv_icmp_ge ok.1 ok.2.1 d ht (fun c => kt c H locs ls hP hS hl) (fun c => kf c H locs ls hP hS hl)
theorem g_if_ge (ok : Eok E cc own nL fr lo) {x : Int32} {off : Int} {tgt : Nat} (d : decode cc pc = .ok (.ifCond .ge off, 3)) (ht : (pc : Int) + off = (tgt : Int)) (hn : pc + 3 = n) (kt : 0 ≤ x → G E nL T I tgt lv st) (kf : ¬ 0 ≤ x → G E nL T I n lv st) : G E nL T I pc lv (vi x :: st) := by
  subst hn
  exact fun H locs ls hP hS hl => lv_if_ge ok.1 ok.2.1 d ht (fun c => kt c H locs ls hP hS hl) (fun c => kf c H locs ls hP hS hl)
theorem g_icmp_gt (ok : Eok E cc own nL fr lo) {x y : Int32} {off : Int} {tgt : Nat} (d : decode cc pc = .ok (.if_icmp .gt off, 3)) (ht : (pc : Int) + off = (tgt : Int)) (hn : pc + 3 = n) (kt : y < x → G E nL T I tgt lv st) (kf : ¬ y < x → G E nL T I n lv st) : G E nL T I pc lv (vi y :: vi x :: st) := by
  subst hn
  exact fun H locs ls hP hS hl => lv_icmp_gt ok.1 ok.2.1 d ht (fun c => kt c H locs ls hP hS hl) (fun c => kf c H locs ls hP hS hl)
theorem g_if_gt (ok : Eok E cc own nL fr lo) {x : Int32} {off : Int} {tgt : Nat} (d : decode cc pc = .ok (.ifCond .gt off, 3)) (ht : (pc : Int) + off = (tgt : Int)) (hn : pc + 3 = n) (kt : 0 < x → G E nL T I tgt lv st) (kf : ¬ 0 < x → G E nL T I n lv st) : G E nL T I pc lv (vi x :: st) := by
  subst hn
  exact fun H locs ls hP hS hl => lv_if_gt ok.1 ok.2.1 d ht (fun c => kt c H locs ls hP hS hl) (fun c => kf c H locs ls hP hS hl)
theorem g_icmp_le (ok : Eok E cc own nL fr lo) {x y : Int32} {off : Int} {tgt : Nat} (d : decode cc pc = .ok (.if_icmp .le off, 3)) (ht : (pc : Int) + off = (tgt : Int)) (hn : pc + 3 = n) (kt : x ≤ y → G E nL T I tgt lv st) (kf : ¬ x ≤ y → G E nL T I n lv st) : G E nL T I pc lv (vi y :: vi x :: st) := by
  subst hn
  exact fun H locs ls hP hS hl => lv_icmp_le ok.1 ok.2.1 d ht (fun c => kt c H locs ls hP hS hl) (fun c => kf c H locs ls hP hS hl)
theorem g_if_le (ok : Eok E cc own nL fr lo) {x : Int32} {off : Int} {tgt : Nat} (d : decode cc pc = .ok (.ifCond .le off, 3)) (ht : (pc : Int) + off = (tgt : Int)) (hn : pc + 3 = n) (kt : x ≤ 0 → G E nL T I tgt lv st) (kf : ¬ x ≤ 0 → G E nL T I n lv st) : G E nL T I pc lv (vi x :: st) := by
  subst hn
  exact fun H locs ls hP hS hl => lv_if_le ok.1 ok.2.1 d ht (fun c => kt c H locs ls hP hS hl) (fun c => kf c H locs ls hP hS hl)
theorem g_ifnull (ok : Eok E cc own nL fr lo) {x : Option Nat} {off : Int} {tgt : Nat} (d : decode cc pc = .ok (.ifnull off, 3)) (ht : (pc : Int) + off = (tgt : Int)) (hn : pc + 3 = n) (kt : x = none → G E nL T I tgt lv st) (kf : ¬ x = none → G E nL T I n lv st) : G E nL T I pc lv (vo x :: st) := by
  subst hn
  intro H locs ls hP hS hl
  rcases x with _ | x
  · exact lv_ifnullN ok.1 ok.2.1 d ht (kt rfl H locs ls hP hS hl)
  · exact lv_ifnull ok.1 ok.2.1 d (kf (fun h => by cases h) H locs ls hP hS hl)
theorem g_ifnonnull (ok : Eok E cc own nL fr lo) {x : Option Nat} {off : Int} {tgt : Nat} (d : decode cc pc = .ok (.ifnonnull off, 3)) (ht : (pc : Int) + off = (tgt : Int)) (hn : pc + 3 = n) (kt : ¬ x = none → G E nL T I tgt lv st) (kf : x = none → G E nL T I n lv st) : G E nL T I pc lv (vo x :: st) := by
  subst hn
  intro H locs ls hP hS hl
  rcases x with _ | x
  · exact lv_ifnonnullN ok.1 ok.2.1 d (kf rfl H locs ls hP hS hl)
  · exact lv_ifnonnull ok.1 ok.2.1 d ht (kt (fun h => by cases h) H locs ls hP hS hl)
theorem pv_rf (B : Nat) (x : Option Nat) : pv B (vo x) = va_rf (x.map (fun j => B + j)) := by cases x <;> rfl
theorem g_acmp_ne (ok : Eok E cc own nL fr lo) {x y : Option Nat} {off : Int} {tgt : Nat} (d : decode cc pc = .ok (.if_acmp .ne off, 3)) (ht : (pc : Int) + off = (tgt : Int)) (hn : pc + 3 = n) (kt : ¬ x = y → G E nL T I tgt lv st) (kf : x = y → G E nL T I n lv st) : G E nL T I pc lv (vo y :: vo x :: st) := by
  subst hn
  intro H locs ls hP hS hl
  show W _ _ _ _ _ _ _ _ _ _ _ _ _ _ _ (F0 _ _ _ (pv _ (vo y) :: pv _ (vo x) :: st.map _))
  rw [pv_rf, pv_rf]
  have inj : x.map (fun j => e_B E + j) = y.map (fun j => e_B E + j) → x = y := by
    intro h
    cases x <;> cases y <;> simp at h <;> first | rfl | (rw [h])
  exact lv_acmp_ne ok.1 ok.2.1 d ht (fun c => kt (fun e => c (by rw [e])) H locs ls hP hS hl) (fun c => kf (inj c) H locs ls hP hS hl)
/-- the listed locals in another order, or fewer -/
theorem g_sub (ks : List Nat) (hk : ks.filterMap (fun k => lv[k]?) = lv') (kk : G E nL T I pc lv' st) : G E nL T I pc lv st := fun H locs ls hP hS hl => kk H locs ls hP hS (lv_sub hl ks (by
  unfold lv_pick lvm
  rw [← hk, List.map_filterMap]
  congr 1
  funext k
  simp))
theorem g_lookup (ok : Eok E cc own nL fr lo) {dflt : Int} {ps : Array (Int × Int)} {len : Nat} {x : Int32} {off : Int} {tgt : Nat} (d : decode cc pc = .ok (.lookupswitch dflt ps, len)) (hp : (ps.toList.zip (ps.toList.drop 1)).all (fun (a, next) => a.1 < next.1) = true) (ho : Op.lookupswitch.offset ps.toList dflt x.toInt = off) (ht : (pc : Int) + off = (tgt : Int)) (kk : G E nL T I tgt lv st) : G E nL T I pc lv (vi x :: st) := fun H locs ls hP hS hl => lv_lookup ok.1 ok.2.1 d hp ho ht (kk H locs ls hP hS hl)
theorem g_tabOut (ok : Eok E cc own nL fr lo) {dflt a b : Int} {offs : Array Int} {len : Nat} {x : Int32} {tgt : Nat} (d : decode cc pc = .ok (.tableswitch dflt a b offs, len)) (h : x.toInt < a ∨ b < x.toInt) (ht : (pc : Int) + dflt = (tgt : Int)) (kk : G E nL T I tgt lv st) : G E nL T I pc lv (vi x :: st) := fun H locs ls hP hS hl => lv_tableOut ok.1 ok.2.1 d h ht (kk H locs ls hP hS hl)
theorem g_tabIn (ok : Eok E cc own nL fr lo) {dflt a b : Int} {offs : Array Int} {len : Nat} {x : Int32} {off : Int} {tgt : Nat} (d : decode cc pc = .ok (.tableswitch dflt a b offs, len)) (h1 : ¬ x.toInt < a) (h2 : ¬ b < x.toInt) (ho : offs[(x.toInt - a).toNat]? = some off) (ht : (pc : Int) + off = (tgt : Int)) (kk : G E nL T I tgt lv st) : G E nL T I pc lv (vi x :: st) := fun H locs ls hP hS hl => lv_tableIn ok.1 ok.2.1 d h1 h2 ho ht (kk H locs ls hP hS hl)
theorem g_tabDef (ok : Eok E cc own nL fr lo) {dflt a b : Int} {offs : Array Int} {len : Nat} {x : Int32} {tgt : Nat} (d : decode cc pc = .ok (.tableswitch dflt a b offs, len)) (h : x.toInt < a ∨ b < x.toInt ∨ (offs[(x.toInt - a).toNat]? = some dflt ∧ ¬ x.toInt < a ∧ ¬ b < x.toInt)) (ht : (pc : Int) + dflt = (tgt : Int)) (kk : G E nL T I tgt lv st) : G E nL T I pc lv (vi x :: st) := by
  rcases h with h | h | h
  · exact g_tabOut ok d (Or.inl h) ht kk
  · exact g_tabOut ok d (Or.inr h) ht kk
  · exact g_tabIn ok d h.2.1 h.2.2 h.1 ht kk
/-- a class of ours: its number, name, table -/
def Cls (c : Nat) (C : String) (F : u_T) (N : Nat) : Prop := vwCl[c]? = some (C, F, N) ∧ (∀ w ∈ u_ws C F N, w ∈ wG) ∧ c < 7
theorem pw_at {B : Nat} {cI cT : ClassId} {j c : Nat} (hk : kd j = c) (hc : c < 7) : (pw B cI cT I)[j]? = some (B + j, .inr (c, (fls I c j).map (pv B))) := by
  rw [pw_get (kd_lt (by omega)), cel_ob hk hc]
theorem pw_ai {B : Nat} {cI cT : ClassId} {j : Nat} (hk : kd j = 7) : (pw B cI cT I)[j]? = some (B + j, .inl (cI, ln j, .inl (I j))) := by
  rw [pw_get (kd_lt (by omega)), cel_int hk]
theorem pw_aq {B : Nat} {cI cT : ClassId} {j : Nat} (hk : kd j = 8) : (pw B cI cT I)[j]? = some (B + j, .inl (cT, ln j, .inr (.inr (.inr (.inr (fun n => some (B + (j + 1 + 2 * n)))))))) := by
  rw [pw_get (kd_lt (by omega)), cel_tr hk]
theorem g_get (ok : Eok E cc own nL fr lo) {j c k index : Nat} {C : String} {F : u_T} {N : Nat} {v : Pv} (d : decode cc pc = .ok (.getfield index, 3)) (hc : Cls c C F N) (hk : k < N) (hw : Cond.fieldLink own index (F k).1 (F k).2.1 (F k).2.2.1 ∈ lw_tbl) (hj : kd j = c) (hv : (fls I c j)[k]? = some v) (hn : pc + 3 = n) (kk : G E nL T I n lv (v :: st)) : G E nL T I pc lv (vr j :: st) := by
  subst hn
  exact fun H locs ls hP hS hl => va_get (v := pv (e_B E) v) ok.1 ok.2.1 ok.2.2.2.2.1 hc.2.1 ok.2.2.2.1 ok.2.2.2.2.2.2.1 hP j (pw_at hj hc.2.2) hc.1 k hk (ok.word hw rfl) (fun _ h => h) (by simp [hv]) d (kk H locs ls hP hS hl)
theorem g_put (ok : Eok E cc own nL fr lo) {j c k index : Nat} {C : String} {F : u_T} {N : Nat} {J : HI} {v : Pv} (d : decode cc pc = .ok (.putfield index, 3)) (hc : Cls c C F N) (ty0 : Nat → FieldType) (hty : ∀ k, k < N → parseFieldDescriptor (F k).2.2.1 = some (ty0 k)) (hnm : ∀ a, a < N → ∀ b, b < N → a ≠ b → (F a).2.1 ≠ (F b).2.1) (hk : k < N) (hw : Cond.fieldLink own index (F k).1 (F k).2.1 (F k).2.2.1 ∈ lw_tbl) (hj : kd j = c) (hfin : (F k).2.2.2 = false) (hnar : ∀ B, narrow (ty0 k) (pv B v) = pv B v) (hfit : ∀ B, fits (ty0 k) (pv B v) = true) (hlen : k < (fls I c j).length) (hset : (fls I c j).set k v = fls J c j) (hJ : ∀ i, i ≠ j → J i = I i) (hn : pc + 3 = n) (kk : G E nL T J n lv st) : G E nL T I pc lv (v :: vr j :: st) := by
  subst hn
  intro H locs ls hP hS hl
  refine va_put (v := pv (e_B E) v) (ty := ty0 k) ok.1 ok.2.1 ok.2.2.2.2.1 hc.2.1 ty0 hty hnm ok.2.2.2.1 ok.2.2.2.2.2.2.1 hP pw_D hS j (pw_at hj hc.2.2) hc.1 k hk (ok.word hw rfl) (fun _ h => h) hfin (hty k hk) (hnar _) (hfit _) (by simpa using hlen) d (fun H1 locs1 hP1 _ hS1 => kk H1 locs1 ls ?_ hS1 hl)
  have e : ((fls I c j).map (pv (e_B E))).set k (pv (e_B E) v) = (fls J c j).map (pv (e_B E)) := by rw [← hset, List.map_set]
  rw [e, ← cel_ob (B := e_B E) (cI := e_cI E) (cT := e_cT E) hj hc.2.2, pw_set (kd_lt (by have := hc.2.2; omega)) J hJ] at hP1
  exact hP1
theorem in_of {x : Int32} {i L : Nat} (hx : x = nI i) (hi : i < L) (hL : L < 2 ^ 31) : vp_in x L := by rw [hx]; exact vp_in_nI hi hL
theorem cl_of {x : Int32} {i L : Nat} (hx : x = nI i) (hi : i < L) (hL : L < 2 ^ 31) : x.toNatClampNeg = i := by rw [hx]; exact nI_clamp (by omega)
theorem ln_small (j : Nat) : ln j < 2 ^ 31 := by
  rcases Nat.lt_or_ge j 68 with q | q
  · have h : ∀ j, j < 68 → ln j < 2 ^ 31 := by decide +kernel
    exact h j q
  · have : ln j = 0 := by unfold ln; rw [List.getD_eq_getElem?_getD, List.getElem?_eq_none (by simpa [lnL] using q)]; rfl
    rw [this]; decide
theorem g_iald (ok : Eok E cc own nL fr lo) {j i L : Nat} {x : Int32} (d : decode cc pc = .ok (.iaload, 1)) (hj : kd j = 7) (hL : ln j = L) (hx : x = nI i) (hi : i < L) (hn : pc + 1 = n) (kk : G E nL T I n lv (vi (I j i) :: st)) : G E nL T I pc lv (vi x :: vr j :: st) := by
  subst hn
  subst hL
  intro H locs ls hP hS hl
  refine va_iald ok.1 ok.2.1 ok.2.2.2.2.2.2.1 hP j 0 (pw_ai hj) rfl (in_of hx hi (ln_small j)) d ?_
  rw [cl_of hx hi (ln_small j)]
  exact kk H locs ls hP hS hl
theorem g_iast (ok : Eok E cc own nL fr lo) {j i L : Nat} {x v : Int32} (d : decode cc pc = .ok (.iastore, 1)) (hj : kd j = 7) (hL : ln j = L) (hx : x = nI i) (hi : i < L) (hn : pc + 1 = n) (kk : G E nL T (up I j i v) n lv st) : G E nL T I pc lv (vi v :: vi x :: vr j :: st) := by
  subst hn
  subst hL
  intro H locs ls hP hS hl
  refine va_iast ok.1 ok.2.1 ok.2.2.2.2.2.2.1 hP pw_D hS j 0 (pw_ai hj) rfl (in_of hx hi (ln_small j)) d (fun H1 locs1 hP1 _ hS1 => kk H1 locs1 ls ?_ hS1 hl)
  rw [cl_of hx hi (ln_small j), ← up_self, ← cel_int (B := e_B E) (cT := e_cT E) (I := up I j i v) hj, pw_set (kd_lt (by omega)) _ up_ne] at hP1
  exact hP1
theorem g_aald (ok : Eok E cc own nL fr lo) {j i L : Nat} {x : Int32} (d : decode cc pc = .ok (.aaload, 1)) (hj : kd j = 8) (hL : ln j = L) (hx : x = nI i) (hi : i < L) (hn : pc + 1 = n) (kk : G E nL T I n lv (vr (j + 1 + 2 * i) :: st)) : G E nL T I pc lv (vi x :: vr j :: st) := by
  subst hn
  subst hL
  intro H locs ls hP hS hl
  refine va_aldq ok.1 ok.2.1 ok.2.2.2.2.2.2.1 hP j 1 (pw_aq hj) rfl (in_of hx hi (ln_small j)) d ?_
  rw [cl_of hx hi (ln_small j)]
  exact kk H locs ls hP hS hl
theorem g_alen (ok : Eok E cc own nL fr lo) {j : Nat} {v : Int32} (d : decode cc pc = .ok (.arraylength, 1)) (hj : kd j = 7) (hv : Int32.ofNat (ln j) = v) (hn : pc + 1 = n) (kk : G E nL T I n lv (vi v :: st)) : G E nL T I pc lv (vr j :: st) := by
  subst hn
  exact fun H locs ls hP hS hl => va_alen ok.1 ok.2.1 ok.2.2.2.2.2.2.1 hP j 0 (pw_ai hj) rfl hv d (kk H locs ls hP hS hl)
theorem g_gets1 (ok : Eok E cc own nL fr lo) {index : Nat} (d : decode cc pc = .ok (.getstatic index, 3)) (hw : Cond.fieldLink own index "EightOnIce" "SETTING_LEAST" "[I" ∈ lw_tbl) (hn : pc + 3 = n) (kk : G E nL T I n lv (vw (e_t1 E) :: st)) : G E nL T I pc lv st := by
  subst hn
  exact fun H locs ls hP hS hl => va_gets ok.1 ok.2.1 ok.2.2.2.2.2.2.2.2.1.1 hS ok.2.2.2.1 (ok.word hw rfl) (fun _ h => h) d (kk H locs ls hP hS hl)
theorem g_gets2 (ok : Eok E cc own nL fr lo) {index : Nat} (d : decode cc pc = .ok (.getstatic index, 3)) (hw : Cond.fieldLink own index "EightOnIce" "SETTING_MOST" "[I" ∈ lw_tbl) (hn : pc + 3 = n) (kk : G E nL T I n lv (vw (e_t2 E) :: st)) : G E nL T I pc lv st := by
  subst hn
  exact fun H locs ls hP hS hl => va_gets ok.1 ok.2.1 ok.2.2.2.2.2.2.2.2.1.2.2.1 hS ok.2.2.2.1 (ok.word hw rfl) (fun _ h => h) d (kk H locs ls hP hS hl)
theorem g_ti1 (ok : Eok E cc own nL fr lo) {i : Nat} {x : Int32} (d : decode cc pc = .ok (.iaload, 1)) (hx : x = nI i) (hi : i < 5) (hn : pc + 1 = n) (kk : G E nL T I n lv (vi (sLeast i) :: st)) : G E nL T I pc lv (vi x :: vw (e_t1 E) :: st) := by
  subst hn
  exact fun H locs ls hP hS hl => va_ti ok.1 ok.2.1 ok.2.2.2.2.2.2.2.2.1.2.1 hS (in_of hx hi (by decide)) (by rw [cl_of hx hi (by decide)]; rfl) d (kk H locs ls hP hS hl)
theorem g_ti2 (ok : Eok E cc own nL fr lo) {i : Nat} {x : Int32} (d : decode cc pc = .ok (.iaload, 1)) (hx : x = nI i) (hi : i < 5) (hn : pc + 1 = n) (kk : G E nL T I n lv (vi (sMost i) :: st)) : G E nL T I pc lv (vi x :: vw (e_t2 E) :: st) := by
  subst hn
  exact fun H locs ls hP hS hl => va_ti ok.1 ok.2.1 ok.2.2.2.2.2.2.2.2.1.2.2.2 hS (in_of hx hi (by decide)) (by rw [cl_of hx hi (by decide)]; rfl) d (kk H locs ls hP hS hl)

theorem er_q {v : Option Pv} {H : Heap} {locs : List Loc} (hP : va_P (e_D E) vwCl (pw (e_B E) (e_cI E) (e_cT E) I) H) (hS : va_S (fun q => e_B E ≤ q) (e_s E).heap H locs) : ∀ t : State, t.heap = H → (e_s E).WarmedH t.vm → Qe (e_D E) (e_cI E) (e_cT E) (e_B E) (v, I) (e_a E) (e_s E) (.returned (v.map (pv (e_B E)))) t := fun t ht _ => ⟨⟨rfl, by rw [ht]; exact hP⟩, hS.F ht⟩

theorem g_iret (ok : Eok E cc own nL fr lo) (hr : Er E (some .int)) {x : Int32} (d : decode cc pc = .ok (.ireturn, 1))  : G E nL (some (vi x), I) I pc lv [vi x] := by
  intro H locs ls hP hS hl
  rw [hr.2.2.1, hr.2.2.2.1, hr.2.2.2.2]
  exact W.iret ok.1 ok.2.1 hr.1 (er_q (v := some (vi x)) hP hS) hS.2.2 d hr.2.1
theorem g_zret (ok : Eok E cc own nL fr lo) (hr : Er E (some .boolean)) {x : Int32} (d : decode cc pc = .ok (.ireturn, 1)) (hx : x = 0 ∨ x = 1) : G E nL (some (vi x), I) I pc lv [vi x] := by
  intro H locs ls hP hS hl
  rw [hr.2.2.1, hr.2.2.2.1, hr.2.2.2.2]
  exact W.zret (ty := .boolean) ok.1 ok.2.1 hr.1 (by rcases hx with rfl | rfl <;> decide +kernel) (er_q (v := some (vi x)) hP hS) hS.2.2 d hr.2.1
theorem g_lret (ok : Eok E cc own nL fr lo) (hr : Er E (some .long)) {x : Int64} (d : decode cc pc = .ok (.lreturn, 1))  : G E nL (some (vl x), I) I pc lv [vl x] := by
  intro H locs ls hP hS hl
  rw [hr.2.2.1, hr.2.2.2.1, hr.2.2.2.2]
  exact W.lret ok.1 ok.2.1 hr.1 (er_q (v := some (vl x)) hP hS) hS.2.2 d hr.2.1
theorem g_vret (ok : Eok E cc own nL fr lo) (hr : Er E none)  (d : decode cc pc = .ok (.return_, 1))  : G E nL (none, I) I pc lv [] := by
  intro H locs ls hP hS hl
  rw [hr.2.2.1, hr.2.2.2.1, hr.2.2.2.2]
  exact W.vret ok.1 ok.2.1 hr.1 (er_q (v := none) hP hS) hS.2.2 d hr.2.1
theorem g_aret (ok : Eok E cc own nL fr lo) (hr : Er E (some (.object "EightOnIce$Trace"))) {x : Option Nat} (d : decode cc pc = .ok (.areturn, 1))  : G E nL (some (vo x), I) I pc lv [vo x] := by
  intro H locs ls hP hS hl
  rw [hr.2.2.1, hr.2.2.2.1, hr.2.2.2.2]
  exact W.aret (v := pv (e_B E) (vo x)) ok.1 ok.2.1 hr.1 (Or.inl ⟨_, rfl⟩) (by cases x <;> first | exact Or.inl rfl | exact Or.inr ⟨_, rfl⟩) (er_q (v := some (vo x)) hP hS) hS.2.2 d hr.2.1
/-- a method that can be called: its code, its class initialised, how many parameters -/
def Kn (y : MethodName) (cc' : ByteArray) (maxL : Nat) (ret : Option FieldType) (np : Nat) : Prop := Cond.code y cc' maxL ret ∈ lw_tbl ∧ Cond.initialized y.cls ∈ lw_tbl ∧ (y.cls ≠ "java/lang/invoke/MethodHandle" ∧ y.cls ≠ "java/lang/invoke/VarHandle") ∧ (parseMethodDescriptor y.desc).map (fun d => d.parameters.length) = some np
theorem Wd.of (ok : Eok E cc own nL fr lo) {H : Heap} {locs : List Loc} (hP : va_P (e_D E) vwCl (pw (e_B E) (e_cI E) (e_cT E) I) H) (hS : va_S (fun q => e_B E ≤ q) (e_s E).heap H locs) (U : State) (hU : U.heap = H) (hW : (e_s E).WarmedH U.vm) : Wd (e_D E) (e_cI E) (e_cT E) (e_B E) (e_t1 E) (e_t2 E) I U :=
  ⟨by rw [hU]; exact hP, va_K.moved hW.alike ok.2.2.2.2.2.2.1, by rw [hU]; exact Nat.le_trans ok.2.2.2.2.2.2.2.1 hS.1, Zt.at hW.alike (fun a h1 h2 => by rw [hU]; exact hS.2.1 a h1 h2) ok.2.2.2.2.2.2.2.2.1, Nx.warm hW ok.2.2.2.2.2.1⟩
theorem g_back (ok : Eok E cc own nL fr lo) {H : Heap} {locs : List Loc} {ls : Array Slot} {v : Option Pv} {J : HI} {A0 : Array Value} {st0 : List Value} (hS : va_S (fun q => e_B E ≤ q) (e_s E).heap H locs) (hl : lv_has ls nL (lvm (e_B E) lv))
    (hr : va_Run (e_p E) (e_l E) (e_e E) (e_R E) (e_s E) (e_m E) (e_a E) (e_b E) (e_me E) (e_c E) H locs (e_ce E) (e_sl E) 0 0 (F0 (e_m E) pc ls st0) (rest.map (pv (e_B E))) (Qe (e_D E) (e_cI E) (e_cT E) (e_B E) (v, J) A0) (fun q => e_B E ≤ q)) (kk : G E nL T J (pc + 3) lv (v.toList ++ rest)) :
    W (e_p E) (e_l E) (e_e E) (e_R E) (e_s E) (e_m E) (e_a E) (e_b E) (e_me E) (e_c E) H locs (e_ce E) (e_sl E) (e_Q E T) (F0 (e_m E) pc ls st0) := by
  intro T0 hT X
  obtain ⟨v0, st₀, t, T', L, h0, X', hL, e1, e2, ⟨⟨hv, hP1⟩, hz, hk⟩, stp⟩ := hr T0 hT X
  cases hv
  rw [h0] at hz hk
  have hS1 : va_S (fun q => e_B E ≤ q) (e_s E).heap T'.heap (locs ++ L) := ⟨Nat.le_trans hS.1 (by rw [e1]; exact hz), fun q h1 h2 => by rw [e1, hk q (Nat.lt_of_lt_of_le h1 hS.1) h2]; exact hS.2.1 q h1 h2, fun q hq => by
    rcases List.mem_append.mp hq with h | h
    · exact hS.2.2 q h
    · exact hL q h⟩
  obtain ⟨t2, a1, b1⟩ := kk T'.heap (locs ++ L) ls (by rw [e1]; exact hP1) hS1 hl T' rfl X'
  refine ⟨t2, stp t2 ?_, b1⟩
  have e9 : (v.toList ++ rest).map (pv (e_B E)) = (v.map (pv (e_B E))).toList ++ rest.map (pv (e_B E)) := by cases v <;> simp
  rw [← e9]
  exact a1

theorem g_callS (ok : Eok E cc own nL fr lo) {y : MethodName} {bytes : ByteArray} {maxL np index fr' lo' : Nat} {ret : Option FieldType} {av : List Pv} {J : HI} {v : Pv} (hC : Cx y bytes maxL ret fr' lo' av I (some v, J)) (hk : Kn y bytes maxL ret np) (hw : Cond.methodLink own index y ∈ lw_tbl) (hs : Cond.static y ∈ lw_tbl) (d : decode cc pc = .ok (.invokestatic index, 3)) (hst : st = av.reverse ++ rest) (hnp : av.length = np) (hcat : lsz rest ≤ 8) (hfr : fr' + 1 ≤ fr) (hlo : 8 + (maxL + 11) + lo' ≤ lo) (hn : pc + 3 = n) (kk : G E nL T J n lv (v :: rest)) : G E nL T I pc lv st := by
  subst hn
  intro H locs ls hP hS hl
  have hlen : ∀ sig, parseMethodDescriptor y.desc = some sig → np = sig.parameters.length := fun sig h => by
    have h2 := hk.2.2.2
    rw [h] at h2
    exact (Option.some.inj h2).symm
  have hr := va_runS (As := av.map (pv (e_B E))) (rest := rest.map (pv (e_B E))) (g := F0 (e_m E) pc ls (st.map (pv (e_B E)))) (bytes := bytes) (maxL := maxL) (ret := ret) (n := np) (mc := 0) (ms := 0) (H := H) (locs := locs) (cells := e_ce E) (slots := e_sl E) (R := e_R E) (e := e_e E) (below := e_b E) (meth := e_me E) ⟨ok.1, ok.2.1, ok.2.2.1, ok.2.2.2.1, ok.2.2.2.2.1⟩ (hC (e_l E) (e_D E) (e_cI E) (e_cT E) (e_B E) (e_t1 E) (e_t2 E)) ⟨⟨rfl, rfl, Nat.le_trans hfr ok.2.2.2.2.2.2.2.2.2.1, Nat.le_trans hlo ok.2.2.2.2.2.2.2.2.2.2.1, pay_in ok.2.2.2.2.1 (good_code hk.1), List.mem_cons_self, (ok.word hk.1 rfl), (ok.word hk.2.1 rfl), hk.2.2.1, hlen, ok.word hw rfl⟩, ok.word hs rfl⟩ ⟨Wd.blind _ _ _ _ _ _ _ _, fun U hU hW => ⟨rfl, Wd.of ok hP hS U hU hW⟩⟩ rfl (by simpa using hnp) hl.1 (by rw [hst]; simp) (lv_room (by rw [lsz_sum]; exact hcat)) d ⟨ok.2.2.2.2.2.2.2.2.2.2.2.1, ok.2.2.2.2.2.2.2.2.2.2.2.2⟩
  exact g_back ok hS hl hr kk
theorem g_callSN (ok : Eok E cc own nL fr lo) {y : MethodName} {bytes : ByteArray} {maxL np index fr' lo' : Nat} {ret : Option FieldType} {av : List Pv} {J : HI} {v : Pv} (hC : Cx y bytes maxL ret fr' lo' av I (some v, J)) (hk : Kn y bytes maxL ret np) {host : String} (hw : Cond.methodLinkNest own index y host ∈ lw_tbl) (hs : Cond.static y ∈ lw_tbl) (d : decode cc pc = .ok (.invokestatic index, 3)) (hst : st = av.reverse ++ rest) (hnp : av.length = np) (hcat : lsz rest ≤ 8) (hfr : fr' + 1 ≤ fr) (hlo : 8 + (maxL + 11) + lo' ≤ lo) (hn : pc + 3 = n) (kk : G E nL T J n lv (v :: rest)) : G E nL T I pc lv st := by
  subst hn
  intro H locs ls hP hS hl
  have hlen : ∀ sig, parseMethodDescriptor y.desc = some sig → np = sig.parameters.length := fun sig h => by
    have h2 := hk.2.2.2
    rw [h] at h2
    exact (Option.some.inj h2).symm
  have hr := va_runSN (As := av.map (pv (e_B E))) (rest := rest.map (pv (e_B E))) (g := F0 (e_m E) pc ls (st.map (pv (e_B E)))) (bytes := bytes) (maxL := maxL) (ret := ret) (n := np) (mc := 0) (ms := 0) (H := H) (locs := locs) (cells := e_ce E) (slots := e_sl E) (R := e_R E) (e := e_e E) (below := e_b E) (meth := e_me E) ⟨ok.1, ok.2.1, ok.2.2.1, ok.2.2.2.1, ok.2.2.2.2.1⟩ (hC (e_l E) (e_D E) (e_cI E) (e_cT E) (e_B E) (e_t1 E) (e_t2 E)) ⟨⟨⟨rfl, rfl, Nat.le_trans hfr ok.2.2.2.2.2.2.2.2.2.1, Nat.le_trans hlo ok.2.2.2.2.2.2.2.2.2.2.1, pay_in ok.2.2.2.2.1 (good_code hk.1), List.mem_cons_self⟩, (ok.word hk.1 rfl), (ok.word hk.2.1 rfl), hk.2.2.1, hlen, va_Nw.use rfl (ok.2.2.2.2.2.1 _ hw rfl)⟩, ok.word hs rfl, trivial⟩ ⟨Wd.blind _ _ _ _ _ _ _ _, fun U hU hW => ⟨rfl, Wd.of ok hP hS U hU hW⟩⟩ rfl (by simpa using hnp) hl.1 (by rw [hst]; simp) (lv_room (by rw [lsz_sum]; exact hcat)) d ⟨ok.2.2.2.2.2.2.2.2.2.2.2.1, ok.2.2.2.2.2.2.2.2.2.2.2.2⟩
  exact g_back ok hS hl hr kk
theorem g_callV (ok : Eok E cc own nL fr lo) {y : MethodName} {bytes : ByteArray} {maxL np index fr' lo' : Nat} {ret : Option FieldType} {av : List Pv} {J : HI} {j : Nat} {v : Pv} (hC : Cx y bytes maxL ret fr' lo' (vr j :: av) I (some v, J)) (hk : Kn y bytes maxL ret np) (hw : Cond.methodLink own index y ∈ lw_tbl) (hs : Cond.instanceMethod y ∈ lw_tbl) (hs2 : Cond.selects y.cls y y ∈ lw_tbl) {cI : Nat} {F : u_T} {N : Nat} (hc : Cls cI y.cls F N) (hj : kd j = cI) (d : decode cc pc = .ok (.invokevirtual index, 3)) (hst : st = av.reverse ++ (vr j :: rest)) (hnp : av.length = np) (hcat : lsz rest ≤ 8) (hfr : fr' + 1 ≤ fr) (hlo : 8 + (maxL + 11) + lo' ≤ lo) (hn : pc + 3 = n) (kk : G E nL T J n lv (v :: rest)) : G E nL T I pc lv st := by
  subst hn
  intro H locs ls hP hS hl
  have hlen : ∀ sig, parseMethodDescriptor y.desc = some sig → np = sig.parameters.length := fun sig h => by
    have h2 := hk.2.2.2
    rw [h] at h2
    exact (Option.some.inj h2).symm
  have hr := va_runV (As := av.map (pv (e_B E))) (rest := rest.map (pv (e_B E))) (g := F0 (e_m E) pc ls (st.map (pv (e_B E)))) (bytes := bytes) (maxL := maxL) (ret := ret) (n := np) (mc := 0) (ms := 0) (H := H) (locs := locs) (cells := e_ce E) (slots := e_sl E) (R := e_R E) (e := e_e E) (below := e_b E) (meth := e_me E) ⟨ok.1, ok.2.1, ok.2.2.1, ok.2.2.2.1, ok.2.2.2.2.1⟩ (hC (e_l E) (e_D E) (e_cI E) (e_cT E) (e_B E) (e_t1 E) (e_t2 E)) ⟨⟨rfl, rfl, Nat.le_trans hfr ok.2.2.2.2.2.2.2.2.2.1, Nat.le_trans hlo ok.2.2.2.2.2.2.2.2.2.2.1, pay_in ok.2.2.2.2.1 (good_code hk.1), List.mem_cons_self, (ok.word hk.1 rfl), (ok.word hk.2.1 rfl), hk.2.2.1, hlen, ok.word hw rfl⟩, ok.word hs rfl, ok.word hs2 rfl⟩ ⟨Wd.blind _ _ _ _ _ _ _ _, va_recv ok.2.2.2.2.2.2.1 hP hc.1 (pw_at hj hc.2.2), fun U hU hW => ⟨rfl, Wd.of ok hP hS U hU hW⟩⟩ rfl (by simpa using hnp) hl.1 (by rw [hst]; simp; rfl) (lv_room (by rw [lsz_sum]; exact hcat)) d ⟨ok.2.2.2.2.2.2.2.2.2.2.2.1, ok.2.2.2.2.2.2.2.2.2.2.2.2⟩
  exact g_back ok hS hl hr kk
theorem g_callSv (ok : Eok E cc own nL fr lo) {y : MethodName} {bytes : ByteArray} {maxL np index fr' lo' : Nat} {ret : Option FieldType} {av : List Pv} {J : HI} (hC : Cx y bytes maxL ret fr' lo' av I (none, J)) (hk : Kn y bytes maxL ret np) (hw : Cond.methodLink own index y ∈ lw_tbl) (hs : Cond.static y ∈ lw_tbl) (d : decode cc pc = .ok (.invokestatic index, 3)) (hst : st = av.reverse ++ rest) (hnp : av.length = np) (hcat : lsz rest ≤ 8) (hfr : fr' + 1 ≤ fr) (hlo : 8 + (maxL + 11) + lo' ≤ lo) (hn : pc + 3 = n) (kk : G E nL T J n lv rest) : G E nL T I pc lv st := by
  subst hn
  intro H locs ls hP hS hl
  have hlen : ∀ sig, parseMethodDescriptor y.desc = some sig → np = sig.parameters.length := fun sig h => by
    have h2 := hk.2.2.2
    rw [h] at h2
    exact (Option.some.inj h2).symm
  have hr := va_runS (As := av.map (pv (e_B E))) (rest := rest.map (pv (e_B E))) (g := F0 (e_m E) pc ls (st.map (pv (e_B E)))) (bytes := bytes) (maxL := maxL) (ret := ret) (n := np) (mc := 0) (ms := 0) (H := H) (locs := locs) (cells := e_ce E) (slots := e_sl E) (R := e_R E) (e := e_e E) (below := e_b E) (meth := e_me E) ⟨ok.1, ok.2.1, ok.2.2.1, ok.2.2.2.1, ok.2.2.2.2.1⟩ (hC (e_l E) (e_D E) (e_cI E) (e_cT E) (e_B E) (e_t1 E) (e_t2 E)) ⟨⟨rfl, rfl, Nat.le_trans hfr ok.2.2.2.2.2.2.2.2.2.1, Nat.le_trans hlo ok.2.2.2.2.2.2.2.2.2.2.1, pay_in ok.2.2.2.2.1 (good_code hk.1), List.mem_cons_self, (ok.word hk.1 rfl), (ok.word hk.2.1 rfl), hk.2.2.1, hlen, ok.word hw rfl⟩, ok.word hs rfl⟩ ⟨Wd.blind _ _ _ _ _ _ _ _, fun U hU hW => ⟨rfl, Wd.of ok hP hS U hU hW⟩⟩ rfl (by simpa using hnp) hl.1 (by rw [hst]; simp) (lv_room (by rw [lsz_sum]; exact hcat)) d ⟨ok.2.2.2.2.2.2.2.2.2.2.2.1, ok.2.2.2.2.2.2.2.2.2.2.2.2⟩
  exact g_back ok hS hl hr kk
theorem g_callSNv (ok : Eok E cc own nL fr lo) {y : MethodName} {bytes : ByteArray} {maxL np index fr' lo' : Nat} {ret : Option FieldType} {av : List Pv} {J : HI} (hC : Cx y bytes maxL ret fr' lo' av I (none, J)) (hk : Kn y bytes maxL ret np) {host : String} (hw : Cond.methodLinkNest own index y host ∈ lw_tbl) (hs : Cond.static y ∈ lw_tbl) (d : decode cc pc = .ok (.invokestatic index, 3)) (hst : st = av.reverse ++ rest) (hnp : av.length = np) (hcat : lsz rest ≤ 8) (hfr : fr' + 1 ≤ fr) (hlo : 8 + (maxL + 11) + lo' ≤ lo) (hn : pc + 3 = n) (kk : G E nL T J n lv rest) : G E nL T I pc lv st := by
  subst hn
  intro H locs ls hP hS hl
  have hlen : ∀ sig, parseMethodDescriptor y.desc = some sig → np = sig.parameters.length := fun sig h => by
    have h2 := hk.2.2.2
    rw [h] at h2
    exact (Option.some.inj h2).symm
  have hr := va_runSN (As := av.map (pv (e_B E))) (rest := rest.map (pv (e_B E))) (g := F0 (e_m E) pc ls (st.map (pv (e_B E)))) (bytes := bytes) (maxL := maxL) (ret := ret) (n := np) (mc := 0) (ms := 0) (H := H) (locs := locs) (cells := e_ce E) (slots := e_sl E) (R := e_R E) (e := e_e E) (below := e_b E) (meth := e_me E) ⟨ok.1, ok.2.1, ok.2.2.1, ok.2.2.2.1, ok.2.2.2.2.1⟩ (hC (e_l E) (e_D E) (e_cI E) (e_cT E) (e_B E) (e_t1 E) (e_t2 E)) ⟨⟨⟨rfl, rfl, Nat.le_trans hfr ok.2.2.2.2.2.2.2.2.2.1, Nat.le_trans hlo ok.2.2.2.2.2.2.2.2.2.2.1, pay_in ok.2.2.2.2.1 (good_code hk.1), List.mem_cons_self⟩, (ok.word hk.1 rfl), (ok.word hk.2.1 rfl), hk.2.2.1, hlen, va_Nw.use rfl (ok.2.2.2.2.2.1 _ hw rfl)⟩, ok.word hs rfl, trivial⟩ ⟨Wd.blind _ _ _ _ _ _ _ _, fun U hU hW => ⟨rfl, Wd.of ok hP hS U hU hW⟩⟩ rfl (by simpa using hnp) hl.1 (by rw [hst]; simp) (lv_room (by rw [lsz_sum]; exact hcat)) d ⟨ok.2.2.2.2.2.2.2.2.2.2.2.1, ok.2.2.2.2.2.2.2.2.2.2.2.2⟩
  exact g_back ok hS hl hr kk
theorem g_callVv (ok : Eok E cc own nL fr lo) {y : MethodName} {bytes : ByteArray} {maxL np index fr' lo' : Nat} {ret : Option FieldType} {av : List Pv} {J : HI} {j : Nat} (hC : Cx y bytes maxL ret fr' lo' (vr j :: av) I (none, J)) (hk : Kn y bytes maxL ret np) (hw : Cond.methodLink own index y ∈ lw_tbl) (hs : Cond.instanceMethod y ∈ lw_tbl) (hs2 : Cond.selects y.cls y y ∈ lw_tbl) {cI : Nat} {F : u_T} {N : Nat} (hc : Cls cI y.cls F N) (hj : kd j = cI) (d : decode cc pc = .ok (.invokevirtual index, 3)) (hst : st = av.reverse ++ (vr j :: rest)) (hnp : av.length = np) (hcat : lsz rest ≤ 8) (hfr : fr' + 1 ≤ fr) (hlo : 8 + (maxL + 11) + lo' ≤ lo) (hn : pc + 3 = n) (kk : G E nL T J n lv rest) : G E nL T I pc lv st := by
  subst hn
  intro H locs ls hP hS hl
  have hlen : ∀ sig, parseMethodDescriptor y.desc = some sig → np = sig.parameters.length := fun sig h => by
    have h2 := hk.2.2.2
    rw [h] at h2
    exact (Option.some.inj h2).symm
  have hr := va_runV (As := av.map (pv (e_B E))) (rest := rest.map (pv (e_B E))) (g := F0 (e_m E) pc ls (st.map (pv (e_B E)))) (bytes := bytes) (maxL := maxL) (ret := ret) (n := np) (mc := 0) (ms := 0) (H := H) (locs := locs) (cells := e_ce E) (slots := e_sl E) (R := e_R E) (e := e_e E) (below := e_b E) (meth := e_me E) ⟨ok.1, ok.2.1, ok.2.2.1, ok.2.2.2.1, ok.2.2.2.2.1⟩ (hC (e_l E) (e_D E) (e_cI E) (e_cT E) (e_B E) (e_t1 E) (e_t2 E)) ⟨⟨rfl, rfl, Nat.le_trans hfr ok.2.2.2.2.2.2.2.2.2.1, Nat.le_trans hlo ok.2.2.2.2.2.2.2.2.2.2.1, pay_in ok.2.2.2.2.1 (good_code hk.1), List.mem_cons_self, (ok.word hk.1 rfl), (ok.word hk.2.1 rfl), hk.2.2.1, hlen, ok.word hw rfl⟩, ok.word hs rfl, ok.word hs2 rfl⟩ ⟨Wd.blind _ _ _ _ _ _ _ _, va_recv ok.2.2.2.2.2.2.1 hP hc.1 (pw_at hj hc.2.2), fun U hU hW => ⟨rfl, Wd.of ok hP hS U hU hW⟩⟩ rfl (by simpa using hnp) hl.1 (by rw [hst]; simp; rfl) (lv_room (by rw [lsz_sum]; exact hcat)) d ⟨ok.2.2.2.2.2.2.2.2.2.2.2.1, ok.2.2.2.2.2.2.2.2.2.2.2.2⟩
  exact g_back ok hS hl hr kk
end Rules

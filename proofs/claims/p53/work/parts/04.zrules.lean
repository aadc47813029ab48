/-! The kit's rows said of zV. -/
section ZR1
variable {μ : zMeth} {R : zRoom} {σ : zSg} {Q : zO → zM → Prop} {M : zM} {kc ks pc n : Nat} {lv : List (Nat × Value)} {rest : List Value}
def zget (lv : List (Nat × Value)) (i : Nat) : Option Value := match lv with
  | [] => none
  | q :: l => if q.1 = i then some q.2 else zget l i
theorem zget_mem {lv : List (Nat × Value)} {i : Nat} {v : Value} (h : zget lv i = some v) : (i, v) ∈ lv := by
  induction lv with
  | nil => cases h
  | cons q l ih =>
    rw [zget] at h
    by_cases hq : q.1 = i
    · rw [if_pos hq] at h
      cases h
      rw [← hq]
      exact List.mem_cons_self
    · rw [if_neg hq] at h
      exact List.mem_cons_of_mem _ (ih h)
theorem zget_at {ls : Array Slot} {nL : Nat} {lv : List (Nat × Value)} (hl : lv_has ls nL lv) {i : Nat} {v : Value} (h : zget lv i = some v) : ls[i]? = some (.val v) := hl.2.2 (i, v) (zget_mem h)
/-- fewer locals -/
theorem zlv_sub {ls : Array Slot} {nL : Nat} {lv lv' : List (Nat × Value)} (hl : lv_has ls nL lv) (h : ∀ q ∈ lv', zget lv q.1 = some q.2) : lv_has ls nL lv' := ⟨hl.1, hl.2.1, fun q hq => hl.2.2 q (zget_mem (h q hq))⟩
def zput1 (lv : List (Nat × Value)) (i : Nat) (v : Value) : List (Nat × Value) := (i, v) :: lv.filter (fun q => !(q.1 == i) && !(q.1 + 1 == i && q.2.category == 2))
def zput2 (lv : List (Nat × Value)) (i : Nat) (v : Value) : List (Nat × Value) := (i, v) :: lv.filter (fun q => !(q.1 == i) && (!(q.1 == i + 1) && !(q.1 + 1 == i && q.2.category == 2)))
theorem zv_lv {lv' : List (Nat × Value)} (h : ∀ q ∈ lv', zget lv q.1 = some q.2) (k : zV μ R σ Q M kc ks pc lv' rest) : zV μ R σ Q M kc ks pc lv rest :=
  fun p l e s m args below meth c κ Z H locs ls hM hS hl => k p l e s m args below meth c κ Z H locs ls hM hS (zlv_sub hl h)
theorem zv_M {M' : zM} (h : ∀ a e, M' a = some e → M a = some e) (k : zV μ R σ Q M' kc ks pc lv rest) : zV μ R σ Q M kc ks pc lv rest :=
  fun p l e s m args below meth c κ Z H locs ls hM hS hl => k p l e s m args below meth c κ Z H locs ls (hM.less h) hS hl
theorem zv_wide {kc' ks' : Nat} (h1 : kc ≤ kc') (h2 : ks ≤ ks') (k : zV μ R σ Q M kc' ks' pc lv rest) : zV μ R σ Q M kc ks pc lv rest :=
  fun p l e s m args below meth c κ Z H locs ls hM hS hl => W.widen h1 h2 (k p l e s m args below meth c κ Z H locs ls hM hS hl)
theorem zv_pc {pc' : Nat} (h : pc = pc') (k : zV μ R σ Q M kc ks pc' lv rest) : zV μ R σ Q M kc ks pc lv rest := h ▸ k
theorem zv_iconst {c : Int} {v : Int32} (hd : decode μ.2.1 pc = .ok (.iconst c, 1)) (hn : pc + 1 = n) (hv : Int32.ofInt c = v) (k : zV μ R σ Q M kc ks n lv (.int v :: rest)) : zV μ R σ Q M kc ks pc lv (rest) := by
  subst hn
  exact fun p l e s m args below meth c κ Z H locs ls hM hS hl => lv_iconst Z.1 Z.2.1 hd hv (k p l e s m args below meth c κ Z H locs ls hM hS hl)
theorem zv_bipush {c : Int} {v : Int32} (hd : decode μ.2.1 pc = .ok (.bipush c, 2)) (hn : pc + 2 = n) (hv : (Int8.ofInt c).toInt32 = v) (k : zV μ R σ Q M kc ks n lv (.int v :: rest)) : zV μ R σ Q M kc ks pc lv (rest) := by
  subst hn
  exact fun p l e s m args below meth c κ Z H locs ls hM hS hl => lv_bipush Z.1 Z.2.1 hd hv (k p l e s m args below meth c κ Z H locs ls hM hS hl)
theorem zv_sipush {c : Int} {v : Int32} (hd : decode μ.2.1 pc = .ok (.sipush c, 3)) (hn : pc + 3 = n) (hv : (Int16.ofInt c).toInt32 = v) (k : zV μ R σ Q M kc ks n lv (.int v :: rest)) : zV μ R σ Q M kc ks pc lv (rest) := by
  subst hn
  exact fun p l e s m args below meth c κ Z H locs ls hM hS hl => lv_sipush Z.1 Z.2.1 hd hv (k p l e s m args below meth c κ Z H locs ls hM hS hl)
theorem zv_null  (hd : decode μ.2.1 pc = .ok (.aconst_null, 1)) (hn : pc + 1 = n) (k : zV μ R σ Q M kc ks n lv (.null :: rest)) : zV μ R σ Q M kc ks pc lv (rest) := by
  subst hn
  exact fun p l e s m args below meth c κ Z H locs ls hM hS hl => lv_null Z.1 Z.2.1 hd (k p l e s m args below meth c κ Z H locs ls hM hS hl)
theorem zv_iload {i : Nat} {x : Int32} (hd : decode μ.2.1 pc = .ok (.iload i, 2)) (hn : pc + 2 = n) (hg : zget lv i = some (.int x)) (k : zV μ R σ Q M kc ks n lv (.int x :: rest)) : zV μ R σ Q M kc ks pc lv (rest) := by
  subst hn
  exact fun p l e s m args below meth c κ Z H locs ls hM hS hl => lv_iload Z.1 Z.2.1 hd (zget_at hl hg) (k p l e s m args below meth c κ Z H locs ls hM hS hl)
theorem zv_iload_n {j : Fin 4} {x : Int32} (hd : decode μ.2.1 pc = .ok (.iload_n j, 1)) (hn : pc + 1 = n) (hg : zget lv (j : Nat) = some (.int x)) (k : zV μ R σ Q M kc ks n lv (.int x :: rest)) : zV μ R σ Q M kc ks pc lv (rest) := by
  subst hn
  exact fun p l e s m args below meth c κ Z H locs ls hM hS hl => lv_iload_n Z.1 Z.2.1 hd rfl (zget_at hl hg) (k p l e s m args below meth c κ Z H locs ls hM hS hl)
theorem zv_lload {i : Nat} {x : Int64} (hd : decode μ.2.1 pc = .ok (.lload i, 2)) (hn : pc + 2 = n) (hg : zget lv i = some (.long x)) (k : zV μ R σ Q M kc ks n lv (.long x :: rest)) : zV μ R σ Q M kc ks pc lv (rest) := by
  subst hn
  exact fun p l e s m args below meth c κ Z H locs ls hM hS hl => lv_lload Z.1 Z.2.1 hd (zget_at hl hg) (k p l e s m args below meth c κ Z H locs ls hM hS hl)
theorem zv_lload_n {j : Fin 4} {x : Int64} (hd : decode μ.2.1 pc = .ok (.lload_n j, 1)) (hn : pc + 1 = n) (hg : zget lv (j : Nat) = some (.long x)) (k : zV μ R σ Q M kc ks n lv (.long x :: rest)) : zV μ R σ Q M kc ks pc lv (rest) := by
  subst hn
  exact fun p l e s m args below meth c κ Z H locs ls hM hS hl => lv_lload_n Z.1 Z.2.1 hd rfl (zget_at hl hg) (k p l e s m args below meth c κ Z H locs ls hM hS hl)
theorem zv_fload {i : Nat} {x : UInt32} (hd : decode μ.2.1 pc = .ok (.fload i, 2)) (hn : pc + 2 = n) (hg : zget lv i = some (.float x)) (k : zV μ R σ Q M kc ks n lv (.float x :: rest)) : zV μ R σ Q M kc ks pc lv (rest) := by
  subst hn
  exact fun p l e s m args below meth c κ Z H locs ls hM hS hl => lv_fload Z.1 Z.2.1 hd (zget_at hl hg) (k p l e s m args below meth c κ Z H locs ls hM hS hl)
theorem zv_fload_n {j : Fin 4} {x : UInt32} (hd : decode μ.2.1 pc = .ok (.fload_n j, 1)) (hn : pc + 1 = n) (hg : zget lv (j : Nat) = some (.float x)) (k : zV μ R σ Q M kc ks n lv (.float x :: rest)) : zV μ R σ Q M kc ks pc lv (rest) := by
  subst hn
  exact fun p l e s m args below meth c κ Z H locs ls hM hS hl => lv_fload_n Z.1 Z.2.1 hd rfl (zget_at hl hg) (k p l e s m args below meth c κ Z H locs ls hM hS hl)
theorem zv_dload {i : Nat} {x : UInt64} (hd : decode μ.2.1 pc = .ok (.dload i, 2)) (hn : pc + 2 = n) (hg : zget lv i = some (.double x)) (k : zV μ R σ Q M kc ks n lv (.double x :: rest)) : zV μ R σ Q M kc ks pc lv (rest) := by
  subst hn
  exact fun p l e s m args below meth c κ Z H locs ls hM hS hl => lv_dload Z.1 Z.2.1 hd (zget_at hl hg) (k p l e s m args below meth c κ Z H locs ls hM hS hl)
theorem zv_dload_n {j : Fin 4} {x : UInt64} (hd : decode μ.2.1 pc = .ok (.dload_n j, 1)) (hn : pc + 1 = n) (hg : zget lv (j : Nat) = some (.double x)) (k : zV μ R σ Q M kc ks n lv (.double x :: rest)) : zV μ R σ Q M kc ks pc lv (rest) := by
  subst hn
  exact fun p l e s m args below meth c κ Z H locs ls hM hS hl => lv_dload_n Z.1 Z.2.1 hd rfl (zget_at hl hg) (k p l e s m args below meth c κ Z H locs ls hM hS hl)
theorem zv_aload {i : Nat} {x : Nat} (hd : decode μ.2.1 pc = .ok (.aload i, 2)) (hn : pc + 2 = n) (hg : zget lv i = some (.ref x)) (k : zV μ R σ Q M kc ks n lv (.ref x :: rest)) : zV μ R σ Q M kc ks pc lv (rest) := by
  subst hn
  exact fun p l e s m args below meth c κ Z H locs ls hM hS hl => lv_aload Z.1 Z.2.1 hd (zget_at hl hg) (k p l e s m args below meth c κ Z H locs ls hM hS hl)
theorem zv_aload_n {j : Fin 4} {x : Nat} (hd : decode μ.2.1 pc = .ok (.aload_n j, 1)) (hn : pc + 1 = n) (hg : zget lv (j : Nat) = some (.ref x)) (k : zV μ R σ Q M kc ks n lv (.ref x :: rest)) : zV μ R σ Q M kc ks pc lv (rest) := by
  subst hn
  exact fun p l e s m args below meth c κ Z H locs ls hM hS hl => lv_aload_n Z.1 Z.2.1 hd rfl (zget_at hl hg) (k p l e s m args below meth c κ Z H locs ls hM hS hl)
theorem zv_aloadN {i : Nat} (hd : decode μ.2.1 pc = .ok (.aload i, 2)) (hn : pc + 2 = n) (hg : zget lv i = some .null) (k : zV μ R σ Q M kc ks n lv (.null :: rest)) : zV μ R σ Q M kc ks pc lv (rest) := by
  subst hn
  exact fun p l e s m args below meth c κ Z H locs ls hM hS hl => lv_aloadN Z.1 Z.2.1 hd (zget_at hl hg) (k p l e s m args below meth c κ Z H locs ls hM hS hl)
theorem zv_aload_nN {j : Fin 4} (hd : decode μ.2.1 pc = .ok (.aload_n j, 1)) (hn : pc + 1 = n) (hg : zget lv (j : Nat) = some .null) (k : zV μ R σ Q M kc ks n lv (.null :: rest)) : zV μ R σ Q M kc ks pc lv (rest) := by
  subst hn
  exact fun p l e s m args below meth c κ Z H locs ls hM hS hl => lv_aload_nN Z.1 Z.2.1 hd rfl (zget_at hl hg) (k p l e s m args below meth c κ Z H locs ls hM hS hl)
theorem zv_istore {i : Nat} {x : Int32} {lv' : List (Nat × Value)} (hd : decode μ.2.1 pc = .ok (.istore i, 2)) (hn : pc + 2 = n) (hi : i < μ.2.2.1) (hp : zput1 lv i (.int x) = lv') (k : zV μ R σ Q M kc ks n lv' (rest)) : zV μ R σ Q M kc ks pc lv (.int x :: rest) := by
  subst hn
  exact fun p l e s m args below meth c κ Z H locs ls hM hS hl => lv_istore Z.1 Z.2.1 hd hl hi hp (fun ls hl => k p l e s m args below meth c κ Z H locs ls hM hS hl)
theorem zv_istore_n {j : Fin 4} {x : Int32} {lv' : List (Nat × Value)} (hd : decode μ.2.1 pc = .ok (.istore_n j, 1)) (hn : pc + 1 = n) (hi : (j : Nat) < μ.2.2.1) (hp : zput1 lv (j : Nat) (.int x) = lv') (k : zV μ R σ Q M kc ks n lv' (rest)) : zV μ R σ Q M kc ks pc lv (.int x :: rest) := by
  subst hn
  exact fun p l e s m args below meth c κ Z H locs ls hM hS hl => lv_istore_n Z.1 Z.2.1 hd rfl hl hi hp (fun ls hl => k p l e s m args below meth c κ Z H locs ls hM hS hl)
theorem zv_lstore {i : Nat} {x : Int64} {lv' : List (Nat × Value)} (hd : decode μ.2.1 pc = .ok (.lstore i, 2)) (hn : pc + 2 = n) (hi : i + 1 < μ.2.2.1) (hp : zput2 lv i (.long x) = lv') (k : zV μ R σ Q M kc ks n lv' (rest)) : zV μ R σ Q M kc ks pc lv (.long x :: rest) := by
  subst hn
  exact fun p l e s m args below meth c κ Z H locs ls hM hS hl => lv_lstore Z.1 Z.2.1 hd hl hi hp (fun ls hl => k p l e s m args below meth c κ Z H locs ls hM hS hl)
theorem zv_lstore_n {j : Fin 4} {x : Int64} {lv' : List (Nat × Value)} (hd : decode μ.2.1 pc = .ok (.lstore_n j, 1)) (hn : pc + 1 = n) (hi : (j : Nat) + 1 < μ.2.2.1) (hp : zput2 lv (j : Nat) (.long x) = lv') (k : zV μ R σ Q M kc ks n lv' (rest)) : zV μ R σ Q M kc ks pc lv (.long x :: rest) := by
  subst hn
  exact fun p l e s m args below meth c κ Z H locs ls hM hS hl => lv_lstore_n Z.1 Z.2.1 hd rfl hl hi hp (fun ls hl => k p l e s m args below meth c κ Z H locs ls hM hS hl)
theorem zv_fstore {i : Nat} {x : UInt32} {lv' : List (Nat × Value)} (hd : decode μ.2.1 pc = .ok (.fstore i, 2)) (hn : pc + 2 = n) (hi : i < μ.2.2.1) (hp : zput1 lv i (.float x) = lv') (k : zV μ R σ Q M kc ks n lv' (rest)) : zV μ R σ Q M kc ks pc lv (.float x :: rest) := by
  subst hn
  exact fun p l e s m args below meth c κ Z H locs ls hM hS hl => lv_fstore Z.1 Z.2.1 hd hl hi hp (fun ls hl => k p l e s m args below meth c κ Z H locs ls hM hS hl)
theorem zv_fstore_n {j : Fin 4} {x : UInt32} {lv' : List (Nat × Value)} (hd : decode μ.2.1 pc = .ok (.fstore_n j, 1)) (hn : pc + 1 = n) (hi : (j : Nat) < μ.2.2.1) (hp : zput1 lv (j : Nat) (.float x) = lv') (k : zV μ R σ Q M kc ks n lv' (rest)) : zV μ R σ Q M kc ks pc lv (.float x :: rest) := by
  subst hn
  exact fun p l e s m args below meth c κ Z H locs ls hM hS hl => lv_fstore_n Z.1 Z.2.1 hd rfl hl hi hp (fun ls hl => k p l e s m args below meth c κ Z H locs ls hM hS hl)
theorem zv_dstore {i : Nat} {x : UInt64} {lv' : List (Nat × Value)} (hd : decode μ.2.1 pc = .ok (.dstore i, 2)) (hn : pc + 2 = n) (hi : i + 1 < μ.2.2.1) (hp : zput2 lv i (.double x) = lv') (k : zV μ R σ Q M kc ks n lv' (rest)) : zV μ R σ Q M kc ks pc lv (.double x :: rest) := by
  subst hn
  exact fun p l e s m args below meth c κ Z H locs ls hM hS hl => lv_dstore Z.1 Z.2.1 hd hl hi hp (fun ls hl => k p l e s m args below meth c κ Z H locs ls hM hS hl)
theorem zv_dstore_n {j : Fin 4} {x : UInt64} {lv' : List (Nat × Value)} (hd : decode μ.2.1 pc = .ok (.dstore_n j, 1)) (hn : pc + 1 = n) (hi : (j : Nat) + 1 < μ.2.2.1) (hp : zput2 lv (j : Nat) (.double x) = lv') (k : zV μ R σ Q M kc ks n lv' (rest)) : zV μ R σ Q M kc ks pc lv (.double x :: rest) := by
  subst hn
  exact fun p l e s m args below meth c κ Z H locs ls hM hS hl => lv_dstore_n Z.1 Z.2.1 hd rfl hl hi hp (fun ls hl => k p l e s m args below meth c κ Z H locs ls hM hS hl)
theorem zv_astore {i : Nat} {x : Nat} {lv' : List (Nat × Value)} (hd : decode μ.2.1 pc = .ok (.astore i, 2)) (hn : pc + 2 = n) (hi : i < μ.2.2.1) (hp : zput1 lv i (.ref x) = lv') (k : zV μ R σ Q M kc ks n lv' (rest)) : zV μ R σ Q M kc ks pc lv (.ref x :: rest) := by
  subst hn
  exact fun p l e s m args below meth c κ Z H locs ls hM hS hl => lv_astore Z.1 Z.2.1 hd hl hi hp (fun ls hl => k p l e s m args below meth c κ Z H locs ls hM hS hl)
theorem zv_astore_n {j : Fin 4} {x : Nat} {lv' : List (Nat × Value)} (hd : decode μ.2.1 pc = .ok (.astore_n j, 1)) (hn : pc + 1 = n) (hi : (j : Nat) < μ.2.2.1) (hp : zput1 lv (j : Nat) (.ref x) = lv') (k : zV μ R σ Q M kc ks n lv' (rest)) : zV μ R σ Q M kc ks pc lv (.ref x :: rest) := by
  subst hn
  exact fun p l e s m args below meth c κ Z H locs ls hM hS hl => lv_astore_n Z.1 Z.2.1 hd rfl hl hi hp (fun ls hl => k p l e s m args below meth c κ Z H locs ls hM hS hl)
theorem zv_astoreN {i : Nat} {lv' : List (Nat × Value)} (hd : decode μ.2.1 pc = .ok (.astore i, 2)) (hn : pc + 2 = n) (hi : i < μ.2.2.1) (hp : zput1 lv i (.null) = lv') (k : zV μ R σ Q M kc ks n lv' (rest)) : zV μ R σ Q M kc ks pc lv (.null :: rest) := by
  subst hn
  exact fun p l e s m args below meth c κ Z H locs ls hM hS hl => lv_astoreN Z.1 Z.2.1 hd hl hi hp (fun ls hl => k p l e s m args below meth c κ Z H locs ls hM hS hl)
theorem zv_astore_nN {j : Fin 4} {lv' : List (Nat × Value)} (hd : decode μ.2.1 pc = .ok (.astore_n j, 1)) (hn : pc + 1 = n) (hi : (j : Nat) < μ.2.2.1) (hp : zput1 lv (j : Nat) (.null) = lv') (k : zV μ R σ Q M kc ks n lv' (rest)) : zV μ R σ Q M kc ks pc lv (.null :: rest) := by
  subst hn
  exact fun p l e s m args below meth c κ Z H locs ls hM hS hl => lv_astore_nN Z.1 Z.2.1 hd rfl hl hi hp (fun ls hl => k p l e s m args below meth c κ Z H locs ls hM hS hl)
theorem zget_ix {lv : List (Nat × Value)} {i : Nat} {v : Value} (h : zget lv i = some v) : ∃ k : Nat, lv[k]? = some (i, v) := List.getElem?_of_mem (zget_mem h)
theorem zv_iinc {i : Nat} {c : Int} {x v : Int32} {lv' : List (Nat × Value)} (hd : decode μ.2.1 pc = .ok (.iinc i c, 3)) (hn : pc + 3 = n) (hg : zget lv i = some (.int x)) (hv : x + Int32.ofInt c = v) (hi : i < μ.2.2.1) (hp : zput1 lv i (.int v) = lv') (k : zV μ R σ Q M kc ks n lv' (rest)) : zV μ R σ Q M kc ks pc lv (rest) := by
  subst hn
  obtain ⟨j, hj⟩ := zget_ix hg
  exact fun p l e s m args below meth c κ Z H locs ls hM hS hl => lv_iinc Z.1 Z.2.1 hd hl hj hv hi hp (fun ls hl => k p l e s m args below meth c κ Z H locs ls hM hS hl)
theorem zv_iadd {x y : Int32} (hd : decode μ.2.1 pc = .ok (.iadd, 1)) (hn : pc + 1 = n) (k : zV μ R σ Q M kc ks n lv (.int (x + y) :: rest)) : zV μ R σ Q M kc ks pc lv (.int y :: .int x :: rest) := by
  subst hn
  exact fun p l e s m args below meth c κ Z H locs ls hM hS hl => lv_iadd Z.1 Z.2.1 hd (k p l e s m args below meth c κ Z H locs ls hM hS hl)
theorem zv_isub {x y : Int32} (hd : decode μ.2.1 pc = .ok (.isub, 1)) (hn : pc + 1 = n) (k : zV μ R σ Q M kc ks n lv (.int (x - y) :: rest)) : zV μ R σ Q M kc ks pc lv (.int y :: .int x :: rest) := by
  subst hn
  exact fun p l e s m args below meth c κ Z H locs ls hM hS hl => lv_isub Z.1 Z.2.1 hd (k p l e s m args below meth c κ Z H locs ls hM hS hl)
theorem zv_imul {x y : Int32} (hd : decode μ.2.1 pc = .ok (.imul, 1)) (hn : pc + 1 = n) (k : zV μ R σ Q M kc ks n lv (.int (x * y) :: rest)) : zV μ R σ Q M kc ks pc lv (.int y :: .int x :: rest) := by
  subst hn
  exact fun p l e s m args below meth c κ Z H locs ls hM hS hl => lv_imul Z.1 Z.2.1 hd (k p l e s m args below meth c κ Z H locs ls hM hS hl)
theorem zv_iand {x y : Int32} (hd : decode μ.2.1 pc = .ok (.iand, 1)) (hn : pc + 1 = n) (k : zV μ R σ Q M kc ks n lv (.int (x &&& y) :: rest)) : zV μ R σ Q M kc ks pc lv (.int y :: .int x :: rest) := by
  subst hn
  exact fun p l e s m args below meth c κ Z H locs ls hM hS hl => lv_iand Z.1 Z.2.1 hd (k p l e s m args below meth c κ Z H locs ls hM hS hl)
theorem zv_ixor {x y : Int32} (hd : decode μ.2.1 pc = .ok (.ixor, 1)) (hn : pc + 1 = n) (k : zV μ R σ Q M kc ks n lv (.int (x ^^^ y) :: rest)) : zV μ R σ Q M kc ks pc lv (.int y :: .int x :: rest) := by
  subst hn
  exact fun p l e s m args below meth c κ Z H locs ls hM hS hl => lv_ixor Z.1 Z.2.1 hd (k p l e s m args below meth c κ Z H locs ls hM hS hl)
theorem zv_ishr {x y : Int32} (hd : decode μ.2.1 pc = .ok (.ishr, 1)) (hn : pc + 1 = n) (k : zV μ R σ Q M kc ks n lv (.int (x >>> (y &&& 31)) :: rest)) : zV μ R σ Q M kc ks pc lv (.int y :: .int x :: rest) := by
  subst hn
  exact fun p l e s m args below meth c κ Z H locs ls hM hS hl => lv_ishr Z.1 Z.2.1 hd (k p l e s m args below meth c κ Z H locs ls hM hS hl)
theorem zv_ishl {x y : Int32} (hd : decode μ.2.1 pc = .ok (.ishl, 1)) (hn : pc + 1 = n) (k : zV μ R σ Q M kc ks n lv (.int (x <<< (y &&& 31)) :: rest)) : zV μ R σ Q M kc ks pc lv (.int y :: .int x :: rest) := by
  subst hn
  exact fun p l e s m args below meth c κ Z H locs ls hM hS hl => lv_ishl Z.1 Z.2.1 hd (k p l e s m args below meth c κ Z H locs ls hM hS hl)
theorem zv_idiv {x y : Int32} (hd : decode μ.2.1 pc = .ok (.idiv, 1)) (hn : pc + 1 = n) (h0 : ¬ y = 0) (k : zV μ R σ Q M kc ks n lv (.int (x / y) :: rest)) : zV μ R σ Q M kc ks pc lv (.int y :: .int x :: rest) := by
  subst hn
  exact fun p l e s m args below meth c κ Z H locs ls hM hS hl => lv_idiv Z.1 Z.2.1 hd h0 (k p l e s m args below meth c κ Z H locs ls hM hS hl)
theorem zv_irem {x y : Int32} (hd : decode μ.2.1 pc = .ok (.irem, 1)) (hn : pc + 1 = n) (h0 : ¬ y = 0) (k : zV μ R σ Q M kc ks n lv (.int (x - x / y * y) :: rest)) : zV μ R σ Q M kc ks pc lv (.int y :: .int x :: rest) := by
  subst hn
  exact fun p l e s m args below meth c κ Z H locs ls hM hS hl => lv_irem Z.1 Z.2.1 hd h0 (k p l e s m args below meth c κ Z H locs ls hM hS hl)
theorem zv_ineg {x : Int32} (hd : decode μ.2.1 pc = .ok (.ineg, 1)) (hn : pc + 1 = n) (k : zV μ R σ Q M kc ks n lv (.int (-x) :: rest)) : zV μ R σ Q M kc ks pc lv (.int x :: rest) := by
  subst hn
  exact fun p l e s m args below meth c κ Z H locs ls hM hS hl => lv_ineg Z.1 Z.2.1 hd (k p l e s m args below meth c κ Z H locs ls hM hS hl)
theorem zv_ladd {x y : Int64} (hd : decode μ.2.1 pc = .ok (.ladd, 1)) (hn : pc + 1 = n) (k : zV μ R σ Q M kc ks n lv (.long (x + y) :: rest)) : zV μ R σ Q M kc ks pc lv (.long y :: .long x :: rest) := by
  subst hn
  exact fun p l e s m args below meth c κ Z H locs ls hM hS hl => lv_ladd Z.1 Z.2.1 hd (k p l e s m args below meth c κ Z H locs ls hM hS hl)
theorem zv_lmul {x y : Int64} (hd : decode μ.2.1 pc = .ok (.lmul, 1)) (hn : pc + 1 = n) (k : zV μ R σ Q M kc ks n lv (.long (x * y) :: rest)) : zV μ R σ Q M kc ks pc lv (.long y :: .long x :: rest) := by
  subst hn
  exact fun p l e s m args below meth c κ Z H locs ls hM hS hl => lv_lmul Z.1 Z.2.1 hd (k p l e s m args below meth c κ Z H locs ls hM hS hl)
theorem zv_lcmp {x y : Int64} (hd : decode μ.2.1 pc = .ok (.lcmp, 1)) (hn : pc + 1 = n) (k : zV μ R σ Q M kc ks n lv (.int (lg_cmp x y) :: rest)) : zV μ R σ Q M kc ks pc lv (.long y :: .long x :: rest) := by
  subst hn
  exact fun p l e s m args below meth c κ Z H locs ls hM hS hl => W.lcmp Z.1 Z.2.1 hd (k p l e s m args below meth c κ Z H locs ls hM hS hl)
theorem zv_i2l {x : Int32} (hd : decode μ.2.1 pc = .ok (.i2l, 1)) (hn : pc + 1 = n) (k : zV μ R σ Q M kc ks n lv (.long x.toInt64 :: rest)) : zV μ R σ Q M kc ks pc lv (.int x :: rest) := by
  subst hn
  exact fun p l e s m args below meth c κ Z H locs ls hM hS hl => lv_i2l Z.1 Z.2.1 hd rfl (k p l e s m args below meth c κ Z H locs ls hM hS hl)
theorem zv_i2b {x : Int32} (hd : decode μ.2.1 pc = .ok (.i2b, 1)) (hn : pc + 1 = n) (k : zV μ R σ Q M kc ks n lv (.int x.toInt8.toInt32 :: rest)) : zV μ R σ Q M kc ks pc lv (.int x :: rest) := by
  subst hn
  exact fun p l e s m args below meth c κ Z H locs ls hM hS hl => lv_i2b Z.1 Z.2.1 hd rfl (k p l e s m args below meth c κ Z H locs ls hM hS hl)
theorem zv_i2c {x : Int32} (hd : decode μ.2.1 pc = .ok (.i2c, 1)) (hn : pc + 1 = n) (k : zV μ R σ Q M kc ks n lv (.int (x.toUInt32 % 65536).toInt32 :: rest)) : zV μ R σ Q M kc ks pc lv (.int x :: rest) := by
  subst hn
  exact fun p l e s m args below meth c κ Z H locs ls hM hS hl => lv_i2c Z.1 Z.2.1 hd rfl (k p l e s m args below meth c κ Z H locs ls hM hS hl)
theorem zv_fadd {x y : UInt32} (hd : decode μ.2.1 pc = .ok (.fadd, 1)) (hn : pc + 1 = n) (h0 : vf_n32 (FP.fadd x y)) (k : zV μ R σ Q M kc ks n lv (.float (FP.fadd x y) :: rest)) : zV μ R σ Q M kc ks pc lv (.float y :: .float x :: rest) := by
  subst hn
  exact fun p l e s m args below meth c κ Z H locs ls hM hS hl => lv_fadd Z.1 Z.2.1 hd h0 (k p l e s m args below meth c κ Z H locs ls hM hS hl)
theorem zv_fmul {x y : UInt32} (hd : decode μ.2.1 pc = .ok (.fmul, 1)) (hn : pc + 1 = n) (h0 : vf_n32 (FP.fmul x y)) (k : zV μ R σ Q M kc ks n lv (.float (FP.fmul x y) :: rest)) : zV μ R σ Q M kc ks pc lv (.float y :: .float x :: rest) := by
  subst hn
  exact fun p l e s m args below meth c κ Z H locs ls hM hS hl => lv_fmul Z.1 Z.2.1 hd h0 (k p l e s m args below meth c κ Z H locs ls hM hS hl)
theorem zv_fdiv {x y : UInt32} (hd : decode μ.2.1 pc = .ok (.fdiv, 1)) (hn : pc + 1 = n) (h0 : vf_n32 (FP.fdiv x y)) (k : zV μ R σ Q M kc ks n lv (.float (FP.fdiv x y) :: rest)) : zV μ R σ Q M kc ks pc lv (.float y :: .float x :: rest) := by
  subst hn
  exact fun p l e s m args below meth c κ Z H locs ls hM hS hl => lv_fdiv Z.1 Z.2.1 hd h0 (k p l e s m args below meth c κ Z H locs ls hM hS hl)
theorem zv_dadd {x y : UInt64} (hd : decode μ.2.1 pc = .ok (.dadd, 1)) (hn : pc + 1 = n) (h0 : vf_n64 (FP.dadd x y)) (k : zV μ R σ Q M kc ks n lv (.double (FP.dadd x y) :: rest)) : zV μ R σ Q M kc ks pc lv (.double y :: .double x :: rest) := by
  subst hn
  exact fun p l e s m args below meth c κ Z H locs ls hM hS hl => lv_dadd Z.1 Z.2.1 hd h0 (k p l e s m args below meth c κ Z H locs ls hM hS hl)
theorem zv_ddiv {x y : UInt64} (hd : decode μ.2.1 pc = .ok (.ddiv, 1)) (hn : pc + 1 = n) (h0 : vf_n64 (FP.ddiv x y)) (k : zV μ R σ Q M kc ks n lv (.double (FP.ddiv x y) :: rest)) : zV μ R σ Q M kc ks pc lv (.double y :: .double x :: rest) := by
  subst hn
  exact fun p l e s m args below meth c κ Z H locs ls hM hS hl => lv_ddiv Z.1 Z.2.1 hd h0 (k p l e s m args below meth c κ Z H locs ls hM hS hl)
theorem zv_fcmp {x y : UInt32} {op : CmpOp} (hd : decode μ.2.1 pc = .ok (.fcmp op, 1)) (hn : pc + 1 = n) (k : zV μ R σ Q M kc ks n lv (.int (Op.cmpValue (FP.fcmp x y) op) :: rest)) : zV μ R σ Q M kc ks pc lv (.float y :: .float x :: rest) := by
  subst hn
  exact fun p l e s m args below meth c κ Z H locs ls hM hS hl => lv_fcmp Z.1 Z.2.1 hd (k p l e s m args below meth c κ Z H locs ls hM hS hl)
theorem zv_i2f {x : Int32} (hd : decode μ.2.1 pc = .ok (.i2f, 1)) (hn : pc + 1 = n) (k : zV μ R σ Q M kc ks n lv (.float (FP.i2f x) :: rest)) : zV μ R σ Q M kc ks pc lv (.int x :: rest) := by
  subst hn
  exact fun p l e s m args below meth c κ Z H locs ls hM hS hl => lv_i2f Z.1 Z.2.1 hd (k p l e s m args below meth c κ Z H locs ls hM hS hl)
theorem zv_i2d {x : Int32} (hd : decode μ.2.1 pc = .ok (.i2d, 1)) (hn : pc + 1 = n) (k : zV μ R σ Q M kc ks n lv (.double (FP.i2d x) :: rest)) : zV μ R σ Q M kc ks pc lv (.int x :: rest) := by
  subst hn
  exact fun p l e s m args below meth c κ Z H locs ls hM hS hl => lv_i2d Z.1 Z.2.1 hd (k p l e s m args below meth c κ Z H locs ls hM hS hl)
theorem zv_f2i {x : UInt32} (hd : decode μ.2.1 pc = .ok (.f2i, 1)) (hn : pc + 1 = n) (k : zV μ R σ Q M kc ks n lv (.int (FP.f2i x) :: rest)) : zV μ R σ Q M kc ks pc lv (.float x :: rest) := by
  subst hn
  exact fun p l e s m args below meth c κ Z H locs ls hM hS hl => lv_f2i Z.1 Z.2.1 hd (k p l e s m args below meth c κ Z H locs ls hM hS hl)
theorem zv_f2d {x : UInt32} (hd : decode μ.2.1 pc = .ok (.f2d, 1)) (hn : pc + 1 = n) (h0 : vf_n64 (FP.f2d x)) (k : zV μ R σ Q M kc ks n lv (.double (FP.f2d x) :: rest)) : zV μ R σ Q M kc ks pc lv (.float x :: rest) := by
  subst hn
  exact fun p l e s m args below meth c κ Z H locs ls hM hS hl => lv_f2d Z.1 Z.2.1 hd h0 (k p l e s m args below meth c κ Z H locs ls hM hS hl)
theorem zv_dup {v : Value} (hd : decode μ.2.1 pc = .ok (.dup, 1)) (hn : pc + 1 = n) (hc : v.category = 1) (k : zV μ R σ Q M kc ks n lv (v :: v :: rest)) : zV μ R σ Q M kc ks pc lv (v :: rest) := by
  subst hn
  exact fun p l e s m args below meth c κ Z H locs ls hM hS hl => lv_dup Z.1 Z.2.1 hd hc (k p l e s m args below meth c κ Z H locs ls hM hS hl)
theorem zv_dup_x1 {v u : Value} (hd : decode μ.2.1 pc = .ok (.dup_x1, 1)) (hn : pc + 1 = n) (hc : v.category = 1) (hc2 : u.category = 1) (k : zV μ R σ Q M kc ks n lv (v :: u :: v :: rest)) : zV μ R σ Q M kc ks pc lv (v :: u :: rest) := by
  subst hn
  exact fun p l e s m args below meth c κ Z H locs ls hM hS hl => lv_dup_x1 Z.1 Z.2.1 hd hc hc2 (k p l e s m args below meth c κ Z H locs ls hM hS hl)
theorem zv_pop {v : Value} (hd : decode μ.2.1 pc = .ok (.pop, 1)) (hn : pc + 1 = n) (hc : v.category = 1) (k : zV μ R σ Q M kc ks n lv (rest)) : zV μ R σ Q M kc ks pc lv (v :: rest) := by
  subst hn
  exact fun p l e s m args below meth c κ Z H locs ls hM hS hl => lv_pop Z.1 Z.2.1 hd hc (k p l e s m args below meth c κ Z H locs ls hM hS hl)
theorem zv_if_eq {x : Int32} {off : Int} {tgt : Nat} (hd : decode μ.2.1 pc = .ok (.ifCond .eq off, 3)) (ht : (pc : Int) + off = (tgt : Int)) (hn : pc + 3 = n) (kt : x = 0 → zV μ R σ Q M kc ks tgt lv (rest)) (kf : ¬ x = 0 → zV μ R σ Q M kc ks n lv (rest)) : zV μ R σ Q M kc ks pc lv (.int x :: rest) := by
  subst hn
  exact fun p l e s m args below meth c κ Z H locs ls hM hS hl => lv_if_eq Z.1 Z.2.1 hd ht (fun h => kt h p l e s m args below meth c κ Z H locs ls hM hS hl) (fun h => kf h p l e s m args below meth c κ Z H locs ls hM hS hl)
theorem zv_icmp_eq {x y : Int32} {off : Int} {tgt : Nat} (hd : decode μ.2.1 pc = .ok (.if_icmp .eq off, 3)) (ht : (pc : Int) + off = (tgt : Int)) (hn : pc + 3 = n) (kt : x = y → zV μ R σ Q M kc ks tgt lv (rest)) (kf : ¬ x = y → zV μ R σ Q M kc ks n lv (rest)) : zV μ R σ Q M kc ks pc lv (.int y :: .int x :: rest) := by
  subst hn
  exact fun p l e s m args below meth c κ Z H locs ls hM hS hl => lv_icmp_eq Z.1 Z.2.1 hd ht (fun h => kt h p l e s m args below meth c κ Z H locs ls hM hS hl) (fun h => kf h p l e s m args below meth c κ Z H locs ls hM hS hl)
theorem zv_if_lt {x : Int32} {off : Int} {tgt : Nat} (hd : decode μ.2.1 pc = .ok (.ifCond .lt off, 3)) (ht : (pc : Int) + off = (tgt : Int)) (hn : pc + 3 = n) (kt : x < 0 → zV μ R σ Q M kc ks tgt lv (rest)) (kf : ¬ x < 0 → zV μ R σ Q M kc ks n lv (rest)) : zV μ R σ Q M kc ks pc lv (.int x :: rest) := by
  subst hn
  exact fun p l e s m args below meth c κ Z H locs ls hM hS hl => lv_if_lt Z.1 Z.2.1 hd ht (fun h => kt h p l e s m args below meth c κ Z H locs ls hM hS hl) (fun h => kf h p l e s m args below meth c κ Z H locs ls hM hS hl)
theorem zv_icmp_lt {x y : Int32} {off : Int} {tgt : Nat} (hd : decode μ.2.1 pc = .ok (.if_icmp .lt off, 3)) (ht : (pc : Int) + off = (tgt : Int)) (hn : pc + 3 = n) (kt : x < y → zV μ R σ Q M kc ks tgt lv (rest)) (kf : ¬ x < y → zV μ R σ Q M kc ks n lv (rest)) : zV μ R σ Q M kc ks pc lv (.int y :: .int x :: rest) := by
  subst hn
  exact fun p l e s m args below meth c κ Z H locs ls hM hS hl => lv_icmp_lt Z.1 Z.2.1 hd ht (fun h => kt h p l e s m args below meth c κ Z H locs ls hM hS hl) (fun h => kf h p l e s m args below meth c κ Z H locs ls hM hS hl)
theorem zv_if_ge {x : Int32} {off : Int} {tgt : Nat} (hd : decode μ.2.1 pc = .ok (.ifCond .ge off, 3)) (ht : (pc : Int) + off = (tgt : Int)) (hn : pc + 3 = n) (kt : 0 ≤ x → zV μ R σ Q M kc ks tgt lv (rest)) (kf : ¬ 0 ≤ x → zV μ R σ Q M kc ks n lv (rest)) : zV μ R σ Q M kc ks pc lv (.int x :: rest) := by
  subst hn
  exact fun p l e s m args below meth c κ Z H locs ls hM hS hl => lv_if_ge Z.1 Z.2.1 hd ht (fun h => kt h p l e s m args below meth c κ Z H locs ls hM hS hl) (fun h => kf h p l e s m args below meth c κ Z H locs ls hM hS hl)
theorem zv_icmp_ge {x y : Int32} {off : Int} {tgt : Nat} (hd : decode μ.2.1 pc = .ok (.if_icmp .ge off, 3)) (ht : (pc : Int) + off = (tgt : Int)) (hn : pc + 3 = n) (kt : y ≤ x → zV μ R σ Q M kc ks tgt lv (rest)) (kf : ¬ y ≤ x → zV μ R σ Q M kc ks n lv (rest)) : zV μ R σ Q M kc ks pc lv (.int y :: .int x :: rest) := by
  subst hn
  exact fun p l e s m args below meth c κ Z H locs ls hM hS hl => lv_icmp_ge Z.1 Z.2.1 hd ht (fun h => kt h p l e s m args below meth c κ Z H locs ls hM hS hl) (fun h => kf h p l e s m args below meth c κ Z H locs ls hM hS hl)
theorem zv_if_gt {x : Int32} {off : Int} {tgt : Nat} (hd : decode μ.2.1 pc = .ok (.ifCond .gt off, 3)) (ht : (pc : Int) + off = (tgt : Int)) (hn : pc + 3 = n) (kt : 0 < x → zV μ R σ Q M kc ks tgt lv (rest)) (kf : ¬ 0 < x → zV μ R σ Q M kc ks n lv (rest)) : zV μ R σ Q M kc ks pc lv (.int x :: rest) := by
  subst hn
  exact fun p l e s m args below meth c κ Z H locs ls hM hS hl => lv_if_gt Z.1 Z.2.1 hd ht (fun h => kt h p l e s m args below meth c κ Z H locs ls hM hS hl) (fun h => kf h p l e s m args below meth c κ Z H locs ls hM hS hl)
theorem zv_icmp_gt {x y : Int32} {off : Int} {tgt : Nat} (hd : decode μ.2.1 pc = .ok (.if_icmp .gt off, 3)) (ht : (pc : Int) + off = (tgt : Int)) (hn : pc + 3 = n) (kt : y < x → zV μ R σ Q M kc ks tgt lv (rest)) (kf : ¬ y < x → zV μ R σ Q M kc ks n lv (rest)) : zV μ R σ Q M kc ks pc lv (.int y :: .int x :: rest) := by
  subst hn
  exact fun p l e s m args below meth c κ Z H locs ls hM hS hl => lv_icmp_gt Z.1 Z.2.1 hd ht (fun h => kt h p l e s m args below meth c κ Z H locs ls hM hS hl) (fun h => kf h p l e s m args below meth c κ Z H locs ls hM hS hl)
theorem zv_if_le {x : Int32} {off : Int} {tgt : Nat} (hd : decode μ.2.1 pc = .ok (.ifCond .le off, 3)) (ht : (pc : Int) + off = (tgt : Int)) (hn : pc + 3 = n) (kt : x ≤ 0 → zV μ R σ Q M kc ks tgt lv (rest)) (kf : ¬ x ≤ 0 → zV μ R σ Q M kc ks n lv (rest)) : zV μ R σ Q M kc ks pc lv (.int x :: rest) := by
  subst hn
  exact fun p l e s m args below meth c κ Z H locs ls hM hS hl => lv_if_le Z.1 Z.2.1 hd ht (fun h => kt h p l e s m args below meth c κ Z H locs ls hM hS hl) (fun h => kf h p l e s m args below meth c κ Z H locs ls hM hS hl)
theorem zv_icmp_le {x y : Int32} {off : Int} {tgt : Nat} (hd : decode μ.2.1 pc = .ok (.if_icmp .le off, 3)) (ht : (pc : Int) + off = (tgt : Int)) (hn : pc + 3 = n) (kt : x ≤ y → zV μ R σ Q M kc ks tgt lv (rest)) (kf : ¬ x ≤ y → zV μ R σ Q M kc ks n lv (rest)) : zV μ R σ Q M kc ks pc lv (.int y :: .int x :: rest) := by
  subst hn
  exact fun p l e s m args below meth c κ Z H locs ls hM hS hl => lv_icmp_le Z.1 Z.2.1 hd ht (fun h => kt h p l e s m args below meth c κ Z H locs ls hM hS hl) (fun h => kf h p l e s m args below meth c κ Z H locs ls hM hS hl)
theorem zv_if_ne {x : Int32} {off : Int} {tgt : Nat} (hd : decode μ.2.1 pc = .ok (.ifCond .ne off, 3)) (ht : (pc : Int) + off = (tgt : Int)) (hn : pc + 3 = n) (kt : ¬ x = 0 → zV μ R σ Q M kc ks tgt lv (rest)) (kf : x = 0 → zV μ R σ Q M kc ks n lv (rest)) : zV μ R σ Q M kc ks pc lv (.int x :: rest) := by
  subst hn
  exact fun p l e s m args below meth c κ Z H locs ls hM hS hl => lv_if_ne Z.1 Z.2.1 hd ht (fun h => kt h p l e s m args below meth c κ Z H locs ls hM hS hl) (fun h => kf h p l e s m args below meth c κ Z H locs ls hM hS hl)
theorem zv_icmp_ne {x y : Int32} {off : Int} {tgt : Nat} (hd : decode μ.2.1 pc = .ok (.if_icmp .ne off, 3)) (ht : (pc : Int) + off = (tgt : Int)) (hn : pc + 3 = n) (kt : ¬ x = y → zV μ R σ Q M kc ks tgt lv (rest)) (kf : x = y → zV μ R σ Q M kc ks n lv (rest)) : zV μ R σ Q M kc ks pc lv (.int y :: .int x :: rest) := by
  subst hn
  exact fun p l e s m args below meth c κ Z H locs ls hM hS hl => lv_icmp_ne Z.1 Z.2.1 hd ht (fun h => kt h p l e s m args below meth c κ Z H locs ls hM hS hl) (fun h => kf h p l e s m args below meth c κ Z H locs ls hM hS hl)
theorem zv_goto {off : Int} {tgt : Nat} (hd : decode μ.2.1 pc = .ok (.goto off, 3)) (ht : (pc : Int) + off = (tgt : Int)) (k : zV μ R σ Q M kc ks tgt lv (rest)) : zV μ R σ Q M kc ks pc lv (rest) := fun p l e s m args below meth c κ Z H locs ls hM hS hl => lv_goto Z.1 Z.2.1 hd ht (k p l e s m args below meth c κ Z H locs ls hM hS hl)
theorem zv_ifnull {x : Nat} {off : Int} (hd : decode μ.2.1 pc = .ok (.ifnull off, 3)) (hn : pc + 3 = n) (k : zV μ R σ Q M kc ks n lv (rest)) : zV μ R σ Q M kc ks pc lv (.ref x :: rest) := by
  subst hn
  exact fun p l e s m args below meth c κ Z H locs ls hM hS hl => lv_ifnull Z.1 Z.2.1 hd (k p l e s m args below meth c κ Z H locs ls hM hS hl)
theorem zv_ifnullN {off : Int} {tgt : Nat} (hd : decode μ.2.1 pc = .ok (.ifnull off, 3)) (ht : (pc : Int) + off = (tgt : Int)) (k : zV μ R σ Q M kc ks tgt lv (rest)) : zV μ R σ Q M kc ks pc lv (.null :: rest) := fun p l e s m args below meth c κ Z H locs ls hM hS hl => lv_ifnullN Z.1 Z.2.1 hd ht (k p l e s m args below meth c κ Z H locs ls hM hS hl)
theorem zv_ifnonnull {x : Nat} {off : Int} {tgt : Nat} (hd : decode μ.2.1 pc = .ok (.ifnonnull off, 3)) (ht : (pc : Int) + off = (tgt : Int)) (k : zV μ R σ Q M kc ks tgt lv (rest)) : zV μ R σ Q M kc ks pc lv (.ref x :: rest) := fun p l e s m args below meth c κ Z H locs ls hM hS hl => lv_ifnonnull Z.1 Z.2.1 hd ht (k p l e s m args below meth c κ Z H locs ls hM hS hl)
theorem zv_ifnonnullN {off : Int} (hd : decode μ.2.1 pc = .ok (.ifnonnull off, 3)) (hn : pc + 3 = n) (k : zV μ R σ Q M kc ks n lv (rest)) : zV μ R σ Q M kc ks pc lv (.null :: rest) := by
  subst hn
  exact fun p l e s m args below meth c κ Z H locs ls hM hS hl => lv_ifnonnullN Z.1 Z.2.1 hd (k p l e s m args below meth c κ Z H locs ls hM hS hl)
theorem zv_fconst0 (hd : decode μ.2.1 pc = .ok (.fconst 0, 1)) (hn : pc + 1 = n) (k : zV μ R σ Q M kc ks n lv (.float FP.fconst0 :: rest)) : zV μ R σ Q M kc ks pc lv (rest) := by
  subst hn
  exact fun p l e s m args below meth c κ Z H locs ls hM hS hl => lv_fconst0 Z.1 Z.2.1 hd (k p l e s m args below meth c κ Z H locs ls hM hS hl)
theorem zv_fconst1 (hd : decode μ.2.1 pc = .ok (.fconst 1, 1)) (hn : pc + 1 = n) (k : zV μ R σ Q M kc ks n lv (.float FP.fconst1 :: rest)) : zV μ R σ Q M kc ks pc lv (rest) := by
  subst hn
  exact fun p l e s m args below meth c κ Z H locs ls hM hS hl => lv_fconst1 Z.1 Z.2.1 hd (k p l e s m args below meth c κ Z H locs ls hM hS hl)
theorem zv_dconst0 (hd : decode μ.2.1 pc = .ok (.dconst 0, 1)) (hn : pc + 1 = n) (k : zV μ R σ Q M kc ks n lv (.double FP.dconst0 :: rest)) : zV μ R σ Q M kc ks pc lv (rest) := by
  subst hn
  exact fun p l e s m args below meth c κ Z H locs ls hM hS hl => lv_dconst0 Z.1 Z.2.1 hd (k p l e s m args below meth c κ Z H locs ls hM hS hl)
theorem zv_switchIn {dflt lo hi : Int} {offs : Array Int} {len : Nat} {x : Int32} {off : Int} {tgt : Nat} (hd : decode μ.2.1 pc = .ok (.tableswitch dflt lo hi offs, len)) (h1 : ¬ x.toInt < lo) (h2 : ¬ hi < x.toInt) (ho : offs[(x.toInt - lo).toNat]? = some off) (ht : (pc : Int) + off = (tgt : Int)) (k : zV μ R σ Q M kc ks tgt lv (rest)) : zV μ R σ Q M kc ks pc lv (.int x :: rest) := fun p l e s m args below meth c κ Z H locs ls hM hS hl => lv_tableIn Z.1 Z.2.1 hd h1 h2 ho ht (k p l e s m args below meth c κ Z H locs ls hM hS hl)
theorem zv_switchOut {dflt lo hi : Int} {offs : Array Int} {len : Nat} {x : Int32} {tgt : Nat} (hd : decode μ.2.1 pc = .ok (.tableswitch dflt lo hi offs, len)) (h : x.toInt < lo ∨ hi < x.toInt) (ht : (pc : Int) + dflt = (tgt : Int)) (k : zV μ R σ Q M kc ks tgt lv (rest)) : zV μ R σ Q M kc ks pc lv (.int x :: rest) := fun p l e s m args below meth c κ Z H locs ls hM hS hl => lv_tableOut Z.1 Z.2.1 hd h ht (k p l e s m args below meth c κ Z H locs ls hM hS hl)
/-- the words at hand -/
theorem zX.w {p : Program} {l : Launch} {s : State} {m : MethodId} {meth : Method} {c : Code} {κ : zKp} (Z : zX p l s m meth c μ σ κ) {w : Cond} (h : zin w) (a : Array Value) : w.before a s = true := Z.2.2.2.2.2.2.2.2.2.2.1.1 w h a
theorem zX.own {p : Program} {l : Launch} {s : State} {m : MethodId} {meth : Method} {c : Code} {κ : zKp} (Z : zX p l s m meth c μ σ κ) : s.vm.findClass μ.1.cls = some m.cls := Z.2.2.2.1
theorem zX.ret {p : Program} {l : Launch} {s : State} {m : MethodId} {meth : Method} {c : Code} {κ : zKp} (Z : zX p l s m meth c μ σ κ) : meth.sig.returnType = μ.2.2.2.1 := Z.2.2.2.2.1
theorem zX.nm {p : Program} {l : Launch} {s : State} {m : MethodId} {meth : Method} {c : Code} {κ : zKp} (Z : zX p l s m meth c μ σ κ) : meth.name = μ.1.name := Z.2.2.2.2.2.1
theorem zX.locks {p : Program} {l : Launch} {s : State} {m : MethodId} {meth : Method} {c : Code} {κ : zKp} (Z : zX p l s m meth c μ σ κ) : meth.locks = false := Z.2.2.2.2.2.2.1
theorem zX.tab {p : Program} {l : Launch} {s : State} {m : MethodId} {meth : Method} {c : Code} {κ : zKp} (Z : zX p l s m meth c μ σ κ) : c.exceptionTable.toList = tableOf μ.2.2.2.2 := Z.2.2.2.2.2.2.2.1
theorem zX.tr {p : Program} {l : Launch} {s : State} {m : MethodId} {meth : Method} {c : Code} {κ : zKp} (Z : zX p l s m meth c μ σ κ) : l.stackTraces = false := Z.2.2.2.2.2.2.2.2.1
theorem zX.K {p : Program} {l : Launch} {s : State} {m : MethodId} {meth : Method} {c : Code} {κ : zKp} (Z : zX p l s m meth c μ σ κ) : va_K κ.1 vwCl (zTys κ) s := Z.2.2.2.2.2.2.2.2.2.1
theorem zX.G {p : Program} {l : Launch} {s : State} {m : MethodId} {meth : Method} {c : Code} {κ : zKp} (Z : zX p l s m meth c μ σ κ) : zG σ s s.heap := Z.2.2.2.2.2.2.2.2.2.2.1
theorem zX.sz {p : Program} {l : Launch} {s : State} {m : MethodId} {meth : Method} {c : Code} {κ : zKp} (Z : zX p l s m meth c μ σ κ) : σ.1 0 ≤ s.heap.size := Z.2.2.2.2.2.2.2.2.2.2.2
theorem zX.A {p : Program} {l : Launch} {s : State} {m : MethodId} {meth : Method} {c : Code} {κ : zKp} (Z : zX p l s m meth c μ σ κ) : ∀ q, s.heap.size ≤ q → zA σ q := fun _ h => Nat.le_trans Z.sz h
theorem zX.GH {p : Program} {l : Launch} {s : State} {m : MethodId} {meth : Method} {c : Code} {κ : zKp} (Z : zX p l s m meth c μ σ κ) {H : Heap} {locs : List Loc} (hS : va_S (zA σ) s.heap H locs) : zG σ s H := zG.kept hS.2.1 hS.1 Z.G
theorem zv_ldcf {i : Nat} {v : UInt32} (hd : decode μ.2.1 pc = .ok (.ldc i, 2)) (hn : pc + 2 = n) (hw : zin (.constantFloat μ.1.cls i v)) (k : zV μ R σ Q M kc ks n lv (.float v :: rest)) : zV μ R σ Q M kc ks pc lv (rest) := by
  subst hn
  exact fun p l e s m args below meth c κ Z H locs ls hM hS hl => lv_ldcf Z.1 Z.2.1 Z.own (Z.w hw _) hd (k p l e s m args below meth c κ Z H locs ls hM hS hl)
theorem zv_ldci {i : Nat} {v : Int32} (hd : decode μ.2.1 pc = .ok (.ldc i, 2)) (hn : pc + 2 = n) (hw : zin (.constant μ.1.cls i v)) (k : zV μ R σ Q M kc ks n lv (.int v :: rest)) : zV μ R σ Q M kc ks pc lv (rest) := by
  subst hn
  exact fun p l e s m args below meth c κ Z H locs ls hM hS hl => lv_ldc Z.1 Z.2.1 Z.own (Z.w hw _) hd (k p l e s m args below meth c κ Z H locs ls hM hS hl)
theorem zv_ldciw {i : Nat} {v : Int32} (hd : decode μ.2.1 pc = .ok (.ldc_w i, 3)) (hn : pc + 3 = n) (hw : zin (.constant μ.1.cls i v)) (k : zV μ R σ Q M kc ks n lv (.int v :: rest)) : zV μ R σ Q M kc ks pc lv (rest) := by
  subst hn
  exact fun p l e s m args below meth c κ Z H locs ls hM hS hl => lv_ldcw Z.1 Z.2.1 Z.own (Z.w hw _) hd (k p l e s m args below meth c κ Z H locs ls hM hS hl)
theorem zv_ldc2 {i : Nat} {v : Int64} (hd : decode μ.2.1 pc = .ok (.ldc2_w i, 3)) (hn : pc + 3 = n) (hw : zin (.constantLong μ.1.cls i v)) (k : zV μ R σ Q M kc ks n lv (.long v :: rest)) : zV μ R σ Q M kc ks pc lv (rest) := by
  subst hn
  exact fun p l e s m args below meth c κ Z H locs ls hM hS hl => lv_ldc2 Z.1 Z.2.1 Z.own (Z.w hw _) hd (k p l e s m args below meth c κ Z H locs ls hM hS hl)
theorem zv_ldc2d {i : Nat} {v : UInt64} (hd : decode μ.2.1 pc = .ok (.ldc2_w i, 3)) (hn : pc + 3 = n) (hw : zin (.constantDouble μ.1.cls i v)) (k : zV μ R σ Q M kc ks n lv (.double v :: rest)) : zV μ R σ Q M kc ks pc lv (rest) := by
  subst hn
  exact fun p l e s m args below meth c κ Z H locs ls hM hS hl => lv_ldc2d Z.1 Z.2.1 Z.own (Z.w hw _) hd (k p l e s m args below meth c κ Z H locs ls hM hS hl)
theorem zv_ldcS {i j : Nat} {q : String × Nat × String} (hd : decode μ.2.1 pc = .ok (.ldc i, 2)) (hn : pc + 2 = n) (hj : zStr[j]? = some q) (h1 : q.1 = μ.1.cls) (h2 : q.2.1 = i) (k : zV μ R σ Q M kc ks n lv (.ref (zK σ j) :: rest)) : zV μ R σ Q M kc ks pc lv (rest) := by
  subst hn
  subst h2
  intro p l e s m args below meth c κ Z H locs ls hM hS hl
  have hz := Z.G.2.2.2.2.1 j q hj
  rw [h1] at hz
  exact va_ldcS Z.1 Z.2.1 Z.own hz hd (k p l e s m args below meth c κ Z H locs ls hM hS hl)
/-- the end -/
theorem zv_ret_ {v : Option Value} {H : Heap} {κ : zKp} {s t : State} {a : Array Value} {locs : List Loc} (hQ : Q (.inl v) M) (hM : zW σ κ M H) (hS : va_S (zA σ) s.heap H locs) (ht : t.heap = H) : zQc σ κ Q a s (.returned v) t := ⟨⟨v, M, rfl, hQ, by rw [ht]; exact hM⟩, hS.F ht⟩

theorem zv_iret {v : Int32} (hd : decode μ.2.1 pc = .ok (.ireturn, 1)) (hr : μ.2.2.2.1 = some .int) (h1 : kc ≤ R.2.1) (h2 : ks ≤ R.2.2) (hQ : Q (.inl (some (.int v))) M) : zV μ R σ Q M kc ks pc lv ([.int v]) := by
  intro p l e s m args below meth c κ Z H locs ls hM hS hl
  refine vx_ret (W.widen h1 h2 ?_)
  exact W.iret Z.1 Z.2.1 (Z.ret.trans hr) (fun t ht _ => zv_ret_ hQ hM hS ht) hS.2.2 hd Z.locks
theorem zv_lret {v : Int64} (hd : decode μ.2.1 pc = .ok (.lreturn, 1)) (hr : μ.2.2.2.1 = some .long) (h1 : kc ≤ R.2.1) (h2 : ks ≤ R.2.2) (hQ : Q (.inl (some (.long v))) M) : zV μ R σ Q M kc ks pc lv ([.long v]) := by
  intro p l e s m args below meth c κ Z H locs ls hM hS hl
  refine vx_ret (W.widen h1 h2 ?_)
  exact W.lret Z.1 Z.2.1 (Z.ret.trans hr) (fun t ht _ => zv_ret_ hQ hM hS ht) hS.2.2 hd Z.locks
theorem zv_fret {v : UInt32} (hd : decode μ.2.1 pc = .ok (.freturn, 1)) (hr : μ.2.2.2.1 = some .float) (h1 : kc ≤ R.2.1) (h2 : ks ≤ R.2.2) (hQ : Q (.inl (some (.float v))) M) : zV μ R σ Q M kc ks pc lv ([.float v]) := by
  intro p l e s m args below meth c κ Z H locs ls hM hS hl
  refine vx_ret (W.widen h1 h2 ?_)
  exact W.fret Z.1 Z.2.1 (Z.ret.trans hr) (fun t ht _ => zv_ret_ hQ hM hS ht) hS.2.2 hd Z.locks
theorem zv_dret {v : UInt64} (hd : decode μ.2.1 pc = .ok (.dreturn, 1)) (hr : μ.2.2.2.1 = some .double) (h1 : kc ≤ R.2.1) (h2 : ks ≤ R.2.2) (hQ : Q (.inl (some (.double v))) M) : zV μ R σ Q M kc ks pc lv ([.double v]) := by
  intro p l e s m args below meth c κ Z H locs ls hM hS hl
  refine vx_ret (W.widen h1 h2 ?_)
  exact W.dret Z.1 Z.2.1 (Z.ret.trans hr) (fun t ht _ => zv_ret_ hQ hM hS ht) hS.2.2 hd Z.locks
theorem zv_zret {v : Int32} {ty : FieldType} (hd : decode μ.2.1 pc = .ok (.ireturn, 1)) (hr : μ.2.2.2.1 = some ty) (hnw : narrow ty (.int v) = .int v) (h1 : kc ≤ R.2.1) (h2 : ks ≤ R.2.2) (hQ : Q (.inl (some (.int v))) M) : zV μ R σ Q M kc ks pc lv ([.int v]) := by
  intro p l e s m args below meth c κ Z H locs ls hM hS hl
  refine vx_ret (W.widen h1 h2 ?_)
  exact W.zret Z.1 Z.2.1 (Z.ret.trans hr) hnw (fun t ht _ => zv_ret_ hQ hM hS ht) hS.2.2 hd Z.locks
theorem zv_vret (hd : decode μ.2.1 pc = .ok (.return_, 1)) (hr : μ.2.2.2.1 = none) (h1 : kc ≤ R.2.1) (h2 : ks ≤ R.2.2) (hQ : Q (.inl none) M) : zV μ R σ Q M kc ks pc lv ([]) := by
  intro p l e s m args below meth c κ Z H locs ls hM hS hl
  refine vx_ret (W.widen h1 h2 ?_)
  exact W.vret Z.1 Z.2.1 (Z.ret.trans hr) (fun t ht _ => zv_ret_ hQ hM hS ht) hS.2.2 hd Z.locks
theorem zv_aret {a : Nat} {rt : FieldType} (hd : decode μ.2.1 pc = .ok (.areturn, 1)) (hr : μ.2.2.2.1 = some rt) (hrt : (∃ n, rt = .object n) ∨ ∃ t, rt = .array t) (h1 : kc ≤ R.2.1) (h2 : ks ≤ R.2.2) (hQ : Q (.inl (some (.ref a))) M) : zV μ R σ Q M kc ks pc lv ([.ref a]) := by
  intro p l e s m args below meth c κ Z H locs ls hM hS hl
  refine vx_ret (W.widen h1 h2 ?_)
  exact W.aret Z.1 Z.2.1 (Z.ret.trans hr) hrt (Or.inr ⟨a, rfl⟩) (fun t ht _ => zv_ret_ hQ hM hS ht) hS.2.2 hd Z.locks
theorem zv_aretN {rt : FieldType} (hd : decode μ.2.1 pc = .ok (.areturn, 1)) (hr : μ.2.2.2.1 = some rt) (hrt : (∃ n, rt = .object n) ∨ ∃ t, rt = .array t) (h1 : kc ≤ R.2.1) (h2 : ks ≤ R.2.2) (hQ : Q (.inl (some .null)) M) : zV μ R σ Q M kc ks pc lv ([.null]) := by
  intro p l e s m args below meth c κ Z H locs ls hM hS hl
  refine vx_ret (W.widen h1 h2 ?_)
  exact W.aret Z.1 Z.2.1 (Z.ret.trans hr) hrt (Or.inl rfl) (fun t ht _ => zv_ret_ hQ hM hS ht) hS.2.2 hd Z.locks
/-- a field of class ci, at this entry -/
def zFl (own : String) (idx ci k : Nat) : Prop := ∃ r, vwCl[ci]? = some r ∧ k < r.2.2 ∧ (∀ w ∈ u_ws r.1 r.2.1 r.2.2, zin w) ∧ zin (.fieldLink own idx (r.2.1 k).1 (r.2.1 k).2.1 (r.2.1 k).2.2.1)
def zFlN (own : String) (idx ci k : Nat) : Prop := ∃ r host, vwCl[ci]? = some r ∧ k < r.2.2 ∧ (∀ w ∈ u_ws r.1 r.2.1 r.2.2, zin w) ∧ zin (.fieldLinkNest own idx (r.2.1 k).1 (r.2.1 k).2.1 (r.2.1 k).2.2.1 host)
/-- what stores ask of class ci -/
def zCl (ci : Nat) : Prop := ∃ (r : vw_C) (ty0 : Nat → FieldType), vwCl[ci]? = some r ∧ (∀ k, k < r.2.2 → parseFieldDescriptor (r.2.1 k).2.2.1 = some (ty0 k)) ∧ (∀ a, a < r.2.2 → ∀ b, b < r.2.2 → a ≠ b → (r.2.1 a).2.1 ≠ (r.2.1 b).2.1)
def zTyp (ci k : Nat) (ty : FieldType) (fin : Bool) : Prop := ∃ r, vwCl[ci]? = some r ∧ (r.2.1 k).2.2.2 = fin ∧ parseFieldDescriptor (r.2.1 k).2.2.1 = some ty
theorem zv_get {idx a ci k : Nat} {fs : List Value} {v : Value} (hd : decode μ.2.1 pc = .ok (.getfield idx, 3)) (hn : pc + 3 = n) (ha : M a = some (.inr (ci, fs))) (F : zFl μ.1.cls idx ci k) (hv : fs[k]? = some v) (kk : zV μ R σ Q M kc ks n lv (v :: rest)) : zV μ R σ Q M kc ks pc lv (.ref a :: rest) := by
  subst hn
  intro p l e s m args below meth c κ Z H locs ls hM hS hl
  obtain ⟨⟨C, T, N⟩, f1, f2, f3, f4⟩ := F
  exact va_get (D := κ.1) (cl := vwCl) (ws := [(a, .inr (ci, fs))]) Z.1 Z.2.1 (Ts := zwords) (fun w hw => Z.w hw _) f3 Z.own Z.K (hM.get ha).1 0 rfl f1 k f2 (Z.w f4 _) (fun _ h => h) hv hd (kk p l e s m args below meth c κ Z H locs ls hM hS hl)
theorem zv_getN {idx a ci k : Nat} {fs : List Value} {v : Value} (hd : decode μ.2.1 pc = .ok (.getfield idx, 3)) (hn : pc + 3 = n) (ha : M a = some (.inr (ci, fs))) (F : zFlN μ.1.cls idx ci k) (hv : fs[k]? = some v) (kk : zV μ R σ Q M kc ks n lv (v :: rest)) : zV μ R σ Q M kc ks pc lv (.ref a :: rest) := by
  subst hn
  intro p l e s m args below meth c κ Z H locs ls hM hS hl
  obtain ⟨⟨C, T, N⟩, host, f1, f2, f3, f4⟩ := F
  exact va_getN (D := κ.1) (cl := vwCl) (ws := [(a, .inr (ci, fs))]) Z.1 Z.2.1 (Ts := zwords) (fun w hw => Z.w hw _) f3 Z.own Z.K (hM.get ha).1 0 rfl f1 k f2 (Z.w f4 _) (fun _ h => h) hv hd (kk p l e s m args below meth c κ Z H locs ls hM hS hl)
theorem zW_up {κ : zKp} {L : List Nat} {f : Nat → va_E} {a : Nat} {e : zE} {H1 : Heap} (hM : ∀ x e, M x = some e → x ∈ L ∧ f x = zT κ e) (ha : a ∈ L) (hP : va_P κ.1 vwCl (va_pl L (va_up f a (zT κ e))) H1) (hD : va_D (zA σ) (va_pl L (va_up f a (zT κ e)))) : zW σ κ (zup M a e) H1 := by
  refine ⟨L, va_up f a (zT κ e), hP, hD, fun x e' hx => ?_⟩
  by_cases h : x = a
  · subst h
    rw [zup_s] at hx
    cases hx
    exact ⟨ha, if_pos rfl⟩
  · rw [zup_n h] at hx
    exact ⟨(hM x e' hx).1, (if_neg h).trans (hM x e' hx).2⟩
/-- a thing of the picture among the pool's -/
theorem zW.pool {κ : zKp} {H : Heap} (h : zW σ κ M H) {a : Nat} {e : zE} (he : M a = some e) : ∃ (L : List Nat) (f : Nat → va_E) (j : Nat), va_P κ.1 vwCl (va_pl L f) H ∧ va_D (zA σ) (va_pl L f) ∧ (va_pl L f)[j]? = some (a, zT κ e) ∧ (∀ (e' : zE) (H1 : Heap), va_P κ.1 vwCl ((va_pl L f).set j (a, zT κ e')) H1 → va_D (zA σ) ((va_pl L f).set j (a, zT κ e')) → zW σ κ (zup M a e') H1) := by
  obtain ⟨L, f, hP, hD, hM⟩ := h
  obtain ⟨h1, h2⟩ := hM a e he
  obtain ⟨j, hj⟩ := va_pl_get (X := []) (f := f) h1
  refine ⟨L, f, j, hP, hD, by rw [← h2]; exact hj, fun e' H1 hP1 hD1 => ?_⟩
  have es := va_pl_set (X := []) (e := zT κ e') hD h1 hj
  simp only [List.nil_append] at es
  rw [es] at hP1 hD1
  exact zW_up hM h1 hP1 hD1
theorem zv_put {idx a ci k : Nat} {fs : List Value} {v : Value} {ty : FieldType} (hd : decode μ.2.1 pc = .ok (.putfield idx, 3)) (hn : pc + 3 = n) (ha : M a = some (.inr (ci, fs))) (F : zFl μ.1.cls idx ci k) (C : zCl ci) (Y : zTyp ci k ty false) (hnw : narrow ty v = v) (hft : fits ty v = true) (hl9 : k < fs.length) (kk : zV μ R σ Q (zup M a (.inr (ci, fs.set k v))) kc ks n lv (rest)) : zV μ R σ Q M kc ks pc lv (v :: .ref a :: rest) := by
  subst hn
  intro p l e s m args below meth c κ Z H locs ls hM hS hl
  obtain ⟨⟨C0, T, N⟩, f1, f2, f3, f4⟩ := F
  obtain ⟨r1, ty0, g1, g2, g3⟩ := C
  cases f1.symm.trans g1
  obtain ⟨r2, y1, y2, y3⟩ := Y
  cases f1.symm.trans y1
  obtain ⟨L, f, j, hP, hD, hj, hup⟩ := hM.pool ha
  exact va_put (D := κ.1) (cl := vwCl) (ws := va_pl L f) Z.1 Z.2.1 (Ts := zwords) (fun w hw => Z.w hw _) f3 ty0 g2 g3 Z.own Z.K hP hD hS j hj f1 k f2 (Z.w f4 _) (fun _ h => h) y2 y3 hnw hft hl9 hd (fun H1 locs1 hP1 hD1 hS1 => kk p l e s m args below meth c κ Z H1 locs1 ls (hup (.inr (ci, fs.set k v)) H1 hP1 hD1) hS1 hl)
theorem zv_putN {idx a ci k : Nat} {fs : List Value} {v : Value} {ty : FieldType} (hd : decode μ.2.1 pc = .ok (.putfield idx, 3)) (hn : pc + 3 = n) (ha : M a = some (.inr (ci, fs))) (F : zFlN μ.1.cls idx ci k) (C : zCl ci) (Y : zTyp ci k ty false) (hnw : narrow ty v = v) (hft : fits ty v = true) (hl9 : k < fs.length) (kk : zV μ R σ Q (zup M a (.inr (ci, fs.set k v))) kc ks n lv (rest)) : zV μ R σ Q M kc ks pc lv (v :: .ref a :: rest) := by
  subst hn
  intro p l e s m args below meth c κ Z H locs ls hM hS hl
  obtain ⟨⟨C0, T, N⟩, host, f1, f2, f3, f4⟩ := F
  obtain ⟨r1, ty0, g1, g2, g3⟩ := C
  cases f1.symm.trans g1
  obtain ⟨r2, y1, y2, y3⟩ := Y
  cases f1.symm.trans y1
  obtain ⟨L, f, j, hP, hD, hj, hup⟩ := hM.pool ha
  exact va_putN (D := κ.1) (cl := vwCl) (ws := va_pl L f) Z.1 Z.2.1 (Ts := zwords) (fun w hw => Z.w hw _) f3 ty0 g2 g3 Z.own Z.K hP hD hS j hj f1 k f2 (Z.w f4 _) (fun _ h => h) y2 y3 hnw hft hl9 hd (fun H1 locs1 hP1 hD1 hS1 => kk p l e s m args below meth c κ Z H1 locs1 ls (hup (.inr (ci, fs.set k v)) H1 hP1 hD1) hS1 hl)
/-- a final field, in the constructor of its own class -/
theorem zv_putF {idx a ci k : Nat} {fs : List Value} {v : Value} {ty : FieldType} (hd : decode μ.2.1 pc = .ok (.putfield idx, 3)) (hn : pc + 3 = n) (ha : M a = some (.inr (ci, fs))) (F : zFl μ.1.cls idx ci k) (C : zCl ci) (Y : zTyp ci k ty true) (hi9 : μ.1.name = "<init>") (ho9 : ∃ r, vwCl[ci]? = some r ∧ (r.2.1 k).1 = μ.1.cls) (hnw : narrow ty v = v) (hft : fits ty v = true) (hl9 : k < fs.length) (kk : zV μ R σ Q (zup M a (.inr (ci, fs.set k v))) kc ks n lv (rest)) : zV μ R σ Q M kc ks pc lv (v :: .ref a :: rest) := by
  subst hn
  intro p l e s m args below meth c κ Z H locs ls hM hS hl
  obtain ⟨⟨C0, T, N⟩, f1, f2, f3, f4⟩ := F
  obtain ⟨r1, ty0, g1, g2, g3⟩ := C
  cases f1.symm.trans g1
  obtain ⟨r2, y1, y2, y3⟩ := Y
  cases f1.symm.trans y1
  obtain ⟨r3, o1, o2⟩ := ho9
  cases f1.symm.trans o1
  obtain ⟨L, f, j, hP, hD, hj, hup⟩ := hM.pool ha
  exact va_putF (D := κ.1) (cl := vwCl) (ws := va_pl L f) Z.1 Z.2.1 (Ts := zwords) (fun w hw => Z.w hw _) f3 ty0 g2 g3 Z.own Z.K hP hD hS j hj f1 k f2 (Z.w f4 _) (fun _ h => h) y2 (Z.nm.trans hi9) o2 y3 hnw hft hl9 hd (fun H1 locs1 hP1 hD1 hS1 => kk p l e s m args below meth c κ Z H1 locs1 ls (hup (.inr (ci, fs.set k v)) H1 hP1 hD1) hS1 hl)
end ZR1


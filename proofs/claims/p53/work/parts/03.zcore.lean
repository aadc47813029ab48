/-! The plain layer over the kit: a memory picture M (address to thing), one judgement zV a method (the machine's own variables hidden), one contract zCon (returns or throws). -/
/-- a method: its name, bytes, locals, answer's type, handlers -/
abbrev zMeth : Type := MethodName × ByteArray × Nat × Option FieldType × List (Nat × Nat × Nat × Nat)
abbrev zRoom : Type := Nat × Nat × Nat
def zR (r : zRoom) : Room := { frames := 20 + r.1, cells := r.2.1, slots := r.2.2, locals := 400 + 100 * r.1 }
abbrev zE : Type := (Nat × vp_A) ⊕ (Nat × List Value)
abbrev zM : Type := Nat → Option zE
abbrev zO : Type := (Option Value) ⊕ String
abbrev zKp : Type := va_G × (Nat → ClassId)
/-- what stands fixed: addresses (0: the first new cell; 1: the script's cell; 2: its length; 3: COMMANDS; 4: the switch map; 5, 6: the digits' tables; 100 + i, 200 + i: String constant i and its bytes; 300 + i: command i), and the script -/
abbrev zSg : Type := (Nat → Nat) × (Nat → Int32)
def zA (σ : zSg) : Nat → Prop := fun q => σ.1 0 ≤ q
def zT (κ : zKp) : zE → va_E := fun e => match e with
  | .inl a => .inl (κ.2 a.1, a.2)
  | .inr o => .inr o
def zTys (κ : zKp) : List (ClassId × FieldType) := [(κ.2 0, .byte), (κ.2 1, .float), (κ.2 2, .int), (κ.2 3, .object RX1), (κ.2 4, .object RX4), (κ.2 5, .long)]
/-- the heap holds the picture -/
def zW (σ : zSg) (κ : zKp) (M : zM) (H : Heap) : Prop := ∃ (L : List Nat) (f : Nat → va_E), va_P κ.1 vwCl (va_pl L f) H ∧ va_D (zA σ) (va_pl L f) ∧ ∀ a e, M a = some e → a ∈ L ∧ f a = zT κ e
def zup (M : zM) (a : Nat) (e : zE) : zM := fun x => if x = a then some e else M x
theorem zup_s {M : zM} {a : Nat} {e : zE} : zup M a e a = some e := if_pos rfl
theorem zup_n {M : zM} {a x : Nat} {e : zE} (h : x ≠ a) : zup M a e x = M x := if_neg h
theorem zW.get {σ : zSg} {κ : zKp} {M : zM} {H : Heap} (h : zW σ κ M H) {a : Nat} {e : zE} (he : M a = some e) : va_P κ.1 vwCl [(a, zT κ e)] H ∧ va_D (zA σ) [(a, zT κ e)] := by
  obtain ⟨L, f, hP, hD, hM⟩ := h
  obtain ⟨h1, h2⟩ := hM a e he
  obtain ⟨k, hk⟩ := va_pl_get (X := []) (f := f) h1
  rw [List.nil_append] at hk
  refine ⟨fun j q hj => ?_, ⟨fun i j p q hi hj _ => ?_, fun j q hj => ?_⟩⟩
  · have hz : j < 1 := (List.getElem?_eq_some_iff.mp hj).1
    rw [show j = 0 by omega] at hj
    cases hj
    rw [← h2]
    exact hP k _ hk
  · have hz : i < 1 := (List.getElem?_eq_some_iff.mp hi).1
    have hz2 : j < 1 := (List.getElem?_eq_some_iff.mp hj).1
    omega
  · have hz : j < 1 := (List.getElem?_eq_some_iff.mp hj).1
    rw [show j = 0 by omega] at hj
    cases hj
    exact hD.2 k (a, f a) hk
theorem zW.base {σ : zSg} {κ : zKp} {M : zM} {H : Heap} (h : zW σ κ M H) {a : Nat} {e : zE} (he : M a = some e) : zA σ a := (h.get he).2.2 0 _ rfl
theorem zW.lt {σ : zSg} {κ : zKp} {M : zM} {H : Heap} (h : zW σ κ M H) {a : Nat} {e : zE} (he : M a = some e) : a < H.size := ((h.get he).1 0 _ rfl).lt
/-- a smaller picture -/
theorem zW.less {σ : zSg} {κ : zKp} {M M' : zM} {H : Heap} (h : zW σ κ M H) (hs : ∀ a e, M' a = some e → M a = some e) : zW σ κ M' H := by
  obtain ⟨L, f, hP, hD, hM⟩ := h
  exact ⟨L, f, hP, hD, fun a e he => hM a e (hs a e he)⟩
theorem zW.none {σ : zSg} {κ : zKp} {H : Heap} : zW σ κ (fun _ => none) H := ⟨[], fun _ => .inr (0, []), fun k q h => by simp [va_pl] at h, ⟨fun i j p q h => by simp [va_pl] at h, fun k q h => by simp [va_pl] at h⟩, fun a e h => by cases h⟩
/-- words that stay -/
def zkeep (w : Cond) : Bool := match w with
  | .methodLinkNest .. => true
  | .fieldLinkNest .. => true
  | .castable .. => true
  | .arrayOver (.object _) => true
  | .declares .. => true
  | .privateMethod .. => true
  | w => goodWord w
theorem zkeep_warm {w : Cond} (hk : zkeep w = true) {s U : State} (hW : s.WarmedH U.vm) {A A' : Array Value} (h : w.before A s = true) : w.before A' U = true := by
  cases w with
  | methodLinkNest c i x h0 => exact va_Nw.use rfl (va_Nw.warmM hW (va_Nw.of rfl h))
  | fieldLinkNest c i r n d h0 => exact va_Nw.use rfl (va_Nw.warmF hW (va_Nw.of rfl h))
  | declares x => exact va_Nw.use rfl (va_Nw.warmD hW (va_Nw.of rfl h))
  | castable c t =>
    have h1 : (Cond.castable c t).before A (s.setVm U.vm) = true := by rw [Cond.castable_setVm hW.alike]; exact h
    exact va_tabs rfl (rfl : (s.setVm U.vm).vm = U.vm) h1
  | privateMethod x =>
    have h1 : (Cond.privateMethod x).before A (s.setVm U.vm) = true := by rw [Cond.privateMethod_setVm hW.alike]; exact h
    exact va_tabs rfl (rfl : (s.setVm U.vm).vm = U.vm) h1
  | arrayOver ty =>
    cases ty with
    | object n => exact Cond.arrayOver_alike hW.alike h
    | _ => exact word_at hW (good_of_word hk) h
  | _ => exact word_at hW (good_of_word hk) h
def zwords : List Cond := lw_tbl.filter zkeep
abbrev zin (w : Cond) : Prop := w ∈ zwords
theorem z_at {w : Cond} (i : Nat) (h : lw_tbl[i]? = some w) (hk : zkeep w = true) : zin w := List.mem_filter.mpr ⟨List.mem_of_getElem? h, hk⟩
/-- the String constants: 0 .. 15 with their texts' bytes known -/
def zStr : List (String × Nat × String) := [("CoolingPlannerLaw", 268, "wait 3;drop "), ("CoolingPlannerLaw", 281, "limit 30;fan "), ("CoolingPlannerLaw", 283, " 4"), ("CoolingPlannerLaw", 317, "q"), ("CoolingPlannerLaw", 321, "wait;wait 2;drop 99"), ("CoolingPlannerLaw", 325, "limit 99"),
  ("CoolingPlanner$Command", 58, "rack # # *"), ("CoolingPlanner$Command", 64, "drop *"), ("CoolingPlanner$Command", 67, "shift * # #"), ("CoolingPlanner$Command", 70, "load * *"), ("CoolingPlanner$Command", 73, "send * * *"), ("CoolingPlanner$Command", 76, "fan # *"), ("CoolingPlanner$Command", 79, "curve # *"), ("CoolingPlanner$Command", 82, "limit *"), ("CoolingPlanner$Command", 85, "wait *"), ("CoolingPlanner$Command", 88, "wait"),
  ("CoolingPlanner", 314, "There is no such rack, aisle or point."), ("CoolingPlanner", 316, "An argument is not in its bounds."), ("CoolingPlanner", 318, "There are as many racks as there can be."), ("CoolingPlanner", 322, "The racks or the fan curve do not allow this."), ("CoolingPlanner", 335, "There is no such rack."), ("CoolingPlanner", 333, "There is no such aisle."), ("CoolingPlanner", 259, "The character cannot be typed."), ("CoolingPlanner", 266, "The script buffer is full."), ("CoolingPlanner", 281, "The script does not have the required form."), ("CoolingPlanner", 287, "A command of the script failed."), ("CoolingPlanner", 327, "There is nothing of that kind."), ("CoolingPlanner", 303, "There is no snapshot."), ("CoolingPlanner", 339, "There are no racks."), ("CoolingPlanner", 253, "There is no such character."), ("CoolingPlanner", 165, "There is no such speed."), ("CoolingPlanner", 156, "There is no such point."), ("CoolingPlanner", 128, "There is no such place.")]
def zTx (t : String) : List Nat := t.toList.map Char.toNat
def zTxt (i : Nat) : List Nat := (zStr[i]?.map (fun q => zTx q.2.2)).getD []
def zLens : List Nat := (List.range 16).map (fun i => (zTxt i).length)
def zByts : List (List Int32) := (List.range 16).map (fun i => (zTxt i).map nI)
/-- which throwables are not caught under which name -/
def zNc : List (String × String) := ["java/util/NoSuchElementException", "java/lang/IllegalStateException", "java/lang/IllegalArgumentException", "java/lang/IndexOutOfBoundsException", "java/lang/UnsupportedOperationException", "java/lang/ArithmeticException"].flatMap (fun a => (["java/util/NoSuchElementException", "java/lang/IllegalStateException", "java/lang/IllegalArgumentException", "java/lang/IndexOutOfBoundsException", "java/lang/UnsupportedOperationException", "java/lang/ArithmeticException"].filter (fun b => decide (b ≠ a))).map (fun b => (a, b)))
abbrev zK (σ : zSg) (i : Nat) : Nat := σ.1 (100 + i)
abbrev zVv (σ : zSg) (i : Nat) : Nat := σ.1 (200 + i)
abbrev zCm (σ : zSg) (i : Nat) : Nat := σ.1 (300 + i)
def zDig (f : Nat → Nat) : Nat → Value := fun j => .int (nI (f j))
/-- what holds of the tables and of all that nobody writes -/
def zG (σ : zSg) (U : State) (H : Heap) : Prop :=
  (∀ w ∈ zwords, ∀ A, w.before A U = true) ∧
  vx_Zq Bundle.tN "UNASSIGNED_STACK" Bundle.steD (zA σ) U H ∧ vx_Zq Bundle.tN "SUPPRESSED_SENTINEL" Bundle.listD (zA σ) U H ∧
  (∀ q ∈ zNc, va_Nc q.1 q.2 U) ∧
  (∀ i q, zStr[i]? = some q → vk_R q.1 q.2.1 q.2.2 (zK σ i) U) ∧
  vk_S 16 zLens zByts (zK σ) (zVv σ) (zA σ) U H ∧
  va_Z "java/lang/String" "COMPACT_STRINGS" "Z" (.int 1) (zA σ) U H ∧
  va_Z "CoolingPlanner" "COMMANDS" "[LCoolingPlanner$Command;" (.ref (σ.1 3)) (zA σ) U H ∧
  va_T (.object "CoolingPlanner$Command") (σ.1 3) 10 (fun j => .ref (zCm σ j)) (zA σ) U H ∧
  (∀ j, j < 10 → va_O "CoolingPlanner$Command" (zCm σ j) (zA σ) U H ∧ va_OF "java/lang/Enum" "ordinal" "I" (.int (nI j)) (zCm σ j) (zA σ) U H ∧ va_OF "CoolingPlanner$Command" "form" "Ljava/lang/String;" (.ref (zK σ (6 + j))) (zCm σ j) (zA σ) U H) ∧
  va_Z "CoolingPlanner$Command" "WAIT_A_MINUTE" "LCoolingPlanner$Command;" (.ref (zCm σ 9)) (zA σ) U H ∧
  va_Z "CoolingPlanner$1" "$SwitchMap$CoolingPlanner$Command" "[I" (.ref (σ.1 4)) (zA σ) U H ∧
  va_T .int (σ.1 4) 10 (fun j => .int (if j < 9 then nI (j + 1) else 0)) (zA σ) U H ∧
  va_Z "java/lang/Integer" "DigitOnes" "[B" (.ref (σ.1 5)) (zA σ) U H ∧
  va_T .byte (σ.1 5) 100 (fun j => .int (nI (48 + j % 10))) (zA σ) U H ∧
  va_Z "java/lang/Integer" "DigitTens" "[B" (.ref (σ.1 6)) (zA σ) U H ∧
  va_T .byte (σ.1 6) 100 (fun j => .int (nI (48 + j / 10))) (zA σ) U H ∧
  va_X (σ.1 1) (σ.1 2) σ.2 U H ∧ ¬ zA σ (σ.1 1) ∧ σ.1 1 < H.size ∧ σ.1 2 ≤ 260 ∧
  va_Zq "jdk/internal/util/Preconditions" "SIOOBE_FORMATTER" "Ljava/util/function/BiFunction;" (zA σ) U H
theorem zG.warm {σ : zSg} {u U : State} {H : Heap} (hW : u.WarmedH U.vm) (h : zG σ u H) : zG σ U H := by
  obtain ⟨h1, h2, h3, h4, h5, h6, h7, h8, h9, h10, h11, h12, h13, h14, h15, h16, h17, h18, h19, h20, h21, h22⟩ := h
  have hv := hW.alike
  exact ⟨fun w hw A => zkeep_warm (List.mem_filter.mp hw).2 hW (h1 w hw #[]), h2.moved hv, h3.moved hv, fun q hq => (h4 q hq).moved hv, fun i q hq => (h5 i q hq).warm hW, h6.moved hv, h7.moved hv, h8.moved hv, h9.moved hv, fun j hj => ⟨(h10 j hj).1.moved hv, (h10 j hj).2.1.moved hv, (h10 j hj).2.2.moved hv⟩, h11.moved hv, h12.moved hv, h13.moved hv, h14.moved hv, h15.moved hv, h16.moved hv, h17.moved hv, h18.moved hv, h19, h20, h21, h22.moved hv⟩
theorem zG.kept {σ : zSg} {U : State} {H H1 : Heap} (hq : ∀ a : Nat, a < H.size → ¬ zA σ a → H1[a]? = H[a]?) (hz : H.size ≤ H1.size) (h : zG σ U H) : zG σ U H1 := by
  obtain ⟨h1, h2, h3, h4, h5, h6, h7, h8, h9, h10, h11, h12, h13, h14, h15, h16, h17, h18, h19, h20, h21, h22⟩ := h
  exact ⟨h1, h2.kept hq, h3.kept hq, h4, h5, h6.kept hq, h7.kept hq, h8.kept hq, h9.kept hq, fun j hj => ⟨(h10 j hj).1.kept hq, (h10 j hj).2.1.kept hq, (h10 j hj).2.2.kept hq⟩, h11.kept hq, h12.kept hq, h13.kept hq, h14.kept hq, h15.kept hq, h16.kept hq, h17.kept hq, h18.kept (hq _ h20 h19), h19, Nat.lt_of_lt_of_le h20 hz, h21, h22.kept hq⟩
/-- a method's start -/
def zB (σ : zSg) (κ : zKp) (M : zM) (U : State) : Prop := σ.1 0 ≤ U.heap.size ∧ zW σ κ M U.heap ∧ va_K κ.1 vwCl (zTys κ) U ∧ zG σ U U.heap
theorem zB.blind {σ : zSg} {κ : zKp} {M : zM} {av : List Value} : FrameBlind (va_Pc av (zB σ κ M)) := by
  intro a U g mk h
  obtain ⟨h1, h2, h3, h4, h5⟩ := h
  exact ⟨h1, h2, h3, va_K.moved (u := U) (U := U.calling g mk a) (Vm.Alike.refl U.vm) h4, zG.warm (u := U) (U := U.calling g mk a) (State.WarmedH.refl U) h5⟩
/-- its end -/
def zQc (σ : zSg) (κ : zKp) (Q : zO → zM → Prop) : Array Value → State → Outcome → State → Prop := fun _ st o t => (∃ (v : Option Value) (M' : zM), o = .returned v ∧ Q (.inl v) M' ∧ zW σ κ M' t.heap) ∧ va_F (zA σ) st t
def zXC (σ : zSg) (κ : zKp) (Q : zO → zM → Prop) : String → State → State → Prop := fun E st t => (∃ M' : zM, Q (.inr E) M' ∧ zW σ κ M' t.heap) ∧ va_F (zA σ) st t
def zcode (μ : zMeth) : Cond := match μ.2.2.2.2 with
  | [] => .code μ.1 μ.2.1 μ.2.2.1 μ.2.2.2.1
  | hh => .codeWith μ.1 μ.2.1 μ.2.2.1 μ.2.2.2.1 hh
/-- the contract: from the picture M, called with av, y returns or throws, with Q of it and of the picture behind; R: level, cells, slots -/
def zCon (μ : zMeth) (R : zRoom) (σ : zSg) (av : List Value) (M : zM) (Q : zO → zM → Prop) : Prop :=
  ∀ l : Launch, l.stackTraces = false → ∀ κ : zKp, vx_Met l μ.1 [zcode μ] (zR R) (va_Pc av (zB σ κ M)) (zQc σ κ Q) (zXC σ κ Q) R.2.1 R.2.2 (zA σ)
/-- what a walk has at hand all the time -/
def zX (p : Program) (l : Launch) (s : State) (m : MethodId) (meth : Method) (c : Code) (μ : zMeth) (σ : zSg) (κ : zKp) : Prop :=
  p.tables.exec = Jvm.exec ∧ c.code = μ.2.1 ∧ c.maxLocals = μ.2.2.1 ∧ s.vm.findClass μ.1.cls = some m.cls ∧ meth.sig.returnType = μ.2.2.2.1 ∧ meth.name = μ.1.name ∧ meth.locks = false ∧ c.exceptionTable.toList = tableOf μ.2.2.2.2 ∧ l.stackTraces = false ∧ va_K κ.1 vwCl (zTys κ) s ∧ zG σ s s.heap ∧ σ.1 0 ≤ s.heap.size
/-- the walk of a body, the machine's own variables hidden -/
def zV (μ : zMeth) (R : zRoom) (σ : zSg) (Q : zO → zM → Prop) (M : zM) (kc ks pc : Nat) (lv : List (Nat × Value)) (st : List Value) : Prop :=
  ∀ (p : Program) (l : Launch) (e : Env) (s : State) (m : MethodId) (args : Array Value) (below : List Frame) (meth : Method) (c : Code) (κ : zKp), zX p l s m meth c μ σ κ →
  ∀ (H : Heap) (locs : List Loc) (ls : Array Slot), zW σ κ M H → va_S (zA σ) s.heap H locs → lv_has ls μ.2.2.1 lv →
    W p l e (zR R) s m args below meth c H locs kc ks (vx_MQ below (zQc σ κ Q) (zXC σ κ Q) args s R.2.1 R.2.2 (zA σ)) (F0 m pc ls st)
/-- a throwable of class E thrown at pc -/
def zVX (μ : zMeth) (R : zRoom) (σ : zSg) (Q : zO → zM → Prop) (M : zM) (kc ks pc : Nat) (lv : List (Nat × Value)) (E : String) : Prop :=
  ∀ (p : Program) (l : Launch) (e : Env) (s : State) (m : MethodId) (args : Array Value) (below : List Frame) (meth : Method) (c : Code) (κ : zKp), zX p l s m meth c μ σ κ →
  ∀ (H : Heap) (locs : List Loc) (ls : Array Slot) (q : Addr) (ce : Cell) (st : List Value), zW σ κ M H → va_S (zA σ) s.heap H locs → lv_has ls μ.2.2.1 lv → H[q]? = some ce → ce.vm = .none → s.vm.findClass E = some ce.cls →
    vx_W p l e (zR R) s m args below meth c H locs kc ks (vx_MQ below (zQc σ κ Q) (zXC σ κ Q) args s R.2.1 R.2.2 (zA σ)) (F0 m pc ls st) q

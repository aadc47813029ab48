/-! Calls of a superclass's methods: private ones, chosen ones, by super: laid by wip/p53/rules4.py. -/
section
variable {p : Program} {l : Launch} {e : Env} {R : Room} {s : State} {m : MethodId} {args : Array Value} {below : List Frame} {meth : Method} {c : Code} {T : State} {locs : List Loc} {cells slots : Nat}
theorem vy_callP (X : Stand p l e R s m args below meth c T locs cells slots) (hexec : p.tables.exec = Jvm.exec) {own : String} {index : Nat} {y : MethodName} {bytes : ByteArray} {maxL : Nat} {ret : Option FieldType}
    (hown : s.vm.findClass own = some m.cls) (hlink : (Cond.methodLink own index y).before args s = true) (hinst : (Cond.instanceMethod y).before args s = true) (hpriv : (Cond.privateMethod y).before args s = true) (hsm : (Cond.sameMethod y.cls y.cls y.name y.desc).before args s = true)
    (hcode : (Cond.code y bytes maxL ret).before args s = true) (hy : y.cls ≠ "java/lang/invoke/MethodHandle" ∧ y.cls ≠ "java/lang/invoke/VarHandle")
    {W9 : Nat} {Pre : Pt → Array Value → Prop} {Post : Pt → Array Value → Option Value → Pt → Prop} {PostX : Pt → Array Value → Addr → Pt → Prop} (hK : vx_Back l R p e below s args y 3 W9 Pre Post PostX)
    {b : Addr} {cellB : Cell} (hcell : T.heap[b]? = some cellB) (hobj : cellB.vm.isStatics = false)
    {g : JFrame} (hg : g.method = m) (hsize : g.locals.size = c.maxLocals) {argsL rest : List Value} (hlen : ∀ sig, parseMethodDescriptor y.desc = some sig → argsL.length = sig.parameters.length)
    (hstack : g.stack = argsL.reverse ++ .ref b :: rest) (hW : 2 * g.monitorRoom + (rest.map fun v => v.category).sum ≤ W9) (hdg : decode c.code g.pc = .ok (.invokevirtual index, 3))
    (hpre : ∀ vm₁, s.WarmedH vm₁ → Pre ⟨T.setVm vm₁, locs, cells, slots⟩ (Value.ref b :: argsL).toArray) :
    (∃ (v : Option Value) (vm₁ : Vm) (B : Pt), s.WarmedH vm₁ ∧ Stand p l e R s m args below meth c B.U B.locs B.cells B.slots ∧ Post ⟨T.setVm vm₁, locs, cells, slots⟩ (Value.ref b :: argsL).toArray v B ∧
      ∀ target, Steps p.tables e below (B.U.setTop { g with pc := g.pc + 3, stack := v.toList ++ rest }) target → Steps p.tables e below (T.setTop g) target) ∨
    (∃ (q : Addr) (vm₁ : Vm) (B : Pt), s.WarmedH vm₁ ∧ Stand p l e R s m args below meth c B.U B.locs B.cells B.slots ∧ PostX ⟨T.setVm vm₁, locs, cells, slots⟩ (Value.ref b :: argsL).toArray q B ∧
      Steps p.tables e below (T.setTop g) ((B.U.setTop { g with stack := rest }).pushFrame (.throwing q))) := by
  obtain ⟨mk, methM, hnamed, hmethM, hstM, habM⟩ := Cond.instanceMethod_spec hinst
  obtain ⟨methM', cM, hmethM', -, -, -, -, -, -, hsigM⟩ := Cond.code_spec hnamed hcode
  cases hmethM.symm.trans hmethM'
  obtain ⟨cn, ck, r1, hcn, hck, hni, -, hn1⟩ := Cond.sameMethod_found hsm
  have hnamed' : s.methodNamed? ⟨y.cls, y.name, y.desc⟩ = some mk := hnamed
  cases hnamed'.symm.trans hn1
  have ec : cn = mk.cls := Option.some.inj (hcn.symm.trans (findClass_of_methodNamed hnamed))
  subst ec
  have hselP : selectMethod e.platform s.vm cellB.cls mk = .method mk := selectMethod_private hmethM (Cond.privateMethod_at hpriv mk methM hnamed hmethM)
  obtain ⟨vm₁, X₁, hstep₁⟩ := X.invokevirtual hexec hown hlink hnamed hmethM hstM hck hni hy (a := b) (cell := cellB) hcell
    (fun z h => by rw [h] at hobj; cases hobj) hselP hmethM habM hck hni (g := g) hg (argsL := argsL) (rest := rest) (hlen _ hsigM) hstack hdg
  rcases hK m meth c ⟨T.setVm vm₁, locs, cells, slots⟩ { g with stack := rest } (.invokevirtual index) mk (Value.ref b :: argsL).toArray X₁ hg hsize hdg hW (X₁.named hnamed) (hpre vm₁ X₁.warmed) with ⟨v, B, X', hpost, hsteps⟩ | ⟨q, B, X', hpost, hsteps⟩
  · exact Or.inl ⟨v, vm₁, B, X₁.warmed, X', hpost, fun target h => hstep₁ _ fun acts => by rw [doInvoke_state]; exact hsteps.trans h⟩
  · exact Or.inr ⟨q, vm₁, B, X₁.warmed, X', hpost, hstep₁ _ fun acts => by rw [doInvoke_state]; exact hsteps⟩
variable {H : Heap}
theorem vy_runP {y : MethodName} {bytes cc : ByteArray} {maxL nL mc ms n index : Nat} {ret : Option FieldType} {ws : List Cond} {rm : Room} {Pc : Array Value → State → Prop} {Qc : Array Value → State → Outcome → State → Prop} {XC : String → State → State → Prop} {free : Addr → Prop} {Ts : List Cond} {own C : String} {b : Addr} {As rest : List Value} {g : JFrame}
    (S : CallFix p m c cc nL s args Ts own) (hM : vx_Met l y ws rm Pc Qc XC mc ms free) (cw : CallB R s args own index y bytes maxL ret ws rm mc ms n ∧ (Cond.instanceMethod y).before args s = true ∧ (Cond.privateMethod y).before args s = true ∧ (Cond.sameMethod y.cls y.cls y.name y.desc).before args s = true) (hp : PreV s H C b Pc As)
    (hg : g.method = m) (hn : As.length = n) (hsize : g.locals.size = nL) (hstack : g.stack = As.reverse ++ .ref b :: rest) (hW : 2 * g.monitorRoom + (rest.map fun v => v.category).sum ≤ 8) (hdg : decode cc g.pc = .ok (.invokevirtual index, 3)) (hf : cells + mc ≤ R.cells ∧ slots + ms ≤ R.slots) :
    vx_Run p l e R s m args below meth c H locs cells slots mc ms g rest (Qc (Value.ref b :: As).toArray) XC free := by
  have hK : vx_Back l R p e below s args y 3 8 (PreOf R mc ms Pc) (PostOf Qc mc ms free) (vx_Post XC mc ms free) := vx_callBack cw.1 hM hp.1
  obtain ⟨⟨-, -, -, -, -, -, hcode, -, hy, hlen, hl⟩, hin, hpr, hsm⟩ := cw
  obtain ⟨hx, hb, hml, ho, -⟩ := S
  obtain ⟨-, ⟨cellB, hcB, hoB, hclB⟩, hPc⟩ := hp
  intro T hT X
  rcases vy_callP X hx (bytes := bytes) (maxL := maxL) (ret := ret) ho hl hin hpr hsm hcode hy hK (by rw [hT]; exact hcB) hoB hg (hsize.trans hml.symm) (argsL := As) (rest := rest) (fun sig h => hn.trans (hlen sig h)) hstack hW (by rw [hb]; exact hdg)
    (fun vm₁ hW₁ => ⟨hf.1, hf.2, hPc (T.setVm vm₁) hT hW₁⟩) with ⟨v, vm₁, ⟨U', l2, c2, s2⟩, hW₁, X', ⟨g', mk, t, L, e1, e2, hq, h1, hL, h2, h3⟩, st⟩ | ⟨q, vm₁, ⟨U', l2, c2, s2⟩, hW₁, X', ⟨g', mk, t, L, E, ce, e1, e2, hq, hce, hcv, hcl, h1, hL, h2, h3⟩, st⟩
  · dsimp only [Pt.U, Pt.locs, Pt.cells, Pt.slots] at X' e1 e2 h1 h2 h3 st
    subst h1; subst h2; subst h3
    exact Or.inl ⟨v, (T.setVm vm₁).calling g' mk (Value.ref b :: As).toArray, t, U', L, hT, X', hL, e1, e2, hq, st⟩
  · dsimp only [Pt.U, Pt.locs, Pt.cells, Pt.slots] at X' e1 e2 h1 h2 h3 st hcl
    subst h1; subst h2; subst h3
    exact Or.inr ⟨q, (T.setVm vm₁).calling g' mk (Value.ref b :: As).toArray, t, U', L, E, ce, hT, X', hL, e1, e2, hq, hce, hcv, vx_cls hW₁ hcl, st⟩
end
section
variable {μ : zMeth} {R : zRoom} {σ : zSg} {Q : zO → zM → Prop} {M : zM} {kc ks pc n : Nat} {lv : List (Nat × Value)} {rest : List Value}
def zKQ (y : zMeth) (k : Nat) : Prop := zArity y.1 k ∧ zin (.instanceMethod y.1) ∧ zin (.privateMethod y.1) ∧ zin (.sameMethod y.1.cls y.1.cls y.1.name y.1.desc) ∧ zin (zcode y) ∧ zin (.initialized y.1.cls)
def zKC (C : String) (y : zMeth) (k : Nat) : Prop := zArity y.1 k ∧ zin (.instanceMethod y.1) ∧ zin (.selects C y.1 y.1) ∧ zin (zcode y) ∧ zin (.initialized y.1.cls)
def zKU (own : String) (y : zMeth) (k : Nat) : Prop := zArity y.1 k ∧ zin (.instanceMethod y.1) ∧ zin (.sameMethod y.1.cls y.1.cls y.1.name y.1.desc) ∧ zin (.superclass own y.1.cls) ∧ zin (zcode y) ∧ zin (.initialized y.1.cls) ∧ y.1.name ≠ "<init>"
theorem zclassAt {p : Program} {l : Launch} {s : State} {m : MethodId} {meth : Method} {c : Code} {κ : zKp} (Z : zX p l s m meth c μ σ κ) {ci : Nat} {C : String} (hc : (vwCl[ci]?).map (fun r => r.1) = some C) : ClassAt s C (κ.1.1 ci) := by
  cases hr : vwCl[ci]? with
  | none => rw [hr] at hc; cases hc
  | some r =>
    rw [hr] at hc
    cases hc
    exact (Z.K.1 ci r hr).2
theorem zv_callQ {y : zMeth} {Ry : zRoom} {Qy : zO → zM → Prop} {As rest st : List Value} {idx k kc' ks' : Nat} {b ci : Nat} {fs : List Value} {C : String} (hd : decode μ.2.1 pc = .ok (.invokevirtual idx, 3)) (hn : pc + 3 = n) (hC : zCon y Ry σ (.ref b :: As) M Qy) (hh : y.2.2.2.2 = []) (hK : zKQ y k) (hlk : zin (.methodLink μ.1.cls idx y.1)) (hb : M b = some (.inr (ci, fs))) (hc : (vwCl[ci]?).map (fun r => r.1) = some C) (hst : As.reverse ++ .ref b :: rest = st) (hlen : As.length = k) (hr : zRm y Ry R) (hW : (rest.map fun v => v.category).sum ≤ 8) (h1 : kc + Ry.2.1 = kc') (h2 : ks + Ry.2.2 = ks') (hk : kc' ≤ R.2.1) (hs : ks' ≤ R.2.2)
    (kr : ∀ (v : Option Value) (M' : zM), Qy (.inl v) M' → zV μ R σ Q M' kc' ks' n lv (v.toList ++ rest)) (kx : ∀ (E : String) (M' : zM), Qy (.inr E) M' → zVX μ R σ Q M' kc' ks' pc lv E) : zV μ R σ Q M kc ks pc lv (st) := by
  subst hn; subst hst
  intro p l e s m args below meth c κ Z H locs ls hM hS hl
  have hcode : zin (.code y.1 y.2.1 y.2.2.1 y.2.2.2.1) := by
    have h0 := hK.2.2.2.2.1
    unfold zcode at h0
    rw [hh] at h0
    exact h0
  have hC := hC l Z.tr κ
  have hws := zws Z.G hK.2.2.2.2.1
  have hmem : Cond.code y.1 y.2.1 y.2.2.1 y.2.2.2.1 ∈ [zcode y] := by
    unfold zcode
    rw [hh]
    exact List.mem_cons_self
  have hf : kc + Ry.2.1 ≤ (zR R).cells ∧ ks + Ry.2.2 ≤ (zR R).slots := ⟨by rw [h1]; exact hk, by rw [h2]; exact hs⟩
  have hmon : 2 * (F0 m pc ls (As.reverse ++ .ref b :: rest)).monitorRoom + (rest.map fun v => v.category).sum ≤ 8 := by
    show 2 * 0 + _ ≤ 8
    omega
  exact zcall Z hS hl (vy_runP (n := k) (C := C) (As := As) (rest := rest) (Ts := zwords) ⟨Z.1, Z.2.1, Z.2.2.1, Z.own, (fun w hw => Z.w hw args)⟩ hC ⟨⟨rfl, rfl, hr.fr, hr.lo, hws, hmem, Z.w hcode _, Z.w hK.2.2.2.2.2 _, ⟨hK.1.1, hK.1.2.1⟩, hK.1.len, Z.w hlk _⟩, Z.w hK.2.1 _, Z.w hK.2.2.1 _, Z.w hK.2.2.2.1 _⟩ ⟨zB.blind, zrecv Z hM hb hc, zpre Z hM hS _⟩ rfl hlen hl.1 rfl hmon hd hf) h1 h2 kr kx
theorem zv_callC {y : zMeth} {Ry : zRoom} {Qy : zO → zM → Prop} {As rest st : List Value} {idx k kc' ks' : Nat} {b ci : Nat} {fs : List Value} {C : String} (hd : decode μ.2.1 pc = .ok (.invokevirtual idx, 3)) (hn : pc + 3 = n) (hC : zCon y Ry σ (.ref b :: As) M Qy) (hh : y.2.2.2.2 = []) (hK : zKC C y k) (hlk : zin (.methodLink μ.1.cls idx y.1)) (hb : M b = some (.inr (ci, fs))) (hc : (vwCl[ci]?).map (fun r => r.1) = some C) (hst : As.reverse ++ .ref b :: rest = st) (hlen : As.length = k) (hr : zRm y Ry R) (hW : (rest.map fun v => v.category).sum ≤ 8) (h1 : kc + Ry.2.1 = kc') (h2 : ks + Ry.2.2 = ks') (hk : kc' ≤ R.2.1) (hs : ks' ≤ R.2.2)
    (kr : ∀ (v : Option Value) (M' : zM), Qy (.inl v) M' → zV μ R σ Q M' kc' ks' n lv (v.toList ++ rest)) (kx : ∀ (E : String) (M' : zM), Qy (.inr E) M' → zVX μ R σ Q M' kc' ks' pc lv E) : zV μ R σ Q M kc ks pc lv (st) := by
  subst hn; subst hst
  intro p l e s m args below meth c κ Z H locs ls hM hS hl
  have hcode : zin (.code y.1 y.2.1 y.2.2.1 y.2.2.2.1) := by
    have h0 := hK.2.2.2.1
    unfold zcode at h0
    rw [hh] at h0
    exact h0
  have hC := hC l Z.tr κ
  have hws := zws Z.G hK.2.2.2.1
  have hmem : Cond.code y.1 y.2.1 y.2.2.1 y.2.2.2.1 ∈ [zcode y] := by
    unfold zcode
    rw [hh]
    exact List.mem_cons_self
  have hf : kc + Ry.2.1 ≤ (zR R).cells ∧ ks + Ry.2.2 ≤ (zR R).slots := ⟨by rw [h1]; exact hk, by rw [h2]; exact hs⟩
  have hmon : 2 * (F0 m pc ls (As.reverse ++ .ref b :: rest)).monitorRoom + (rest.map fun v => v.category).sum ≤ 8 := by
    show 2 * 0 + _ ≤ 8
    omega
  exact zcall Z hS hl (vx_runV (n := k) (C := C) (As := As) (rest := rest) (Ts := zwords) ⟨Z.1, Z.2.1, Z.2.2.1, Z.own, (fun w hw => Z.w hw args)⟩ hC ⟨⟨rfl, rfl, hr.fr, hr.lo, hws, hmem, Z.w hcode _, Z.w hK.2.2.2.2 _, ⟨hK.1.1, hK.1.2.1⟩, hK.1.len, Z.w hlk _⟩, Z.w hK.2.1 _, Z.w hK.2.2.1 _⟩ ⟨zB.blind, zrecv Z hM hb hc, zpre Z hM hS _⟩ rfl hlen hl.1 rfl hmon hd hf) h1 h2 kr kx
theorem zv_callU {y : zMeth} {Ry : zRoom} {Qy : zO → zM → Prop} {As rest st : List Value} {idx k kc' ks' : Nat} {b ci : Nat} {fs : List Value} {C : String} (hd : decode μ.2.1 pc = .ok (.invokespecial idx, 3)) (hn : pc + 3 = n) (hC : zCon y Ry σ (.ref b :: As) M Qy) (hh : y.2.2.2.2 = []) (hK : zKU μ.1.cls y k) (hlk : zin (.methodLink μ.1.cls idx y.1)) (hb : M b = some (.inr (ci, fs))) (hc : (vwCl[ci]?).map (fun r => r.1) = some C) (hst : As.reverse ++ .ref b :: rest = st) (hlen : As.length = k) (hr : zRm y Ry R) (hW : (rest.map fun v => v.category).sum ≤ 8) (h1 : kc + Ry.2.1 = kc') (h2 : ks + Ry.2.2 = ks') (hk : kc' ≤ R.2.1) (hs : ks' ≤ R.2.2)
    (kr : ∀ (v : Option Value) (M' : zM), Qy (.inl v) M' → zV μ R σ Q M' kc' ks' n lv (v.toList ++ rest)) (kx : ∀ (E : String) (M' : zM), Qy (.inr E) M' → zVX μ R σ Q M' kc' ks' pc lv E) : zV μ R σ Q M kc ks pc lv (st) := by
  subst hn; subst hst
  intro p l e s m args below meth c κ Z H locs ls hM hS hl
  have hcode : zin (.code y.1 y.2.1 y.2.2.1 y.2.2.2.1) := by
    have h0 := hK.2.2.2.2.1
    unfold zcode at h0
    rw [hh] at h0
    exact h0
  have hC := hC l Z.tr κ
  have hws := zws Z.G hK.2.2.2.2.1
  have hmem : Cond.code y.1 y.2.1 y.2.2.1 y.2.2.2.1 ∈ [zcode y] := by
    unfold zcode
    rw [hh]
    exact List.mem_cons_self
  have hf : kc + Ry.2.1 ≤ (zR R).cells ∧ ks + Ry.2.2 ≤ (zR R).slots := ⟨by rw [h1]; exact hk, by rw [h2]; exact hs⟩
  have hmon : 2 * (F0 m pc ls (As.reverse ++ .ref b :: rest)).monitorRoom + (rest.map fun v => v.category).sum ≤ 8 := by
    show 2 * 0 + _ ≤ 8
    omega
  exact zcall Z hS hl (vx_runSU (zclassAt Z hc) (n := k) (As := As) (rest := rest) (Ts := zwords) ⟨Z.1, Z.2.1, Z.2.2.1, Z.own, (fun w hw => Z.w hw args)⟩ hC ⟨⟨rfl, rfl, hr.fr, hr.lo, hws, hmem⟩, Z.w hlk _, Z.w hK.2.2.1 _, Z.w hK.2.2.2.1 _, Z.w hK.2.1 _, Z.w hK.2.2.2.2.2.1 _, Z.w hcode _, hK.2.2.2.2.2.2, hK.1.len⟩ ⟨zB.blind, zrecv Z hM hb hc, zpre Z hM hS _⟩ rfl hlen hl.1 rfl hmon hd hf) h1 h2 kr kx

theorem zv_callQP {y : zMeth} {Ry : zRoom} {As rest st : List Value} {idx k kc' ks' : Nat} {b ci : Nat} {fs : List Value} {C : String} {v : Value} (hd : decode μ.2.1 pc = .ok (.invokevirtual idx, 3)) (hn : pc + 3 = n) (hC : zCon y Ry σ (.ref b :: As) M (zP (some v) M)) (hh : y.2.2.2.2 = []) (hK : zKQ y k) (hlk : zin (.methodLink μ.1.cls idx y.1)) (hb : M b = some (.inr (ci, fs))) (hc : (vwCl[ci]?).map (fun r => r.1) = some C) (hst : As.reverse ++ .ref b :: rest = st) (hlen : As.length = k) (hr : zRm y Ry R) (hW : (rest.map fun v => v.category).sum ≤ 8) (h1 : kc + Ry.2.1 = kc') (h2 : ks + Ry.2.2 = ks') (hk : kc' ≤ R.2.1) (hs : ks' ≤ R.2.2)
    (kk : zV μ R σ Q M kc' ks' n lv (v :: rest)) : zV μ R σ Q M kc ks pc lv (st) :=
  zv_callQ hd hn hC hh hK hlk hb hc hst hlen hr hW h1 h2 hk hs (fun v' M' h => by
    obtain ⟨e1, e2⟩ := h
    cases e1
    subst e2
    exact kk) (fun E M' h => nomatch h.1)
theorem zv_callQF {y : zMeth} {Ry : zRoom} {As rest st : List Value} {idx k kc' ks' : Nat} {b ci : Nat} {fs : List Value} {C : String} {v : Value} {P : zM → Prop} (hd : decode μ.2.1 pc = .ok (.invokevirtual idx, 3)) (hn : pc + 3 = n) (hC : zCon y Ry σ (.ref b :: As) M (zF (some v) P)) (hh : y.2.2.2.2 = []) (hK : zKQ y k) (hlk : zin (.methodLink μ.1.cls idx y.1)) (hb : M b = some (.inr (ci, fs))) (hc : (vwCl[ci]?).map (fun r => r.1) = some C) (hst : As.reverse ++ .ref b :: rest = st) (hlen : As.length = k) (hr : zRm y Ry R) (hW : (rest.map fun v => v.category).sum ≤ 8) (h1 : kc + Ry.2.1 = kc') (h2 : ks + Ry.2.2 = ks') (hk : kc' ≤ R.2.1) (hs : ks' ≤ R.2.2)
    (kk : ∀ M' : zM, P M' → zV μ R σ Q M' kc' ks' n lv (v :: rest)) : zV μ R σ Q M kc ks pc lv (st) :=
  zv_callQ hd hn hC hh hK hlk hb hc hst hlen hr hW h1 h2 hk hs (fun v' M' h => by
    obtain ⟨e1, e2⟩ := h
    cases e1
    exact kk M' e2) (fun E M' h => nomatch h.1)
theorem zv_callQF0 {y : zMeth} {Ry : zRoom} {As rest st : List Value} {idx k kc' ks' : Nat} {b ci : Nat} {fs : List Value} {C : String} {P : zM → Prop} (hd : decode μ.2.1 pc = .ok (.invokevirtual idx, 3)) (hn : pc + 3 = n) (hC : zCon y Ry σ (.ref b :: As) M (zF none P)) (hh : y.2.2.2.2 = []) (hK : zKQ y k) (hlk : zin (.methodLink μ.1.cls idx y.1)) (hb : M b = some (.inr (ci, fs))) (hc : (vwCl[ci]?).map (fun r => r.1) = some C) (hst : As.reverse ++ .ref b :: rest = st) (hlen : As.length = k) (hr : zRm y Ry R) (hW : (rest.map fun v => v.category).sum ≤ 8) (h1 : kc + Ry.2.1 = kc') (h2 : ks + Ry.2.2 = ks') (hk : kc' ≤ R.2.1) (hs : ks' ≤ R.2.2)
    (kk : ∀ M' : zM, P M' → zV μ R σ Q M' kc' ks' n lv (rest)) : zV μ R σ Q M kc ks pc lv (st) :=
  zv_callQ hd hn hC hh hK hlk hb hc hst hlen hr hW h1 h2 hk hs (fun v' M' h => by
    obtain ⟨e1, e2⟩ := h
    cases e1
    exact kk M' e2) (fun E M' h => nomatch h.1)

theorem zv_callCP {y : zMeth} {Ry : zRoom} {As rest st : List Value} {idx k kc' ks' : Nat} {b ci : Nat} {fs : List Value} {C : String} {v : Value} (hd : decode μ.2.1 pc = .ok (.invokevirtual idx, 3)) (hn : pc + 3 = n) (hC : zCon y Ry σ (.ref b :: As) M (zP (some v) M)) (hh : y.2.2.2.2 = []) (hK : zKC C y k) (hlk : zin (.methodLink μ.1.cls idx y.1)) (hb : M b = some (.inr (ci, fs))) (hc : (vwCl[ci]?).map (fun r => r.1) = some C) (hst : As.reverse ++ .ref b :: rest = st) (hlen : As.length = k) (hr : zRm y Ry R) (hW : (rest.map fun v => v.category).sum ≤ 8) (h1 : kc + Ry.2.1 = kc') (h2 : ks + Ry.2.2 = ks') (hk : kc' ≤ R.2.1) (hs : ks' ≤ R.2.2)
    (kk : zV μ R σ Q M kc' ks' n lv (v :: rest)) : zV μ R σ Q M kc ks pc lv (st) :=
  zv_callC hd hn hC hh hK hlk hb hc hst hlen hr hW h1 h2 hk hs (fun v' M' h => by
    obtain ⟨e1, e2⟩ := h
    cases e1
    subst e2
    exact kk) (fun E M' h => nomatch h.1)
theorem zv_callCF {y : zMeth} {Ry : zRoom} {As rest st : List Value} {idx k kc' ks' : Nat} {b ci : Nat} {fs : List Value} {C : String} {v : Value} {P : zM → Prop} (hd : decode μ.2.1 pc = .ok (.invokevirtual idx, 3)) (hn : pc + 3 = n) (hC : zCon y Ry σ (.ref b :: As) M (zF (some v) P)) (hh : y.2.2.2.2 = []) (hK : zKC C y k) (hlk : zin (.methodLink μ.1.cls idx y.1)) (hb : M b = some (.inr (ci, fs))) (hc : (vwCl[ci]?).map (fun r => r.1) = some C) (hst : As.reverse ++ .ref b :: rest = st) (hlen : As.length = k) (hr : zRm y Ry R) (hW : (rest.map fun v => v.category).sum ≤ 8) (h1 : kc + Ry.2.1 = kc') (h2 : ks + Ry.2.2 = ks') (hk : kc' ≤ R.2.1) (hs : ks' ≤ R.2.2)
    (kk : ∀ M' : zM, P M' → zV μ R σ Q M' kc' ks' n lv (v :: rest)) : zV μ R σ Q M kc ks pc lv (st) :=
  zv_callC hd hn hC hh hK hlk hb hc hst hlen hr hW h1 h2 hk hs (fun v' M' h => by
    obtain ⟨e1, e2⟩ := h
    cases e1
    exact kk M' e2) (fun E M' h => nomatch h.1)
theorem zv_callCF0 {y : zMeth} {Ry : zRoom} {As rest st : List Value} {idx k kc' ks' : Nat} {b ci : Nat} {fs : List Value} {C : String} {P : zM → Prop} (hd : decode μ.2.1 pc = .ok (.invokevirtual idx, 3)) (hn : pc + 3 = n) (hC : zCon y Ry σ (.ref b :: As) M (zF none P)) (hh : y.2.2.2.2 = []) (hK : zKC C y k) (hlk : zin (.methodLink μ.1.cls idx y.1)) (hb : M b = some (.inr (ci, fs))) (hc : (vwCl[ci]?).map (fun r => r.1) = some C) (hst : As.reverse ++ .ref b :: rest = st) (hlen : As.length = k) (hr : zRm y Ry R) (hW : (rest.map fun v => v.category).sum ≤ 8) (h1 : kc + Ry.2.1 = kc') (h2 : ks + Ry.2.2 = ks') (hk : kc' ≤ R.2.1) (hs : ks' ≤ R.2.2)
    (kk : ∀ M' : zM, P M' → zV μ R σ Q M' kc' ks' n lv (rest)) : zV μ R σ Q M kc ks pc lv (st) :=
  zv_callC hd hn hC hh hK hlk hb hc hst hlen hr hW h1 h2 hk hs (fun v' M' h => by
    obtain ⟨e1, e2⟩ := h
    cases e1
    exact kk M' e2) (fun E M' h => nomatch h.1)

theorem zv_callUP {y : zMeth} {Ry : zRoom} {As rest st : List Value} {idx k kc' ks' : Nat} {b ci : Nat} {fs : List Value} {C : String} {v : Value} (hd : decode μ.2.1 pc = .ok (.invokespecial idx, 3)) (hn : pc + 3 = n) (hC : zCon y Ry σ (.ref b :: As) M (zP (some v) M)) (hh : y.2.2.2.2 = []) (hK : zKU μ.1.cls y k) (hlk : zin (.methodLink μ.1.cls idx y.1)) (hb : M b = some (.inr (ci, fs))) (hc : (vwCl[ci]?).map (fun r => r.1) = some C) (hst : As.reverse ++ .ref b :: rest = st) (hlen : As.length = k) (hr : zRm y Ry R) (hW : (rest.map fun v => v.category).sum ≤ 8) (h1 : kc + Ry.2.1 = kc') (h2 : ks + Ry.2.2 = ks') (hk : kc' ≤ R.2.1) (hs : ks' ≤ R.2.2)
    (kk : zV μ R σ Q M kc' ks' n lv (v :: rest)) : zV μ R σ Q M kc ks pc lv (st) :=
  zv_callU hd hn hC hh hK hlk hb hc hst hlen hr hW h1 h2 hk hs (fun v' M' h => by
    obtain ⟨e1, e2⟩ := h
    cases e1
    subst e2
    exact kk) (fun E M' h => nomatch h.1)
theorem zv_callUF {y : zMeth} {Ry : zRoom} {As rest st : List Value} {idx k kc' ks' : Nat} {b ci : Nat} {fs : List Value} {C : String} {v : Value} {P : zM → Prop} (hd : decode μ.2.1 pc = .ok (.invokespecial idx, 3)) (hn : pc + 3 = n) (hC : zCon y Ry σ (.ref b :: As) M (zF (some v) P)) (hh : y.2.2.2.2 = []) (hK : zKU μ.1.cls y k) (hlk : zin (.methodLink μ.1.cls idx y.1)) (hb : M b = some (.inr (ci, fs))) (hc : (vwCl[ci]?).map (fun r => r.1) = some C) (hst : As.reverse ++ .ref b :: rest = st) (hlen : As.length = k) (hr : zRm y Ry R) (hW : (rest.map fun v => v.category).sum ≤ 8) (h1 : kc + Ry.2.1 = kc') (h2 : ks + Ry.2.2 = ks') (hk : kc' ≤ R.2.1) (hs : ks' ≤ R.2.2)
    (kk : ∀ M' : zM, P M' → zV μ R σ Q M' kc' ks' n lv (v :: rest)) : zV μ R σ Q M kc ks pc lv (st) :=
  zv_callU hd hn hC hh hK hlk hb hc hst hlen hr hW h1 h2 hk hs (fun v' M' h => by
    obtain ⟨e1, e2⟩ := h
    cases e1
    exact kk M' e2) (fun E M' h => nomatch h.1)
theorem zv_callUF0 {y : zMeth} {Ry : zRoom} {As rest st : List Value} {idx k kc' ks' : Nat} {b ci : Nat} {fs : List Value} {C : String} {P : zM → Prop} (hd : decode μ.2.1 pc = .ok (.invokespecial idx, 3)) (hn : pc + 3 = n) (hC : zCon y Ry σ (.ref b :: As) M (zF none P)) (hh : y.2.2.2.2 = []) (hK : zKU μ.1.cls y k) (hlk : zin (.methodLink μ.1.cls idx y.1)) (hb : M b = some (.inr (ci, fs))) (hc : (vwCl[ci]?).map (fun r => r.1) = some C) (hst : As.reverse ++ .ref b :: rest = st) (hlen : As.length = k) (hr : zRm y Ry R) (hW : (rest.map fun v => v.category).sum ≤ 8) (h1 : kc + Ry.2.1 = kc') (h2 : ks + Ry.2.2 = ks') (hk : kc' ≤ R.2.1) (hs : ks' ≤ R.2.2)
    (kk : ∀ M' : zM, P M' → zV μ R σ Q M' kc' ks' n lv (rest)) : zV μ R σ Q M kc ks pc lv (st) :=
  zv_callU hd hn hC hh hK hlk hb hc hst hlen hr hW h1 h2 hk hs (fun v' M' h => by
    obtain ⟨e1, e2⟩ := h
    cases e1
    exact kk M' e2) (fun E M' h => nomatch h.1)

end

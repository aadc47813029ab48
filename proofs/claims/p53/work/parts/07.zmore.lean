/-! Handier forms: an answer told beforehand, arrays read at a known place. -/
section ZR3
variable {μ : zMeth} {R : zRoom} {σ : zSg} {Q : zO → zM → Prop} {M : zM} {kc ks pc n : Nat} {lv : List (Nat × Value)} {rest : List Value}
/-- it answers v, and P of the picture behind -/
def zF (v : Option Value) (P : zM → Prop) : zO → zM → Prop := fun o M' => o = .inl v ∧ P M'
/-- it answers v and changes nothing -/
def zP (v : Option Value) (M : zM) : zO → zM → Prop := fun o M' => o = .inl v ∧ M' = M
/-- it throws E and changes nothing in the picture -/
def zT9 (E : String) (M : zM) : zO → zM → Prop := fun o M' => o = .inr E ∧ M' = M
theorem zFi {v : Option Value} {P : zM → Prop} (h : P M) : zF v P (.inl v) M := ⟨rfl, h⟩
theorem zPi {v : Option Value} : zP v M (.inl v) M := ⟨rfl, rfl⟩
theorem zv_iald' {a N : Nat} {f : Nat → Int32} {i : Int32} {v : Int32} (hd : decode μ.2.1 pc = .ok (.iaload, 1)) (hn : pc + 1 = n) (ha : M a = some (zAI N f)) (hi : vp_in i N) (hv : f i.toNatClampNeg = v) (kk : zV μ R σ Q M kc ks n lv (.int v :: rest)) : zV μ R σ Q M kc ks pc lv (.int i :: .ref a :: rest) := by
  subst hv
  exact zv_iald hd hn ha hi kk
theorem zv_bald' {a N : Nat} {f : Nat → Int32} {i : Int32} {v : Int32} (hd : decode μ.2.1 pc = .ok (.baload, 1)) (hn : pc + 1 = n) (ha : M a = some (zAB N f)) (hi : vp_in i N) (hv : f i.toNatClampNeg = v) (kk : zV μ R σ Q M kc ks n lv (.int v :: rest)) : zV μ R σ Q M kc ks pc lv (.int i :: .ref a :: rest) := by
  subst hv
  exact zv_bald hd hn ha hi kk
theorem zv_fald' {a N : Nat} {f : Nat → UInt32} {i : Int32} {v : UInt32} (hd : decode μ.2.1 pc = .ok (.faload, 1)) (hn : pc + 1 = n) (ha : M a = some (zAF N f)) (hi : vp_in i N) (hv : f i.toNatClampNeg = v) (kk : zV μ R σ Q M kc ks n lv (.float v :: rest)) : zV μ R σ Q M kc ks pc lv (.int i :: .ref a :: rest) := by
  subst hv
  exact zv_fald hd hn ha hi kk
theorem zv_lald' {a N : Nat} {f : Nat → Int64} {i : Int32} {v : Int64} (hd : decode μ.2.1 pc = .ok (.laload, 1)) (hn : pc + 1 = n) (ha : M a = some (zAL N f)) (hi : vp_in i N) (hv : f i.toNatClampNeg = v) (kk : zV μ R σ Q M kc ks n lv (.long v :: rest)) : zV μ R σ Q M kc ks pc lv (.int i :: .ref a :: rest) := by
  subst hv
  exact zv_lald hd hn ha hi kk
theorem zv_aldC' {a N q : Nat} {f : Nat → Option Nat} {i : Int32} (hd : decode μ.2.1 pc = .ok (.aaload, 1)) (hn : pc + 1 = n) (ha : M a = some (zAC N f)) (hi : vp_in i N) (hv : f i.toNatClampNeg = some q) (kk : zV μ R σ Q M kc ks n lv (.ref q :: rest)) : zV μ R σ Q M kc ks pc lv (.int i :: .ref a :: rest) := by
  refine zv_aldC hd hn ha hi ?_
  rw [hv]
  exact kk
theorem zv_aldR' {a N q : Nat} {f : Nat → Option Nat} {i : Int32} (hd : decode μ.2.1 pc = .ok (.aaload, 1)) (hn : pc + 1 = n) (ha : M a = some (zAR N f)) (hi : vp_in i N) (hv : f i.toNatClampNeg = some q) (kk : zV μ R σ Q M kc ks n lv (.ref q :: rest)) : zV μ R σ Q M kc ks pc lv (.int i :: .ref a :: rest) := by
  refine zv_aldR hd hn ha hi ?_
  rw [hv]
  exact kk
theorem zv_callVP {y : zMeth} {Ry : zRoom} {As rest st : List Value} {idx k kc' ks' : Nat} {b ci : Nat} {fs : List Value} {v : Value} (hd : decode μ.2.1 pc = .ok (.invokevirtual idx, 3)) (hn : pc + 3 = n) (hC : zCon y Ry σ (.ref b :: As) M (zP (some v) M)) (hh : y.2.2.2.2 = []) (hK : zKV y k) (hlk : zin (.methodLink μ.1.cls idx y.1)) (hb : M b = some (.inr (ci, fs))) (hc : (vwCl[ci]?).map (fun r => r.1) = some y.1.cls) (hst : As.reverse ++ .ref b :: rest = st) (hlen : As.length = k) (hr : zRm y Ry R) (hW : (rest.map fun v => v.category).sum ≤ 8) (h1 : kc + Ry.2.1 = kc') (h2 : ks + Ry.2.2 = ks') (hk : kc' ≤ R.2.1) (hs : ks' ≤ R.2.2)
    (kk : zV μ R σ Q M kc' ks' n lv (v :: rest)) : zV μ R σ Q M kc ks pc lv (st) :=
  zv_callV hd hn hC hh hK hlk hb hc hst hlen hr hW h1 h2 hk hs (fun v' M' h => by
    obtain ⟨e1, e2⟩ := h
    cases e1
    subst e2
    exact kk) (fun E M' h => nomatch h.1)
theorem zv_callVF {y : zMeth} {Ry : zRoom} {As rest st : List Value} {idx k kc' ks' : Nat} {b ci : Nat} {fs : List Value} {v : Value} {P : zM → Prop} (hd : decode μ.2.1 pc = .ok (.invokevirtual idx, 3)) (hn : pc + 3 = n) (hC : zCon y Ry σ (.ref b :: As) M (zF (some v) P)) (hh : y.2.2.2.2 = []) (hK : zKV y k) (hlk : zin (.methodLink μ.1.cls idx y.1)) (hb : M b = some (.inr (ci, fs))) (hc : (vwCl[ci]?).map (fun r => r.1) = some y.1.cls) (hst : As.reverse ++ .ref b :: rest = st) (hlen : As.length = k) (hr : zRm y Ry R) (hW : (rest.map fun v => v.category).sum ≤ 8) (h1 : kc + Ry.2.1 = kc') (h2 : ks + Ry.2.2 = ks') (hk : kc' ≤ R.2.1) (hs : ks' ≤ R.2.2)
    (kk : ∀ M' : zM, P M' → zV μ R σ Q M' kc' ks' n lv (v :: rest)) : zV μ R σ Q M kc ks pc lv (st) :=
  zv_callV hd hn hC hh hK hlk hb hc hst hlen hr hW h1 h2 hk hs (fun v' M' h => by
    obtain ⟨e1, e2⟩ := h
    cases e1
    exact kk M' e2) (fun E M' h => nomatch h.1)
theorem zv_callVP0 {y : zMeth} {Ry : zRoom} {As rest st : List Value} {idx k kc' ks' : Nat} {b ci : Nat} {fs : List Value} (hd : decode μ.2.1 pc = .ok (.invokevirtual idx, 3)) (hn : pc + 3 = n) (hC : zCon y Ry σ (.ref b :: As) M (zP none M)) (hh : y.2.2.2.2 = []) (hK : zKV y k) (hlk : zin (.methodLink μ.1.cls idx y.1)) (hb : M b = some (.inr (ci, fs))) (hc : (vwCl[ci]?).map (fun r => r.1) = some y.1.cls) (hst : As.reverse ++ .ref b :: rest = st) (hlen : As.length = k) (hr : zRm y Ry R) (hW : (rest.map fun v => v.category).sum ≤ 8) (h1 : kc + Ry.2.1 = kc') (h2 : ks + Ry.2.2 = ks') (hk : kc' ≤ R.2.1) (hs : ks' ≤ R.2.2)
    (kk : zV μ R σ Q M kc' ks' n lv (rest)) : zV μ R σ Q M kc ks pc lv (st) :=
  zv_callV hd hn hC hh hK hlk hb hc hst hlen hr hW h1 h2 hk hs (fun v' M' h => by
    obtain ⟨e1, e2⟩ := h
    cases e1
    subst e2
    exact kk) (fun E M' h => nomatch h.1)
theorem zv_callVF0 {y : zMeth} {Ry : zRoom} {As rest st : List Value} {idx k kc' ks' : Nat} {b ci : Nat} {fs : List Value} {P : zM → Prop} (hd : decode μ.2.1 pc = .ok (.invokevirtual idx, 3)) (hn : pc + 3 = n) (hC : zCon y Ry σ (.ref b :: As) M (zF none P)) (hh : y.2.2.2.2 = []) (hK : zKV y k) (hlk : zin (.methodLink μ.1.cls idx y.1)) (hb : M b = some (.inr (ci, fs))) (hc : (vwCl[ci]?).map (fun r => r.1) = some y.1.cls) (hst : As.reverse ++ .ref b :: rest = st) (hlen : As.length = k) (hr : zRm y Ry R) (hW : (rest.map fun v => v.category).sum ≤ 8) (h1 : kc + Ry.2.1 = kc') (h2 : ks + Ry.2.2 = ks') (hk : kc' ≤ R.2.1) (hs : ks' ≤ R.2.2)
    (kk : ∀ M' : zM, P M' → zV μ R σ Q M' kc' ks' n lv (rest)) : zV μ R σ Q M kc ks pc lv (st) :=
  zv_callV hd hn hC hh hK hlk hb hc hst hlen hr hW h1 h2 hk hs (fun v' M' h => by
    obtain ⟨e1, e2⟩ := h
    cases e1
    exact kk M' e2) (fun E M' h => nomatch h.1)
/-- it throws E -/
theorem zv_callVT {y : zMeth} {Ry : zRoom} {As rest st : List Value} {idx k kc' ks' : Nat} {b ci : Nat} {fs : List Value} {E : String} (hd : decode μ.2.1 pc = .ok (.invokevirtual idx, 3)) (hn : pc + 3 = n) (hC : zCon y Ry σ (.ref b :: As) M (zT9 E M)) (hh : y.2.2.2.2 = []) (hK : zKV y k) (hlk : zin (.methodLink μ.1.cls idx y.1)) (hb : M b = some (.inr (ci, fs))) (hc : (vwCl[ci]?).map (fun r => r.1) = some y.1.cls) (hst : As.reverse ++ .ref b :: rest = st) (hlen : As.length = k) (hr : zRm y Ry R) (hW : (rest.map fun v => v.category).sum ≤ 8) (h1 : kc + Ry.2.1 = kc') (h2 : ks + Ry.2.2 = ks') (hk : kc' ≤ R.2.1) (hs : ks' ≤ R.2.2)
    (kk : zVX μ R σ Q M kc' ks' pc lv E) : zV μ R σ Q M kc ks pc lv (st) :=
  zv_callV hd hn hC hh hK hlk hb hc hst hlen hr hW h1 h2 hk hs (fun v' M' h => nomatch h.1) (fun E' M' h => by
    obtain ⟨e1, e2⟩ := h
    cases e1
    subst e2
    exact kk)
theorem zv_callVNP {y : zMeth} {Ry : zRoom} {As rest st : List Value} {idx k kc' ks' : Nat} {b ci : Nat} {fs : List Value} {host : String} {v : Value} (hd : decode μ.2.1 pc = .ok (.invokevirtual idx, 3)) (hn : pc + 3 = n) (hC : zCon y Ry σ (.ref b :: As) M (zP (some v) M)) (hh : y.2.2.2.2 = []) (hK : zKV y k) (hlk : zin (.methodLinkNest μ.1.cls idx y.1 host)) (hb : M b = some (.inr (ci, fs))) (hc : (vwCl[ci]?).map (fun r => r.1) = some y.1.cls) (hst : As.reverse ++ .ref b :: rest = st) (hlen : As.length = k) (hr : zRm y Ry R) (hW : (rest.map fun v => v.category).sum ≤ 8) (h1 : kc + Ry.2.1 = kc') (h2 : ks + Ry.2.2 = ks') (hk : kc' ≤ R.2.1) (hs : ks' ≤ R.2.2)
    (kk : zV μ R σ Q M kc' ks' n lv (v :: rest)) : zV μ R σ Q M kc ks pc lv (st) :=
  zv_callVN hd hn hC hh hK hlk hb hc hst hlen hr hW h1 h2 hk hs (fun v' M' h => by
    obtain ⟨e1, e2⟩ := h
    cases e1
    subst e2
    exact kk) (fun E M' h => nomatch h.1)
theorem zv_callVNF {y : zMeth} {Ry : zRoom} {As rest st : List Value} {idx k kc' ks' : Nat} {b ci : Nat} {fs : List Value} {host : String} {v : Value} {P : zM → Prop} (hd : decode μ.2.1 pc = .ok (.invokevirtual idx, 3)) (hn : pc + 3 = n) (hC : zCon y Ry σ (.ref b :: As) M (zF (some v) P)) (hh : y.2.2.2.2 = []) (hK : zKV y k) (hlk : zin (.methodLinkNest μ.1.cls idx y.1 host)) (hb : M b = some (.inr (ci, fs))) (hc : (vwCl[ci]?).map (fun r => r.1) = some y.1.cls) (hst : As.reverse ++ .ref b :: rest = st) (hlen : As.length = k) (hr : zRm y Ry R) (hW : (rest.map fun v => v.category).sum ≤ 8) (h1 : kc + Ry.2.1 = kc') (h2 : ks + Ry.2.2 = ks') (hk : kc' ≤ R.2.1) (hs : ks' ≤ R.2.2)
    (kk : ∀ M' : zM, P M' → zV μ R σ Q M' kc' ks' n lv (v :: rest)) : zV μ R σ Q M kc ks pc lv (st) :=
  zv_callVN hd hn hC hh hK hlk hb hc hst hlen hr hW h1 h2 hk hs (fun v' M' h => by
    obtain ⟨e1, e2⟩ := h
    cases e1
    exact kk M' e2) (fun E M' h => nomatch h.1)
theorem zv_callVNP0 {y : zMeth} {Ry : zRoom} {As rest st : List Value} {idx k kc' ks' : Nat} {b ci : Nat} {fs : List Value} {host : String} (hd : decode μ.2.1 pc = .ok (.invokevirtual idx, 3)) (hn : pc + 3 = n) (hC : zCon y Ry σ (.ref b :: As) M (zP none M)) (hh : y.2.2.2.2 = []) (hK : zKV y k) (hlk : zin (.methodLinkNest μ.1.cls idx y.1 host)) (hb : M b = some (.inr (ci, fs))) (hc : (vwCl[ci]?).map (fun r => r.1) = some y.1.cls) (hst : As.reverse ++ .ref b :: rest = st) (hlen : As.length = k) (hr : zRm y Ry R) (hW : (rest.map fun v => v.category).sum ≤ 8) (h1 : kc + Ry.2.1 = kc') (h2 : ks + Ry.2.2 = ks') (hk : kc' ≤ R.2.1) (hs : ks' ≤ R.2.2)
    (kk : zV μ R σ Q M kc' ks' n lv (rest)) : zV μ R σ Q M kc ks pc lv (st) :=
  zv_callVN hd hn hC hh hK hlk hb hc hst hlen hr hW h1 h2 hk hs (fun v' M' h => by
    obtain ⟨e1, e2⟩ := h
    cases e1
    subst e2
    exact kk) (fun E M' h => nomatch h.1)
theorem zv_callVNF0 {y : zMeth} {Ry : zRoom} {As rest st : List Value} {idx k kc' ks' : Nat} {b ci : Nat} {fs : List Value} {host : String} {P : zM → Prop} (hd : decode μ.2.1 pc = .ok (.invokevirtual idx, 3)) (hn : pc + 3 = n) (hC : zCon y Ry σ (.ref b :: As) M (zF none P)) (hh : y.2.2.2.2 = []) (hK : zKV y k) (hlk : zin (.methodLinkNest μ.1.cls idx y.1 host)) (hb : M b = some (.inr (ci, fs))) (hc : (vwCl[ci]?).map (fun r => r.1) = some y.1.cls) (hst : As.reverse ++ .ref b :: rest = st) (hlen : As.length = k) (hr : zRm y Ry R) (hW : (rest.map fun v => v.category).sum ≤ 8) (h1 : kc + Ry.2.1 = kc') (h2 : ks + Ry.2.2 = ks') (hk : kc' ≤ R.2.1) (hs : ks' ≤ R.2.2)
    (kk : ∀ M' : zM, P M' → zV μ R σ Q M' kc' ks' n lv (rest)) : zV μ R σ Q M kc ks pc lv (st) :=
  zv_callVN hd hn hC hh hK hlk hb hc hst hlen hr hW h1 h2 hk hs (fun v' M' h => by
    obtain ⟨e1, e2⟩ := h
    cases e1
    exact kk M' e2) (fun E M' h => nomatch h.1)
/-- it throws E -/
theorem zv_callVNT {y : zMeth} {Ry : zRoom} {As rest st : List Value} {idx k kc' ks' : Nat} {b ci : Nat} {fs : List Value} {host : String} {E : String} (hd : decode μ.2.1 pc = .ok (.invokevirtual idx, 3)) (hn : pc + 3 = n) (hC : zCon y Ry σ (.ref b :: As) M (zT9 E M)) (hh : y.2.2.2.2 = []) (hK : zKV y k) (hlk : zin (.methodLinkNest μ.1.cls idx y.1 host)) (hb : M b = some (.inr (ci, fs))) (hc : (vwCl[ci]?).map (fun r => r.1) = some y.1.cls) (hst : As.reverse ++ .ref b :: rest = st) (hlen : As.length = k) (hr : zRm y Ry R) (hW : (rest.map fun v => v.category).sum ≤ 8) (h1 : kc + Ry.2.1 = kc') (h2 : ks + Ry.2.2 = ks') (hk : kc' ≤ R.2.1) (hs : ks' ≤ R.2.2)
    (kk : zVX μ R σ Q M kc' ks' pc lv E) : zV μ R σ Q M kc ks pc lv (st) :=
  zv_callVN hd hn hC hh hK hlk hb hc hst hlen hr hW h1 h2 hk hs (fun v' M' h => nomatch h.1) (fun E' M' h => by
    obtain ⟨e1, e2⟩ := h
    cases e1
    subst e2
    exact kk)
theorem zv_callSP {y : zMeth} {Ry : zRoom} {As rest st : List Value} {idx k kc' ks' : Nat} {v : Value} (hd : decode μ.2.1 pc = .ok (.invokestatic idx, 3)) (hn : pc + 3 = n) (hC : zCon y Ry σ As M (zP (some v) M)) (hh : y.2.2.2.2 = []) (hK : zKS y k) (hlk : zin (.methodLink μ.1.cls idx y.1)) (hst : As.reverse ++ rest = st) (hlen : As.length = k) (hr : zRm y Ry R) (hW : (rest.map fun v => v.category).sum ≤ 8) (h1 : kc + Ry.2.1 = kc') (h2 : ks + Ry.2.2 = ks') (hk : kc' ≤ R.2.1) (hs : ks' ≤ R.2.2)
    (kk : zV μ R σ Q M kc' ks' n lv (v :: rest)) : zV μ R σ Q M kc ks pc lv (st) :=
  zv_callS hd hn hC hh hK hlk hst hlen hr hW h1 h2 hk hs (fun v' M' h => by
    obtain ⟨e1, e2⟩ := h
    cases e1
    subst e2
    exact kk) (fun E M' h => nomatch h.1)
theorem zv_callSF {y : zMeth} {Ry : zRoom} {As rest st : List Value} {idx k kc' ks' : Nat} {v : Value} {P : zM → Prop} (hd : decode μ.2.1 pc = .ok (.invokestatic idx, 3)) (hn : pc + 3 = n) (hC : zCon y Ry σ As M (zF (some v) P)) (hh : y.2.2.2.2 = []) (hK : zKS y k) (hlk : zin (.methodLink μ.1.cls idx y.1)) (hst : As.reverse ++ rest = st) (hlen : As.length = k) (hr : zRm y Ry R) (hW : (rest.map fun v => v.category).sum ≤ 8) (h1 : kc + Ry.2.1 = kc') (h2 : ks + Ry.2.2 = ks') (hk : kc' ≤ R.2.1) (hs : ks' ≤ R.2.2)
    (kk : ∀ M' : zM, P M' → zV μ R σ Q M' kc' ks' n lv (v :: rest)) : zV μ R σ Q M kc ks pc lv (st) :=
  zv_callS hd hn hC hh hK hlk hst hlen hr hW h1 h2 hk hs (fun v' M' h => by
    obtain ⟨e1, e2⟩ := h
    cases e1
    exact kk M' e2) (fun E M' h => nomatch h.1)
theorem zv_callSP0 {y : zMeth} {Ry : zRoom} {As rest st : List Value} {idx k kc' ks' : Nat} (hd : decode μ.2.1 pc = .ok (.invokestatic idx, 3)) (hn : pc + 3 = n) (hC : zCon y Ry σ As M (zP none M)) (hh : y.2.2.2.2 = []) (hK : zKS y k) (hlk : zin (.methodLink μ.1.cls idx y.1)) (hst : As.reverse ++ rest = st) (hlen : As.length = k) (hr : zRm y Ry R) (hW : (rest.map fun v => v.category).sum ≤ 8) (h1 : kc + Ry.2.1 = kc') (h2 : ks + Ry.2.2 = ks') (hk : kc' ≤ R.2.1) (hs : ks' ≤ R.2.2)
    (kk : zV μ R σ Q M kc' ks' n lv (rest)) : zV μ R σ Q M kc ks pc lv (st) :=
  zv_callS hd hn hC hh hK hlk hst hlen hr hW h1 h2 hk hs (fun v' M' h => by
    obtain ⟨e1, e2⟩ := h
    cases e1
    subst e2
    exact kk) (fun E M' h => nomatch h.1)
theorem zv_callSF0 {y : zMeth} {Ry : zRoom} {As rest st : List Value} {idx k kc' ks' : Nat} {P : zM → Prop} (hd : decode μ.2.1 pc = .ok (.invokestatic idx, 3)) (hn : pc + 3 = n) (hC : zCon y Ry σ As M (zF none P)) (hh : y.2.2.2.2 = []) (hK : zKS y k) (hlk : zin (.methodLink μ.1.cls idx y.1)) (hst : As.reverse ++ rest = st) (hlen : As.length = k) (hr : zRm y Ry R) (hW : (rest.map fun v => v.category).sum ≤ 8) (h1 : kc + Ry.2.1 = kc') (h2 : ks + Ry.2.2 = ks') (hk : kc' ≤ R.2.1) (hs : ks' ≤ R.2.2)
    (kk : ∀ M' : zM, P M' → zV μ R σ Q M' kc' ks' n lv (rest)) : zV μ R σ Q M kc ks pc lv (st) :=
  zv_callS hd hn hC hh hK hlk hst hlen hr hW h1 h2 hk hs (fun v' M' h => by
    obtain ⟨e1, e2⟩ := h
    cases e1
    exact kk M' e2) (fun E M' h => nomatch h.1)
/-- it throws E -/
theorem zv_callST {y : zMeth} {Ry : zRoom} {As rest st : List Value} {idx k kc' ks' : Nat} {E : String} (hd : decode μ.2.1 pc = .ok (.invokestatic idx, 3)) (hn : pc + 3 = n) (hC : zCon y Ry σ As M (zT9 E M)) (hh : y.2.2.2.2 = []) (hK : zKS y k) (hlk : zin (.methodLink μ.1.cls idx y.1)) (hst : As.reverse ++ rest = st) (hlen : As.length = k) (hr : zRm y Ry R) (hW : (rest.map fun v => v.category).sum ≤ 8) (h1 : kc + Ry.2.1 = kc') (h2 : ks + Ry.2.2 = ks') (hk : kc' ≤ R.2.1) (hs : ks' ≤ R.2.2)
    (kk : zVX μ R σ Q M kc' ks' pc lv E) : zV μ R σ Q M kc ks pc lv (st) :=
  zv_callS hd hn hC hh hK hlk hst hlen hr hW h1 h2 hk hs (fun v' M' h => nomatch h.1) (fun E' M' h => by
    obtain ⟨e1, e2⟩ := h
    cases e1
    subst e2
    exact kk)
theorem zv_callSNP {y : zMeth} {Ry : zRoom} {As rest st : List Value} {idx k kc' ks' : Nat} {host : String} {v : Value} (hd : decode μ.2.1 pc = .ok (.invokestatic idx, 3)) (hn : pc + 3 = n) (hC : zCon y Ry σ As M (zP (some v) M)) (hh : y.2.2.2.2 = []) (hK : zKS y k) (hlk : zin (.methodLinkNest μ.1.cls idx y.1 host)) (hst : As.reverse ++ rest = st) (hlen : As.length = k) (hr : zRm y Ry R) (hW : (rest.map fun v => v.category).sum ≤ 8) (h1 : kc + Ry.2.1 = kc') (h2 : ks + Ry.2.2 = ks') (hk : kc' ≤ R.2.1) (hs : ks' ≤ R.2.2)
    (kk : zV μ R σ Q M kc' ks' n lv (v :: rest)) : zV μ R σ Q M kc ks pc lv (st) :=
  zv_callSN hd hn hC hh hK hlk hst hlen hr hW h1 h2 hk hs (fun v' M' h => by
    obtain ⟨e1, e2⟩ := h
    cases e1
    subst e2
    exact kk) (fun E M' h => nomatch h.1)
theorem zv_callSNF {y : zMeth} {Ry : zRoom} {As rest st : List Value} {idx k kc' ks' : Nat} {host : String} {v : Value} {P : zM → Prop} (hd : decode μ.2.1 pc = .ok (.invokestatic idx, 3)) (hn : pc + 3 = n) (hC : zCon y Ry σ As M (zF (some v) P)) (hh : y.2.2.2.2 = []) (hK : zKS y k) (hlk : zin (.methodLinkNest μ.1.cls idx y.1 host)) (hst : As.reverse ++ rest = st) (hlen : As.length = k) (hr : zRm y Ry R) (hW : (rest.map fun v => v.category).sum ≤ 8) (h1 : kc + Ry.2.1 = kc') (h2 : ks + Ry.2.2 = ks') (hk : kc' ≤ R.2.1) (hs : ks' ≤ R.2.2)
    (kk : ∀ M' : zM, P M' → zV μ R σ Q M' kc' ks' n lv (v :: rest)) : zV μ R σ Q M kc ks pc lv (st) :=
  zv_callSN hd hn hC hh hK hlk hst hlen hr hW h1 h2 hk hs (fun v' M' h => by
    obtain ⟨e1, e2⟩ := h
    cases e1
    exact kk M' e2) (fun E M' h => nomatch h.1)
theorem zv_callSNP0 {y : zMeth} {Ry : zRoom} {As rest st : List Value} {idx k kc' ks' : Nat} {host : String} (hd : decode μ.2.1 pc = .ok (.invokestatic idx, 3)) (hn : pc + 3 = n) (hC : zCon y Ry σ As M (zP none M)) (hh : y.2.2.2.2 = []) (hK : zKS y k) (hlk : zin (.methodLinkNest μ.1.cls idx y.1 host)) (hst : As.reverse ++ rest = st) (hlen : As.length = k) (hr : zRm y Ry R) (hW : (rest.map fun v => v.category).sum ≤ 8) (h1 : kc + Ry.2.1 = kc') (h2 : ks + Ry.2.2 = ks') (hk : kc' ≤ R.2.1) (hs : ks' ≤ R.2.2)
    (kk : zV μ R σ Q M kc' ks' n lv (rest)) : zV μ R σ Q M kc ks pc lv (st) :=
  zv_callSN hd hn hC hh hK hlk hst hlen hr hW h1 h2 hk hs (fun v' M' h => by
    obtain ⟨e1, e2⟩ := h
    cases e1
    subst e2
    exact kk) (fun E M' h => nomatch h.1)
theorem zv_callSNF0 {y : zMeth} {Ry : zRoom} {As rest st : List Value} {idx k kc' ks' : Nat} {host : String} {P : zM → Prop} (hd : decode μ.2.1 pc = .ok (.invokestatic idx, 3)) (hn : pc + 3 = n) (hC : zCon y Ry σ As M (zF none P)) (hh : y.2.2.2.2 = []) (hK : zKS y k) (hlk : zin (.methodLinkNest μ.1.cls idx y.1 host)) (hst : As.reverse ++ rest = st) (hlen : As.length = k) (hr : zRm y Ry R) (hW : (rest.map fun v => v.category).sum ≤ 8) (h1 : kc + Ry.2.1 = kc') (h2 : ks + Ry.2.2 = ks') (hk : kc' ≤ R.2.1) (hs : ks' ≤ R.2.2)
    (kk : ∀ M' : zM, P M' → zV μ R σ Q M' kc' ks' n lv (rest)) : zV μ R σ Q M kc ks pc lv (st) :=
  zv_callSN hd hn hC hh hK hlk hst hlen hr hW h1 h2 hk hs (fun v' M' h => by
    obtain ⟨e1, e2⟩ := h
    cases e1
    exact kk M' e2) (fun E M' h => nomatch h.1)
/-- it throws E -/
theorem zv_callSNT {y : zMeth} {Ry : zRoom} {As rest st : List Value} {idx k kc' ks' : Nat} {host : String} {E : String} (hd : decode μ.2.1 pc = .ok (.invokestatic idx, 3)) (hn : pc + 3 = n) (hC : zCon y Ry σ As M (zT9 E M)) (hh : y.2.2.2.2 = []) (hK : zKS y k) (hlk : zin (.methodLinkNest μ.1.cls idx y.1 host)) (hst : As.reverse ++ rest = st) (hlen : As.length = k) (hr : zRm y Ry R) (hW : (rest.map fun v => v.category).sum ≤ 8) (h1 : kc + Ry.2.1 = kc') (h2 : ks + Ry.2.2 = ks') (hk : kc' ≤ R.2.1) (hs : ks' ≤ R.2.2)
    (kk : zVX μ R σ Q M kc' ks' pc lv E) : zV μ R σ Q M kc ks pc lv (st) :=
  zv_callSN hd hn hC hh hK hlk hst hlen hr hW h1 h2 hk hs (fun v' M' h => nomatch h.1) (fun E' M' h => by
    obtain ⟨e1, e2⟩ := h
    cases e1
    subst e2
    exact kk)
theorem zv_callSXP {y : zMeth} {Ry : zRoom} {As rest st : List Value} {idx k kc' ks' : Nat} {h0 : Nat × Nat × Nat × Nat} {ht : List (Nat × Nat × Nat × Nat)} {v : Value} (hd : decode μ.2.1 pc = .ok (.invokestatic idx, 3)) (hn : pc + 3 = n) (hC : zCon y Ry σ As M (zP (some v) M)) (hh : y.2.2.2.2 = h0 :: ht) (hK : zKS y k) (hlk : zin (.methodLink μ.1.cls idx y.1)) (hst : As.reverse ++ rest = st) (hlen : As.length = k) (hr : zRm y Ry R) (hW : (rest.map fun v => v.category).sum ≤ 8) (h1 : kc + Ry.2.1 = kc') (h2 : ks + Ry.2.2 = ks') (hk : kc' ≤ R.2.1) (hs : ks' ≤ R.2.2)
    (kk : zV μ R σ Q M kc' ks' n lv (v :: rest)) : zV μ R σ Q M kc ks pc lv (st) :=
  zv_callSX hd hn hC hh hK hlk hst hlen hr hW h1 h2 hk hs (fun v' M' h => by
    obtain ⟨e1, e2⟩ := h
    cases e1
    subst e2
    exact kk) (fun E M' h => nomatch h.1)
theorem zv_callSXF {y : zMeth} {Ry : zRoom} {As rest st : List Value} {idx k kc' ks' : Nat} {h0 : Nat × Nat × Nat × Nat} {ht : List (Nat × Nat × Nat × Nat)} {v : Value} {P : zM → Prop} (hd : decode μ.2.1 pc = .ok (.invokestatic idx, 3)) (hn : pc + 3 = n) (hC : zCon y Ry σ As M (zF (some v) P)) (hh : y.2.2.2.2 = h0 :: ht) (hK : zKS y k) (hlk : zin (.methodLink μ.1.cls idx y.1)) (hst : As.reverse ++ rest = st) (hlen : As.length = k) (hr : zRm y Ry R) (hW : (rest.map fun v => v.category).sum ≤ 8) (h1 : kc + Ry.2.1 = kc') (h2 : ks + Ry.2.2 = ks') (hk : kc' ≤ R.2.1) (hs : ks' ≤ R.2.2)
    (kk : ∀ M' : zM, P M' → zV μ R σ Q M' kc' ks' n lv (v :: rest)) : zV μ R σ Q M kc ks pc lv (st) :=
  zv_callSX hd hn hC hh hK hlk hst hlen hr hW h1 h2 hk hs (fun v' M' h => by
    obtain ⟨e1, e2⟩ := h
    cases e1
    exact kk M' e2) (fun E M' h => nomatch h.1)
theorem zv_callSXP0 {y : zMeth} {Ry : zRoom} {As rest st : List Value} {idx k kc' ks' : Nat} {h0 : Nat × Nat × Nat × Nat} {ht : List (Nat × Nat × Nat × Nat)} (hd : decode μ.2.1 pc = .ok (.invokestatic idx, 3)) (hn : pc + 3 = n) (hC : zCon y Ry σ As M (zP none M)) (hh : y.2.2.2.2 = h0 :: ht) (hK : zKS y k) (hlk : zin (.methodLink μ.1.cls idx y.1)) (hst : As.reverse ++ rest = st) (hlen : As.length = k) (hr : zRm y Ry R) (hW : (rest.map fun v => v.category).sum ≤ 8) (h1 : kc + Ry.2.1 = kc') (h2 : ks + Ry.2.2 = ks') (hk : kc' ≤ R.2.1) (hs : ks' ≤ R.2.2)
    (kk : zV μ R σ Q M kc' ks' n lv (rest)) : zV μ R σ Q M kc ks pc lv (st) :=
  zv_callSX hd hn hC hh hK hlk hst hlen hr hW h1 h2 hk hs (fun v' M' h => by
    obtain ⟨e1, e2⟩ := h
    cases e1
    subst e2
    exact kk) (fun E M' h => nomatch h.1)
theorem zv_callSXF0 {y : zMeth} {Ry : zRoom} {As rest st : List Value} {idx k kc' ks' : Nat} {h0 : Nat × Nat × Nat × Nat} {ht : List (Nat × Nat × Nat × Nat)} {P : zM → Prop} (hd : decode μ.2.1 pc = .ok (.invokestatic idx, 3)) (hn : pc + 3 = n) (hC : zCon y Ry σ As M (zF none P)) (hh : y.2.2.2.2 = h0 :: ht) (hK : zKS y k) (hlk : zin (.methodLink μ.1.cls idx y.1)) (hst : As.reverse ++ rest = st) (hlen : As.length = k) (hr : zRm y Ry R) (hW : (rest.map fun v => v.category).sum ≤ 8) (h1 : kc + Ry.2.1 = kc') (h2 : ks + Ry.2.2 = ks') (hk : kc' ≤ R.2.1) (hs : ks' ≤ R.2.2)
    (kk : ∀ M' : zM, P M' → zV μ R σ Q M' kc' ks' n lv (rest)) : zV μ R σ Q M kc ks pc lv (st) :=
  zv_callSX hd hn hC hh hK hlk hst hlen hr hW h1 h2 hk hs (fun v' M' h => by
    obtain ⟨e1, e2⟩ := h
    cases e1
    exact kk M' e2) (fun E M' h => nomatch h.1)
/-- it throws E -/
theorem zv_callSXT {y : zMeth} {Ry : zRoom} {As rest st : List Value} {idx k kc' ks' : Nat} {h0 : Nat × Nat × Nat × Nat} {ht : List (Nat × Nat × Nat × Nat)} {E : String} (hd : decode μ.2.1 pc = .ok (.invokestatic idx, 3)) (hn : pc + 3 = n) (hC : zCon y Ry σ As M (zT9 E M)) (hh : y.2.2.2.2 = h0 :: ht) (hK : zKS y k) (hlk : zin (.methodLink μ.1.cls idx y.1)) (hst : As.reverse ++ rest = st) (hlen : As.length = k) (hr : zRm y Ry R) (hW : (rest.map fun v => v.category).sum ≤ 8) (h1 : kc + Ry.2.1 = kc') (h2 : ks + Ry.2.2 = ks') (hk : kc' ≤ R.2.1) (hs : ks' ≤ R.2.2)
    (kk : zVX μ R σ Q M kc' ks' pc lv E) : zV μ R σ Q M kc ks pc lv (st) :=
  zv_callSX hd hn hC hh hK hlk hst hlen hr hW h1 h2 hk hs (fun v' M' h => nomatch h.1) (fun E' M' h => by
    obtain ⟨e1, e2⟩ := h
    cases e1
    subst e2
    exact kk)
theorem zv_callIF0 {y : zMeth} {Ry : zRoom} {As rest st : List Value} {idx k kc' ks' : Nat} {b : Nat} {P : zM → Prop} (hd : decode μ.2.1 pc = .ok (.invokespecial idx, 3)) (hn : pc + 3 = n) (hC : zCon y Ry σ (.ref b :: As) M (zF none P)) (hh : y.2.2.2.2 = []) (hret : y.2.2.2.1 = none) (hK : zKI y k) (hlk : zin (.methodLink μ.1.cls idx y.1)) (hst : As.reverse ++ .ref b :: rest = st) (hlen : As.length = k) (hr : zRm y Ry R) (hW : (rest.map fun v => v.category).sum ≤ 8) (h1 : kc + Ry.2.1 = kc') (h2 : ks + Ry.2.2 = ks') (hk : kc' ≤ R.2.1) (hs : ks' ≤ R.2.2)
    (kk : ∀ M' : zM, P M' → zV μ R σ Q M' kc' ks' n lv (rest)) : zV μ R σ Q M kc ks pc lv (st) :=
  zv_callI hd hn hC hh hret hK hlk hst hlen hr hW h1 h2 hk hs (fun v' M' h => by
    obtain ⟨e1, e2⟩ := h
    cases e1
    exact kk M' e2) (fun E M' h => nomatch h.1)
/-- it throws E -/
theorem zv_callIT {y : zMeth} {Ry : zRoom} {As rest st : List Value} {idx k kc' ks' : Nat} {b : Nat} {E : String} (hd : decode μ.2.1 pc = .ok (.invokespecial idx, 3)) (hn : pc + 3 = n) (hC : zCon y Ry σ (.ref b :: As) M (zT9 E M)) (hh : y.2.2.2.2 = []) (hret : y.2.2.2.1 = none) (hK : zKI y k) (hlk : zin (.methodLink μ.1.cls idx y.1)) (hst : As.reverse ++ .ref b :: rest = st) (hlen : As.length = k) (hr : zRm y Ry R) (hW : (rest.map fun v => v.category).sum ≤ 8) (h1 : kc + Ry.2.1 = kc') (h2 : ks + Ry.2.2 = ks') (hk : kc' ≤ R.2.1) (hs : ks' ≤ R.2.2)
    (kk : zVX μ R σ Q M kc' ks' pc lv E) : zV μ R σ Q M kc ks pc lv (st) :=
  zv_callI hd hn hC hh hret hK hlk hst hlen hr hW h1 h2 hk hs (fun v' M' h => nomatch h.1) (fun E' M' h => by
    obtain ⟨e1, e2⟩ := h
    cases e1
    subst e2
    exact kk)
theorem zv_callINF0 {y : zMeth} {Ry : zRoom} {As rest st : List Value} {idx k kc' ks' : Nat} {b : Nat} {host : String} {P : zM → Prop} (hd : decode μ.2.1 pc = .ok (.invokespecial idx, 3)) (hn : pc + 3 = n) (hC : zCon y Ry σ (.ref b :: As) M (zF none P)) (hh : y.2.2.2.2 = []) (hret : y.2.2.2.1 = none) (hK : zKI y k) (hlk : zin (.methodLinkNest μ.1.cls idx y.1 host)) (hst : As.reverse ++ .ref b :: rest = st) (hlen : As.length = k) (hr : zRm y Ry R) (hW : (rest.map fun v => v.category).sum ≤ 8) (h1 : kc + Ry.2.1 = kc') (h2 : ks + Ry.2.2 = ks') (hk : kc' ≤ R.2.1) (hs : ks' ≤ R.2.2)
    (kk : ∀ M' : zM, P M' → zV μ R σ Q M' kc' ks' n lv (rest)) : zV μ R σ Q M kc ks pc lv (st) :=
  zv_callIN hd hn hC hh hret hK hlk hst hlen hr hW h1 h2 hk hs (fun v' M' h => by
    obtain ⟨e1, e2⟩ := h
    cases e1
    exact kk M' e2) (fun E M' h => nomatch h.1)
/-- it throws E -/
theorem zv_callINT {y : zMeth} {Ry : zRoom} {As rest st : List Value} {idx k kc' ks' : Nat} {b : Nat} {host : String} {E : String} (hd : decode μ.2.1 pc = .ok (.invokespecial idx, 3)) (hn : pc + 3 = n) (hC : zCon y Ry σ (.ref b :: As) M (zT9 E M)) (hh : y.2.2.2.2 = []) (hret : y.2.2.2.1 = none) (hK : zKI y k) (hlk : zin (.methodLinkNest μ.1.cls idx y.1 host)) (hst : As.reverse ++ .ref b :: rest = st) (hlen : As.length = k) (hr : zRm y Ry R) (hW : (rest.map fun v => v.category).sum ≤ 8) (h1 : kc + Ry.2.1 = kc') (h2 : ks + Ry.2.2 = ks') (hk : kc' ≤ R.2.1) (hs : ks' ≤ R.2.2)
    (kk : zVX μ R σ Q M kc' ks' pc lv E) : zV μ R σ Q M kc ks pc lv (st) :=
  zv_callIN hd hn hC hh hret hK hlk hst hlen hr hW h1 h2 hk hs (fun v' M' h => nomatch h.1) (fun E' M' h => by
    obtain ⟨e1, e2⟩ := h
    cases e1
    subst e2
    exact kk)
/-- Object's constructor -/
theorem zv_objInit {h0 : Nat} {idx : Nat} (hd : decode μ.2.1 pc = .ok (.invokespecial idx, 3)) (hn : pc + 3 = n) (hl1 : zin (.methodLink μ.1.cls idx objectInit)) (hl2 : zin (.instanceMethod objectInit)) (hl3 : zin (.code objectInit ⟨#[0xb1]⟩ 1 none)) (k : zV μ R σ Q M kc ks n lv rest) (hW : (rest.map fun v => v.category).sum ≤ 8) : zV μ R σ Q M kc ks pc lv (.ref h0 :: rest) := by
  subst hn
  intro p l e s m args below meth c κ Z H locs ls hM hS hl
  refine W.objInit Z.1 Z.2.1 Z.own (Z.w hl1 _) (Z.w hl2 _) (Z.w hl3 _) rfl (by rw [Z.2.2.1]; exact hl.1) rfl hd ?_ ?_ ?_
  · show 1 ≤ 20 + R.1
    omega
  · show _ ≤ 400 + 100 * R.1
    simp [F0]
    omega
  · exact k p l e s m args below meth c κ Z H locs ls hM hS hl
end ZR3


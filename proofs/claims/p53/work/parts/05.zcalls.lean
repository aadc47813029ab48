/-! Arrays, new things, statics, calls, throws, handlers, a contract's start. -/
section ZR2
variable {μ : zMeth} {R : zRoom} {σ : zSg} {Q : zO → zM → Prop} {M : zM} {kc ks pc n : Nat} {lv : List (Nat × Value)} {rest : List Value}
abbrev zAI (N : Nat) (f : Nat → Int32) : zE := .inl (2, (N, .inl f))
abbrev zAB (N : Nat) (f : Nat → Int32) : zE := .inl (0, (N, .inl f))
abbrev zAF (N : Nat) (f : Nat → UInt32) : zE := .inl (1, (N, .inr (.inr (.inl f))))
abbrev zAC (N : Nat) (f : Nat → Option Nat) : zE := .inl (3, (N, .inr (.inr (.inr (.inr f)))))
abbrev zAR (N : Nat) (f : Nat → Option Nat) : zE := .inl (4, (N, .inr (.inr (.inr (.inr f)))))
abbrev zAL (N : Nat) (f : Nat → Int64) : zE := .inl (5, (N, .inr (.inl f)))
theorem zv_iald {a N : Nat} {f : Nat → Int32} {i : Int32} (hd : decode μ.2.1 pc = .ok (.iaload, 1)) (hn : pc + 1 = n) (ha : M a = some (zAI N f)) (hi : vp_in i N) (kk : zV μ R σ Q M kc ks n lv (.int (f i.toNatClampNeg) :: rest)) : zV μ R σ Q M kc ks pc lv (.int i :: .ref a :: rest) := by
  subst hn
  intro p l e s m args below meth c κ Z H locs ls hM hS hl
  exact va_iald (ws := [(a, zT κ (zAI N f))]) Z.1 Z.2.1 Z.K (hM.get ha).1 0 2 rfl rfl hi hd (kk p l e s m args below meth c κ Z H locs ls hM hS hl)
theorem zv_bald {a N : Nat} {f : Nat → Int32} {i : Int32} (hd : decode μ.2.1 pc = .ok (.baload, 1)) (hn : pc + 1 = n) (ha : M a = some (zAB N f)) (hi : vp_in i N) (kk : zV μ R σ Q M kc ks n lv (.int (f i.toNatClampNeg) :: rest)) : zV μ R σ Q M kc ks pc lv (.int i :: .ref a :: rest) := by
  subst hn
  intro p l e s m args below meth c κ Z H locs ls hM hS hl
  exact va_bald (ws := [(a, zT κ (zAB N f))]) Z.1 Z.2.1 Z.K (hM.get ha).1 0 0 rfl rfl hi hd (kk p l e s m args below meth c κ Z H locs ls hM hS hl)
theorem zv_fald {a N : Nat} {f : Nat → UInt32} {i : Int32} (hd : decode μ.2.1 pc = .ok (.faload, 1)) (hn : pc + 1 = n) (ha : M a = some (zAF N f)) (hi : vp_in i N) (kk : zV μ R σ Q M kc ks n lv (.float (f i.toNatClampNeg) :: rest)) : zV μ R σ Q M kc ks pc lv (.int i :: .ref a :: rest) := by
  subst hn
  intro p l e s m args below meth c κ Z H locs ls hM hS hl
  exact va_fald (ws := [(a, zT κ (zAF N f))]) Z.1 Z.2.1 Z.K (hM.get ha).1 0 1 rfl rfl hi hd (kk p l e s m args below meth c κ Z H locs ls hM hS hl)
theorem zv_lald {a N : Nat} {f : Nat → Int64} {i : Int32} (hd : decode μ.2.1 pc = .ok (.laload, 1)) (hn : pc + 1 = n) (ha : M a = some (zAL N f)) (hi : vp_in i N) (kk : zV μ R σ Q M kc ks n lv (.long (f i.toNatClampNeg) :: rest)) : zV μ R σ Q M kc ks pc lv (.int i :: .ref a :: rest) := by
  subst hn
  intro p l e s m args below meth c κ Z H locs ls hM hS hl
  exact va_lald (ws := [(a, zT κ (zAL N f))]) Z.1 Z.2.1 Z.K (hM.get ha).1 0 5 rfl rfl hi hd (kk p l e s m args below meth c κ Z H locs ls hM hS hl)
theorem zv_aldC {a N : Nat} {f : Nat → Option Nat} {i : Int32} (hd : decode μ.2.1 pc = .ok (.aaload, 1)) (hn : pc + 1 = n) (ha : M a = some (zAC N f)) (hi : vp_in i N) (kk : zV μ R σ Q M kc ks n lv (va_rf (f i.toNatClampNeg) :: rest)) : zV μ R σ Q M kc ks pc lv (.int i :: .ref a :: rest) := by
  subst hn
  intro p l e s m args below meth c κ Z H locs ls hM hS hl
  exact va_aldq (ws := [(a, zT κ (zAC N f))]) Z.1 Z.2.1 Z.K (hM.get ha).1 0 3 rfl rfl hi hd (kk p l e s m args below meth c κ Z H locs ls hM hS hl)
theorem zv_aldR {a N : Nat} {f : Nat → Option Nat} {i : Int32} (hd : decode μ.2.1 pc = .ok (.aaload, 1)) (hn : pc + 1 = n) (ha : M a = some (zAR N f)) (hi : vp_in i N) (kk : zV μ R σ Q M kc ks n lv (va_rf (f i.toNatClampNeg) :: rest)) : zV μ R σ Q M kc ks pc lv (.int i :: .ref a :: rest) := by
  subst hn
  intro p l e s m args below meth c κ Z H locs ls hM hS hl
  exact va_aldq (ws := [(a, zT κ (zAR N f))]) Z.1 Z.2.1 Z.K (hM.get ha).1 0 4 rfl rfl hi hd (kk p l e s m args below meth c κ Z H locs ls hM hS hl)
theorem zv_iast {a N : Nat} {f : Nat → Int32} {i : Int32} {x : Int32} (hd : decode μ.2.1 pc = .ok (.iastore, 1)) (hn : pc + 1 = n) (ha : M a = some (zAI N f)) (hi : vp_in i N) (kk : zV μ R σ Q (zup M a (zAI N (upd f i.toNatClampNeg x))) kc ks n lv (rest)) : zV μ R σ Q M kc ks pc lv (.int x :: .int i :: .ref a :: rest) := by
  subst hn
  intro p l e s m args below meth c κ Z H locs ls hM hS hl
  obtain ⟨L, g, j, hP, hD, hj, hup⟩ := hM.pool ha
  exact va_iast (ws := va_pl L g) Z.1 Z.2.1 Z.K hP hD hS j 2 hj rfl hi hd (fun H1 locs1 hP1 hD1 hS1 => kk p l e s m args below meth c κ Z H1 locs1 ls (hup (zAI N (upd f i.toNatClampNeg x)) H1 hP1 hD1) hS1 hl)
theorem zv_bast {a N : Nat} {f : Nat → Int32} {i : Int32} {x : Int32} (hd : decode μ.2.1 pc = .ok (.bastore, 1)) (hn : pc + 1 = n) (ha : M a = some (zAB N f)) (hi : vp_in i N) (kk : zV μ R σ Q (zup M a (zAB N (upd f i.toNatClampNeg (vp_nar .byte x)))) kc ks n lv (rest)) : zV μ R σ Q M kc ks pc lv (.int x :: .int i :: .ref a :: rest) := by
  subst hn
  intro p l e s m args below meth c κ Z H locs ls hM hS hl
  obtain ⟨L, g, j, hP, hD, hj, hup⟩ := hM.pool ha
  exact va_bast (ws := va_pl L g) Z.1 Z.2.1 Z.K hP hD hS j 0 hj rfl hi hd (fun H1 locs1 hP1 hD1 hS1 => kk p l e s m args below meth c κ Z H1 locs1 ls (hup (zAB N (upd f i.toNatClampNeg (vp_nar .byte x))) H1 hP1 hD1) hS1 hl)
theorem zv_fast {a N : Nat} {f : Nat → UInt32} {i : Int32} {x : UInt32} (hd : decode μ.2.1 pc = .ok (.fastore, 1)) (hn : pc + 1 = n) (ha : M a = some (zAF N f)) (hi : vp_in i N) (kk : zV μ R σ Q (zup M a (zAF N (vf_upd f i.toNatClampNeg x))) kc ks n lv (rest)) : zV μ R σ Q M kc ks pc lv (.float x :: .int i :: .ref a :: rest) := by
  subst hn
  intro p l e s m args below meth c κ Z H locs ls hM hS hl
  obtain ⟨L, g, j, hP, hD, hj, hup⟩ := hM.pool ha
  exact va_fast (ws := va_pl L g) Z.1 Z.2.1 Z.K hP hD hS j 1 hj rfl hi hd (fun H1 locs1 hP1 hD1 hS1 => kk p l e s m args below meth c κ Z H1 locs1 ls (hup (zAF N (vf_upd f i.toNatClampNeg x)) H1 hP1 hD1) hS1 hl)
theorem zv_last {a N : Nat} {f : Nat → Int64} {i : Int32} {x : Int64} (hd : decode μ.2.1 pc = .ok (.lastore, 1)) (hn : pc + 1 = n) (ha : M a = some (zAL N f)) (hi : vp_in i N) (kk : zV μ R σ Q (zup M a (zAL N (vp_updL f i.toNatClampNeg x))) kc ks n lv (rest)) : zV μ R σ Q M kc ks pc lv (.long x :: .int i :: .ref a :: rest) := by
  subst hn
  intro p l e s m args below meth c κ Z H locs ls hM hS hl
  obtain ⟨L, g, j, hP, hD, hj, hup⟩ := hM.pool ha
  exact va_last (ws := va_pl L g) Z.1 Z.2.1 Z.K hP hD hS j 5 hj rfl hi hd (fun H1 locs1 hP1 hD1 hS1 => kk p l e s m args below meth c κ Z H1 locs1 ls (hup (zAL N (vp_updL f i.toNatClampNeg x)) H1 hP1 hD1) hS1 hl)
theorem zv_astC {a N v : Nat} {f : Nat → Option Nat} {vs : List Value} {i : Int32} (hd : decode μ.2.1 pc = .ok (.aastore, 1)) (hn : pc + 1 = n) (ha : M a = some (zAC N f)) (hv : M v = some (.inr (4, vs))) (hi : vp_in i N) (kk : zV μ R σ Q (zup M a (zAC N (va_up f i.toNatClampNeg (some v)))) kc ks n lv (rest)) : zV μ R σ Q M kc ks pc lv (.ref v :: .int i :: .ref a :: rest) := by
  subst hn
  intro p l e s m args below meth c κ Z H locs ls hM hS hl
  obtain ⟨L, g, hP, hD, hMM⟩ := hM
  obtain ⟨h1, h2⟩ := hMM a _ ha
  obtain ⟨j, hj⟩ := va_pl_get (X := []) (f := g) h1
  obtain ⟨h3, h4⟩ := hMM v _ hv
  obtain ⟨j2, hj2⟩ := va_pl_get (X := []) (f := g) h3
  rw [List.nil_append] at hj hj2
  rw [h2] at hj
  rw [h4] at hj2
  refine va_astq (ws := va_pl L g) (r := (RX1, TX1, 9)) Z.1 Z.2.1 Z.K hP hD hS j 3 j2 4 hj rfl hj2 rfl hi hd (fun H1 locs1 hP1 hD1 hS1 => kk p l e s m args below meth c κ Z H1 locs1 ls ?_ hS1 hl)
  have es := va_pl_set (X := []) (e := zT κ (zAC N (va_up f i.toNatClampNeg (some v)))) hD h1 (by rw [List.nil_append, h2]; exact hj)
  simp only [List.nil_append] at es
  change va_P κ.1 vwCl ((va_pl L g).set j (a, zT κ (zAC N (va_up f i.toNatClampNeg (some v))))) H1 at hP1
  change va_D (zA σ) ((va_pl L g).set j (a, zT κ (zAC N (va_up f i.toNatClampNeg (some v))))) at hD1
  rw [es] at hP1 hD1
  exact zW_up hMM h1 hP1 hD1
theorem zv_astR {a N v : Nat} {f : Nat → Option Nat} {vs : List Value} {i : Int32} (hd : decode μ.2.1 pc = .ok (.aastore, 1)) (hn : pc + 1 = n) (ha : M a = some (zAR N f)) (hv : M v = some (.inr (6, vs))) (hi : vp_in i N) (kk : zV μ R σ Q (zup M a (zAR N (va_up f i.toNatClampNeg (some v)))) kc ks n lv (rest)) : zV μ R σ Q M kc ks pc lv (.ref v :: .int i :: .ref a :: rest) := by
  subst hn
  intro p l e s m args below meth c κ Z H locs ls hM hS hl
  obtain ⟨L, g, hP, hD, hMM⟩ := hM
  obtain ⟨h1, h2⟩ := hMM a _ ha
  obtain ⟨j, hj⟩ := va_pl_get (X := []) (f := g) h1
  obtain ⟨h3, h4⟩ := hMM v _ hv
  obtain ⟨j2, hj2⟩ := va_pl_get (X := []) (f := g) h3
  rw [List.nil_append] at hj hj2
  rw [h2] at hj
  rw [h4] at hj2
  refine va_astq (ws := va_pl L g) (r := (RX4, TX4, 3)) Z.1 Z.2.1 Z.K hP hD hS j 4 j2 6 hj rfl hj2 rfl hi hd (fun H1 locs1 hP1 hD1 hS1 => kk p l e s m args below meth c κ Z H1 locs1 ls ?_ hS1 hl)
  have es := va_pl_set (X := []) (e := zT κ (zAR N (va_up f i.toNatClampNeg (some v)))) hD h1 (by rw [List.nil_append, h2]; exact hj)
  simp only [List.nil_append] at es
  change va_P κ.1 vwCl ((va_pl L g).set j (a, zT κ (zAR N (va_up f i.toNatClampNeg (some v))))) H1 at hP1
  change va_D (zA σ) ((va_pl L g).set j (a, zT κ (zAR N (va_up f i.toNatClampNeg (some v))))) at hD1
  rw [es] at hP1 hD1
  exact zW_up hMM h1 hP1 hD1
theorem zv_alen {a k : Nat} {x : vp_A} {v : Int32} (hd : decode μ.2.1 pc = .ok (.arraylength, 1)) (hn : pc + 1 = n) (ha : M a = some (.inl (k, x))) (hk : k < 6) (hv : Int32.ofNat x.1 = v) (kk : zV μ R σ Q M kc ks n lv (.int v :: rest)) : zV μ R σ Q M kc ks pc lv (.ref a :: rest) := by
  subst hn
  intro p l e s m args below meth c κ Z H locs ls hM hS hl
  rcases (show k = 0 ∨ k = 1 ∨ k = 2 ∨ k = 3 ∨ k = 4 ∨ k = 5 by omega) with rfl | rfl | rfl | rfl | rfl | rfl
  · exact va_alen (ws := [(a, .inl (κ.2 0, x))]) (ty := .byte) Z.1 Z.2.1 Z.K (hM.get ha).1 0 0 rfl rfl hv hd (kk p l e s m args below meth c κ Z H locs ls hM hS hl)
  · exact va_alen (ws := [(a, .inl (κ.2 1, x))]) (ty := .float) Z.1 Z.2.1 Z.K (hM.get ha).1 0 1 rfl rfl hv hd (kk p l e s m args below meth c κ Z H locs ls hM hS hl)
  · exact va_alen (ws := [(a, .inl (κ.2 2, x))]) (ty := .int) Z.1 Z.2.1 Z.K (hM.get ha).1 0 2 rfl rfl hv hd (kk p l e s m args below meth c κ Z H locs ls hM hS hl)
  · exact va_alen (ws := [(a, .inl (κ.2 3, x))]) (ty := .object RX1) Z.1 Z.2.1 Z.K (hM.get ha).1 0 3 rfl rfl hv hd (kk p l e s m args below meth c κ Z H locs ls hM hS hl)
  · exact va_alen (ws := [(a, .inl (κ.2 4, x))]) (ty := .object RX4) Z.1 Z.2.1 Z.K (hM.get ha).1 0 4 rfl rfl hv hd (kk p l e s m args below meth c κ Z H locs ls hM hS hl)
  · exact va_alen (ws := [(a, .inl (κ.2 5, x))]) (ty := .long) Z.1 Z.2.1 Z.K (hM.get ha).1 0 5 rfl rfl hv hd (kk p l e s m args below meth c κ Z H locs ls hM hS hl)
/-- a new thing beside the pool -/
theorem zW_new {κ : zKp} {H1 : Heap} {L : List Nat} {f : Nat → va_E} {q : Nat} {e : zE} (hM : ∀ x e, M x = some e → x ∈ L ∧ f x = zT κ e) (hP : va_P κ.1 vwCl (va_pl L f ++ [(q, zT κ e)]) H1) (hD : va_D (zA σ) (va_pl L f ++ [(q, zT κ e)])) : M q = none ∧ zW σ κ (zup M q e) H1 := by
  have hq : q ∉ L := va_pl_fresh2 (X := []) (L := L) (f := f) (q := q) (e := zT κ e) (by rw [List.nil_append]; exact hD)
  refine ⟨?_, L ++ [q], va_up f q (zT κ e), ?_, ?_, fun x e' hx => ?_⟩
  · cases hc : M q with
    | none => rfl
    | some e' => exact absurd (hM q e' hc).1 hq
  · rw [← va_pl_push hq]; exact hP
  · rw [← va_pl_push hq]; exact hD
  · by_cases h : x = q
    · subst h
      rw [zup_s] at hx
      cases hx
      exact ⟨List.mem_append_right _ List.mem_cons_self, if_pos rfl⟩
    · rw [zup_n h] at hx
      exact ⟨List.mem_append_left _ (hM x e' hx).1, (if_neg h).trans (hM x e' hx).2⟩
def zNw (own : String) (idx ci : Nat) (fs : List Value) : Prop := ∃ (r : vw_C) (ty0 : Nat → FieldType), vwCl[ci]? = some r ∧ (∀ k, k < r.2.2 → parseFieldDescriptor (r.2.1 k).2.2.1 = some (ty0 k)) ∧ (∀ w ∈ u_ws r.1 r.2.1 r.2.2, zin w) ∧ zin (.classLink own idx r.1) ∧ zin (.instantiable r.1 r.2.2) ∧ zin (.initialized r.1) ∧ (∀ j, j < r.2.2 → defaultValue (ty0 j) = vp_V fs j) ∧ r.2.2 = fs.length
theorem zv_new {idx ci kc' ks' : Nat} {fs : List Value} (hd : decode μ.2.1 pc = .ok (.new idx, 3)) (hn : pc + 3 = n) (N : zNw μ.1.cls idx ci fs) (hk1 : kc + 1 = kc') (hs1 : ks + fs.length = ks') (hk : kc' ≤ R.2.1) (hs : ks' ≤ R.2.2) (kk : ∀ q : Nat, M q = none → zV μ R σ Q (zup M q (.inr (ci, fs))) kc' ks' n lv (.ref q :: rest)) : zV μ R σ Q M kc ks pc lv (rest) := by
  subst hn; subst hk1; subst hs1
  intro p l e s m args below meth c κ Z H locs ls hM hS hl
  obtain ⟨⟨C, T, N⟩, ty0, f1, f2, f3, f4, f5, f6, f7, f8⟩ := N
  change N = fs.length at f8
  subst f8
  obtain ⟨L, f, hP, hD, hMM⟩ := hM
  exact va_new (D := κ.1) (cl := vwCl) (ws := va_pl L f) Z.1 Z.2.1 (Ts := zwords) (fun w hw => Z.w hw _) f3 ty0 f2 Z.own (Z.w f4 _) (Z.w f5 _) (Z.w f6 _) Z.K hP hD hS Z.A f1 f7 hk hs hd (fun q H1 hP1 hD1 hS1 => by
    obtain ⟨q1, q2⟩ := zW_new (e := .inr (ci, fs)) hMM hP1 hD1
    exact kk q q1 p l e s m args below meth c κ Z H1 locs ls q2 hS1 hl)
theorem zv_newI {N kc' ks' : Nat} {x : Int32} (hd : decode μ.2.1 pc = .ok (.newarray .int, 2)) (hn : pc + 2 = n) (hw : zin (.arrayClass .int)) (hx : ¬ x < 0) (hN : x.toNatClampNeg = N) (hb : N * componentBytes .int ≤ 536870912) (hk1 : kc + 1 = kc') (hs1 : ks + N = ks') (hk : kc' ≤ R.2.1) (hs : ks' ≤ R.2.2) (kk : ∀ q : Nat, M q = none → zV μ R σ Q (zup M q (zAI N (fun _ => 0))) kc' ks' n lv (.ref q :: rest)) : zV μ R σ Q M kc ks pc lv (.int x :: rest) := by
  subst hn; subst hk1; subst hs1
  intro p l e s m args below meth c κ Z H locs ls hM hS hl
  obtain ⟨L, f, hP, hD, hMM⟩ := hM
  refine va_newa (atype := .int) (ws := va_pl L f) (a0 := (N, .inl (fun _ => 0))) Z.1 Z.2.1 (Z.w hw _) rfl Z.K hP hD hS Z.A (fun cA => rfl) hx hN hb hk hs hd (fun q cA H1 hK1 hP1 hD1 hS1 => ?_)
  have hc : cA = κ.2 2 := by
    have h1 := (hK1.2 6 (cA, .int) rfl).2
    have h2 := (Z.K.2 2 (κ.2 2, .int) rfl).2
    exact Option.some.inj (h1.symm.trans h2)
  subst hc
  obtain ⟨q1, q2⟩ := zW_new (e := zAI N (fun _ => 0)) hMM hP1 hD1
  exact kk q q1 p l e s m args below meth c κ Z H1 locs ls q2 hS1 hl
theorem zv_newF {N kc' ks' : Nat} {x : Int32} (hd : decode μ.2.1 pc = .ok (.newarray .float, 2)) (hn : pc + 2 = n) (hw : zin (.arrayClass .float)) (hx : ¬ x < 0) (hN : x.toNatClampNeg = N) (hb : N * componentBytes .float ≤ 536870912) (hk1 : kc + 1 = kc') (hs1 : ks + N = ks') (hk : kc' ≤ R.2.1) (hs : ks' ≤ R.2.2) (kk : ∀ q : Nat, M q = none → zV μ R σ Q (zup M q (zAF N (fun _ => 0))) kc' ks' n lv (.ref q :: rest)) : zV μ R σ Q M kc ks pc lv (.int x :: rest) := by
  subst hn; subst hk1; subst hs1
  intro p l e s m args below meth c κ Z H locs ls hM hS hl
  obtain ⟨L, f, hP, hD, hMM⟩ := hM
  refine va_newa (atype := .float) (ws := va_pl L f) (a0 := (N, .inr (.inr (.inl (fun _ => 0))))) Z.1 Z.2.1 (Z.w hw _) rfl Z.K hP hD hS Z.A (fun cA => rfl) hx hN hb hk hs hd (fun q cA H1 hK1 hP1 hD1 hS1 => ?_)
  have hc : cA = κ.2 1 := by
    have h1 := (hK1.2 6 (cA, .float) rfl).2
    have h2 := (Z.K.2 1 (κ.2 1, .float) rfl).2
    exact Option.some.inj (h1.symm.trans h2)
  subst hc
  obtain ⟨q1, q2⟩ := zW_new (e := zAF N (fun _ => 0)) hMM hP1 hD1
  exact kk q q1 p l e s m args below meth c κ Z H1 locs ls q2 hS1 hl
theorem zv_newB {N kc' ks' : Nat} {x : Int32} (hd : decode μ.2.1 pc = .ok (.newarray .byte, 2)) (hn : pc + 2 = n) (hw : zin (.arrayClass .byte)) (hx : ¬ x < 0) (hN : x.toNatClampNeg = N) (hb : N * componentBytes .byte ≤ 536870912) (hk1 : kc + 1 = kc') (hs1 : ks + N = ks') (hk : kc' ≤ R.2.1) (hs : ks' ≤ R.2.2) (kk : ∀ q : Nat, M q = none → zV μ R σ Q (zup M q (zAB N (fun _ => 0))) kc' ks' n lv (.ref q :: rest)) : zV μ R σ Q M kc ks pc lv (.int x :: rest) := by
  subst hn; subst hk1; subst hs1
  intro p l e s m args below meth c κ Z H locs ls hM hS hl
  obtain ⟨L, f, hP, hD, hMM⟩ := hM
  refine va_newa (atype := .byte) (ws := va_pl L f) (a0 := (N, .inl (fun _ => 0))) Z.1 Z.2.1 (Z.w hw _) rfl Z.K hP hD hS Z.A (fun cA => rfl) hx hN hb hk hs hd (fun q cA H1 hK1 hP1 hD1 hS1 => ?_)
  have hc : cA = κ.2 0 := by
    have h1 := (hK1.2 6 (cA, .byte) rfl).2
    have h2 := (Z.K.2 0 (κ.2 0, .byte) rfl).2
    exact Option.some.inj (h1.symm.trans h2)
  subst hc
  obtain ⟨q1, q2⟩ := zW_new (e := zAB N (fun _ => 0)) hMM hP1 hD1
  exact kk q q1 p l e s m args below meth c κ Z H1 locs ls q2 hS1 hl
theorem zv_newL {N kc' ks' : Nat} {x : Int32} (hd : decode μ.2.1 pc = .ok (.newarray .long, 2)) (hn : pc + 2 = n) (hw : zin (.arrayClass .long)) (hx : ¬ x < 0) (hN : x.toNatClampNeg = N) (hb : N * componentBytes .long ≤ 536870912) (hk1 : kc + 1 = kc') (hs1 : ks + N = ks') (hk : kc' ≤ R.2.1) (hs : ks' ≤ R.2.2) (kk : ∀ q : Nat, M q = none → zV μ R σ Q (zup M q (zAL N (fun _ => 0))) kc' ks' n lv (.ref q :: rest)) : zV μ R σ Q M kc ks pc lv (.int x :: rest) := by
  subst hn; subst hk1; subst hs1
  intro p l e s m args below meth c κ Z H locs ls hM hS hl
  obtain ⟨L, f, hP, hD, hMM⟩ := hM
  refine va_newa (atype := .long) (ws := va_pl L f) (a0 := (N, .inr (.inl (fun _ => 0)))) Z.1 Z.2.1 (Z.w hw _) rfl Z.K hP hD hS Z.A (fun cA => rfl) hx hN hb hk hs hd (fun q cA H1 hK1 hP1 hD1 hS1 => ?_)
  have hc : cA = κ.2 5 := by
    have h1 := (hK1.2 6 (cA, .long) rfl).2
    have h2 := (Z.K.2 5 (κ.2 5, .long) rfl).2
    exact Option.some.inj (h1.symm.trans h2)
  subst hc
  obtain ⟨q1, q2⟩ := zW_new (e := zAL N (fun _ => 0)) hMM hP1 hD1
  exact kk q q1 p l e s m args below meth c κ Z H1 locs ls q2 hS1 hl
theorem zv_newC {N kc' ks' idx : Nat} {x : Int32} (hd : decode μ.2.1 pc = .ok (.anewarray idx, 3)) (hn : pc + 3 = n) (hw : zin (.arrayOver (.object RX1))) (hcl : zin (.classLink μ.1.cls idx RX1)) (hx : ¬ x < 0) (hN : x.toNatClampNeg = N) (hb : N * 4 ≤ 536870912) (hk1 : kc + 1 = kc') (hs1 : ks + N = ks') (hk : kc' ≤ R.2.1) (hs : ks' ≤ R.2.2) (kk : ∀ q : Nat, M q = none → zV μ R σ Q (zup M q (zAC N (fun _ => none))) kc' ks' n lv (.ref q :: rest)) : zV μ R σ Q M kc ks pc lv (.int x :: rest) := by
  subst hn; subst hk1; subst hs1
  intro p l e s m args below meth c κ Z H locs ls hM hS hl
  obtain ⟨L, f, hP, hD, hMM⟩ := hM
  refine va_newq (C := RX1) (ws := va_pl L f) Z.1 Z.2.1 Z.own (Z.w hcl _) (Z.w hw _) Z.K hP hD hS Z.A hx hN hb hk hs hd (fun q cA H1 hK1 hP1 hD1 hS1 => ?_)
  have hc : cA = κ.2 3 := by
    have h1 := (hK1.2 6 (cA, .object RX1) rfl).2
    have h2 := (Z.K.2 3 (κ.2 3, .object RX1) rfl).2
    obtain ⟨_, _, _, _, _, e1⟩ := h1
    obtain ⟨_, _, _, _, _, e2⟩ := h2
    exact Option.some.inj (e1.symm.trans e2)
  subst hc
  obtain ⟨q1, q2⟩ := zW_new (e := zAC N (fun _ => none)) hMM hP1 hD1
  exact kk q q1 p l e s m args below meth c κ Z H1 locs ls q2 hS1 hl
theorem zv_newR {N kc' ks' idx : Nat} {x : Int32} (hd : decode μ.2.1 pc = .ok (.anewarray idx, 3)) (hn : pc + 3 = n) (hw : zin (.arrayOver (.object RX4))) (hcl : zin (.classLink μ.1.cls idx RX4)) (hx : ¬ x < 0) (hN : x.toNatClampNeg = N) (hb : N * 4 ≤ 536870912) (hk1 : kc + 1 = kc') (hs1 : ks + N = ks') (hk : kc' ≤ R.2.1) (hs : ks' ≤ R.2.2) (kk : ∀ q : Nat, M q = none → zV μ R σ Q (zup M q (zAR N (fun _ => none))) kc' ks' n lv (.ref q :: rest)) : zV μ R σ Q M kc ks pc lv (.int x :: rest) := by
  subst hn; subst hk1; subst hs1
  intro p l e s m args below meth c κ Z H locs ls hM hS hl
  obtain ⟨L, f, hP, hD, hMM⟩ := hM
  refine va_newq (C := RX4) (ws := va_pl L f) Z.1 Z.2.1 Z.own (Z.w hcl _) (Z.w hw _) Z.K hP hD hS Z.A hx hN hb hk hs hd (fun q cA H1 hK1 hP1 hD1 hS1 => ?_)
  have hc : cA = κ.2 4 := by
    have h1 := (hK1.2 6 (cA, .object RX4) rfl).2
    have h2 := (Z.K.2 4 (κ.2 4, .object RX4) rfl).2
    obtain ⟨_, _, _, _, _, e1⟩ := h1
    obtain ⟨_, _, _, _, _, e2⟩ := h2
    exact Option.some.inj (e1.symm.trans e2)
  subst hc
  obtain ⟨q1, q2⟩ := zW_new (e := zAR N (fun _ => none)) hMM hP1 hD1
  exact kk q q1 p l e s m args below meth c κ Z H1 locs ls q2 hS1 hl
theorem zv_gets {C nm d : String} {v : Value} {idx : Nat} (hd : decode μ.2.1 pc = .ok (.getstatic idx, 3)) (hn : pc + 3 = n) (hZ : ∀ (U : State) (H : Heap), zG σ U H → va_Z C nm d v (zA σ) U H) (hw : zin (.fieldLink μ.1.cls idx C nm d)) (kk : zV μ R σ Q M kc ks n lv (v :: rest)) : zV μ R σ Q M kc ks pc lv (rest) := by
  subst hn
  intro p l e s m args below meth c κ Z H locs ls hM hS hl
  exact va_gets Z.1 Z.2.1 (hZ s s.heap Z.G) hS Z.own (Z.w hw _) (fun _ h => h) hd (kk p l e s m args below meth c κ Z H locs ls hM hS hl)
theorem zv_getsN {C nm d host : String} {v : Value} {idx : Nat} (hd : decode μ.2.1 pc = .ok (.getstatic idx, 3)) (hn : pc + 3 = n) (hZ : ∀ (U : State) (H : Heap), zG σ U H → va_Z C nm d v (zA σ) U H) (hw : zin (.fieldLinkNest μ.1.cls idx C nm d host)) (kk : zV μ R σ Q M kc ks n lv (v :: rest)) : zV μ R σ Q M kc ks pc lv (rest) := by
  subst hn
  intro p l e s m args below meth c κ Z H locs ls hM hS hl
  exact va_getsN Z.1 Z.2.1 (hZ s s.heap Z.G) hS Z.own (Z.w hw _) (fun _ h => h) hd (kk p l e s m args below meth c κ Z H locs ls hM hS hl)
/-- CALLS: what came back, or was thrown -/
theorem zcall {p : Program} {l : Launch} {e : Env} {s : State} {m : MethodId} {args : Array Value} {below : List Frame} {meth : Method} {c : Code} {κ : zKp} (Z : zX p l s m meth c μ σ κ) {H : Heap} {locs : List Loc} {ls : Array Slot} (hS : va_S (zA σ) s.heap H locs) (hl : lv_has ls μ.2.2.1 lv) {mc ms kc' ks' : Nat} {st0 : List Value} {a : Array Value} {Qy : zO → zM → Prop}
    (hr : vx_Run p l e (zR R) s m args below meth c H locs kc ks mc ms (F0 m pc ls st0) rest (zQc σ κ Qy a) (zXC σ κ Qy) (zA σ)) (h1 : kc + mc = kc') (h2 : ks + ms = ks')
    (kr : ∀ (v : Option Value) (M' : zM), Qy (.inl v) M' → zV μ R σ Q M' kc' ks' (pc + 3) lv (v.toList ++ rest)) (kx : ∀ (E : String) (M' : zM), Qy (.inr E) M' → zVX μ R σ Q M' kc' ks' pc lv E) :
    W p l e (zR R) s m args below meth c H locs kc ks (vx_MQ below (zQc σ κ Q) (zXC σ κ Q) args s R.2.1 R.2.2 (zA σ)) (F0 m pc ls st0) := by
  subst h1; subst h2
  intro T hT X
  rcases hr T hT X with ⟨v, st₀, t, T', L, h0, X', hL, e1, e2, ⟨⟨v', M', hv, hq, hw⟩, hF⟩, st⟩ | ⟨q, st₀, t, T', L, E, ce, h0, X', hL, e1, e2, ⟨⟨M', hq, hw⟩, hF⟩, hce, hcv, hcl, st⟩
  · cases hv
    obtain ⟨k1, k2, k3⟩ := vx_keep h0 e1 hS (fun _ _ h => h) (fun _ h => h) hL hF
    obtain ⟨t2, a1, b1⟩ := kr v M' hq p l e s m args below meth c κ Z T'.heap (locs ++ L) ls (by rw [e1]; exact hw) k3 hl T' rfl X'
    exact ⟨t2, st t2 a1, b1⟩
  · obtain ⟨k1, k2, k3⟩ := vx_keep h0 e1 hS (fun _ _ h => h) (fun _ h => h) hL hF
    obtain ⟨t2, a1, b1⟩ := kx E M' hq p l e s m args below meth c κ Z T'.heap (locs ++ L) ls q ce rest (by rw [e1]; exact hw) k3 hl (by rw [e1]; exact hce) hcv hcl T' rfl X'
    exact ⟨t2, st.trans a1, b1⟩
/-- what a callee's words are -/
def zArity (y : MethodName) (k : Nat) : Prop := y.cls ≠ "java/lang/invoke/MethodHandle" ∧ y.cls ≠ "java/lang/invoke/VarHandle" ∧ (parseMethodDescriptor y.desc).map (fun d => d.parameters.length) = some k
def zKV (y : zMeth) (k : Nat) : Prop := zArity y.1 k ∧ zin (.instanceMethod y.1) ∧ zin (.selects y.1.cls y.1 y.1) ∧ zin (zcode y) ∧ zin (.initialized y.1.cls)
def zKS (y : zMeth) (k : Nat) : Prop := zArity y.1 k ∧ zin (.static y.1) ∧ zin (zcode y) ∧ zin (.initialized y.1.cls)
def zKI (y : zMeth) (k : Nat) : Prop := zArity y.1 k ∧ zin (.instanceMethod y.1) ∧ zin (zcode y) ∧ zin (.initialized y.1.cls) ∧ y.1.name = "<init>"
def zRm (y : zMeth) (Ry R : zRoom) : Prop := Ry.1 < R.1 ∧ y.2.2.1 ≤ 81
theorem zRm.fr {y : zMeth} {Ry : zRoom} (h : zRm y Ry R) : (zR Ry).frames + 1 ≤ (zR R).frames := by
  have := h.1
  show 20 + Ry.1 + 1 ≤ 20 + R.1
  omega
theorem zRm.lo {y : zMeth} {Ry : zRoom} (h : zRm y Ry R) : 8 + (y.2.2.1 + 11) + (zR Ry).locals ≤ (zR R).locals := by
  have h1 := h.1
  have h2 := h.2
  show 8 + (y.2.2.1 + 11) + (400 + 100 * Ry.1) ≤ 400 + 100 * R.1
  omega
theorem zArity.len {y : MethodName} {k : Nat} (h : zArity y k) : ∀ sig, parseMethodDescriptor y.desc = some sig → k = sig.parameters.length := by
  intro sig hs
  have h2 := h.2.2
  rw [hs] at h2
  exact (Option.some.inj h2).symm
theorem zws {y : zMeth} {U : State} {H : Heap} (hG : zG σ U H) (h : zin (zcode y)) : ∀ w ∈ [zcode y], ∀ (a' : Array Value) (U' : State), U.WarmedH U'.vm → w.before a' U' = true := by
  intro w hw a' U' hW
  rw [List.mem_singleton.mp hw]
  exact zkeep_warm (A := #[]) (List.mem_filter.mp h).2 hW (hG.1 _ h #[])
/-- the callee's start -/
theorem zpre {p : Program} {l : Launch} {s : State} {m : MethodId} {meth : Method} {c : Code} {κ : zKp} (Z : zX p l s m meth c μ σ κ) {H : Heap} {locs : List Loc} (hM : zW σ κ M H) (hS : va_S (zA σ) s.heap H locs) (av : List Value) : ∀ U : State, U.heap = H → s.WarmedH U.vm → va_Pc av (zB σ κ M) av.toArray U := by
  intro U hU hW
  refine ⟨rfl, ?_, by rw [hU]; exact hM, va_K.moved hW.alike Z.K, by rw [hU]; exact (Z.GH hS).warm hW⟩
  rw [hU]
  exact Nat.le_trans Z.sz hS.1
/-- the receiver -/
theorem zrecv {p : Program} {l : Launch} {s : State} {m : MethodId} {meth : Method} {c : Code} {κ : zKp} (Z : zX p l s m meth c μ σ κ) {H : Heap} (hM : zW σ κ M H) {b ci : Nat} {fs : List Value} {C : String} (hb : M b = some (.inr (ci, fs))) (hc : (vwCl[ci]?).map (fun r => r.1) = some C) : ∃ cell : Cell, H[b]? = some cell ∧ cell.vm.isStatics = false ∧ s.vm.findClass C = some cell.cls := by
  cases hr : vwCl[ci]? with
  | none => rw [hr] at hc; cases hc
  | some r =>
    rw [hr] at hc
    cases hc
    exact va_recv Z.K (hM.get hb).1 hr (q0 := 0) rfl
theorem zv_callV {y : zMeth} {Ry : zRoom} {Qy : zO → zM → Prop} {As rest st : List Value} {idx k kc' ks' : Nat} {b ci : Nat} {fs : List Value} (hd : decode μ.2.1 pc = .ok (.invokevirtual idx, 3)) (hn : pc + 3 = n) (hC : zCon y Ry σ (.ref b :: As) M Qy) (hh : y.2.2.2.2 = []) (hK : zKV y k) (hlk : zin (.methodLink μ.1.cls idx y.1)) (hb : M b = some (.inr (ci, fs))) (hc : (vwCl[ci]?).map (fun r => r.1) = some y.1.cls) (hst : As.reverse ++ .ref b :: rest = st) (hlen : As.length = k) (hr : zRm y Ry R) (hW : (rest.map fun v => v.category).sum ≤ 8) (h1 : kc + Ry.2.1 = kc') (h2 : ks + Ry.2.2 = ks') (hk : kc' ≤ R.2.1) (hs : ks' ≤ R.2.2)
    (kr : ∀ (v : Option Value) (M' : zM), Qy (.inl v) M' → zV μ R σ Q M' kc' ks' n lv (v.toList ++ rest)) (kx : ∀ (E : String) (M' : zM), Qy (.inr E) M' → zVX μ R σ Q M' kc' ks' pc lv E) : zV μ R σ Q M kc ks pc lv (st) := by
  subst hn; subst hst
  intro p l e s m args below meth c κ Z H locs ls hM hS hl
  have hcode : zin (.code y.1 y.2.1 y.2.2.1 y.2.2.2.1) := by
    have h0 := hK.2.2.2.1
    unfold zcode at h0
    rw [hh] at h0
    exact h0
  have hC := hC l Z.tr κ
  have hws := zws Z.G hK.2.2.2.1
  have hmem : Cond.code y.1 y.2.1 y.2.2.1 y.2.2.2.1 ∈ [zcode y] := by
    unfold zcode
    rw [hh]
    exact List.mem_cons_self
  have hf : kc + Ry.2.1 ≤ (zR R).cells ∧ ks + Ry.2.2 ≤ (zR R).slots := ⟨by rw [h1]; exact hk, by rw [h2]; exact hs⟩
  have hmon : 2 * (F0 m pc ls (As.reverse ++ .ref b :: rest)).monitorRoom + (rest.map fun v => v.category).sum ≤ 8 := by
    show 2 * 0 + _ ≤ 8
    omega
  exact zcall Z hS hl (vx_runV (n := k) (C := y.1.cls) (As := As) (rest := rest) (Ts := zwords) ⟨Z.1, Z.2.1, Z.2.2.1, Z.own, (fun w hw => Z.w hw args)⟩ hC ⟨⟨rfl, rfl, hr.fr, hr.lo, hws, hmem, Z.w hcode _, Z.w hK.2.2.2.2 _, ⟨hK.1.1, hK.1.2.1⟩, hK.1.len, Z.w hlk _⟩, Z.w hK.2.1 _, Z.w hK.2.2.1 _⟩ ⟨zB.blind, zrecv Z hM hb hc, zpre Z hM hS _⟩ rfl hlen hl.1 rfl hmon hd hf) h1 h2 kr kx
theorem zv_callVN {y : zMeth} {Ry : zRoom} {Qy : zO → zM → Prop} {As rest st : List Value} {idx k kc' ks' : Nat} {b ci : Nat} {fs : List Value} {host : String} (hd : decode μ.2.1 pc = .ok (.invokevirtual idx, 3)) (hn : pc + 3 = n) (hC : zCon y Ry σ (.ref b :: As) M Qy) (hh : y.2.2.2.2 = []) (hK : zKV y k) (hlk : zin (.methodLinkNest μ.1.cls idx y.1 host)) (hb : M b = some (.inr (ci, fs))) (hc : (vwCl[ci]?).map (fun r => r.1) = some y.1.cls) (hst : As.reverse ++ .ref b :: rest = st) (hlen : As.length = k) (hr : zRm y Ry R) (hW : (rest.map fun v => v.category).sum ≤ 8) (h1 : kc + Ry.2.1 = kc') (h2 : ks + Ry.2.2 = ks') (hk : kc' ≤ R.2.1) (hs : ks' ≤ R.2.2)
    (kr : ∀ (v : Option Value) (M' : zM), Qy (.inl v) M' → zV μ R σ Q M' kc' ks' n lv (v.toList ++ rest)) (kx : ∀ (E : String) (M' : zM), Qy (.inr E) M' → zVX μ R σ Q M' kc' ks' pc lv E) : zV μ R σ Q M kc ks pc lv (st) := by
  subst hn; subst hst
  intro p l e s m args below meth c κ Z H locs ls hM hS hl
  have hcode : zin (.code y.1 y.2.1 y.2.2.1 y.2.2.2.1) := by
    have h0 := hK.2.2.2.1
    unfold zcode at h0
    rw [hh] at h0
    exact h0
  have hC := hC l Z.tr κ
  have hws := zws Z.G hK.2.2.2.1
  have hmem : Cond.code y.1 y.2.1 y.2.2.1 y.2.2.2.1 ∈ [zcode y] := by
    unfold zcode
    rw [hh]
    exact List.mem_cons_self
  have hf : kc + Ry.2.1 ≤ (zR R).cells ∧ ks + Ry.2.2 ≤ (zR R).slots := ⟨by rw [h1]; exact hk, by rw [h2]; exact hs⟩
  have hmon : 2 * (F0 m pc ls (As.reverse ++ .ref b :: rest)).monitorRoom + (rest.map fun v => v.category).sum ≤ 8 := by
    show 2 * 0 + _ ≤ 8
    omega
  exact zcall Z hS hl (vx_runVN (n := k) (C := y.1.cls) (As := As) (rest := rest) (Ts := zwords) ⟨Z.1, Z.2.1, Z.2.2.1, Z.own, (fun w hw => Z.w hw args)⟩ hC ⟨⟨⟨rfl, rfl, hr.fr, hr.lo, hws, hmem⟩, Z.w hcode _, Z.w hK.2.2.2.2 _, ⟨hK.1.1, hK.1.2.1⟩, hK.1.len, Z.w hlk _⟩, Z.w hK.2.1 _, Z.w hK.2.2.1 _⟩ ⟨zB.blind, zrecv Z hM hb hc, zpre Z hM hS _⟩ rfl hlen hl.1 rfl hmon hd hf) h1 h2 kr kx
theorem zv_callS {y : zMeth} {Ry : zRoom} {Qy : zO → zM → Prop} {As rest st : List Value} {idx k kc' ks' : Nat} (hd : decode μ.2.1 pc = .ok (.invokestatic idx, 3)) (hn : pc + 3 = n) (hC : zCon y Ry σ As M Qy) (hh : y.2.2.2.2 = []) (hK : zKS y k) (hlk : zin (.methodLink μ.1.cls idx y.1)) (hst : As.reverse ++ rest = st) (hlen : As.length = k) (hr : zRm y Ry R) (hW : (rest.map fun v => v.category).sum ≤ 8) (h1 : kc + Ry.2.1 = kc') (h2 : ks + Ry.2.2 = ks') (hk : kc' ≤ R.2.1) (hs : ks' ≤ R.2.2)
    (kr : ∀ (v : Option Value) (M' : zM), Qy (.inl v) M' → zV μ R σ Q M' kc' ks' n lv (v.toList ++ rest)) (kx : ∀ (E : String) (M' : zM), Qy (.inr E) M' → zVX μ R σ Q M' kc' ks' pc lv E) : zV μ R σ Q M kc ks pc lv (st) := by
  subst hn; subst hst
  intro p l e s m args below meth c κ Z H locs ls hM hS hl
  have hcode : zin (.code y.1 y.2.1 y.2.2.1 y.2.2.2.1) := by
    have h0 := hK.2.2.1
    unfold zcode at h0
    rw [hh] at h0
    exact h0
  have hC := hC l Z.tr κ
  have hws := zws Z.G hK.2.2.1
  have hmem : Cond.code y.1 y.2.1 y.2.2.1 y.2.2.2.1 ∈ [zcode y] := by
    unfold zcode
    rw [hh]
    exact List.mem_cons_self
  have hf : kc + Ry.2.1 ≤ (zR R).cells ∧ ks + Ry.2.2 ≤ (zR R).slots := ⟨by rw [h1]; exact hk, by rw [h2]; exact hs⟩
  have hmon : 2 * (F0 m pc ls (As.reverse ++ rest)).monitorRoom + (rest.map fun v => v.category).sum ≤ 8 := by
    show 2 * 0 + _ ≤ 8
    omega
  exact zcall Z hS hl (vx_runS (n := k) (As := As) (rest := rest) (Ts := zwords) ⟨Z.1, Z.2.1, Z.2.2.1, Z.own, (fun w hw => Z.w hw args)⟩ hC ⟨⟨rfl, rfl, hr.fr, hr.lo, hws, hmem, Z.w hcode _, Z.w hK.2.2.2 _, ⟨hK.1.1, hK.1.2.1⟩, hK.1.len, Z.w hlk _⟩, Z.w hK.2.1 _⟩ ⟨zB.blind, zpre Z hM hS _⟩ rfl hlen hl.1 rfl hmon hd hf) h1 h2 kr kx
theorem zv_callSN {y : zMeth} {Ry : zRoom} {Qy : zO → zM → Prop} {As rest st : List Value} {idx k kc' ks' : Nat} {host : String} (hd : decode μ.2.1 pc = .ok (.invokestatic idx, 3)) (hn : pc + 3 = n) (hC : zCon y Ry σ As M Qy) (hh : y.2.2.2.2 = []) (hK : zKS y k) (hlk : zin (.methodLinkNest μ.1.cls idx y.1 host)) (hst : As.reverse ++ rest = st) (hlen : As.length = k) (hr : zRm y Ry R) (hW : (rest.map fun v => v.category).sum ≤ 8) (h1 : kc + Ry.2.1 = kc') (h2 : ks + Ry.2.2 = ks') (hk : kc' ≤ R.2.1) (hs : ks' ≤ R.2.2)
    (kr : ∀ (v : Option Value) (M' : zM), Qy (.inl v) M' → zV μ R σ Q M' kc' ks' n lv (v.toList ++ rest)) (kx : ∀ (E : String) (M' : zM), Qy (.inr E) M' → zVX μ R σ Q M' kc' ks' pc lv E) : zV μ R σ Q M kc ks pc lv (st) := by
  subst hn; subst hst
  intro p l e s m args below meth c κ Z H locs ls hM hS hl
  have hcode : zin (.code y.1 y.2.1 y.2.2.1 y.2.2.2.1) := by
    have h0 := hK.2.2.1
    unfold zcode at h0
    rw [hh] at h0
    exact h0
  have hC := hC l Z.tr κ
  have hws := zws Z.G hK.2.2.1
  have hmem : Cond.code y.1 y.2.1 y.2.2.1 y.2.2.2.1 ∈ [zcode y] := by
    unfold zcode
    rw [hh]
    exact List.mem_cons_self
  have hf : kc + Ry.2.1 ≤ (zR R).cells ∧ ks + Ry.2.2 ≤ (zR R).slots := ⟨by rw [h1]; exact hk, by rw [h2]; exact hs⟩
  have hmon : 2 * (F0 m pc ls (As.reverse ++ rest)).monitorRoom + (rest.map fun v => v.category).sum ≤ 8 := by
    show 2 * 0 + _ ≤ 8
    omega
  exact zcall Z hS hl (vx_runSN (n := k) (As := As) (rest := rest) (Ts := zwords) ⟨Z.1, Z.2.1, Z.2.2.1, Z.own, (fun w hw => Z.w hw args)⟩ hC ⟨⟨⟨rfl, rfl, hr.fr, hr.lo, hws, hmem⟩, Z.w hcode _, Z.w hK.2.2.2 _, ⟨hK.1.1, hK.1.2.1⟩, hK.1.len, Z.w hlk _⟩, Z.w hK.2.1 _, trivial⟩ ⟨zB.blind, zpre Z hM hS _⟩ rfl hlen hl.1 rfl hmon hd hf) h1 h2 kr kx
theorem zv_callI {y : zMeth} {Ry : zRoom} {Qy : zO → zM → Prop} {As rest st : List Value} {idx k kc' ks' : Nat} {b : Nat} (hd : decode μ.2.1 pc = .ok (.invokespecial idx, 3)) (hn : pc + 3 = n) (hC : zCon y Ry σ (.ref b :: As) M Qy) (hh : y.2.2.2.2 = []) (hret : y.2.2.2.1 = none) (hK : zKI y k) (hlk : zin (.methodLink μ.1.cls idx y.1)) (hst : As.reverse ++ .ref b :: rest = st) (hlen : As.length = k) (hr : zRm y Ry R) (hW : (rest.map fun v => v.category).sum ≤ 8) (h1 : kc + Ry.2.1 = kc') (h2 : ks + Ry.2.2 = ks') (hk : kc' ≤ R.2.1) (hs : ks' ≤ R.2.2)
    (kr : ∀ (v : Option Value) (M' : zM), Qy (.inl v) M' → zV μ R σ Q M' kc' ks' n lv (v.toList ++ rest)) (kx : ∀ (E : String) (M' : zM), Qy (.inr E) M' → zVX μ R σ Q M' kc' ks' pc lv E) : zV μ R σ Q M kc ks pc lv (st) := by
  subst hn; subst hst
  intro p l e s m args below meth c κ Z H locs ls hM hS hl
  have hcode : zin (.code y.1 y.2.1 y.2.2.1 y.2.2.2.1) := by
    have h0 := hK.2.2.1
    unfold zcode at h0
    rw [hh] at h0
    exact h0
  have hC := hC l Z.tr κ
  have hws := zws Z.G hK.2.2.1
  have hmem : Cond.code y.1 y.2.1 y.2.2.1 y.2.2.2.1 ∈ [zcode y] := by
    unfold zcode
    rw [hh]
    exact List.mem_cons_self
  have hf : kc + Ry.2.1 ≤ (zR R).cells ∧ ks + Ry.2.2 ≤ (zR R).slots := ⟨by rw [h1]; exact hk, by rw [h2]; exact hs⟩
  have hmon : 2 * (F0 m pc ls (As.reverse ++ .ref b :: rest)).monitorRoom + (rest.map fun v => v.category).sum ≤ 8 := by
    show 2 * 0 + _ ≤ 8
    omega
  rw [hret] at hcode hmem
  exact zcall Z hS hl (vx_runI (n := k) (b := b) (As := As) (rest := rest) (Ts := zwords) ⟨Z.1, Z.2.1, Z.2.2.1, Z.own, (fun w hw => Z.w hw args)⟩ hC ⟨⟨rfl, rfl, hr.fr, hr.lo, hws, hmem, Z.w hcode _, Z.w hK.2.2.2.1 _, ⟨hK.1.1, hK.1.2.1⟩, hK.1.len, Z.w hlk _⟩, hK.2.2.2.2, Z.w hK.2.1 _⟩ ⟨zB.blind, zpre Z hM hS _⟩ rfl hlen hl.1 rfl hmon hd hf) h1 h2 kr kx
theorem zv_callIN {y : zMeth} {Ry : zRoom} {Qy : zO → zM → Prop} {As rest st : List Value} {idx k kc' ks' : Nat} {b : Nat} {host : String} (hd : decode μ.2.1 pc = .ok (.invokespecial idx, 3)) (hn : pc + 3 = n) (hC : zCon y Ry σ (.ref b :: As) M Qy) (hh : y.2.2.2.2 = []) (hret : y.2.2.2.1 = none) (hK : zKI y k) (hlk : zin (.methodLinkNest μ.1.cls idx y.1 host)) (hst : As.reverse ++ .ref b :: rest = st) (hlen : As.length = k) (hr : zRm y Ry R) (hW : (rest.map fun v => v.category).sum ≤ 8) (h1 : kc + Ry.2.1 = kc') (h2 : ks + Ry.2.2 = ks') (hk : kc' ≤ R.2.1) (hs : ks' ≤ R.2.2)
    (kr : ∀ (v : Option Value) (M' : zM), Qy (.inl v) M' → zV μ R σ Q M' kc' ks' n lv (v.toList ++ rest)) (kx : ∀ (E : String) (M' : zM), Qy (.inr E) M' → zVX μ R σ Q M' kc' ks' pc lv E) : zV μ R σ Q M kc ks pc lv (st) := by
  subst hn; subst hst
  intro p l e s m args below meth c κ Z H locs ls hM hS hl
  have hcode : zin (.code y.1 y.2.1 y.2.2.1 y.2.2.2.1) := by
    have h0 := hK.2.2.1
    unfold zcode at h0
    rw [hh] at h0
    exact h0
  have hC := hC l Z.tr κ
  have hws := zws Z.G hK.2.2.1
  have hmem : Cond.code y.1 y.2.1 y.2.2.1 y.2.2.2.1 ∈ [zcode y] := by
    unfold zcode
    rw [hh]
    exact List.mem_cons_self
  have hf : kc + Ry.2.1 ≤ (zR R).cells ∧ ks + Ry.2.2 ≤ (zR R).slots := ⟨by rw [h1]; exact hk, by rw [h2]; exact hs⟩
  have hmon : 2 * (F0 m pc ls (As.reverse ++ .ref b :: rest)).monitorRoom + (rest.map fun v => v.category).sum ≤ 8 := by
    show 2 * 0 + _ ≤ 8
    omega
  rw [hret] at hcode hmem
  exact zcall Z hS hl (vx_runIN (n := k) (b := b) (As := As) (rest := rest) (Ts := zwords) ⟨Z.1, Z.2.1, Z.2.2.1, Z.own, (fun w hw => Z.w hw args)⟩ hC ⟨⟨⟨rfl, rfl, hr.fr, hr.lo, hws, hmem⟩, Z.w hcode _, Z.w hK.2.2.2.1 _, ⟨hK.1.1, hK.1.2.1⟩, hK.1.len, Z.w hlk _⟩, hK.2.2.2.2, Z.w hK.2.1 _⟩ ⟨zB.blind, zpre Z hM hS _⟩ rfl hlen hl.1 rfl hmon hd hf) h1 h2 kr kx
theorem zv_callSX {y : zMeth} {Ry : zRoom} {Qy : zO → zM → Prop} {As rest st : List Value} {idx k kc' ks' : Nat} {h0 : Nat × Nat × Nat × Nat} {ht : List (Nat × Nat × Nat × Nat)} (hd : decode μ.2.1 pc = .ok (.invokestatic idx, 3)) (hn : pc + 3 = n) (hC : zCon y Ry σ As M Qy) (hh : y.2.2.2.2 = h0 :: ht) (hK : zKS y k) (hlk : zin (.methodLink μ.1.cls idx y.1)) (hst : As.reverse ++ rest = st) (hlen : As.length = k) (hr : zRm y Ry R) (hW : (rest.map fun v => v.category).sum ≤ 8) (h1 : kc + Ry.2.1 = kc') (h2 : ks + Ry.2.2 = ks') (hk : kc' ≤ R.2.1) (hs : ks' ≤ R.2.2)
    (kr : ∀ (v : Option Value) (M' : zM), Qy (.inl v) M' → zV μ R σ Q M' kc' ks' n lv (v.toList ++ rest)) (kx : ∀ (E : String) (M' : zM), Qy (.inr E) M' → zVX μ R σ Q M' kc' ks' pc lv E) : zV μ R σ Q M kc ks pc lv (st) := by
  subst hn; subst hst
  intro p l e s m args below meth c κ Z H locs ls hM hS hl
  have hcode : zin (.codeWith y.1 y.2.1 y.2.2.1 y.2.2.2.1 (h0 :: ht)) := by
    have h0 := hK.2.2.1
    unfold zcode at h0
    rw [hh] at h0
    exact h0
  have hC := hC l Z.tr κ
  have hws := zws Z.G hK.2.2.1
  have hmem : Cond.codeWith y.1 y.2.1 y.2.2.1 y.2.2.2.1 (h0 :: ht) ∈ [zcode y] := by
    unfold zcode
    rw [hh]
    exact List.mem_cons_self
  have hf : kc + Ry.2.1 ≤ (zR R).cells ∧ ks + Ry.2.2 ≤ (zR R).slots := ⟨by rw [h1]; exact hk, by rw [h2]; exact hs⟩
  have hmon : 2 * (F0 m pc ls (As.reverse ++ rest)).monitorRoom + (rest.map fun v => v.category).sum ≤ 8 := by
    show 2 * 0 + _ ≤ 8
    omega
  exact zcall Z hS hl (vx_runSX (n := k) (As := As) (rest := rest) (Ts := zwords) ⟨Z.1, Z.2.1, Z.2.2.1, Z.own, (fun w hw => Z.w hw args)⟩ hC ⟨⟨rfl, rfl, hr.fr, hr.lo, hws, hmem⟩, Z.w hcode _, Z.w hK.2.2.2 _, ⟨hK.1.1, hK.1.2.1⟩, hK.1.len, Z.w hlk _, Z.w hK.2.1 _⟩ ⟨zB.blind, zpre Z hM hS _⟩ rfl hlen hl.1 rfl hmon hd hf) h1 h2 kr kx
/-- THROWS: 'throw new E("text")', not caught here -/
theorem zv_throwS {cls : String} {names : List String} {ik is ic j : Nat} {q : String × Nat × String} (hcls : Bundle.fit cls = true) (hnames : ∀ x ∈ names, Bundle.fit x = true) (hk : zin (.classLink μ.1.cls ik cls)) (hini : zin (.initialized cls)) (hj : zStr[j]? = some q) (hj1 : q.1 = μ.1.cls) (hj2 : q.2.1 = is) (hat : ∀ w ∈ vx_atS μ.1.cls ic cls names, zin w) (hgood : ∀ w ∈ Cond.classLink μ.1.cls ik cls :: Cond.initialized cls :: vx_atS μ.1.cls ic cls names, vx_ot w = true)
    (d0 : decode μ.2.1 pc = .ok (.new ik, 3)) (d3 : decode μ.2.1 (pc + 3) = .ok (.dup, 1)) (d4 : decode μ.2.1 (pc + 4) = .ok (.ldc is, 2)) (d6 : decode μ.2.1 (pc + 6) = .ok (.invokespecial ic, 3)) (d9 : decode μ.2.1 (pc + 9) = .ok (.athrow, 1)) (hh : μ.2.2.2.2 = [])
    (hfr : names.length ≤ 10) (hW : (rest.map fun v => v.category).sum ≤ 100) (h1 : kc + 1 ≤ R.2.1) (h2 : ks + 6 ≤ R.2.2) (hQ : Q (.inr cls) M) : zV μ R σ Q M kc ks pc lv (rest) := by
  intro p l e s m args below meth c κ Z H locs ls hM hS hl
  subst hj2
  have hstr := Z.G.2.2.2.2.1 j q hj
  rw [hj1] at hstr
  have ht : ∀ x ∈ c.exceptionTable.toList, covers x (pc + 9) = false := by
    rw [Z.tab, hh]
    intro x hx
    cases hx
  refine vx_throwS (R := zR R) Z.1 Z.2.1 Z.tr Z.own hcls hnames (Z.w hk _) (Z.w hini _) hstr (fun w hw => Z.w (hat w hw) _) hgood Z.G.2.1 Z.G.2.2.1 hS (hl.1.trans Z.2.2.1.symm) d0 d3 d4 d6 d9 ht (by show names.length + 3 < 20 + R.1; omega) (by show _ + (13 * (names.length + 1) + 43) ≤ 400 + 100 * R.1; omega) (by show kc + 1 ≤ R.2.1; omega) (by show ks + 6 ≤ R.2.2; omega) Z.locks (fun t hv hz hq => ⟨⟨M, hQ, ?_⟩, ?_, ?_⟩) hS.2.2 h1 h2
  · obtain ⟨L, f, hP, hD, hMM⟩ := hM
    exact ⟨L, f, hP.kept (fun k x hx => hq _ (hP k x hx).lt), hD, hMM⟩
  · exact Nat.le_trans hS.1 hz
  · intro x hx hA
    rw [hq x (Nat.lt_of_lt_of_le hx hS.1)]
    exact hS.2.1 x hx hA
theorem zv_throwSW {cls : String} {names : List String} {ik is ic j : Nat} {q : String × Nat × String} (hcls : Bundle.fit cls = true) (hnames : ∀ x ∈ names, Bundle.fit x = true) (hk : zin (.classLink μ.1.cls ik cls)) (hini : zin (.initialized cls)) (hj : zStr[j]? = some q) (hj1 : q.1 = μ.1.cls) (hj2 : q.2.1 = is) (hat : ∀ w ∈ vx_atS μ.1.cls ic cls names, zin w) (hgood : ∀ w ∈ Cond.classLink μ.1.cls ik cls :: Cond.initialized cls :: vx_atS μ.1.cls ic cls names, vx_ot w = true)
    (d0 : decode μ.2.1 pc = .ok (.new ik, 3)) (d3 : decode μ.2.1 (pc + 3) = .ok (.dup, 1)) (d4 : decode μ.2.1 (pc + 4) = .ok (.ldc_w is, 3)) (d7 : decode μ.2.1 (pc + 7) = .ok (.invokespecial ic, 3)) (d10 : decode μ.2.1 (pc + 10) = .ok (.athrow, 1)) (hh : μ.2.2.2.2 = [])
    (hfr : names.length ≤ 10) (hW : (rest.map fun v => v.category).sum ≤ 100) (h1 : kc + 1 ≤ R.2.1) (h2 : ks + 6 ≤ R.2.2) (hQ : Q (.inr cls) M) : zV μ R σ Q M kc ks pc lv (rest) := by
  intro p l e s m args below meth c κ Z H locs ls hM hS hl
  subst hj2
  have hstr := Z.G.2.2.2.2.1 j q hj
  rw [hj1] at hstr
  have ht : ∀ x ∈ c.exceptionTable.toList, covers x (pc + 10) = false := by
    rw [Z.tab, hh]
    intro x hx
    cases hx
  refine vx_throwSW (R := zR R) Z.1 Z.2.1 Z.tr Z.own hcls hnames (Z.w hk _) (Z.w hini _) hstr (fun w hw => Z.w (hat w hw) _) hgood Z.G.2.1 Z.G.2.2.1 hS (hl.1.trans Z.2.2.1.symm) d0 d3 d4 d7 d10 ht (by show names.length + 3 < 20 + R.1; omega) (by show _ + (13 * (names.length + 1) + 43) ≤ 400 + 100 * R.1; omega) (by show kc + 1 ≤ R.2.1; omega) (by show ks + 6 ≤ R.2.2; omega) Z.locks (fun t hv hz hq => ⟨⟨M, hQ, ?_⟩, ?_, ?_⟩) hS.2.2 h1 h2
  · obtain ⟨L, f, hP, hD, hMM⟩ := hM
    exact ⟨L, f, hP.kept (fun k x hx => hq _ (hP k x hx).lt), hD, hMM⟩
  · exact Nat.le_trans hS.1 hz
  · intro x hx hA
    rw [hq x (Nat.lt_of_lt_of_le hx hS.1)]
    exact hS.2.1 x hx hA
/-- thrown on to the caller -/
theorem zvx_out {E : String} (hh : μ.2.2.2.2 = []) (h1 : kc ≤ R.2.1) (h2 : ks ≤ R.2.2) (hQ : Q (.inr E) M) : zVX μ R σ Q M kc ks pc lv E := by
  intro p l e s m args below meth c κ Z H locs ls q ce st hM hS hl hce hcv hcl
  refine vx_out (R := zR R) ?_ Z.locks hce hcv hcl (fun t ht hv => ⟨⟨M, hQ, by rw [ht]; exact hM⟩, hS.F ht⟩) hS.2.2 h1 h2
  rw [Z.tab, hh]
  intro x hx
  cases hx
/-- caught by the handler number i of this method's table -/
theorem zvx_catch {E nm : String} {st0 en hp ct : Nat} (pre suf : List (Nat × Nat × Nat × Nat)) (hh : μ.2.2.2.2 = pre ++ (st0, en, hp, ct) :: suf) (hpass : ∀ z ∈ pre, (z.2.2.2 ≠ 0 ∧ ∃ nm : String, zin (.classLink μ.1.cls z.2.2.2 nm) ∧ (E, nm) ∈ zNc)) (hcov : st0 ≤ pc ∧ pc < en) (hct : ct ≠ 0) (hlk : zin (.classLink μ.1.cls ct nm)) (hca : zin (.castable E nm)) (h1 : kc ≤ R.2.1) (h2 : ks ≤ R.2.2)
    (kk : ∀ q : Nat, zV μ R σ Q M kc ks hp lv [.ref q]) : zVX μ R σ Q M kc ks pc lv E := by
  intro p l e s m args below meth c κ Z H locs ls q ce st hM hS hl hce hcv hcl
  have hcv9 : covers (⟨st0, en, hp, ct⟩ : ExceptionTableEntry) pc = true := by
    unfold covers
    simp [hcov.1, hcov.2]
  refine vx_catch (own := μ.1.cls) (name := nm) Z.own (tableOf pre) ⟨st0, en, hp, ct⟩ (tableOf suf) ?_ (fun z hz => ?_) hcv9 hct (Z.w hlk _) (Z.w hca _) hce hcv hcl (kk q p l e s m args below meth c κ Z H locs ls hM hS hl)
  · rw [Z.tab, hh]
    simp [tableOf]
  · obtain ⟨y, hy, rfl⟩ := List.mem_map.mp hz
    obtain ⟨g1, nm9, g2, g3⟩ := hpass y hy
    exact Or.inr ⟨g1, nm9, Z.w g2 _, Z.G.2.2.2.1 _ g3⟩
/-- vx_ofW and vx_ofWH (which these two follow), for a method that no native row runs instead -/
theorem zofW {l : Launch} {y : MethodName} {ws ws' : List Cond} {rm : Room} {Pc : Array Value → State → Prop} {Qc : Array Value → State → Outcome → State → Prop} {XC : String → State → State → Prop} {mc ms : Nat} {free : Addr → Prop} {cc : ByteArray} {maxL : Nat} {ret : Option FieldType}
    (hy : plainFor y = true) (hw : ws = Cond.code y cc maxL ret :: ws')
    (body : ∀ p e s m args below meth c s₁, BodyLoose p l y (headSpec ws rm) cc maxL ret e s m args below meth c s₁ → c.maxLocals = maxL → (∀ x ∈ c.exceptionTable.toList, False) → Pc args s →
      W p l e (headSpec ws rm).room s m args below meth c s.heap [] 0 0 (vx_MQ below Qc XC args s mc ms free) (entryFrame m args maxL)) : vx_Met l y ws rm Pc Qc XC mc ms free := by
  refine MetFree.of_bodySF (code := cc) (maxLocals := maxL) (ret := ret) hy ?_ ?_
  · intro args s m h hn
    obtain ⟨meth, c, h1, h2, h3, h4, h5, h6, -, -⟩ := Cond.code_spec hn (atoms_spec (ws := ws) h _ (by rw [hw]; exact List.mem_cons_self))
    exact ⟨meth, c, h1, h2, h3, h4, h5, h6⟩
  · intro p e s m args below meth c s₁ B hml hP _
    have hh0 : s₁.heap = s.heap := by rw [B.state]; rfl
    have ht : ∀ x ∈ c.exceptionTable.toList, False := by
      obtain ⟨meth9, c9, h1, h2, -, -, -, -, h7, -⟩ := Cond.code_spec B.named (atoms_spec (ws := ws) B.pre _ (by rw [hw]; exact List.mem_cons_self))
      cases Option.some.inj (h1.symm.trans B.method)
      cases Option.some.inj (h2.symm.trans (Stand.of_body B).code)
      intro x hx
      rw [Array.isEmpty_iff.mp h7] at hx
      cases hx
    obtain ⟨t, a1, o, b1, b2, b3⟩ := body p e s m args below meth c s₁ B hml ht hP s₁ hh0 (Stand.of_body B)
    exact ⟨t, o, a1, b1, b2, b3⟩
/-- A CONTRACT out of a walk of the body -/
theorem zCon.of {av : List Value} (hy : plainFor μ.1 = true) (hh : μ.2.2.2.2 = []) (hL : (lg_sl av).length ≤ μ.2.2.1) (body : zV μ R σ Q M 0 0 0 (lv_args 0 av) []) : zCon μ R σ av M Q := by
  intro l hl κ
  have hz : zcode μ = .code μ.1 μ.2.1 μ.2.2.1 μ.2.2.2.1 := by
    unfold zcode
    rw [hh]
  refine zofW (cc := μ.2.1) (maxL := μ.2.2.1) (ret := μ.2.2.2.1) hy (by rw [hz]) ?_
  intro p e s m args below meth c s₁ B hml ht hv
  obtain ⟨rfl, hsz, hM, hK, hG⟩ := hv
  have hlv := lv_entry av hL
  rw [lg_entry_eq]
  exact body p l e s m _ below meth c κ ⟨B.exec, B.bytes, hml, findClass_of_methodNamed B.named, B.returns, (name_of_methodNamed B.named B.method).1, B.notSynchronized, by
    rw [hh]
    show c.exceptionTable.toList = []
    exact List.eq_nil_iff_forall_not_mem.mpr (fun x hx => ht x hx), hl, hK, hG, hsz⟩ s.heap [] _ hM va_S.rf hlv
theorem zCon.ofH {av : List Value} {h0 : Nat × Nat × Nat × Nat} {ht : List (Nat × Nat × Nat × Nat)} (hy : plainName μ.1.cls = true) (hh : μ.2.2.2.2 = h0 :: ht) (hL : (lg_sl av).length ≤ μ.2.2.1) (body : zV μ R σ Q M 0 0 0 (lv_args 0 av) []) : zCon μ R σ av M Q := by
  intro l hl κ
  have hz : zcode μ = .codeWith μ.1 μ.2.1 μ.2.2.1 μ.2.2.2.1 (h0 :: ht) := by
    unfold zcode
    rw [hh]
  refine vx_ofWH (cc := μ.2.1) (maxL := μ.2.2.1) (ret := μ.2.2.2.1) (hh := h0 :: ht) hy (by rw [hz]) ?_
  intro p e s m args below meth c s₁ B hml hv
  obtain ⟨rfl, hsz, hM, hK, hG⟩ := hv
  have hlv := lv_entry av hL
  rw [lg_entry_eq]
  have hcode := atoms_spec (ws := [zcode μ]) B.pre _ (by rw [hz]; exact List.mem_cons_self)
  exact body p l e s m _ below meth c κ ⟨B.exec, B.bytes, hml, findClass_of_methodNamed B.named, B.returns, (name_of_methodNamed B.named B.method).1, B.notSynchronized, by
    rw [hh]
    exact vx_table (x := μ.1) B hcode, hl, hK, hG, hsz⟩ s.heap [] _ hM va_S.rf hlv
/-- less asked of the end -/
theorem zCon.post {av : List Value} {Q' : zO → zM → Prop} (h : zCon μ R σ av M Q) (hq : ∀ o M', Q o M' → Q' o M') : zCon μ R σ av M Q' := by
  intro l hl κ p e ha hc hk s m args below hf happ hp hex
  obtain ⟨o, t, h1, h2, h3, h4⟩ := h l hl κ p e ha hc hk s m args below hf happ hp hex
  refine ⟨o, t, h1, h2, h3, ?_⟩
  rcases h4 with ⟨⟨⟨v, M', g1, g2, g3⟩, g4⟩, g5⟩ | ⟨q, g1, E, ce, L, ⟨⟨M', g2, g3⟩, g4⟩, g5⟩
  · exact Or.inl ⟨⟨⟨v, M', g1, hq _ _ g2, g3⟩, g4⟩, g5⟩
  · exact Or.inr ⟨q, g1, E, ce, L, ⟨⟨M', hq _ _ g2, g3⟩, g4⟩, g5⟩
end ZR2


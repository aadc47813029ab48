/-! Texts: a constant appended to a builder, the String that toString makes, its letters: laid by wip/p53/m51.py. -/
section
variable {μ : zMeth} {R : zRoom} {σ : zSg} {Q : zO → zM → Prop} {M : zM} {kc ks pc n : Nat} {lv : List (Nat × Value)} {rest : List Value}
theorem zv_ldcSW {i j : Nat} {q : String × Nat × String} (hd : decode μ.2.1 pc = .ok (.ldc_w i, 3)) (hn : pc + 3 = n) (hj : zStr[j]? = some q) (h1 : q.1 = μ.1.cls) (h2 : q.2.1 = i) (k : zV μ R σ Q M kc ks n lv (.ref (zK σ j) :: rest)) : zV μ R σ Q M kc ks pc lv (rest) := by
  subst hn
  subst h2
  intro p l e s m args below meth c κ Z H locs ls hM hS hl
  have hz := Z.G.2.2.2.2.1 j q hj
  rw [h1] at hz
  intro T hT X
  obtain ⟨t, a1, b1⟩ := k p l e s m args below meth c κ Z H locs ls hM hS hl T hT X
  exact ⟨t, X.ldcStringW Z.1 (own := μ.1.cls) (text := q.2.2) (index := q.2.1) (a := zK σ j) Z.own hz.1 hz.2 (g := F0 m pc ls rest) rfl (by rw [Z.2.1]; exact hd) t a1, b1⟩
theorem zv_copyk {b0 a n0 n1 idx : Nat} {f g : Nat → Int32} {sp dp x : Int32} (hd : decode μ.2.1 pc = .ok (.invokestatic idx, 3)) (hn : pc + 3 = n) (hlk : zin (.methodLink μ.1.cls idx arraycopyName)) (hT : ∀ (U : State) (H : Heap), zG σ U H → va_T .byte b0 n0 (fun j => .int (f j)) (zA σ) U H) (ha : M a = some (zAB n1 g)) (h1 : ¬ sp < 0) (h2 : ¬ dp < 0) (h3 : ¬ x < 0) (h4 : sp.toNatClampNeg + x.toNatClampNeg ≤ n0) (h5 : dp.toNatClampNeg + x.toNatClampNeg ≤ n1) (hf : ∀ i : Nat, i < x.toNatClampNeg → fits .byte (.int (f (sp.toNatClampNeg + i))) = true) (hW : (rest.map fun v => v.category).sum ≤ 8)
    (kk : zV μ R σ Q (zup M a (zAB n1 (va_cpy f g sp.toNatClampNeg dp.toNatClampNeg x.toNatClampNeg))) kc ks n lv rest) : zV μ R σ Q M kc ks pc lv (.int x :: .int dp :: .ref a :: .int sp :: .ref b0 :: rest) := by
  subst hn
  intro p l e s m args below meth c κ Z H locs ls hM hS hl
  obtain ⟨L, F, hP, hD, hMM⟩ := hM
  obtain ⟨g3, g4⟩ := hMM a _ ha
  obtain ⟨j1, hj1⟩ := va_pl_get (X := []) (f := F) g3
  rw [List.nil_append] at hj1
  rw [g4] at hj1
  have hw : nativeFrameWords "java/lang/System" "arraycopy" 5 + 11 ≤ 300 := by decide
  refine vk_copyt (ws := va_pl L F) Z.1 Z.2.1 (Z.2.2.1.trans hl.1.symm) Z.own (Z.w hlk _) (Z.w zac1 _) (Z.w zac2 _) (Z.w zac3 _) Z.K hP hD hS (hT s s.heap Z.G) j1 0 hj1 rfl h1 h2 h3 h4 h5 hf (by show 1 ≤ 20 + R.1; omega) (by show _ ≤ 400 + 100 * R.1; omega) hd (fun H1 locs1 hP1 hD1 hS1 => kk p l e s m args below meth c κ Z H1 locs1 ls ?_ hS1 hl)
  have es := va_pl_set (X := []) (e := zT κ (zAB n1 (va_cpy f g sp.toNatClampNeg dp.toNatClampNeg x.toNatClampNeg))) hD g3 (by rw [List.nil_append, g4]; exact hj1)
  simp only [List.nil_append] at es
  change va_P κ.1 vwCl ((va_pl L F).set j1 (a, zT κ (zAB n1 (va_cpy f g sp.toNatClampNeg dp.toNatClampNeg x.toNatClampNeg)))) H1 at hP1
  change va_D (zA σ) ((va_pl L F).set j1 (a, zT κ (zAB n1 (va_cpy f g sp.toNatClampNeg dp.toNatClampNeg x.toNatClampNeg)))) at hD1
  rw [es] at hP1 hD1
  exact zW_up hMM g3 hP1 hD1
/-- a byte array's clone -/
theorem zv_cloneB {a N idx kc' ks' : Nat} {f : Nat → Int32} (hd : decode μ.2.1 pc = .ok (.invokevirtual idx, 3)) (hn : pc + 3 = n) (hlk : zin (.methodLink μ.1.cls idx ⟨"[B", "clone", "()Ljava/lang/Object;"⟩)) (ha : M a = some (zAB N f)) (hf : sb_Fit f) (hk1 : kc + 1 = kc') (hs1 : ks + N = ks') (hk : kc' ≤ R.2.1) (hs : ks' ≤ R.2.2) (hW : (rest.map fun v => v.category).sum ≤ 8)
    (kk : ∀ q : Nat, M q = none → zV μ R σ Q (zup M q (zAB N f)) kc' ks' n lv (.ref q :: rest)) : zV μ R σ Q M kc ks pc lv (.ref a :: rest) := by
  subst hn; subst hk1; subst hs1
  intro p l e s m args below meth c κ Z H locs ls hM hS hl
  obtain ⟨L, F, hP, hD, hMM⟩ := hM
  obtain ⟨g3, g4⟩ := hMM a _ ha
  obtain ⟨j1, hj1⟩ := va_pl_get (X := []) (f := F) g3
  rw [List.nil_append] at hj1
  rw [g4] at hj1
  have hnm : s.vm.findClass "[B" = some (κ.2 0) := (Z.K.2 0 (κ.2 0, .byte) rfl).2
  refine va_clone (ws := va_pl L F) (ad := "[B") (x := (N, .inl f)) (ty := .byte) Z.1 Z.2.1 (Z.2.2.1.trans hl.1.symm) Z.own (Z.w hlk _) (Z.w (show zin (.sameMethod "[B" "java/lang/Object" "clone" "()Ljava/lang/Object;") from z_a4 9 rfl rfl) _) (Z.w (show zin (.native ⟨"java/lang/Object", "clone", "()Ljava/lang/Object;"⟩) from z_a4 10 rfl rfl) _) (Z.w (show zin (.instanceMethod ⟨"java/lang/Object", "clone", "()Ljava/lang/Object;"⟩) from z_a4 11 rfl rfl) _) (Z.w (show zin (.selects "[B" ⟨"[B", "clone", "()Ljava/lang/Object;"⟩ ⟨"java/lang/Object", "clone", "()Ljava/lang/Object;"⟩) from z_a4 12 rfl rfl) _) (va_Nw.of rfl (Z.w (show zin (.castable "[B" "java/lang/Cloneable") from z_a4 13 rfl rfl) args)) Z.K hP hD hS Z.A j1 0 hj1 rfl hnm (fun i v hv => ?_) (by show 1 ≤ 20 + R.1; omega) (by show _ ≤ 400 + 100 * R.1; omega) hk hs hd (fun q H1 hK1 hP1 hD1 hS1 => ?_)
  · have hi : i < N := by
      have h9 := (Array.getElem?_eq_some_iff.mp hv).1
      rw [show (vp_cell (κ.2 0) (N, .inl f)) = arrV (κ.2 0) N (fun j => .int (f j)) from rfl, arrV_size] at h9
      exact h9
    rw [show (vp_cell (κ.2 0) (N, .inl f)) = arrV (κ.2 0) N (fun j => .int (f j)) from rfl, arrV_read _ _ hi] at hv
    cases hv
    exact hf i
  · obtain ⟨q1, q2⟩ := zW_new (e := zAB N f) hMM hP1 hD1
    exact kk q q1 p l e s m args below meth c κ Z H1 locs ls q2 hS1 hl
theorem zv_castB {a N idx : Nat} {f : Nat → Int32} (hd : decode μ.2.1 pc = .ok (.checkcast idx, 3)) (hn : pc + 3 = n) (hlk : zin (.classLink μ.1.cls idx "[B")) (ha : M a = some (zAB N f)) (kk : zV μ R σ Q M kc ks n lv (.ref a :: rest)) : zV μ R σ Q M kc ks pc lv (.ref a :: rest) := by
  subst hn
  intro p l e s m args below meth c κ Z H locs ls hM hS hl
  have hnm : s.vm.findClass "[B" = some (κ.2 0) := (Z.K.2 0 (κ.2 0, .byte) rfl).2
  exact va_castA (ws := [(a, zT κ (zAB N f))]) Z.1 Z.2.1 Z.own (Z.w hlk _) (hM.get ha).1 0 rfl hnm hd (kk p l e s m args below meth c κ Z H locs ls hM hS hl)
/-- a method of a class above, as the receiver's class has it -/
def zKO (C : String) (x y : zMeth) (k : Nat) : Prop := zArity x.1 k ∧ zin (.sameMethod x.1.cls x.1.cls x.1.name x.1.desc) ∧ zin (.instanceMethod x.1) ∧ zin (.code x.1 x.2.1 x.2.2.1 x.2.2.2.1) ∧ zin (.selects C x.1 y.1) ∧ zin (.instanceMethod y.1) ∧ zin (zcode y) ∧ zin (.initialized y.1.cls)
theorem zv_callOP {x y : zMeth} {Ry : zRoom} {As rest st : List Value} {idx k kc' ks' : Nat} {b ci : Nat} {fs : List Value} {C : String} {v : Value} (hd : decode μ.2.1 pc = .ok (.invokevirtual idx, 3)) (hn : pc + 3 = n) (hC : zCon y Ry σ (.ref b :: As) M (zP (some v) M)) (hh : y.2.2.2.2 = []) (hK : zKO C x y k) (hlk : zin (.methodLink μ.1.cls idx x.1)) (hb : M b = some (.inr (ci, fs))) (hc : (vwCl[ci]?).map (fun r => r.1) = some C) (hst : As.reverse ++ .ref b :: rest = st) (hlen : As.length = k) (hr : zRm y Ry R) (hW : (rest.map fun v => v.category).sum ≤ 8) (h1 : kc + Ry.2.1 = kc') (h2 : ks + Ry.2.2 = ks') (hk : kc' ≤ R.2.1) (hs : ks' ≤ R.2.2)
    (kk : zV μ R σ Q M kc' ks' n lv (v :: rest)) : zV μ R σ Q M kc ks pc lv (st) := by
  subst hn; subst hst
  intro p l e s m args below meth c κ Z H locs ls hM hS hl
  obtain ⟨k1, k2, k3, k4, k5, k6, k7, k8⟩ := hK
  have hcode : zin (.code y.1 y.2.1 y.2.2.1 y.2.2.2.1) := by
    have h0 := k7
    unfold zcode at h0
    rw [hh] at h0
    exact h0
  have hC := hC l Z.tr κ
  have hws := zws Z.G k7
  have hmem : Cond.code y.1 y.2.1 y.2.2.1 y.2.2.2.1 ∈ [zcode y] := by
    unfold zcode
    rw [hh]
    exact List.mem_cons_self
  have hf : kc + Ry.2.1 ≤ (zR R).cells ∧ ks + Ry.2.2 ≤ (zR R).slots := ⟨by rw [h1]; exact hk, by rw [h2]; exact hs⟩
  have hmon : 2 * (F0 m pc ls (As.reverse ++ .ref b :: rest)).monitorRoom + (rest.map fun v => v.category).sum ≤ 8 := by
    show 2 * 0 + _ ≤ 8
    omega
  exact zcall Z hS hl (vx_runU (x := x.1) (n := k) (C := C) (owner := x.1.cls) (As := As) (rest := rest) (Ts := zwords) ⟨Z.1, Z.2.1, Z.2.2.1, Z.own, (fun w hw => Z.w hw args)⟩ hC ⟨⟨rfl, rfl, hr.fr, hr.lo, hws, hmem⟩, Z.w hcode _, Z.w k8 _, ⟨k1.1, k1.2.1⟩, k1.len, Z.w hlk _, Z.w k2 _, va_Decl.of (x := x.1) (Z.w k3 args) (Z.w k4 args), Z.w k5 _, Z.w k6 _⟩ ⟨zB.blind, zrecv Z hM hb hc, zpre Z hM hS _⟩ rfl hlen hl.1 rfl hmon hd hf) h1 h2 (fun v' M' h => by
    obtain ⟨e1, e2⟩ := h
    cases e1
    subst e2
    exact kk) (fun E M' h => nomatch h.1)
theorem zv_callVKF0 {y : zMeth} {Ry : zRoom} {As rest st : List Value} {idx k kc' ks' : Nat} {b : Nat} {P : zM → Prop} (hd : decode μ.2.1 pc = .ok (.invokevirtual idx, 3)) (hn : pc + 3 = n) (hC : zCon y Ry σ (.ref b :: As) M (zF none P)) (hh : y.2.2.2.2 = []) (hK : zKV y k) (hlk : zin (.methodLink μ.1.cls idx y.1)) (hb : ∀ (U : State) (H : Heap), zG σ U H → va_O y.1.cls b (zA σ) U H) (hst : As.reverse ++ .ref b :: rest = st) (hlen : As.length = k) (hr : zRm y Ry R) (hW : (rest.map fun v => v.category).sum ≤ 8) (h1 : kc + Ry.2.1 = kc') (h2 : ks + Ry.2.2 = ks') (hk : kc' ≤ R.2.1) (hs : ks' ≤ R.2.2)
    (kk : ∀ M', P M' → zV μ R σ Q M' kc' ks' n lv rest) : zV μ R σ Q M kc ks pc lv (st) := by
  subst hn; subst hst
  intro p l e s m args below meth c κ Z H locs ls hM hS hl
  have hcode : zin (.code y.1 y.2.1 y.2.2.1 y.2.2.2.1) := by
    have h0 := hK.2.2.2.1
    unfold zcode at h0
    rw [hh] at h0
    exact h0
  have hC := hC l Z.tr κ
  have hws := zws Z.G hK.2.2.2.1
  have hmem : Cond.code y.1 y.2.1 y.2.2.1 y.2.2.2.1 ∈ [zcode y] := by
    unfold zcode
    rw [hh]
    exact List.mem_cons_self
  have hf : kc + Ry.2.1 ≤ (zR R).cells ∧ ks + Ry.2.2 ≤ (zR R).slots := ⟨by rw [h1]; exact hk, by rw [h2]; exact hs⟩
  have hmon : 2 * (F0 m pc ls (As.reverse ++ .ref b :: rest)).monitorRoom + (rest.map fun v => v.category).sum ≤ 8 := by
    show 2 * 0 + _ ≤ 8
    omega
  have hrec : ∃ cell : Cell, H[b]? = some cell ∧ cell.vm.isStatics = false ∧ s.vm.findClass y.1.cls = some cell.cls := by
    obtain ⟨cell, g1, g2, g3, -⟩ := (hb s s.heap Z.G).kept hS.2.1
    exact ⟨cell, g1, g2, g3⟩
  exact zcall Z hS hl (vx_runV (n := k) (C := y.1.cls) (As := As) (rest := rest) (Ts := zwords) ⟨Z.1, Z.2.1, Z.2.2.1, Z.own, (fun w hw => Z.w hw args)⟩ hC ⟨⟨rfl, rfl, hr.fr, hr.lo, hws, hmem, Z.w hcode _, Z.w hK.2.2.2.2 _, ⟨hK.1.1, hK.1.2.1⟩, hK.1.len, Z.w hlk _⟩, Z.w hK.2.1 _, Z.w hK.2.2.1 _⟩ ⟨zB.blind, hrec, zpre Z hM hS _⟩ rfl hlen hl.1 rfl hmon hd hf) h1 h2 (fun v' M' h => by
    obtain ⟨e1, e2⟩ := h
    cases e1
    exact kk M' e2) (fun E M' h => nomatch h.1)
end

theorem kJ4_lengthO : zKO "java/lang/StringBuilder" μJ5_length_8abf5 μJ4_length_8abf5 0 := ⟨⟨by decide, by decide, by decide +kernel⟩, z_a7 48 rfl rfl, z_a3 214 rfl rfl, z_a3 215 rfl rfl, z_a7 60 rfl rfl, z_a3 210 rfl rfl, kJ4_length_8abf5.2.2.2.1, kJ4_length_8abf5.2.2.2.2⟩
def fKb (i j : Nat) : Int32 := (zByts.getD i []).getD j 0
theorem sb_b128 {c : Nat} (h : c < 128) : sb_b c = nI c := by
  have key : ∀ c : Fin 128, sb_b c.1 = nI c.1 := by decide +kernel
  exact key ⟨c, h⟩
theorem fKb_ok {i j : Nat} (hi : i < 16) (hj : j < fKn i) : fKb i j = sb_b (fK i j) ∧ fK i j < 256 := by
  obtain ⟨h1, h2, -⟩ := fK_ok hi hj
  refine ⟨?_, by omega⟩
  rw [sb_b128 h2]
  exact h1
theorem fMin_le9 {m n : Nat} (h : n ≤ m) (hm : m < 2 ^ 31) : fMin (nI m) (nI n) = nI n := by
  rw [fMin_nI hm (by omega)]
  split
  · rfl
  · rw [show m = n by omega]

set_option maxRecDepth 100000 in
set_option maxHeartbeats 4000000 in
theorem c_J5_infl {σ : zSg} {M : zM} {s v i : Nat} {x y : Value} (hs : M s = some (.inr (1, [.ref v, .int 0, x, y]))) (hi : i < 16) : zCon μJ5_inflateIfNeededFor_a7421 (2, 0, 0) σ [.ref s, .ref (zK σ i)] M (zF none (fun M' => M' = M)) := by
  refine zCon.of (plainFor_of_name (by decide)) rfl (Nat.le_of_ble_eq_true rfl) ?_
  change zV _ _ _ _ _ 0 0 0 [(0, .ref s), (1, .ref (zK σ i))] []
  refine zv_gets (n := 3) (v := .int 1) dJ5_inflateIfNeededFor_a7421_0 rfl (fun U H h => h.2.2.2.2.2.2.1) SJ5_18 ?_
  refine zv_if_eq (n := 6) (tgt := 21) dJ5_inflateIfNeededFor_a7421_3 (by decide) rfl (fun h3 => False.elim (absurd h3 (by decide))) (fun h3 => ?_)
  refine zv_aload_n (n := 7) dJ5_inflateIfNeededFor_a7421_6 rfl rfl ?_
  refine zv_get (n := 10) dJ5_inflateIfNeededFor_a7421_7 rfl hs FJ5_22 rfl ?_
  refine zv_aload_n (n := 11) dJ5_inflateIfNeededFor_a7421_10 rfl rfl ?_
  refine zv_callVK (n := 14) (As := []) (rest := [.int 0]) (kc' := 0) (ks' := 0) dJ5_inflateIfNeededFor_a7421_11 rfl (c_kcoder hi) rfl kJ0_coder_7d493 lJ5_40 (fun U H h => (h.2.2.2.2.2.1.1 i hi).1) rfl rfl ⟨by decide, by decide⟩ (Nat.le_of_ble_eq_true rfl) rfl rfl (by decide) (by decide) ?_
  refine zv_icmp_eq (n := 17) (tgt := 21) dJ5_inflateIfNeededFor_a7421_14 (by decide) rfl (fun h14 => ?_) (fun h14 => False.elim (h14 rfl))
  refine zv_vret dJ5_inflateIfNeededFor_a7421_21 rfl (by decide) (by decide) ?_
  exact ⟨rfl, rfl⟩

set_option maxRecDepth 100000 in
set_option maxHeartbeats 4000000 in
theorem c_J0_getB {σ : zSg} {M : zM} {v m d i : Nat} {a : Nat → Int32} (hv : M v = some (zAB m a)) (hi : i < 16) (hd : d + fKn i ≤ m) (hm : m ≤ 65536) : zCon μJ0_getBytes_840e7 (2, 0, 0) σ [.ref (zK σ i), .ref v, .int (nI d), .int 0] M (zF none (fun M' => M' = zup M v (zAB m (va_cpy (fKb i) a 0 d (fKn i))))) := by
  refine zCon.of (plainFor_of_name (by decide)) rfl (Nat.le_of_ble_eq_true rfl) ?_
  change zV _ _ _ _ _ 0 0 0 [(0, .ref (zK σ i)), (1, .ref v), (2, .int (nI d)), (3, .int 0)] []
  refine zv_aload_n (n := 1) dJ0_getBytes_840e7_0 rfl rfl ?_
  refine zv_callVK (n := 4) (As := []) (rest := []) (kc' := 0) (ks' := 0) dJ0_getBytes_840e7_1 rfl (c_kcoder hi) rfl kJ0_coder_7d493 lJ0_335 (fun U H h => (h.2.2.2.2.2.1.1 i hi).1) rfl rfl ⟨by decide, by decide⟩ (Nat.le_of_ble_eq_true rfl) rfl rfl (by decide) (by decide) ?_
  refine zv_iload_n (n := 5) dJ0_getBytes_840e7_4 rfl rfl ?_
  refine zv_icmp_ne (n := 8) (tgt := 28) dJ0_getBytes_840e7_5 (by decide) rfl (fun h5 => False.elim (h5 rfl)) (fun h5 => ?_)
  refine zv_aload_n (n := 9) dJ0_getBytes_840e7_8 rfl rfl ?_
  refine zv_kget (n := 12) dJ0_getBytes_840e7_9 rfl (fun U H h => (h.2.2.2.2.2.1.1 i hi).2.2.1) wJ0_9 ?_
  refine zv_iconst (n := 13) dJ0_getBytes_840e7_12 rfl (v := 0) (by decide) ?_
  refine zv_aload_n (n := 14) dJ0_getBytes_840e7_13 rfl rfl ?_
  refine zv_iload_n (n := 15) dJ0_getBytes_840e7_14 rfl rfl ?_
  refine zv_iload_n (n := 16) dJ0_getBytes_840e7_15 rfl rfl ?_
  refine zv_ishl (n := 17) dJ0_getBytes_840e7_16 rfl ?_
  rw [sb_shl0]
  refine zv_aload_n (n := 18) dJ0_getBytes_840e7_17 rfl rfl ?_
  refine zv_kget (n := 21) dJ0_getBytes_840e7_18 rfl (fun U H h => (h.2.2.2.2.2.1.1 i hi).2.2.1) wJ0_9 ?_
  refine zv_klen (N := fKn i) (n := 22) dJ0_getBytes_840e7_21 rfl (fun U H h => (h.2.2.2.2.2.1.1 i hi).2.2.2) ?_
  have hk20 := fKn_le hi
  refine zv_copyk (n := 25) (f := fKb i) dJ0_getBytes_840e7_22 rfl lJ0_212 (fun U H h => (h.2.2.2.2.2.1.1 i hi).2.2.2) hv (by decide) (nI_pos (by omega)) (nI_pos (by omega)) (by show _ ≤ fKn i; rw [nI_clamp (by omega), sb_cl0]; omega) (by rw [nI_clamp (by omega), nI_clamp (by omega)]; omega) (fun j hj => ?_) (by decide) ?_
  · rw [nI_clamp (by omega)] at hj
    rw [sb_cl0, Nat.zero_add, (fKb_ok hi hj).1]
    exact sb_fitB _
  rw [nI_clamp (by omega), nI_clamp (by omega), sb_cl0]
  refine zv_goto (tgt := 43) dJ0_getBytes_840e7_25 (by decide) ?_
  refine zv_vret dJ0_getBytes_840e7_43 rfl (by decide) (by decide) ?_
  exact zFi rfl

set_option maxRecDepth 100000 in
set_option maxHeartbeats 4000000 in
theorem c_J5_putS {σ : zSg} {M : zM} {s v m d i : Nat} {a : Nat → Int32} {x y : Value} (hs : M s = some (.inr (1, [.ref v, .int 0, x, y]))) (hv : M v = some (zAB m a)) (hi : i < 16) (hd : d + fKn i ≤ m) (hm : m ≤ 65536) : zCon μJ5_putStringAt_47b60 (3, 0, 0) σ [.ref s, .int (nI d), .ref (zK σ i)] M (zF none (fun M' => M' = zup M v (zAB m (va_cpy (fKb i) a 0 d (fKn i))))) := by
  refine zCon.of (plainFor_of_name (by decide)) rfl (Nat.le_of_ble_eq_true rfl) ?_
  change zV _ _ _ _ _ 0 0 0 [(0, .ref s), (1, .int (nI d)), (2, .ref (zK σ i))] []
  refine zv_aload_n (n := 1) dJ5_putStringAt_47b60_0 rfl rfl ?_
  refine zv_aload_n (n := 2) dJ5_putStringAt_47b60_1 rfl rfl ?_
  refine zv_callQF0 (n := 5) (As := [.ref (zK σ i)]) (rest := []) (kc' := 0) (ks' := 0) dJ5_putStringAt_47b60_2 rfl (c_J5_infl hs hi) rfl kJ5_inflateIfNeededFor_a7421Q lJ5_397 hs rfl rfl rfl ⟨by decide, by decide⟩ (Nat.le_of_ble_eq_true rfl) rfl rfl (by decide) (by decide) (fun M9 hq9 => ?_)
  subst hq9
  refine zv_aload_n (n := 6) dJ5_putStringAt_47b60_5 rfl rfl ?_
  refine zv_aload_n (n := 7) dJ5_putStringAt_47b60_6 rfl rfl ?_
  refine zv_get (n := 10) dJ5_putStringAt_47b60_7 rfl hs FJ5_15 rfl ?_
  refine zv_iload_n (n := 11) dJ5_putStringAt_47b60_10 rfl rfl ?_
  refine zv_aload_n (n := 12) dJ5_putStringAt_47b60_11 rfl rfl ?_
  refine zv_get (n := 15) dJ5_putStringAt_47b60_12 rfl hs FJ5_22 rfl ?_
  refine zv_callVKF0 (n := 18) (As := [.ref v, .int (nI d), .int 0]) (rest := []) (kc' := 0) (ks' := 0) dJ5_putStringAt_47b60_15 rfl (c_J0_getB hv hi hd hm) rfl kJ0_getBytes_840e7 lJ5_399 (fun U H h => (h.2.2.2.2.2.1.1 i hi).1) rfl rfl ⟨by decide, by decide⟩ (Nat.le_of_ble_eq_true rfl) rfl rfl (by decide) (by decide) (fun M1 hq => ?_)
  refine zv_vret dJ5_putStringAt_47b60_18 rfl (by decide) (by decide) ?_
  exact zFi hq

set_option maxRecDepth 100000 in
set_option maxHeartbeats 4000000 in
theorem c_J5_appendS {σ : zSg} {M : zM} {s v n m : Nat} {t : Nat → Nat} (hS : zSB M s v t n m) {i : Nat} (hi : i < 16) (hc : n + fKn i ≤ m ∨ sb_cap (n + fKn i) m ≤ 150) : zCon μJ5_append_cf1ce (5, 1, 150) σ [.ref s, .ref (zK σ i)] M (zF (some (.ref s)) (fun M' => ∃ v', zSB M' s v' (sb_cat t n (fK i)) (n + fKn i) (sb_cap (n + fKn i) m) ∧ zGr M M' s v v')) := by
  have hS0 := hS
  obtain ⟨ml, a, h1, h2, hL, hf, hnm, hm⟩ := hS0
  have hk20 := fKn_le hi
  refine zCon.of (plainFor_of_name (by decide)) rfl (Nat.le_of_ble_eq_true rfl) ?_
  change zV _ _ _ _ _ 0 0 0 [(0, .ref s), (1, .ref (zK σ i))] []
  refine zv_aload_n (n := 1) dJ5_append_cf1ce_0 rfl rfl ?_
  refine zv_ifnonnull (tgt := 9) dJ5_append_cf1ce_1 (by decide) ?_
  refine zv_aload_n (n := 10) dJ5_append_cf1ce_9 rfl rfl ?_
  refine zv_callVK (n := 13) (As := []) (rest := []) (kc' := 0) (ks' := 0) dJ5_append_cf1ce_10 rfl (c_klength hi) rfl kJ0_length_8abf5 lJ5_32 (fun U H h => (h.2.2.2.2.2.1.1 i hi).1) rfl rfl ⟨by decide, by decide⟩ (Nat.le_of_ble_eq_true rfl) rfl rfl (by decide) (by decide) ?_
  refine zv_istore_n (n := 14) (lv' := [(2, .int (nI (fKn i))), (0, .ref s), (1, .ref (zK σ i))]) dJ5_append_cf1ce_13 rfl (by decide) rfl ?_
  refine zv_aload_n (n := 15) dJ5_append_cf1ce_14 rfl rfl ?_
  refine zv_aload_n (n := 16) dJ5_append_cf1ce_15 rfl rfl ?_
  refine zv_get (n := 19) dJ5_append_cf1ce_16 rfl h1 FJ5_79 rfl ?_
  refine zv_iload_n (n := 20) dJ5_append_cf1ce_19 rfl rfl ?_
  refine zv_iadd (n := 21) dJ5_append_cf1ce_20 rfl ?_
  rw [nI_add]
  refine zv_callQF0 (n := 24) (As := [.int (nI (n + fKn i))]) (rest := []) (kc' := 1) (ks' := 150) dJ5_append_cf1ce_21 rfl (c_J5_ens hS hc) rfl kJ5_ensureCapacityInternal_d00dfQ lJ5_100 h1 rfl rfl rfl ⟨by decide, by decide⟩ (Nat.le_of_ble_eq_true rfl) rfl rfl (by decide) (by decide) (fun M1 hq => ?_)
  obtain ⟨v', ⟨ml', a', g1, g2, gL, gf, gn, gm⟩, gG⟩ := hq
  have hcg := sb_cap_ge (n + fKn i) m
  have hvs : s ≠ v' := fun e => by rw [e, g2] at g1; cases g1
  refine zv_aload_n (n := 25) dJ5_append_cf1ce_24 rfl rfl ?_
  refine zv_aload_n (n := 26) dJ5_append_cf1ce_25 rfl rfl ?_
  refine zv_get (n := 29) dJ5_append_cf1ce_26 rfl g1 FJ5_79 rfl ?_
  refine zv_aload_n (n := 30) dJ5_append_cf1ce_29 rfl rfl ?_
  refine zv_callQF0 (n := 33) (As := [.int (nI n), .ref (zK σ i)]) (rest := []) (kc' := 1) (ks' := 150) dJ5_append_cf1ce_30 rfl (c_J5_putS (d := n) g1 g2 hi hcg gm) rfl kJ5_putStringAt_47b60Q lJ5_208 g1 rfl rfl rfl ⟨by decide, by decide⟩ (Nat.le_of_ble_eq_true rfl) rfl rfl (by decide) (by decide) (fun M2 hq2 => ?_)
  subst hq2
  refine zv_aload_n (n := 34) dJ5_append_cf1ce_33 rfl rfl ?_
  refine zv_dup (n := 35) dJ5_append_cf1ce_34 rfl rfl ?_
  refine zv_get (n := 38) dJ5_append_cf1ce_35 rfl ((zup_n hvs).trans g1) FJ5_79 rfl ?_
  refine zv_iload_n (n := 39) dJ5_append_cf1ce_38 rfl rfl ?_
  refine zv_iadd (n := 40) dJ5_append_cf1ce_39 rfl ?_
  rw [nI_add]
  refine zv_put (n := 43) dJ5_append_cf1ce_40 rfl ((zup_n hvs).trans g1) FJ5_79 zcl_J4 zty_J4_3 rfl rfl (Nat.le_of_ble_eq_true rfl) ?_
  refine zv_aload_n (n := 44) dJ5_append_cf1ce_43 rfl rfl ?_
  refine zv_aret dJ5_append_cf1ce_44 rfl (Or.inl ⟨_, rfl⟩) (by decide) (by decide) ?_
  refine zFi ⟨v', ⟨ml', _, zup_s, (zup_n hvs.symm).trans zup_s, fun j hj => ?_, fun j => ?_, hcg, gm⟩, gG.1, fun x hx1 hx2 hx3 => ?_⟩
  · unfold va_cpy sb_cat
    by_cases hjn : j < n
    · rw [if_pos hjn, if_neg (by omega)]
      exact gL j hjn
    · rw [if_neg hjn, if_pos (by omega), Nat.zero_add]
      exact ⟨(fKb_ok hi (by omega)).2, (fKb_ok hi (by omega)).1⟩
  · unfold va_cpy
    split
    · rw [Nat.zero_add, (fKb_ok hi (by omega)).1]
      exact sb_fitB _
    · exact gf j
  · rw [zup_n hx1, zup_n hx3]
    exact gG.2 x hx1 hx2 hx3

set_option maxRecDepth 100000 in
set_option maxHeartbeats 4000000 in
theorem c_J4_appendS {σ : zSg} {M : zM} {s v n m : Nat} {t : Nat → Nat} (hS : zSB M s v t n m) {i : Nat} (hi : i < 16) (hc : n + fKn i ≤ m ∨ sb_cap (n + fKn i) m ≤ 150) : zCon μJ4_append_15ec4 (6, 1, 150) σ [.ref s, .ref (zK σ i)] M (zF (some (.ref s)) (fun M' => ∃ v', zSB M' s v' (sb_cat t n (fK i)) (n + fKn i) (sb_cap (n + fKn i) m) ∧ zGr M M' s v v')) := by
  have hS0 := hS
  obtain ⟨ml, a, h1, h2, hL, hf, hnm, hm⟩ := hS0
  
  refine zCon.of (plainFor_of_name (by decide)) rfl (Nat.le_of_ble_eq_true rfl) ?_
  change zV _ _ _ _ _ 0 0 0 [(0, .ref s), (1, .ref (zK σ i))] []
  refine zv_aload_n (n := 1) dJ4_append_15ec4_0 rfl rfl ?_
  refine zv_aload_n (n := 2) dJ4_append_15ec4_1 rfl rfl ?_
  refine zv_callUF (n := 5) (As := [.ref (zK σ i)]) (rest := []) (kc' := 1) (ks' := 150) dJ4_append_15ec4_2 rfl (c_J5_appendS hS hi hc) rfl kJ5_append_cf1ceU lJ4_29 h1 rfl rfl rfl ⟨by decide, by decide⟩ (Nat.le_of_ble_eq_true rfl) rfl rfl (by decide) (by decide) (fun M1 hq => ?_)
  refine zv_pop (n := 6) dJ4_append_15ec4_5 rfl rfl ?_
  refine zv_aload_n (n := 7) dJ4_append_15ec4_6 rfl rfl ?_
  refine zv_aret dJ4_append_15ec4_7 rfl (Or.inl ⟨_, rfl⟩) (by decide) (by decide) ?_
  exact zFi hq

/-- a String made: q over the bytes v -/
def zMs (M : zM) (q v : Nat) (t : Nat → Nat) (n : Nat) : Prop := ∃ a, M q = some (.inr (0, [.ref v, .int 0, .int 0, .int 0])) ∧ M v = some (zAB n a) ∧ sb_Lat t n a ∧ n ≤ 150
theorem zMs.keep {M M' : zM} {q v : Nat} {t : Nat → Nat} {n : Nat} (h : zMs M q v t n) (e1 : M' q = M q) (e2 : M' v = M v) : zMs M' q v t n := by
  obtain ⟨a, h1, h2, h3⟩ := h
  exact ⟨a, e1.trans h1, e2.trans h2, h3⟩

set_option maxRecDepth 100000 in
set_option maxHeartbeats 4000000 in
theorem c_mcoder {σ : zSg} {M : zM} {q v n : Nat} {t : Nat → Nat} (hS : zMs M q v t n)  : zCon μJ0_coder_7d493 (1, 0, 0) σ [.ref q] M (zP (some (.int 0)) M) := by
  obtain ⟨a, h1, h2, hL, hn⟩ := hS
  
  refine zCon.of (plainFor_of_name (by decide)) rfl (Nat.le_of_ble_eq_true rfl) ?_
  change zV _ _ _ _ _ 0 0 0 [(0, .ref q)] []
  refine zv_gets (n := 3) (v := .int 1) dJ0_coder_7d493_0 rfl (fun U H h => h.2.2.2.2.2.2.1) SJ0_38 ?_
  refine zv_if_eq (n := 6) (tgt := 13) dJ0_coder_7d493_3 (by decide) rfl (fun h3 => False.elim (absurd h3 (by decide))) (fun h3 => ?_)
  refine zv_aload_n (n := 7) dJ0_coder_7d493_6 rfl rfl ?_
  refine zv_get (n := 10) dJ0_coder_7d493_7 rfl h1 FJ0_15 rfl ?_
  refine zv_goto (tgt := 14) dJ0_coder_7d493_10 (by decide) ?_
  refine zv_zret dJ0_coder_7d493_14 rfl rfl (by decide) (by decide) ?_
  exact zPi

set_option maxRecDepth 100000 in
set_option maxHeartbeats 4000000 in
theorem c_mlatin {σ : zSg} {M : zM} {q v n : Nat} {t : Nat → Nat} (hS : zMs M q v t n)  : zCon μJ0_isLatin1_aae02 (1, 0, 0) σ [.ref q] M (zP (some (.int 1)) M) := by
  obtain ⟨a, h1, h2, hL, hn⟩ := hS
  
  refine zCon.of (plainFor_of_name (by decide)) rfl (Nat.le_of_ble_eq_true rfl) ?_
  change zV _ _ _ _ _ 0 0 0 [(0, .ref q)] []
  refine zv_gets (n := 3) (v := .int 1) dJ0_isLatin1_aae02_0 rfl (fun U H h => h.2.2.2.2.2.2.1) SJ0_38 ?_
  refine zv_if_eq (n := 6) (tgt := 17) dJ0_isLatin1_aae02_3 (by decide) rfl (fun h3 => False.elim (absurd h3 (by decide))) (fun h3 => ?_)
  refine zv_aload_n (n := 7) dJ0_isLatin1_aae02_6 rfl rfl ?_
  refine zv_get (n := 10) dJ0_isLatin1_aae02_7 rfl h1 FJ0_15 rfl ?_
  refine zv_if_ne (n := 13) (tgt := 17) dJ0_isLatin1_aae02_10 (by decide) rfl (fun h10 => False.elim (h10 rfl)) (fun h10 => ?_)
  refine zv_iconst (n := 14) dJ0_isLatin1_aae02_13 rfl (v := 1) (by decide) ?_
  refine zv_goto (tgt := 18) dJ0_isLatin1_aae02_14 (by decide) ?_
  refine zv_zret dJ0_isLatin1_aae02_18 rfl rfl (by decide) (by decide) ?_
  exact zPi

set_option maxRecDepth 100000 in
set_option maxHeartbeats 4000000 in
theorem c_mlength {σ : zSg} {M : zM} {q v n : Nat} {t : Nat → Nat} (hS : zMs M q v t n)  : zCon μJ0_length_8abf5 (2, 0, 0) σ [.ref q] M (zP (some (.int (nI n))) M) := by
  have hS9 := hS
  obtain ⟨a, h1, h2, hL, hn⟩ := hS
  
  refine zCon.of (plainFor_of_name (by decide)) rfl (Nat.le_of_ble_eq_true rfl) ?_
  change zV _ _ _ _ _ 0 0 0 [(0, .ref q)] []
  refine zv_aload_n (n := 1) dJ0_length_8abf5_0 rfl rfl ?_
  refine zv_get (n := 4) dJ0_length_8abf5_1 rfl h1 FJ0_9 rfl ?_
  refine zv_alen (n := 5) dJ0_length_8abf5_4 rfl h2 (by decide) (v := (nI n)) rfl ?_
  refine zv_aload_n (n := 6) dJ0_length_8abf5_5 rfl rfl ?_
  refine zv_callVP (n := 9) (As := []) (rest := [.int (nI n)]) (kc' := 0) (ks' := 0) dJ0_length_8abf5_6 rfl (c_mcoder hS9) rfl kJ0_coder_7d493 lJ0_335 h1 rfl rfl rfl ⟨by decide, by decide⟩ (Nat.le_of_ble_eq_true rfl) rfl rfl (by decide) (by decide) ?_
  refine zv_ishr (n := 10) dJ0_length_8abf5_9 rfl ?_
  rw [sb_shr0]
  refine zv_iret dJ0_length_8abf5_10 rfl (by decide) (by decide) ?_
  exact zPi

set_option maxRecDepth 100000 in
set_option maxHeartbeats 4000000 in
theorem c_mLatinAt {σ : zSg} {M : zM} {q v n : Nat} {t : Nat → Nat} (hS : zMs M q v t n) {j : Nat} (hj : j < n) : zCon μJ1_charAt_3b067 (3, 0, 0) σ [.ref v, .int (nI j)] M (zP (some (.int (nI (t j)))) M) := by
  obtain ⟨a, h1, h2, hL, hn⟩ := hS
  
  refine zCon.of (plainFor_of_name (by decide)) rfl (Nat.le_of_ble_eq_true rfl) ?_
  change zV _ _ _ _ _ 0 0 0 [(0, .ref v), (1, .int (nI j))] []
  refine zv_iload_n (n := 1) dJ1_charAt_3b067_0 rfl rfl ?_
  refine zv_aload_n (n := 2) dJ1_charAt_3b067_1 rfl rfl ?_
  refine zv_alen (n := 3) dJ1_charAt_3b067_2 rfl h2 (by decide) (v := (nI n)) rfl ?_
  refine zv_callSP0 (n := 6) (As := [.int (nI j), .int (nI n)]) (rest := []) (kc' := 0) (ks' := 0) dJ1_charAt_3b067_3 rfl (c_J0_checkIndex (n := n) hj (by omega)) rfl kJ0_checkIndex_df160 lJ1_9 rfl rfl ⟨by decide, by decide⟩ (Nat.le_of_ble_eq_true rfl) rfl rfl (by decide) (by decide) ?_
  refine zv_aload_n (n := 7) dJ1_charAt_3b067_6 rfl rfl ?_
  refine zv_iload_n (n := 8) dJ1_charAt_3b067_7 rfl rfl ?_
  refine zv_bald' (n := 9) dJ1_charAt_3b067_8 rfl h2 (vp_in_nI hj (by omega)) (by rw [nI_clamp (by omega), (hL j hj).2]) ?_
  refine zv_sipush (n := 12) dJ1_charAt_3b067_9 rfl (v := 255) (by decide) ?_
  refine zv_iand (n := 13) dJ1_charAt_3b067_12 rfl ?_
  rw [(sb_byte (t j) (hL j hj).1).1]
  refine zv_i2c (n := 14) dJ1_charAt_3b067_13 rfl ?_
  rw [(sb_byte (t j) (hL j hj).1).2.1]
  refine zv_zret dJ1_charAt_3b067_14 rfl (nar_ch (hL j hj).1) (by decide) (by decide) ?_
  exact zPi

set_option maxRecDepth 100000 in
set_option maxHeartbeats 4000000 in
theorem c_mcharAt {σ : zSg} {M : zM} {q v n : Nat} {t : Nat → Nat} (hS : zMs M q v t n) {j : Nat} (hj : j < n) : zCon μJ0_charAt_5068e (4, 0, 0) σ [.ref q, .int (nI j)] M (zP (some (.int (nI (t j)))) M) := by
  have hS9 := hS
  obtain ⟨a, h1, h2, hL, hn⟩ := hS
  
  refine zCon.of (plainFor_of_name (by decide)) rfl (Nat.le_of_ble_eq_true rfl) ?_
  change zV _ _ _ _ _ 0 0 0 [(0, .ref q), (1, .int (nI j))] []
  refine zv_aload_n (n := 1) dJ0_charAt_5068e_0 rfl rfl ?_
  refine zv_callVP (n := 4) (As := []) (rest := []) (kc' := 0) (ks' := 0) dJ0_charAt_5068e_1 rfl (c_mlatin hS9) rfl kJ0_isLatin1_aae02 lJ0_492 h1 rfl rfl rfl ⟨by decide, by decide⟩ (Nat.le_of_ble_eq_true rfl) rfl rfl (by decide) (by decide) ?_
  refine zv_if_eq (n := 7) (tgt := 16) dJ0_charAt_5068e_4 (by decide) rfl (fun h4 => False.elim (absurd h4 (by decide))) (fun h4 => ?_)
  refine zv_aload_n (n := 8) dJ0_charAt_5068e_7 rfl rfl ?_
  refine zv_get (n := 11) dJ0_charAt_5068e_8 rfl h1 FJ0_9 rfl ?_
  refine zv_iload_n (n := 12) dJ0_charAt_5068e_11 rfl rfl ?_
  refine zv_callSP (n := 15) (As := [.ref v, .int (nI j)]) (rest := []) (kc' := 0) (ks' := 0) dJ0_charAt_5068e_12 rfl (c_mLatinAt hS9 hj) rfl kJ1_charAt_3b067 lJ0_495 rfl rfl ⟨by decide, by decide⟩ (Nat.le_of_ble_eq_true rfl) rfl rfl (by decide) (by decide) ?_
  refine zv_zret dJ0_charAt_5068e_15 rfl (nar_ch (hL j hj).1) (by decide) (by decide) ?_
  exact zPi

set_option maxRecDepth 100000 in
set_option maxHeartbeats 4000000 in
theorem c_J7_checkLen {σ : zSg} {M : zM} {n : Nat} (hn : n < 2 ^ 31) : zCon μJ7_checkLength_df160 (1, 0, 0) σ [.int 0, .int (nI n)] M (zP none M) := by
  refine zCon.of (plainFor_of_name (by decide)) rfl (Nat.le_of_ble_eq_true rfl) ?_
  change zV _ _ _ _ _ 0 0 0 [(0, .int 0), (1, .int (nI n))] []
  refine zv_iload_n (n := 1) dJ7_checkLength_df160_0 rfl rfl ?_
  refine zv_iload_n (n := 2) dJ7_checkLength_df160_1 rfl rfl ?_
  refine zv_icmp_ge (n := 5) (tgt := 37) dJ7_checkLength_df160_2 (by decide) rfl (fun h2 => ?_) (fun h2 => False.elim (h2 (nI_pos' hn)))
  refine zv_vret dJ7_checkLength_df160_37 rfl (by decide) (by decide) ?_
  exact zPi

set_option maxRecDepth 100000 in
set_option maxHeartbeats 4000000 in
theorem c_J7_copyRB {σ : zSg} {M : zM} {v m q : Nat} {a : Nat → Int32} (hv : M v = some (zAB m a)) (hf : sb_Fit a) (hq : q ≤ m) (hm : m ≤ 65536) (hc : q ≤ 150) : zCon μJ7_copyOfRangeByte_39247 (2, 1, 150) σ [.ref v, .int 0, .int (nI q)] M (zE9 (fun r M' => ∃ v' f', r = .ref v' ∧ M v' = none ∧ M' = zup M v' (zAB q f') ∧ (∀ j, j < q → f' j = a j) ∧ sb_Fit f')) := by
  refine zCon.of (plainFor_of_name (by decide)) rfl (Nat.le_of_ble_eq_true rfl) ?_
  change zV _ _ _ _ _ 0 0 0 [(0, .ref v), (1, .int 0), (2, .int (nI q))] []
  refine zv_iload_n (n := 1) dJ7_copyOfRangeByte_39247_0 rfl rfl ?_
  refine zv_iload_n (n := 2) dJ7_copyOfRangeByte_39247_1 rfl rfl ?_
  refine zv_callSP0 (n := 5) (As := [.int 0, .int (nI q)]) (rest := []) (kc' := 0) (ks' := 0) dJ7_copyOfRangeByte_39247_2 rfl (c_J7_checkLen (n := q) (by omega)) rfl kJ7_checkLength_df160 lJ7_343 rfl rfl ⟨by decide, by decide⟩ (Nat.le_of_ble_eq_true rfl) rfl rfl (by decide) (by decide) ?_
  refine zv_iload_n (n := 6) dJ7_copyOfRangeByte_39247_5 rfl rfl ?_
  refine zv_iload_n (n := 7) dJ7_copyOfRangeByte_39247_6 rfl rfl ?_
  refine zv_isub (n := 8) dJ7_copyOfRangeByte_39247_7 rfl ?_
  rw [Int32.sub_zero]
  refine zv_istore_n (n := 9) (lv' := [(3, .int (nI q)), (0, .ref v), (1, .int 0), (2, .int (nI q))]) dJ7_copyOfRangeByte_39247_8 rfl (by decide) rfl ?_
  refine zv_iload_n (n := 10) dJ7_copyOfRangeByte_39247_9 rfl rfl ?_
  refine zv_newB (N := q) (n := 12) (kc' := 1) (ks' := 0 + q) dJ7_copyOfRangeByte_39247_10 rfl zaB (nI_pos (by omega)) (nI_clamp (by omega)) (by show q * 1 ≤ 536870912; omega) rfl rfl (by decide) (by show 0 + q ≤ 150; omega) (fun v' hv' => ?_)
  have hvv : v ≠ v' := fun e => by rw [e, hv'] at hv; cases hv
  refine zv_astore (n := 14) (lv' := [(4, .ref v'), (3, .int (nI q)), (0, .ref v), (1, .int 0), (2, .int (nI q))]) dJ7_copyOfRangeByte_39247_12 rfl (by decide) rfl ?_
  refine zv_aload_n (n := 15) dJ7_copyOfRangeByte_39247_14 rfl rfl ?_
  refine zv_iload_n (n := 16) dJ7_copyOfRangeByte_39247_15 rfl rfl ?_
  refine zv_aload (n := 18) dJ7_copyOfRangeByte_39247_16 rfl rfl ?_
  refine zv_iconst (n := 19) dJ7_copyOfRangeByte_39247_18 rfl (v := 0) (by decide) ?_
  refine zv_aload_n (n := 20) dJ7_copyOfRangeByte_39247_19 rfl rfl ?_
  refine zv_alen (n := 21) dJ7_copyOfRangeByte_39247_20 rfl ((zup_n hvv).trans hv) (by decide) (v := (nI m)) rfl ?_
  refine zv_iload_n (n := 22) dJ7_copyOfRangeByte_39247_21 rfl rfl ?_
  refine zv_isub (n := 23) dJ7_copyOfRangeByte_39247_22 rfl ?_
  rw [Int32.sub_zero]
  refine zv_iload_n (n := 24) dJ7_copyOfRangeByte_39247_23 rfl rfl ?_
  refine zv_callSP (n := 27) (As := [.int (nI m), .int (nI q)]) (rest := [.int 0, .ref v', .int 0, .ref v]) (kc' := 1) (ks' := (0 + q)) dJ7_copyOfRangeByte_39247_24 rfl (c_min (nI m) (nI q)) rfl kJ9_min_7cf53 lJ7_304 rfl rfl ⟨by decide, by decide⟩ (Nat.le_of_ble_eq_true rfl) rfl rfl (by decide) (by show 0 + q ≤ 150; omega) ?_
  rw [fMin_le9 hq (by omega)]
  refine zv_copyb (n := 30) dJ7_copyOfRangeByte_39247_27 rfl lJ7_150 ((zup_n hvv).trans hv) zup_s hf (by decide) (by decide) (nI_pos (by omega)) (by rw [nI_clamp (by omega), sb_cl0]; omega) (by rw [nI_clamp (by omega), sb_cl0]; omega) (by decide) ?_
  rw [nI_clamp (by omega), sb_cl0, zup_zup]
  refine zv_aload (n := 32) dJ7_copyOfRangeByte_39247_30 rfl rfl ?_
  refine zv_aret dJ7_copyOfRangeByte_39247_32 rfl (Or.inr ⟨_, rfl⟩) (by decide) (by show 0 + q ≤ 150; omega) ?_
  refine zEi ⟨v', _, rfl, hv', rfl, fun j hj => ?_, fun j => ?_⟩
  · unfold va_cpy
    rw [if_pos (by omega), Nat.zero_add, Nat.sub_zero]
  · unfold va_cpy
    split
    · exact hf _
    · exact sb_fit0 j

set_option maxRecDepth 100000 in
set_option maxHeartbeats 4000000 in
theorem c_J7_copyR {σ : zSg} {M : zM} {v m q : Nat} {a : Nat → Int32} (hv : M v = some (zAB m a)) (hf : sb_Fit a) (hq : q ≤ m) (hm : m ≤ 65536) (hc : q ≤ 150) : zCon μJ7_copyOfRange_39247 (3, 1, 150) σ [.ref v, .int 0, .int (nI q)] M (zE9 (fun r M' => ∃ v' f', r = .ref v' ∧ M v' = none ∧ M' = zup M v' (zAB q f') ∧ (∀ j, j < q → f' j = a j) ∧ sb_Fit f')) := by
  refine zCon.of (plainFor_of_name (by decide)) rfl (Nat.le_of_ble_eq_true rfl) ?_
  change zV _ _ _ _ _ 0 0 0 [(0, .ref v), (1, .int 0), (2, .int (nI q))] []
  refine zv_iload_n (n := 1) dJ7_copyOfRange_39247_0 rfl rfl ?_
  refine zv_if_ne (n := 4) (tgt := 10) dJ7_copyOfRange_39247_1 (by decide) rfl (fun h1 => False.elim (h1 rfl)) (fun h1 => ?_)
  refine zv_iload_n (n := 5) dJ7_copyOfRange_39247_4 rfl rfl ?_
  refine zv_aload_n (n := 6) dJ7_copyOfRange_39247_5 rfl rfl ?_
  refine zv_alen (n := 7) dJ7_copyOfRange_39247_6 rfl hv (by decide) (v := (nI m)) rfl ?_
  refine zv_icmp_eq (n := 10) (tgt := 17) dJ7_copyOfRange_39247_7 (by decide) rfl (fun h7 => ?_) (fun h7 => ?_)
  · skip
    obtain rfl : q = m := (nI_eq (by omega) (by omega)).mp h7
    refine zv_aload_n (n := 18) dJ7_copyOfRange_39247_17 rfl rfl ?_
    refine zv_cloneB (n := 21) (kc' := 1) (ks' := 0 + q) dJ7_copyOfRange_39247_18 rfl (show zin (.methodLink RJ7 310 ⟨"[B", "clone", "()Ljava/lang/Object;"⟩) from z_a4 8 rfl rfl) hv hf rfl rfl (by decide) (by show 0 + q ≤ 150; omega) (by decide) (fun v' hv' => ?_)
    refine zv_castB (n := 24) dJ7_copyOfRange_39247_21 rfl eJ7_311 zup_s ?_
    refine zv_aret dJ7_copyOfRange_39247_24 rfl (Or.inr ⟨_, rfl⟩) (by decide) (by show 0 + q ≤ 150; omega) ?_
    exact zEi ⟨v', _, rfl, hv', rfl, fun _ _ => rfl, hf⟩
  · skip
    skip
    refine zv_aload_n (n := 11) dJ7_copyOfRange_39247_10 rfl rfl ?_
    refine zv_iload_n (n := 12) dJ7_copyOfRange_39247_11 rfl rfl ?_
    refine zv_iload_n (n := 13) dJ7_copyOfRange_39247_12 rfl rfl ?_
    refine zv_callSE (n := 16) (As := [.ref v, .int 0, .int (nI q)]) (rest := []) (kc' := 1) (ks' := 150) dJ7_copyOfRange_39247_13 rfl (c_J7_copyRB hv hf hq hm hc) rfl kJ7_copyOfRangeByte_39247 lJ7_339 rfl rfl ⟨by decide, by decide⟩ (Nat.le_of_ble_eq_true rfl) rfl rfl (by decide) (by decide) (fun v9 M1 hq9 => ?_)
    obtain ⟨v', f', rfl, hv', rfl, hf1, hf2⟩ := hq9
    refine zv_aret dJ7_copyOfRange_39247_16 rfl (Or.inr ⟨_, rfl⟩) (by decide) (by decide) ?_
    exact zEi ⟨v', f', rfl, hv', rfl, hf1, hf2⟩

set_option maxRecDepth 100000 in
set_option maxHeartbeats 4000000 in
theorem c_J5_getValue {σ : zSg} {M : zM} {s v : Nat} {x y z : Value} (hs : M s = some (.inr (1, [.ref v, x, y, z]))) : zCon μJ5_getValue_6d5f1 (1, 0, 0) σ [.ref s] M (zP (some (.ref v)) M) := by
  refine zCon.of (plainFor_of_name (by decide)) rfl (Nat.le_of_ble_eq_true rfl) ?_
  change zV _ _ _ _ _ 0 0 0 [(0, .ref s)] []
  refine zv_aload_n (n := 1) dJ5_getValue_6d5f1_0 rfl rfl ?_
  refine zv_get (n := 4) dJ5_getValue_6d5f1_1 rfl hs FJ5_15 rfl ?_
  refine zv_aret dJ5_getValue_6d5f1_4 rfl (Or.inr ⟨_, rfl⟩) (by decide) (by decide) ?_
  exact zPi

set_option maxRecDepth 100000 in
set_option maxHeartbeats 4000000 in
theorem c_J0_init2 {σ : zSg} {M : zM} {q s v n m : Nat} {t : Nat → Nat} (hq : M q = some (.inr (0, [.null, .int 0, .int 0, .int 0]))) (hS : zSB M s v t n m) (hn : n ≤ 150) : zCon μJ0_init_db425 (4, 1, 150) σ [.ref q, .ref s, .null] M (zF none (fun M' => ∃ v', M v' = none ∧ zMs M' q v' t n ∧ ∀ x, x ≠ q → x ≠ v' → M' x = M x)) := by
  have hS9 := hS
  obtain ⟨ml, a, h1, h2, hL, hf, hnm, hm⟩ := hS
  refine zCon.of (plainFor_of_name (by decide)) rfl (Nat.le_of_ble_eq_true rfl) ?_
  change zV _ _ _ _ _ 0 0 0 [(0, .ref q), (1, .ref s), (2, .null)] []
  refine zv_aload_n (n := 1) dJ0_init_db425_0 rfl rfl ?_
  refine zv_objInit (n := 4) dJ0_init_db425_1 rfl lJ0_1 zob1 zob2 ?_ (by decide)
  refine zv_aload_n (n := 5) dJ0_init_db425_4 rfl rfl ?_
  refine zv_callCP (n := 8) (As := []) (rest := []) (kc' := 0) (ks' := 0) dJ0_init_db425_5 rfl (c_J5_getValue h1) rfl kJ5_getValue_6d5f1C lJ0_552 h1 rfl rfl rfl ⟨by decide, by decide⟩ (Nat.le_of_ble_eq_true rfl) rfl rfl (by decide) (by decide) ?_
  refine zv_astore_n (n := 9) (lv' := [(3, .ref v), (0, .ref q), (1, .ref s), (2, .null)]) dJ0_init_db425_8 rfl (by decide) rfl ?_
  refine zv_aload_n (n := 10) dJ0_init_db425_9 rfl rfl ?_
  refine zv_callOP (n := 13) (As := []) (rest := []) (kc' := 0) (ks' := 0) dJ0_init_db425_10 rfl (c_J4_length hS9) rfl kJ4_lengthO lJ0_549 h1 rfl rfl rfl ⟨by decide, by decide⟩ (Nat.le_of_ble_eq_true rfl) rfl rfl (by decide) (by decide) ?_
  refine zv_istore (n := 15) (lv' := [(4, .int (nI n)), (3, .ref v), (0, .ref q), (1, .ref s), (2, .null)]) dJ0_init_db425_13 rfl (by decide) rfl ?_
  refine zv_aload_n (n := 16) dJ0_init_db425_15 rfl rfl ?_
  refine zv_callCP (n := 19) (As := []) (rest := []) (kc' := 0) (ks' := 0) dJ0_init_db425_16 rfl (c_J5_isLatin1 h1) rfl kJ5_isLatin1_aae02C lJ0_1047 h1 rfl rfl rfl ⟨by decide, by decide⟩ (Nat.le_of_ble_eq_true rfl) rfl rfl (by decide) (by decide) ?_
  refine zv_if_eq (n := 22) (tgt := 41) dJ0_init_db425_19 (by decide) rfl (fun h19 => False.elim (absurd h19 (by decide))) (fun h19 => ?_)
  refine zv_aload_n (n := 23) dJ0_init_db425_22 rfl rfl ?_
  refine zv_iconst (n := 24) dJ0_init_db425_23 rfl (v := 0) (by decide) ?_
  refine zv_putF (n := 27) dJ0_init_db425_24 rfl hq FJ0_15 zcl_J0 zty_J0_1 rfl ⟨_, rfl, rfl⟩ rfl rfl (Nat.le_of_ble_eq_true rfl) ?_
  have hsq : s ≠ q := fun e => by rw [e, hq] at h1; cases h1
  have hvq : v ≠ q := fun e => by rw [e, hq] at h2; cases h2
  have e1 : zup M q (.inr (0, [.null, .int 0, .int 0, .int 0])) = M := by
    funext x
    by_cases hx : x = q
    · rw [hx, zup_s, hq]
    · rw [zup_n hx]
  refine (show zV _ _ _ _ (zup M q (.inr (0, [.null, .int 0, .int 0, .int 0]))) _ _ _ _ _ from ?_)
  rw [e1]
  refine zv_aload_n (n := 28) dJ0_init_db425_27 rfl rfl ?_
  refine zv_aload_n (n := 29) dJ0_init_db425_28 rfl rfl ?_
  refine zv_iconst (n := 30) dJ0_init_db425_29 rfl (v := 0) (by decide) ?_
  refine zv_iload (n := 32) dJ0_init_db425_30 rfl rfl ?_
  refine zv_callSE (n := 35) (As := [.ref v, .int 0, .int (nI n)]) (rest := [.ref q]) (kc' := 1) (ks' := 150) dJ0_init_db425_32 rfl (c_J7_copyR h2 hf hnm hm hn) rfl kJ7_copyOfRange_39247 lJ0_54 rfl rfl ⟨by decide, by decide⟩ (Nat.le_of_ble_eq_true rfl) rfl rfl (by decide) (by decide) (fun v9 M1 hq9 => ?_)
  obtain ⟨v', f', rfl, hv', rfl, hf1, hf2⟩ := hq9
  have hqv : q ≠ v' := fun e => by rw [e, hv'] at hq; cases hq
  refine zv_putF (n := 38) dJ0_init_db425_35 rfl ((zup_n hqv).trans hq) FJ0_9 zcl_J0 zty_J0_0 rfl ⟨_, rfl, rfl⟩ rfl rfl (Nat.le_of_ble_eq_true rfl) ?_
  refine zv_goto (tgt := 97) dJ0_init_db425_38 (by decide) ?_
  refine zv_vret dJ0_init_db425_97 rfl (by decide) (by decide) ?_
  refine zFi ⟨v', hv', ⟨f', zup_s, (zup_n hqv.symm).trans zup_s, fun j hj => ?_, hn⟩, fun x hx1 hx2 => ?_⟩
  · exact ⟨(hL j hj).1, (hf1 j hj).trans (hL j hj).2⟩
  · rw [zup_n hx1, zup_n hx2]

set_option maxRecDepth 100000 in
set_option maxHeartbeats 4000000 in
theorem c_J0_init1 {σ : zSg} {M : zM} {q s v n m : Nat} {t : Nat → Nat} (hq : M q = some (.inr (0, [.null, .int 0, .int 0, .int 0]))) (hS : zSB M s v t n m) (hn : n ≤ 150) : zCon μJ0_init_81219 (5, 1, 150) σ [.ref q, .ref s] M (zF none (fun M' => ∃ v', M v' = none ∧ zMs M' q v' t n ∧ ∀ x, x ≠ q → x ≠ v' → M' x = M x)) := by
  refine zCon.of (plainFor_of_name (by decide)) rfl (Nat.le_of_ble_eq_true rfl) ?_
  change zV _ _ _ _ _ 0 0 0 [(0, .ref q), (1, .ref s)] []
  refine zv_aload_n (n := 1) dJ0_init_81219_0 rfl rfl ?_
  refine zv_aload_n (n := 2) dJ0_init_81219_1 rfl rfl ?_
  refine zv_null (n := 3) dJ0_init_81219_2 rfl ?_
  refine zv_callIF0 (n := 6) (As := [.ref s, .null]) (rest := []) (kc' := 1) (ks' := 150) dJ0_init_81219_3 rfl (c_J0_init2 hq hS hn) rfl rfl kJ0_init_db425 lJ0_489 rfl rfl ⟨by decide, by decide⟩ (Nat.le_of_ble_eq_true rfl) rfl rfl (by decide) (by decide) (fun M1 hq2 => ?_)
  refine zv_vret dJ0_init_81219_6 rfl (by decide) (by decide) ?_
  exact zFi hq2

set_option maxRecDepth 100000 in
set_option maxHeartbeats 4000000 in
theorem c_J4_toString {σ : zSg} {M : zM} {s v n m : Nat} {t : Nat → Nat} (hS : zSB M s v t n m) (hn : n ≤ 150) : zCon μJ4_toString_0e30d (6, 2, 154) σ [.ref s] M (zE9 (fun r M' => ∃ q v', r = .ref q ∧ M q = none ∧ M v' = none ∧ zMs M' q v' t n ∧ ∀ x, x ≠ q → x ≠ v' → M' x = M x)) := by
  have hS9 := hS
  obtain ⟨ml, a, h1, h2, hL, hf, hnm, hm⟩ := hS
  refine zCon.of (plainFor_of_name (by decide)) rfl (Nat.le_of_ble_eq_true rfl) ?_
  change zV _ _ _ _ _ 0 0 0 [(0, .ref s)] []
  refine zv_new (n := 3) (kc' := 1) (ks' := 4) dJ4_toString_0e30d_0 rfl nJ4_18 rfl rfl (by decide) (by decide) (fun q hq => ?_)
  have hsq : s ≠ q := fun e => by rw [e, hq] at h1; cases h1
  have hvq : v ≠ q := fun e => by rw [e, hq] at h2; cases h2
  refine zv_dup (n := 4) dJ4_toString_0e30d_3 rfl rfl ?_
  refine zv_aload_n (n := 5) dJ4_toString_0e30d_4 rfl rfl ?_
  refine zv_callIF0 (n := 8) (As := [.ref s]) (rest := [.ref q]) (kc' := 2) (ks' := 154) dJ4_toString_0e30d_5 rfl (c_J0_init1 (q := q) zup_s (hS9.keep (zup_n hsq) (zup_n hvq)) hn) rfl rfl kJ0_init_81219 lJ4_137 rfl rfl ⟨by decide, by decide⟩ (Nat.le_of_ble_eq_true rfl) rfl rfl (by decide) (by decide) (fun M2 hq2 => ?_)
  obtain ⟨v', hv', hm2, fr⟩ := hq2
  have hvq' : v' ≠ q := fun e => by rw [e, zup_s] at hv'; cases hv'
  rw [zup_n hvq'] at hv'
  refine zv_aret dJ4_toString_0e30d_8 rfl (Or.inl ⟨_, rfl⟩) (by decide) (by decide) ?_
  refine zEi ⟨q, v', rfl, hq, hv', hm2, fun x hx1 hx2 => ?_⟩
  rw [fr x hx1 hx2, zup_n hx1]


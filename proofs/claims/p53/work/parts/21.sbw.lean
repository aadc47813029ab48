/-! StringBuilder: words, and what its methods do to a text of Latin-1 letters: laid by wip/p53/m21.py. -/
section
variable {μ : zMeth} {R : zRoom} {σ : zSg} {Q : zO → zM → Prop} {M : zM} {kc ks pc n : Nat} {lv : List (Nat × Value)} {rest : List Value}
/-- it answers something of which P holds -/
def zE9 (P : Value → zM → Prop) : zO → zM → Prop := fun o M' => ∃ v, o = .inl (some v) ∧ P v M'
theorem zEi {P : Value → zM → Prop} {v : Value} (h : P v M) : zE9 P (.inl (some v)) M := ⟨v, rfl, h⟩
theorem zv_callVE {y : zMeth} {Ry : zRoom} {As rest st : List Value} {idx k kc' ks' : Nat} {b ci : Nat} {fs : List Value} {P : Value → zM → Prop} (hd : decode μ.2.1 pc = .ok (.invokevirtual idx, 3)) (hn : pc + 3 = n) (hC : zCon y Ry σ (.ref b :: As) M (zE9 P)) (hh : y.2.2.2.2 = []) (hK : zKV y k) (hlk : zin (.methodLink μ.1.cls idx y.1)) (hb : M b = some (.inr (ci, fs))) (hc : (vwCl[ci]?).map (fun r => r.1) = some y.1.cls) (hst : As.reverse ++ .ref b :: rest = st) (hlen : As.length = k) (hr : zRm y Ry R) (hW : (rest.map fun v => v.category).sum ≤ 8) (h1 : kc + Ry.2.1 = kc') (h2 : ks + Ry.2.2 = ks') (hk : kc' ≤ R.2.1) (hs : ks' ≤ R.2.2)
    (kk : ∀ (v : Value) (M' : zM), P v M' → zV μ R σ Q M' kc' ks' n lv (v :: rest)) : zV μ R σ Q M kc ks pc lv (st) :=
  zv_callV hd hn hC hh hK hlk hb hc hst hlen hr hW h1 h2 hk hs (fun v' M' h => by
    obtain ⟨v, e1, e2⟩ := h
    cases e1
    exact kk v M' e2) (fun E M' h => by
    obtain ⟨v, e1, e2⟩ := h
    cases e1)
theorem zv_callSE {y : zMeth} {Ry : zRoom} {As rest st : List Value} {idx k kc' ks' : Nat} {P : Value → zM → Prop} (hd : decode μ.2.1 pc = .ok (.invokestatic idx, 3)) (hn : pc + 3 = n) (hC : zCon y Ry σ As M (zE9 P)) (hh : y.2.2.2.2 = []) (hK : zKS y k) (hlk : zin (.methodLink μ.1.cls idx y.1)) (hst : As.reverse ++ rest = st) (hlen : As.length = k) (hr : zRm y Ry R) (hW : (rest.map fun v => v.category).sum ≤ 8) (h1 : kc + Ry.2.1 = kc') (h2 : ks + Ry.2.2 = ks') (hk : kc' ≤ R.2.1) (hs : ks' ≤ R.2.2)
    (kk : ∀ (v : Value) (M' : zM), P v M' → zV μ R σ Q M' kc' ks' n lv (v :: rest)) : zV μ R σ Q M kc ks pc lv (st) :=
  zv_callS hd hn hC hh hK hlk hst hlen hr hW h1 h2 hk hs (fun v' M' h => by
    obtain ⟨v, e1, e2⟩ := h
    cases e1
    exact kk v M' e2) (fun E M' h => by
    obtain ⟨v, e1, e2⟩ := h
    cases e1)
theorem zv_callQE {y : zMeth} {Ry : zRoom} {As rest st : List Value} {idx k kc' ks' : Nat} {b ci : Nat} {fs : List Value} {C : String} {P : Value → zM → Prop} (hd : decode μ.2.1 pc = .ok (.invokevirtual idx, 3)) (hn : pc + 3 = n) (hC : zCon y Ry σ (.ref b :: As) M (zE9 P)) (hh : y.2.2.2.2 = []) (hK : zKQ y k) (hlk : zin (.methodLink μ.1.cls idx y.1)) (hb : M b = some (.inr (ci, fs))) (hc : (vwCl[ci]?).map (fun r => r.1) = some C) (hst : As.reverse ++ .ref b :: rest = st) (hlen : As.length = k) (hr : zRm y Ry R) (hW : (rest.map fun v => v.category).sum ≤ 8) (h1 : kc + Ry.2.1 = kc') (h2 : ks + Ry.2.2 = ks') (hk : kc' ≤ R.2.1) (hs : ks' ≤ R.2.2)
    (kk : ∀ (v : Value) (M' : zM), P v M' → zV μ R σ Q M' kc' ks' n lv (v :: rest)) : zV μ R σ Q M kc ks pc lv (st) :=
  zv_callQ hd hn hC hh hK hlk hb hc hst hlen hr hW h1 h2 hk hs (fun v' M' h => by
    obtain ⟨v, e1, e2⟩ := h
    cases e1
    exact kk v M' e2) (fun E M' h => by
    obtain ⟨v, e1, e2⟩ := h
    cases e1)
theorem zv_copyb {a0 a n0 n1 idx : Nat} {f g : Nat → Int32} {sp dp x : Int32} (hd : decode μ.2.1 pc = .ok (.invokestatic idx, 3)) (hn : pc + 3 = n) (hlk : zin (.methodLink μ.1.cls idx arraycopyName)) (ha0 : M a0 = some (zAB n0 f)) (ha : M a = some (zAB n1 g)) (hf : sb_Fit f) (h1 : ¬ sp < 0) (h2 : ¬ dp < 0) (h3 : ¬ x < 0) (h4 : sp.toNatClampNeg + x.toNatClampNeg ≤ n0) (h5 : dp.toNatClampNeg + x.toNatClampNeg ≤ n1) (hW : (rest.map fun v => v.category).sum ≤ 8)
    (kk : zV μ R σ Q (zup M a (zAB n1 (va_cpy f g sp.toNatClampNeg dp.toNatClampNeg x.toNatClampNeg))) kc ks n lv rest) : zV μ R σ Q M kc ks pc lv (.int x :: .int dp :: .ref a :: .int sp :: .ref a0 :: rest) := by
  subst hn
  intro p l e s m args below meth c κ Z H locs ls hM hS hl
  obtain ⟨L, F, hP, hD, hMM⟩ := hM
  obtain ⟨g1, g2⟩ := hMM a0 _ ha0
  obtain ⟨j0, hj0⟩ := va_pl_get (X := []) (f := F) g1
  obtain ⟨g3, g4⟩ := hMM a _ ha
  obtain ⟨j1, hj1⟩ := va_pl_get (X := []) (f := F) g3
  rw [List.nil_append] at hj0 hj1
  rw [g2] at hj0
  rw [g4] at hj1
  have hw : nativeFrameWords "java/lang/System" "arraycopy" 5 + 11 ≤ 300 := by decide
  refine va_copyi (ws := va_pl L F) (ty := .byte) Z.1 Z.2.1 (Z.2.2.1.trans hl.1.symm) Z.own (Z.w hlk _) (Z.w zac1 _) (Z.w zac2 _) (Z.w zac3 _) Z.K hP hD hS j0 j1 0 0 hj0 hj1 rfl rfl rfl h1 h2 h3 h4 h5 (fun i _ => hf _) (by show 1 ≤ 20 + R.1; omega) (by show _ ≤ 400 + 100 * R.1; omega) hd (fun H1 locs1 hP1 hD1 hS1 => kk p l e s m args below meth c κ Z H1 locs1 ls ?_ hS1 hl)
  have es := va_pl_set (X := []) (e := zT κ (zAB n1 (va_cpy f g sp.toNatClampNeg dp.toNatClampNeg x.toNatClampNeg))) hD g3 (by rw [List.nil_append, g4]; exact hj1)
  simp only [List.nil_append] at es
  change va_P κ.1 vwCl ((va_pl L F).set j1 (a, zT κ (zAB n1 (va_cpy f g sp.toNatClampNeg dp.toNatClampNeg x.toNatClampNeg)))) H1 at hP1
  change va_D (zA σ) ((va_pl L F).set j1 (a, zT κ (zAB n1 (va_cpy f g sp.toNatClampNeg dp.toNatClampNeg x.toNatClampNeg)))) at hD1
  rw [es] at hP1 hD1
  exact zW_up hMM g3 hP1 hD1
end
theorem kJ5_length_8abf5U : zKU RJ4 μJ5_length_8abf5 0 := ⟨⟨by decide, by decide, by decide +kernel⟩, z_a3 214 rfl rfl, z_a7 48 rfl rfl, z_a1 198 rfl rfl, z_a3 215 rfl rfl, z_a1 8 rfl rfl, by decide⟩
theorem kJ5_ensureCapacityInternal_d00dfQ : zKQ μJ5_ensureCapacityInternal_d00df 1 := ⟨⟨by decide, by decide, by decide +kernel⟩, z_a3 230 rfl rfl, z_a3 229 rfl rfl, z_a7 50 rfl rfl, z_a3 231 rfl rfl, z_a1 8 rfl rfl⟩
theorem kJ5_newCapacity_0f7a4Q : zKQ μJ5_newCapacity_0f7a4 1 := ⟨⟨by decide, by decide, by decide +kernel⟩, z_a3 234 rfl rfl, z_a3 233 rfl rfl, z_a7 51 rfl rfl, z_a3 235 rfl rfl, z_a1 8 rfl rfl⟩
theorem kJ5_inflate_da8c8Q : zKQ μJ5_inflate_da8c8 0 := ⟨⟨by decide, by decide, by decide +kernel⟩, z_a4 27 rfl rfl, z_a4 26 rfl rfl, z_a7 52 rfl rfl, z_a4 28 rfl rfl, z_a1 8 rfl rfl⟩
theorem kJ5_setLength_d00dfU : zKU RJ4 μJ5_setLength_d00df 1 := ⟨⟨by decide, by decide, by decide +kernel⟩, z_a4 162 rfl rfl, z_a7 54 rfl rfl, z_a1 198 rfl rfl, z_a4 163 rfl rfl, z_a1 8 rfl rfl, by decide⟩
theorem kJ5_charAt_5068eU : zKU RJ4 μJ5_charAt_5068e 1 := ⟨⟨by decide, by decide, by decide +kernel⟩, z_a4 135 rfl rfl, z_a7 53 rfl rfl, z_a1 198 rfl rfl, z_a4 136 rfl rfl, z_a1 8 rfl rfl, by decide⟩
theorem kJ5_append_cf1ceU : zKU RJ4 μJ5_append_cf1ce 1 := ⟨⟨by decide, by decide, by decide +kernel⟩, z_a4 177 rfl rfl, z_a7 55 rfl rfl, z_a1 198 rfl rfl, z_a4 178 rfl rfl, z_a1 8 rfl rfl, by decide⟩
theorem kJ5_appendNull_278bcQ : zKQ μJ5_appendNull_278bc 0 := ⟨⟨by decide, by decide, by decide +kernel⟩, z_a4 181 rfl rfl, z_a4 180 rfl rfl, z_a7 56 rfl rfl, z_a4 182 rfl rfl, z_a1 8 rfl rfl⟩
theorem kJ5_append_3fe6fU : zKU RJ4 μJ5_append_3fe6f 1 := ⟨⟨by decide, by decide, by decide +kernel⟩, z_a3 226 rfl rfl, z_a7 49 rfl rfl, z_a1 198 rfl rfl, z_a3 227 rfl rfl, z_a1 8 rfl rfl, by decide⟩
theorem kJ5_append_c97b9U : zKU RJ4 μJ5_append_c97b9 1 := ⟨⟨by decide, by decide, by decide +kernel⟩, z_a4 216 rfl rfl, z_a7 59 rfl rfl, z_a1 198 rfl rfl, z_a4 217 rfl rfl, z_a1 8 rfl rfl, by decide⟩
theorem kJ5_getValue_6d5f1C : zKC "java/lang/StringBuilder" μJ5_getValue_6d5f1 0 := ⟨⟨by decide, by decide, by decide +kernel⟩, z_a5 9 rfl rfl, z_a5 11 rfl rfl, z_a5 12 rfl rfl, z_a1 8 rfl rfl⟩
theorem kJ5_isLatin1_aae02C : zKC "java/lang/StringBuilder" μJ5_isLatin1_aae02 0 := ⟨⟨by decide, by decide, by decide +kernel⟩, z_a4 18 rfl rfl, z_a4 20 rfl rfl, z_a4 21 rfl rfl, z_a1 8 rfl rfl⟩
theorem kJ5_inflateIfNeededFor_a7421Q : zKQ μJ5_inflateIfNeededFor_a7421 1 := ⟨⟨by decide, by decide, by decide +kernel⟩, z_a4 202 rfl rfl, z_a4 201 rfl rfl, z_a7 58 rfl rfl, z_a4 203 rfl rfl, z_a1 8 rfl rfl⟩
theorem kJ5_putStringAt_47b60Q : zKQ μJ5_putStringAt_47b60 2 := ⟨⟨by decide, by decide, by decide +kernel⟩, z_a4 198 rfl rfl, z_a4 197 rfl rfl, z_a7 57 rfl rfl, z_a4 199 rfl rfl, z_a1 8 rfl rfl⟩
theorem zpl_J6_getChars_ba4f3 : plainFor yJ6_getChars_ba4f3 = true := zpl_of (by decide +kernel)
theorem zpl_J6_stringSize_0f7a4 : plainFor yJ6_stringSize_0f7a4 = true := zpl_of (by decide +kernel)
/-- a builder s, its bytes v, its text t up to n, its room m -/
def zSB (M : zM) (s v : Nat) (t : Nat → Nat) (n m : Nat) : Prop := ∃ (ml : Int32) (a : Nat → Int32), M s = some (.inr (1, [.ref v, .int 0, .int ml, .int (nI n)])) ∧ M v = some (zAB m a) ∧ sb_Lat t n a ∧ sb_Fit a ∧ n ≤ m ∧ m ≤ 65536
/-- what a builder's method leaves -/
def zGr (M M' : zM) (s v v' : Nat) : Prop := (v' = v ∨ M v' = none) ∧ ∀ a, a ≠ s → a ≠ v → a ≠ v' → M' a = M a
theorem zGr.rf {M : zM} {s v : Nat} : zGr M M s v v := ⟨Or.inl rfl, fun _ _ _ _ => rfl⟩
theorem zSB.vs {M : zM} {s v : Nat} {t : Nat → Nat} {n m : Nat} (h : zSB M s v t n m) : v ≠ s := by
  obtain ⟨ml, a, h1, h2, _⟩ := h
  intro e
  subst e
  rw [h1] at h2
  cases h2

theorem fMax_nI {a b : Nat} (ha : a < 2 ^ 31) (hb : b < 2 ^ 31) : fMax (nI a) (nI b) = nI (if a < b then b else a) := by
  unfold fMax
  by_cases h : a < b
  · rw [if_pos (nI_lt h hb), if_pos h]
  · rw [if_neg (nI_nlt (by omega) ha), if_neg h]
theorem fMin_nI {a b : Nat} (ha : a < 2 ^ 31) (hb : b < 2 ^ 31) : fMin (nI a) (nI b) = nI (if b < a then b else a) := by
  unfold fMin
  by_cases h : b < a
  · rw [if_pos (nI_lt h ha), if_pos h]
  · rw [if_neg (nI_nlt (by omega) hb), if_neg h]

set_option maxRecDepth 100000 in
set_option maxHeartbeats 4000000 in
theorem c_J8_newLength {σ : zSg} {M : zM} {o k r : Nat} (hr : 0 < o + (if k < r then r else k)) (h : o + (if k < r then r else k) ≤ 65536) : zCon μJ8_newLength_cabcc (2, 0, 0) σ [.int (nI o), .int (nI k), .int (nI r)] M (zP (some (.int (nI (o + (if k < r then r else k))))) M) := by
  refine zCon.of (plainFor_of_name (by decide)) rfl (Nat.le_of_ble_eq_true rfl) ?_
  change zV _ _ _ _ _ 0 0 0 [(0, .int (nI o)), (1, .int (nI k)), (2, .int (nI r))] []
  refine zv_iload_n (n := 1) dJ8_newLength_cabcc_0 rfl rfl ?_
  refine zv_iload_n (n := 2) dJ8_newLength_cabcc_1 rfl rfl ?_
  refine zv_iload_n (n := 3) dJ8_newLength_cabcc_2 rfl rfl ?_
  refine zv_callSP (n := 6) (As := [.int (nI k), .int (nI r)]) (rest := [.int (nI o)]) (kc' := 0) (ks' := 0) dJ8_newLength_cabcc_3 rfl (c_max (nI k) (nI r)) rfl kJ9_max_7cf53 lJ8_194 rfl rfl ⟨by decide, by decide⟩ (Nat.le_of_ble_eq_true rfl) rfl rfl (by decide) (by decide) ?_
  rw [show fMax (nI k) (nI r) = nI (if k < r then r else k) from fMax_nI (by split at h <;> omega) (by split at h <;> omega)]
  refine zv_iadd (n := 7) dJ8_newLength_cabcc_6 rfl ?_
  refine zv_istore_n (n := 8) (lv' := [(3, .int ((nI o) + (nI (if k < r then r else k)))), (0, .int (nI o)), (1, .int (nI k)), (2, .int (nI r))]) dJ8_newLength_cabcc_7 rfl (by decide) rfl ?_
  refine zv_iconst (n := 9) dJ8_newLength_cabcc_8 rfl (v := 0) (by decide) ?_
  refine zv_iload_n (n := 10) dJ8_newLength_cabcc_9 rfl rfl ?_
  refine zv_icmp_ge (n := 13) (tgt := 21) dJ8_newLength_cabcc_10 (by decide) rfl (fun h10 => False.elim (absurd h10 (by rw [nI_add]; exact nI_ge (a := 0) hr (by omega)))) (fun h10 => ?_)
  refine zv_iload_n (n := 14) dJ8_newLength_cabcc_13 rfl rfl ?_
  refine zv_ldci (n := 16) dJ8_newLength_cabcc_14 rfl qJ8_200 ?_
  refine zv_icmp_gt (n := 19) (tgt := 21) dJ8_newLength_cabcc_16 (by decide) rfl (fun h16 => False.elim (absurd h16 (by rw [nI_add]; exact nI_nlt (a := 2147483639) (by omega) (by decide)))) (fun h16 => ?_)
  refine zv_iload_n (n := 20) dJ8_newLength_cabcc_19 rfl rfl ?_
  refine zv_iret dJ8_newLength_cabcc_20 rfl (by decide) (by decide) ?_
  rw [nI_add]
  exact zPi

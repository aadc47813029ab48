/-! Bits of floats; the script's ints; at and some: laid by wip/p53/m48.py. -/
section
variable {μ : zMeth} {R : zRoom} {σ : zSg} {Q : zO → zM → Prop} {M : zM} {kc ks pc n : Nat} {lv : List (Nat × Value)} {rest : List Value}
theorem zv_dcmp {x y : UInt64} {op : CmpOp} (hd : decode μ.2.1 pc = .ok (.dcmp op, 1)) (hn : pc + 1 = n) (k : zV μ R σ Q M kc ks n lv (.int (Op.cmpValue (FP.dcmp x y) op) :: rest)) : zV μ R σ Q M kc ks pc lv (.double y :: .double x :: rest) := by
  subst hn
  exact fun p l e s m args below meth c κ Z H locs ls hM hS hl => lv_dcmp Z.1 Z.2.1 hd (k p l e s m args below meth c κ Z H locs ls hM hS hl)
theorem zv_d2bits {v : UInt64} {idx : Nat} (hd : decode μ.2.1 pc = .ok (.invokestatic idx, 3)) (hn : pc + 3 = n) (hlk : zin (.methodLink μ.1.cls idx ⟨"java/lang/Double", "doubleToRawLongBits", "(D)J"⟩)) (hW : (rest.map fun v => v.category).sum ≤ 8) (k : zV μ R σ Q M kc ks n lv (.long v.toInt64 :: rest)) : zV μ R σ Q M kc ks pc lv (.double v :: rest) := by
  subst hn
  intro p l e s m args below meth c κ Z H locs ls hM hS hl
  have h1 : zin (.native ⟨"java/lang/Double", "doubleToRawLongBits", "(D)J"⟩) := z_a6 4 rfl rfl
  have h2 : zin (.static ⟨"java/lang/Double", "doubleToRawLongBits", "(D)J"⟩) := z_a6 3 rfl rfl
  have h3 : zin (.initialized "java/lang/Double") := z_a1 34 rfl rfl
  exact vn_d2l (rest := rest) Z.1 Z.2.1 (Z.2.2.1.trans hl.1.symm) Z.own (Z.w hlk _) (Z.w h1 _) (Z.w h2 _) (Z.w h3 _) (by show 1 ≤ 20 + R.1; omega) (by show _ ≤ 400 + 100 * R.1; omega) hd (k p l e s m args below meth c κ Z H locs ls hM hS hl)
theorem zv_f2bits {v : UInt32} {idx : Nat} (hd : decode μ.2.1 pc = .ok (.invokestatic idx, 3)) (hn : pc + 3 = n) (hlk : zin (.methodLink μ.1.cls idx ⟨"java/lang/Float", "floatToRawIntBits", "(F)I"⟩)) (hW : (rest.map fun v => v.category).sum ≤ 8) (k : zV μ R σ Q M kc ks n lv (.int v.toInt32 :: rest)) : zV μ R σ Q M kc ks pc lv (.float v :: rest) := by
  subst hn
  intro p l e s m args below meth c κ Z H locs ls hM hS hl
  have h1 : zin (.native ⟨"java/lang/Float", "floatToRawIntBits", "(F)I"⟩) := z_a6 22 rfl rfl
  have h2 : zin (.static ⟨"java/lang/Float", "floatToRawIntBits", "(F)I"⟩) := z_a6 21 rfl rfl
  have h3 : zin (.initialized "java/lang/Float") := z_a1 35 rfl rfl
  exact vn_f2i (rest := rest) Z.1 Z.2.1 (Z.2.2.1.trans hl.1.symm) Z.own (Z.w hlk _) (Z.w h1 _) (Z.w h2 _) (Z.w h3 _) (by show 1 ≤ 20 + R.1; omega) (by show _ ≤ 400 + 100 * R.1; omega) hd (k p l e s m args below meth c κ Z H locs ls hM hS hl)
theorem zv_slen {v : Int32} (hd : decode μ.2.1 pc = .ok (.arraylength, 1)) (hn : pc + 1 = n) (hv : nI (σ.1 2) = v) (kk : zV μ R σ Q M kc ks n lv (.int v :: rest)) : zV μ R σ Q M kc ks pc lv (.ref (σ.1 1) :: rest) := by
  subst hn
  subst hv
  exact fun p l e s m args below meth c κ Z H locs ls hM hS hl => va_slen Z.1 Z.2.1 (A := zA σ) Z.G.2.2.2.2.2.2.2.2.2.2.2.2.2.2.2.2.2.1 Z.G.2.2.2.2.2.2.2.2.2.2.2.2.2.2.2.2.2.2.2.1 Z.G.2.2.2.2.2.2.2.2.2.2.2.2.2.2.2.2.2.2.1 hS hd (kk p l e s m args below meth c κ Z H locs ls hM hS hl)
theorem zv_sld {i v : Int32} (hd : decode μ.2.1 pc = .ok (.iaload, 1)) (hn : pc + 1 = n) (hi : vp_in i (σ.1 2)) (hv : σ.2 i.toNatClampNeg = v) (kk : zV μ R σ Q M kc ks n lv (.int v :: rest)) : zV μ R σ Q M kc ks pc lv (.int i :: .ref (σ.1 1) :: rest) := by
  subst hn
  subst hv
  exact fun p l e s m args below meth c κ Z H locs ls hM hS hl => va_sld Z.1 Z.2.1 (A := zA σ) Z.G.2.2.2.2.2.2.2.2.2.2.2.2.2.2.2.2.2.1 Z.G.2.2.2.2.2.2.2.2.2.2.2.2.2.2.2.2.2.2.2.1 Z.G.2.2.2.2.2.2.2.2.2.2.2.2.2.2.2.2.2.2.1 hS hi hd (kk p l e s m args below meth c κ Z H locs ls hM hS hl)
theorem zv_bound (h : σ.1 2 ≤ 260 → zV μ R σ Q M kc ks pc lv rest) : zV μ R σ Q M kc ks pc lv rest :=
  fun p l e s m args below meth c κ Z H locs ls hM hS hl => h Z.G.2.2.2.2.2.2.2.2.2.2.2.2.2.2.2.2.2.2.2.2.1 p l e s m args below meth c κ Z H locs ls hM hS hl
end
theorem zpl_Jxe99ae_isNaN_b9ae7 : plainFor yJxe99ae_isNaN_b9ae7 = true := zpl_of (by decide +kernel)
theorem zpl_Jxe99ae_doubleToLongBits_ccdee : plainFor yJxe99ae_doubleToLongBits_ccdee = true := zpl_of (by decide +kernel)
theorem zpl_Jxf58ca_isNaN_12338 : plainFor yJxf58ca_isNaN_12338 = true := zpl_of (by decide +kernel)
theorem zpl_Jxf58ca_floatToIntBits_5c35a : plainFor yJxf58ca_floatToIntBits_5c35a = true := zpl_of (by decide +kernel)
def fDn (x : UInt64) : Int32 := if Op.cmpValue (FP.dcmp x x) .l = 0 then 0 else 1
def fFn (x : UInt32) : Int32 := if Op.cmpValue (FP.fcmp x x) .l = 0 then 0 else 1
/-- doubleToLongBits, floatToIntBits -/
def fDB (x : UInt64) : Int64 := if fDn x = 0 then x.toInt64 else 9221120237041090560
def fFB (x : UInt32) : Int32 := if fFn x = 0 then x.toInt32 else 2143289344

set_option maxRecDepth 100000 in
set_option maxHeartbeats 4000000 in
theorem c_dNaN {σ : zSg} {M : zM} (x : UInt64) : zCon μJxe99ae_isNaN_b9ae7 (1, 0, 0) σ [.double x] M (zP (some (.int (fDn x))) M) := by
  refine zCon.of zpl_Jxe99ae_isNaN_b9ae7 rfl (Nat.le_of_ble_eq_true rfl) ?_
  change zV _ _ _ _ _ 0 0 0 [(0, .double x)] []
  refine zv_dload_n (n := 1) dJxe99ae_isNaN_b9ae7_0 rfl rfl ?_
  refine zv_dload_n (n := 2) dJxe99ae_isNaN_b9ae7_1 rfl rfl ?_
  refine zv_dcmp (n := 3) dJxe99ae_isNaN_b9ae7_2 rfl ?_
  refine zv_if_eq (n := 6) (tgt := 10) dJxe99ae_isNaN_b9ae7_3 (by decide) rfl (fun h3 => ?_) (fun h3 => ?_)
  · skip
    rw [show fDn x = 0 from if_pos h3]
    refine zv_iconst (n := 11) dJxe99ae_isNaN_b9ae7_10 rfl (v := 0) (by decide) ?_
    refine zv_zret dJxe99ae_isNaN_b9ae7_11 rfl rfl (by decide) (by decide) ?_
    exact zPi
  · skip
    rw [show fDn x = 1 from if_neg h3]
    refine zv_iconst (n := 7) dJxe99ae_isNaN_b9ae7_6 rfl (v := 1) (by decide) ?_
    refine zv_goto (tgt := 11) dJxe99ae_isNaN_b9ae7_7 (by decide) ?_
    refine zv_zret dJxe99ae_isNaN_b9ae7_11 rfl rfl (by decide) (by decide) ?_
    exact zPi

set_option maxRecDepth 100000 in
set_option maxHeartbeats 4000000 in
theorem c_fNaN {σ : zSg} {M : zM} (x : UInt32) : zCon μJxf58ca_isNaN_12338 (1, 0, 0) σ [.float x] M (zP (some (.int (fFn x))) M) := by
  refine zCon.of zpl_Jxf58ca_isNaN_12338 rfl (Nat.le_of_ble_eq_true rfl) ?_
  change zV _ _ _ _ _ 0 0 0 [(0, .float x)] []
  refine zv_fload_n (n := 1) dJxf58ca_isNaN_12338_0 rfl rfl ?_
  refine zv_fload_n (n := 2) dJxf58ca_isNaN_12338_1 rfl rfl ?_
  refine zv_fcmp (n := 3) dJxf58ca_isNaN_12338_2 rfl ?_
  refine zv_if_eq (n := 6) (tgt := 10) dJxf58ca_isNaN_12338_3 (by decide) rfl (fun h3 => ?_) (fun h3 => ?_)
  · skip
    rw [show fFn x = 0 from if_pos h3]
    refine zv_iconst (n := 11) dJxf58ca_isNaN_12338_10 rfl (v := 0) (by decide) ?_
    refine zv_zret dJxf58ca_isNaN_12338_11 rfl rfl (by decide) (by decide) ?_
    exact zPi
  · skip
    rw [show fFn x = 1 from if_neg h3]
    refine zv_iconst (n := 7) dJxf58ca_isNaN_12338_6 rfl (v := 1) (by decide) ?_
    refine zv_goto (tgt := 11) dJxf58ca_isNaN_12338_7 (by decide) ?_
    refine zv_zret dJxf58ca_isNaN_12338_11 rfl rfl (by decide) (by decide) ?_
    exact zPi

set_option maxRecDepth 100000 in
set_option maxHeartbeats 4000000 in
theorem c_dBits {σ : zSg} {M : zM} (x : UInt64) : zCon μJxe99ae_doubleToLongBits_ccdee (2, 0, 0) σ [.double x] M (zP (some (.long (fDB x))) M) := by
  refine zCon.of zpl_Jxe99ae_doubleToLongBits_ccdee rfl (Nat.le_of_ble_eq_true rfl) ?_
  change zV _ _ _ _ _ 0 0 0 [(0, .double x)] []
  refine zv_dload_n (n := 1) dJxe99ae_doubleToLongBits_ccdee_0 rfl rfl ?_
  refine zv_callSP (n := 4) (As := [.double x]) (rest := []) (kc' := 0) (ks' := 0) dJxe99ae_doubleToLongBits_ccdee_1 rfl (c_dNaN x) rfl kJxe99ae_isNaN_b9ae7 lJxe99ae_122 rfl rfl ⟨by decide, by decide⟩ (Nat.le_of_ble_eq_true rfl) rfl rfl (by decide) (by decide) ?_
  refine zv_if_ne (n := 7) (tgt := 12) dJxe99ae_doubleToLongBits_ccdee_4 (by decide) rfl (fun h4 => ?_) (fun h4 => ?_)
  · skip
    rw [show fDB x = 9221120237041090560 from if_neg h4]
    refine zv_ldc2 (n := 15) dJxe99ae_doubleToLongBits_ccdee_12 rfl qJxe99ae_137 ?_
    refine zv_lret dJxe99ae_doubleToLongBits_ccdee_15 rfl (by decide) (by decide) ?_
    exact zPi
  · skip
    rw [show fDB x = x.toInt64 from if_pos h4]
    refine zv_dload_n (n := 8) dJxe99ae_doubleToLongBits_ccdee_7 rfl rfl ?_
    refine zv_d2bits (n := 11) dJxe99ae_doubleToLongBits_ccdee_8 rfl lJxe99ae_134 (by decide) ?_
    refine zv_lret dJxe99ae_doubleToLongBits_ccdee_11 rfl (by decide) (by decide) ?_
    exact zPi

set_option maxRecDepth 100000 in
set_option maxHeartbeats 4000000 in
theorem c_fBits {σ : zSg} {M : zM} (x : UInt32) : zCon μJxf58ca_floatToIntBits_5c35a (2, 0, 0) σ [.float x] M (zP (some (.int (fFB x))) M) := by
  refine zCon.of zpl_Jxf58ca_floatToIntBits_5c35a rfl (Nat.le_of_ble_eq_true rfl) ?_
  change zV _ _ _ _ _ 0 0 0 [(0, .float x)] []
  refine zv_fload_n (n := 1) dJxf58ca_floatToIntBits_5c35a_0 rfl rfl ?_
  refine zv_callSP (n := 4) (As := [.float x]) (rest := []) (kc' := 0) (ks' := 0) dJxf58ca_floatToIntBits_5c35a_1 rfl (c_fNaN x) rfl kJxf58ca_isNaN_12338 lJxf58ca_59 rfl rfl ⟨by decide, by decide⟩ (Nat.le_of_ble_eq_true rfl) rfl rfl (by decide) (by decide) ?_
  refine zv_if_ne (n := 7) (tgt := 12) dJxf58ca_floatToIntBits_5c35a_4 (by decide) rfl (fun h4 => ?_) (fun h4 => ?_)
  · skip
    rw [show fFB x = 2143289344 from if_neg h4]
    refine zv_ldci (n := 14) dJxf58ca_floatToIntBits_5c35a_12 rfl qJxf58ca_77 ?_
    refine zv_iret dJxf58ca_floatToIntBits_5c35a_14 rfl (by decide) (by decide) ?_
    exact zPi
  · skip
    rw [show fFB x = x.toInt32 from if_pos h4]
    refine zv_fload_n (n := 8) dJxf58ca_floatToIntBits_5c35a_7 rfl rfl ?_
    refine zv_f2bits (n := 11) dJxf58ca_floatToIntBits_5c35a_8 rfl lJxf58ca_74 (by decide) ?_
    refine zv_iret dJxf58ca_floatToIntBits_5c35a_11 rfl (by decide) (by decide) ?_
    exact zPi

/-- the script's k-th int, 0 behind its end -/
def fS (σ : zSg) (k : Nat) : Int32 := if k < σ.1 2 then σ.2 k else 0
/-- the law's own mod -/
def fSome (v n : Int32) : Int32 := if v - v / n * n < 0 then v - v / n * n + n else v - v / n * n

set_option maxRecDepth 100000 in
set_option maxHeartbeats 4000000 in
theorem c_L_at {σ : zSg} {M : zM} {k : Nat} (hk : k < 2 ^ 31) : zCon μL_at (1, 0, 0) σ [.ref (σ.1 1), .int (nI k)] M (zP (some (.int (fS σ k))) M) := by
  refine zCon.of (plainFor_of_name (by decide)) rfl (Nat.le_of_ble_eq_true rfl) ?_
  change zV _ _ _ _ _ 0 0 0 [(0, .ref (σ.1 1)), (1, .int (nI k))] []
  refine zv_bound (fun hL => ?_)
  refine zv_iload_n (n := 1) dL_at_0 rfl rfl ?_
  refine zv_aload_n (n := 2) dL_at_1 rfl rfl ?_
  refine zv_slen (n := 3) dL_at_2 rfl rfl ?_
  refine zv_icmp_ge (n := 6) (tgt := 12) dL_at_3 (by decide) rfl (fun h3 => ?_) (fun h3 => ?_)
  · skip
    rw [show fS σ k = 0 from if_neg (fun q => nI_ge q (by omega) h3)]
    refine zv_iconst (n := 13) dL_at_12 rfl (v := 0) (by decide) ?_
    refine zv_iret dL_at_13 rfl (by decide) (by decide) ?_
    exact zPi
  · skip
    have hlt : k < σ.1 2 := Nat.lt_of_not_le (fun q => h3 (nI_le q hk))
    rw [show fS σ k = σ.2 k from if_pos hlt]
    refine zv_aload_n (n := 7) dL_at_6 rfl rfl ?_
    refine zv_iload_n (n := 8) dL_at_7 rfl rfl ?_
    refine zv_sld (n := 9) (v := σ.2 k) dL_at_8 rfl (vp_in_nI hlt (by omega)) (by rw [nI_clamp hk]) ?_
    refine zv_goto (tgt := 13) dL_at_9 (by decide) ?_
    refine zv_iret dL_at_13 rfl (by decide) (by decide) ?_
    exact zPi

set_option maxRecDepth 100000 in
set_option maxHeartbeats 4000000 in
theorem c_L_some {σ : zSg} {M : zM} (v m : Int32) (hm : ¬ m = 0) : zCon μL_some (1, 0, 0) σ [.int v, .int m] M (zP (some (.int (fSome v m))) M) := by
  refine zCon.of (plainFor_of_name (by decide)) rfl (Nat.le_of_ble_eq_true rfl) ?_
  change zV _ _ _ _ _ 0 0 0 [(0, .int v), (1, .int m)] []
  refine zv_iload_n (n := 1) dL_some_0 rfl rfl ?_
  refine zv_iload_n (n := 2) dL_some_1 rfl rfl ?_
  refine zv_irem (n := 3) dL_some_2 rfl hm ?_
  refine zv_istore_n (n := 4) (lv' := [(2, .int (v - v / m * m)), (0, .int v), (1, .int m)]) dL_some_3 rfl (by decide) rfl ?_
  refine zv_iload_n (n := 5) dL_some_4 rfl rfl ?_
  refine zv_if_ge (n := 8) (tgt := 14) dL_some_5 (by decide) rfl (fun h5 => ?_) (fun h5 => ?_)
  · skip
    rw [show fSome v m = v - v / m * m from if_neg (Int32.not_lt.mpr h5)]
    refine zv_iload_n (n := 15) dL_some_14 rfl rfl ?_
    refine zv_iret dL_some_15 rfl (by decide) (by decide) ?_
    exact zPi
  · skip
    rw [show fSome v m = v - v / m * m + m from if_pos (Int32.not_le.mp h5)]
    refine zv_iload_n (n := 9) dL_some_8 rfl rfl ?_
    refine zv_iload_n (n := 10) dL_some_9 rfl rfl ?_
    refine zv_iadd (n := 11) dL_some_10 rfl ?_
    refine zv_goto (tgt := 15) dL_some_11 (by decide) ?_
    refine zv_iret dL_some_15 rfl (by decide) (by decide) ?_
    exact zPi

theorem fSome_in (v : Int32) {n : Nat} (h0 : 0 < n) (h : n < 2 ^ 30) : ∃ j, j < n ∧ fSome v (nI n) = nI j := by
  have hn : (nI n).toInt = (n : Int) := nI_toInt (by omega)
  have hn1 : nI n ≠ -1 := fun e => by
    have e2 := congrArg Int32.toInt e
    rw [hn, show (-1 : Int32).toInt = -1 from by decide] at e2
    omega
  have hv1 : -2147483648 ≤ v.toInt := v.le_toInt
  have hv2 : v.toInt < 2147483648 := v.toInt_lt
  have hp : (0 : Int) < (n : Int) := by omega
  have hr : ∃ r : Int, (v - v / nI n * nI n).toInt = r ∧ -(n : Int) < r ∧ r < (n : Int) := by
    have b3 := Int.tmod_lt_of_pos v.toInt hp
    have b1 : -(n : Int) < Int.tmod v.toInt n := by
      have q := Int.tmod_lt_of_pos (-v.toInt) hp
      rw [Int.neg_tmod] at q
      omega
    have hs : (0 ≤ v.toInt → 0 ≤ Int.tmod v.toInt n) ∧ (v.toInt ≤ 0 → Int.tmod v.toInt n ≤ 0) := by
      refine ⟨fun q => Int.tmod_nonneg _ q, fun q => ?_⟩
      have q2 := Int.tmod_nonneg (a := -v.toInt) n (by omega)
      rw [Int.neg_tmod] at q2
      omega
    have e1 := Int32.toInt_div_of_ne_right v (nI n) hn1
    rw [hn] at e1
    have e2 := Int.tdiv_mul_add_tmod v.toInt n
    have ew : (v / nI n * nI n).toInt = v.toInt.tdiv n * n := by
      rw [Int32.toInt_mul, e1, hn]
      obtain ⟨s1, s2⟩ := hs
      generalize v.toInt.tdiv n * n = x at e2 ⊢
      generalize Int.tmod v.toInt n = y at *
      rcases Int.le_total 0 v.toInt with g | g
      · have := s1 g
        exact Int.bmod_eq_of_le (by omega) (by omega)
      · have := s2 g
        exact Int.bmod_eq_of_le (by omega) (by omega)
    refine ⟨Int.tmod v.toInt n, ?_, b1, b3⟩
    rw [t_sub (by rw [ew]; omega) (by rw [ew]; omega), ew]
    omega
  obtain ⟨r, h1, h2, h3⟩ := hr
  have e0 : (0 : Int32).toInt = 0 := by decide
  unfold fSome
  split
  · rename_i h4
    rw [Int32.lt_iff_toInt_lt, h1, e0] at h4
    have h5 : (v - v / nI n * nI n + nI n).toInt = r + n := by
      rw [t_add (by rw [h1, hn]; omega) (by rw [h1, hn]; omega), h1, hn]
    obtain ⟨g1, g2⟩ := nI_t (n := n - 1) (x := v - v / nI n * nI n + nI n) (by omega) (by omega)
    exact ⟨_, by omega, g1⟩
  · rename_i h4
    rw [Int32.lt_iff_toInt_lt, h1, e0] at h4
    obtain ⟨g1, g2⟩ := nI_t (n := n - 1) (x := v - v / nI n * nI n) (by omega) (by omega)
    exact ⟨_, by omega, g1⟩


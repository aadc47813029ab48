/-! Racks that change, fans, rows copied: laid by wip/p53/m12.py. -/
theorem zac1 : zin (.native arraycopyName) := z_a2 69 rfl rfl
theorem zac2 : zin (.static arraycopyName) := z_a2 68 rfl rfl
theorem zac3 : zin (.initialized "java/lang/System") := z_a1 20 rfl rfl
theorem zv_copyi {μ : zMeth} {R : zRoom} {σ : zSg} {Q : zO → zM → Prop} {M : zM} {kc ks pc n : Nat} {lv : List (Nat × Value)} {rest : List Value} {a0 a n0 n1 idx : Nat} {f g : Nat → Int32} {sp dp x : Int32} (hd : decode μ.2.1 pc = .ok (.invokestatic idx, 3)) (hn : pc + 3 = n) (hlk : zin (.methodLink μ.1.cls idx arraycopyName)) (ha0 : M a0 = some (zAI n0 f)) (ha : M a = some (zAI n1 g)) (h1 : ¬ sp < 0) (h2 : ¬ dp < 0) (h3 : ¬ x < 0) (h4 : sp.toNatClampNeg + x.toNatClampNeg ≤ n0) (h5 : dp.toNatClampNeg + x.toNatClampNeg ≤ n1) (hW : (rest.map fun v => v.category).sum ≤ 8)
    (kk : zV μ R σ Q (zup M a (zAI n1 (va_cpy f g sp.toNatClampNeg dp.toNatClampNeg x.toNatClampNeg))) kc ks n lv rest) : zV μ R σ Q M kc ks pc lv (.int x :: .int dp :: .ref a :: .int sp :: .ref a0 :: rest) := by
  subst hn
  intro p l e s m args below meth c κ Z H locs ls hM hS hl
  obtain ⟨L, F, hP, hD, hMM⟩ := hM
  obtain ⟨g1, g2⟩ := hMM a0 _ ha0
  obtain ⟨j0, hj0⟩ := va_pl_get (X := []) (f := F) g1
  obtain ⟨g3, g4⟩ := hMM a _ ha
  obtain ⟨j1, hj1⟩ := va_pl_get (X := []) (f := F) g3
  rw [List.nil_append] at hj0 hj1
  rw [g2] at hj0
  rw [g4] at hj1
  have hw : nativeFrameWords "java/lang/System" "arraycopy" 5 + 11 ≤ 300 := by decide
  refine va_copyi (ws := va_pl L F) (ty := .int) Z.1 Z.2.1 (Z.2.2.1.trans hl.1.symm) Z.own (Z.w hlk _) (Z.w zac1 _) (Z.w zac2 _) (Z.w zac3 _) Z.K hP hD hS j0 j1 2 2 hj0 hj1 rfl rfl rfl h1 h2 h3 h4 h5 (fun _ _ => rfl) (by show 1 ≤ 20 + R.1; omega) (by show _ ≤ 400 + 100 * R.1; omega) hd (fun H1 locs1 hP1 hD1 hS1 => kk p l e s m args below meth c κ Z H1 locs1 ls ?_ hS1 hl)
  have es := va_pl_set (X := []) (e := zT κ (zAI n1 (va_cpy f g sp.toNatClampNeg dp.toNatClampNeg x.toNatClampNeg))) hD g3 (by rw [List.nil_append, g4]; exact hj1)
  simp only [List.nil_append] at es
  change va_P κ.1 vwCl ((va_pl L F).set j1 (a, zT κ (zAI n1 (va_cpy f g sp.toNatClampNeg dp.toNatClampNeg x.toNatClampNeg)))) H1 at hP1
  change va_D (zA σ) ((va_pl L F).set j1 (a, zT κ (zAI n1 (va_cpy f g sp.toNatClampNeg dp.toNatClampNeg x.toNatClampNeg)))) at hD1
  rw [es] at hP1 hD1
  exact zW_up hMM g3 hP1 hD1
theorem fMin_nn {n : Nat} (hn : n < 2 ^ 31) : fMin (nI n) (nI n) = nI n := by
  unfold fMin
  rw [if_neg (by rw [nI_ltI hn hn]; omega)]

set_option maxRecDepth 100000 in
set_option maxHeartbeats 4000000 in
theorem c_X8_copy {σ : zSg} {M : zM} {a b n : Nat} {f g : Nat → Int32} (ha : M a = some (zAI n f)) (hb : M b = some (zAI n g)) (hn : n < 2 ^ 31) : zCon μX8_copy (2, 0, 0) σ [.ref a, .ref b] M (zF none (fun M' => M' = zup M b (zAI n (va_cpy f g 0 0 n)))) := by
  refine zCon.of (plainFor_of_name (by decide)) rfl (Nat.le_of_ble_eq_true rfl) ?_
  change zV _ _ _ _ _ 0 0 0 [(0, .ref a), (1, .ref b)] []
  refine zv_aload_n (n := 1) dX8_copy_0 rfl rfl ?_
  refine zv_iconst (n := 2) dX8_copy_1 rfl (v := 0) (by decide) ?_
  refine zv_aload_n (n := 3) dX8_copy_2 rfl rfl ?_
  refine zv_iconst (n := 4) dX8_copy_3 rfl (v := 0) (by decide) ?_
  refine zv_aload_n (n := 5) dX8_copy_4 rfl rfl ?_
  refine zv_alen (n := 6) dX8_copy_5 rfl ha (by decide) (v := (nI n)) rfl ?_
  refine zv_aload_n (n := 7) dX8_copy_6 rfl rfl ?_
  refine zv_alen (n := 8) dX8_copy_7 rfl hb (by decide) (v := (nI n)) rfl ?_
  refine zv_callSP (n := 11) (As := [.int (nI n), .int (nI n)]) (rest := [.int 0, .ref b, .int 0, .ref a]) (kc' := 0) (ks' := 0) dX8_copy_8 rfl (c_min (nI n) (nI n)) rfl kJ9_min_7cf53 lX8_346 rfl rfl ⟨by decide, by decide⟩ (Nat.le_of_ble_eq_true rfl) rfl rfl (by decide) (by decide) ?_
  rw [fMin_nn hn]
  refine zv_copyi (n := 14) dX8_copy_11 rfl lX8_351 ha hb (by decide) (by decide) (nI_pos hn) (by rw [nI_clamp hn]; exact Nat.le_of_eq (Nat.zero_add n)) (by rw [nI_clamp hn]; exact Nat.le_of_eq (Nat.zero_add n)) (by decide) ?_
  rw [nI_clamp hn]
  refine zv_vret dX8_copy_14 rfl (by decide) (by decide) ?_
  exact zFi rfl

theorem cnt_add {n : Nat} : nI n + 1 = nI (n + 1) := nI_1 n

set_option maxRecDepth 100000 in
set_option maxHeartbeats 4000000 in
theorem c_X5_append {σ : zSg} {M : zM} {c : Nat → Nat} {S : zS} (hC : zCen M c S) (hN : zNn S) (hlt : fCnt S < 12) (a p l : Int32) : zCon μX5_append (1, 0, 0) σ [.ref (c 1), .int a, .int p, .int l] M (zF (some (.int (S 0))) (fun M' => zCen M' c (fApp S a p l) ∧ zOff M M' c)) := by
  obtain ⟨f5, hf5, gf5⟩ := hC.c5
  refine zCon.of (plainFor_of_name (by decide)) rfl (Nat.le_of_ble_eq_true rfl) ?_
  change zV _ _ _ _ _ 0 0 0 [(0, .ref (c 1)), (1, .int a), (2, .int p), (3, .int l)] []
  refine zv_aload_n (n := 1) dX5_append_0 rfl rfl ?_
  refine zv_get (n := 4) dX5_append_1 rfl hC.c1 FX5_18 rfl ?_
  refine zv_istore (n := 6) (lv' := [(4, .int (S 0)), (0, .ref (c 1)), (1, .int a), (2, .int p), (3, .int l)]) dX5_append_4 rfl (by decide) rfl ?_
  refine zv_iload (n := 8) dX5_append_6 rfl rfl ?_
  refine zv_if_lt (n := 11) (tgt := 64) dX5_append_8 (by decide) rfl (fun h8 => False.elim (absurd h8 (by rw [hN.1]; exact nI_pos (by omega)))) (fun h8 => ?_)
  refine zv_iload (n := 13) dX5_append_11 rfl rfl ?_
  refine zv_aload_n (n := 14) dX5_append_13 rfl rfl ?_
  refine zv_get (n := 17) dX5_append_14 rfl hC.c1 FX5_11 rfl ?_
  refine zv_alen (n := 18) dX5_append_17 rfl hf5 (by decide) (v := (nI 12)) rfl ?_
  refine zv_icmp_ge (n := 21) (tgt := 64) dX5_append_18 (by decide) rfl (fun h18 => False.elim (absurd ((nI12 (i := fCnt S) (by omega)).mp (by rw [← hN.1]; exact h18)) (by omega))) (fun h18 => ?_)
  refine zv_aload_n (n := 22) dX5_append_21 rfl rfl ?_
  refine zv_get (n := 25) dX5_append_22 rfl hC.c1 FX5_11 rfl ?_
  refine zv_iload (n := 27) dX5_append_25 rfl rfl ?_
  refine zv_aldR' (n := 28) dX5_append_27 rfl hf5 (by rw [hN.1]; exact vp_in_nI (by omega) (by decide)) (by rw [hN.1, nI_clamp (by omega)]; exact gf5 (fCnt S) (by omega)) ?_
  refine zv_iload_n (n := 29) dX5_append_28 rfl rfl ?_
  refine zv_putN (n := 32) dX5_append_29 rfl (hC.rk (by omega)) FX5_22 zcl_X4 zty_X4_0 rfl rfl (Nat.le_of_ble_eq_true rfl) ?_
  refine zv_aload_n (n := 33) dX5_append_32 rfl rfl ?_
  refine zv_get (n := 36) dX5_append_33 rfl ((zup_n (hC.ne (by decide) (by omega) (by omega))).trans hC.c1) FX5_11 rfl ?_
  refine zv_iload (n := 38) dX5_append_36 rfl rfl ?_
  refine zv_aldR' (n := 39) dX5_append_38 rfl ((zup_n (hC.ne (by decide) (by omega) (by omega))).trans hf5) (by rw [hN.1]; exact vp_in_nI (by omega) (by decide)) (by rw [hN.1, nI_clamp (by omega)]; exact gf5 (fCnt S) (by omega)) ?_
  refine zv_iload_n (n := 40) dX5_append_39 rfl rfl ?_
  refine zv_putN (n := 43) dX5_append_40 rfl zup_s FX5_25 zcl_X4 zty_X4_1 rfl rfl (Nat.le_of_ble_eq_true rfl) ?_
  refine zv_aload_n (n := 44) dX5_append_43 rfl rfl ?_
  refine zv_get (n := 47) dX5_append_44 rfl ((zup_n (hC.ne (by decide) (by omega) (by omega))).trans ((zup_n (hC.ne (by decide) (by omega) (by omega))).trans hC.c1)) FX5_11 rfl ?_
  refine zv_iload (n := 49) dX5_append_47 rfl rfl ?_
  refine zv_aldR' (n := 50) dX5_append_49 rfl ((zup_n (hC.ne (by decide) (by omega) (by omega))).trans ((zup_n (hC.ne (by decide) (by omega) (by omega))).trans hf5)) (by rw [hN.1]; exact vp_in_nI (by omega) (by decide)) (by rw [hN.1, nI_clamp (by omega)]; exact gf5 (fCnt S) (by omega)) ?_
  refine zv_iload_n (n := 51) dX5_append_50 rfl rfl ?_
  refine zv_putN (n := 54) dX5_append_51 rfl zup_s FX5_28 zcl_X4 zty_X4_2 rfl rfl (Nat.le_of_ble_eq_true rfl) ?_
  refine zv_aload_n (n := 55) dX5_append_54 rfl rfl ?_
  refine zv_dup (n := 56) dX5_append_55 rfl rfl ?_
  refine zv_get (n := 59) dX5_append_56 rfl ((zup_n (hC.ne (by decide) (by omega) (by omega))).trans ((zup_n (hC.ne (by decide) (by omega) (by omega))).trans ((zup_n (hC.ne (by decide) (by omega) (by omega))).trans hC.c1))) FX5_18 rfl ?_
  refine zv_iconst (n := 60) dX5_append_59 rfl (v := 1) (by decide) ?_
  refine zv_iadd (n := 61) dX5_append_60 rfl ?_
  refine zv_put (n := 64) dX5_append_61 rfl ((zup_n (hC.ne (by decide) (by omega) (by omega))).trans ((zup_n (hC.ne (by decide) (by omega) (by omega))).trans ((zup_n (hC.ne (by decide) (by omega) (by omega))).trans hC.c1))) FX5_18 zcl_X5 zty_X5_1 rfl rfl (Nat.le_of_ble_eq_true rfl) ?_
  refine zv_iload (n := 66) dX5_append_64 rfl rfl ?_
  refine zv_iret dX5_append_66 rfl (by decide) (by decide) ?_
  refine zFi ⟨?_, ?_⟩
  · rw [zup_zup, zup_zup]
    have h := (hC.putR3 hlt a p l).putN (S 0 + 1)
    rw [u_n (by omega), u_n (by omega), u_n (by omega)] at h
    exact h
  · exact (zOff.up (by omega)).tr ((zOff.up (by omega)).tr ((zOff.up (by omega)).tr (zOff.up (by decide))))

theorem fCpR_0 {S : zS} {i j : Nat} : fCpR S i j 0 = S 0 := by
  unfold fCpR
  rw [u_n (by omega), u_n (by omega), u_n (by omega)]
set_option maxRecDepth 100000 in
set_option maxHeartbeats 4000000 in
theorem l_X5_delete {σ : zSg} {c : Nat → Nat} {n : Nat} (hn : n ≤ 12) {v : Int32} : ∀ (k i : Nat) (M : zM) (S : zS) (Q : zO → zM → Prop), zCen M c S → S 0 = nI n → i + 1 + k = n → (∀ M', zCen M' c (upd (fDelF S k i) 0 (S 0 - 1)) → zOff M M' c → Q (.inl none) M') → zV μX5_delete (2, 0, 0) σ Q M 0 0 6 [(2, .int (nI i)), (0, .ref (c 1)), (1, .int v)] [] := by
  intro k
  induction k with
  | zero =>
    intro i M S Q hC h0 hi hQ
    have hadd : nI i + 1 = nI (i + 1) := nI_1 i
    obtain ⟨f5, hf5, gf5⟩ := hC.c5
    refine zv_iload_n (n := 7) dX5_delete_6 rfl rfl ?_
    refine zv_iconst (n := 8) dX5_delete_7 rfl (v := 1) (by decide) ?_
    refine zv_iadd (n := 9) dX5_delete_8 rfl ?_
    refine zv_aload_n (n := 10) dX5_delete_9 rfl rfl ?_
    refine zv_get (n := 13) dX5_delete_10 rfl hC.c1 FX5_18 rfl ?_
    refine zv_icmp_ge (n := 16) (tgt := 50) dX5_delete_13 (by decide) rfl (fun h13 => ?_) (fun h13 => False.elim (absurd (by rw [hadd, h0]; exact nI_le (by omega) (by omega)) h13))
    refine zv_aload_n (n := 51) dX5_delete_50 rfl rfl ?_
    refine zv_dup (n := 52) dX5_delete_51 rfl rfl ?_
    refine zv_get (n := 55) dX5_delete_52 rfl hC.c1 FX5_18 rfl ?_
    refine zv_iconst (n := 56) dX5_delete_55 rfl (v := 1) (by decide) ?_
    refine zv_isub (n := 57) dX5_delete_56 rfl ?_
    refine zv_put (n := 60) dX5_delete_57 rfl hC.c1 FX5_18 zcl_X5 zty_X5_1 rfl rfl (Nat.le_of_ble_eq_true rfl) ?_
    refine zv_vret dX5_delete_60 rfl (by decide) (by decide) ?_
    exact hQ _ (hC.putN _) (zOff.up (by decide))
  | succ k ih =>
    intro i M S Q hC h0 hi hQ
    have hadd : nI i + 1 = nI (i + 1) := nI_1 i
    obtain ⟨f5, hf5, gf5⟩ := hC.c5
    refine zv_iload_n (n := 7) dX5_delete_6 rfl rfl ?_
    refine zv_iconst (n := 8) dX5_delete_7 rfl (v := 1) (by decide) ?_
    refine zv_iadd (n := 9) dX5_delete_8 rfl ?_
    refine zv_aload_n (n := 10) dX5_delete_9 rfl rfl ?_
    refine zv_get (n := 13) dX5_delete_10 rfl hC.c1 FX5_18 rfl ?_
    refine zv_icmp_ge (n := 16) (tgt := 50) dX5_delete_13 (by decide) rfl (fun h13 => False.elim (absurd h13 (by rw [hadd, h0]; exact nI_ge (by omega) (by omega)))) (fun h13 => ?_)
    refine zv_iload_n (n := 17) dX5_delete_16 rfl rfl ?_
    refine zv_iconst (n := 18) dX5_delete_17 rfl (v := 1) (by decide) ?_
    refine zv_iadd (n := 19) dX5_delete_18 rfl ?_
    refine zv_aload_n (n := 20) dX5_delete_19 rfl rfl ?_
    refine zv_get (n := 23) dX5_delete_20 rfl hC.c1 FX5_11 rfl ?_
    refine zv_alen (n := 24) dX5_delete_23 rfl hf5 (by decide) (v := (nI 12)) rfl ?_
    refine zv_icmp_ge (n := 27) (tgt := 50) dX5_delete_24 (by decide) rfl (fun h24 => False.elim (absurd ((nI12 (i := i + 1) (by omega)).mp (by rw [← hadd]; exact h24)) (by omega))) (fun h24 => ?_)
    refine zv_aload_n (n := 28) dX5_delete_27 rfl rfl ?_
    refine zv_get (n := 31) dX5_delete_28 rfl hC.c1 FX5_11 rfl ?_
    refine zv_iload_n (n := 32) dX5_delete_31 rfl rfl ?_
    refine zv_aldR' (n := 33) dX5_delete_32 rfl hf5 (vp_in_nI (by omega) (by decide)) (by rw [nI_clamp (by omega)]; exact gf5 i (by omega)) ?_
    refine zv_aload_n (n := 34) dX5_delete_33 rfl rfl ?_
    refine zv_get (n := 37) dX5_delete_34 rfl hC.c1 FX5_11 rfl ?_
    refine zv_iload_n (n := 38) dX5_delete_37 rfl rfl ?_
    refine zv_iconst (n := 39) dX5_delete_38 rfl (v := 1) (by decide) ?_
    refine zv_iadd (n := 40) dX5_delete_39 rfl ?_
    refine zv_aldR' (n := 41) dX5_delete_40 rfl hf5 (by rw [hadd]; exact vp_in_nI (by omega) (by decide)) (by rw [hadd, nI_clamp (by omega)]; exact gf5 (i + 1) (by omega)) ?_
    refine zv_callVF0 (n := 44) (As := [.ref (c (8 + (i + 1)))]) (rest := []) (kc' := 0) (ks' := 0) dX5_delete_41 rfl (c_X4_copyFrom (hC.rk (i := i) (by omega)) (hC.rk (i := i + 1) (by omega)) (hC.ne (by omega) (by omega) (by omega))) rfl kX4_copyFrom lX5_41 (hC.rk (i := i) (by omega)) rfl rfl rfl ⟨by decide, by decide⟩ (Nat.le_of_ble_eq_true rfl) rfl rfl (by decide) (by decide) (fun M1 hq => ?_)
    subst hq
    refine zv_iinc (n := 47) (v := nI (i + 1)) (lv' := [(2, .int (nI (i + 1))), (0, .ref (c 1)), (1, .int v)]) dX5_delete_44 rfl rfl hadd (by decide) rfl ?_
    refine zv_goto (tgt := 6) dX5_delete_47 (by decide) ?_
    refine ih (i + 1) _ (fCpR S i (i + 1)) Q (hC.putR3 (by omega) _ _ _) (by rw [fCpR_0]; exact h0) (by omega) (fun M' h1 h2 => hQ M' ?_ ((zOff.up (by omega)).tr h2))
    rw [fDelF]
    rw [fCpR_0] at h1
    exact h1

set_option maxRecDepth 100000 in
set_option maxHeartbeats 4000000 in
theorem c_X5_delete {σ : zSg} {M : zM} {c : Nat → Nat} {S : zS} (hC : zCen M c S) (hN : zNn S) {j : Nat} (hj : j < fCnt S) : zCon μX5_delete (2, 0, 0) σ [.ref (c 1), .int (nI j)] M (zF none (fun M' => zCen M' c (fDel S j) ∧ zOff M M' c)) := by
  refine zCon.of (plainFor_of_name (by decide)) rfl (Nat.le_of_ble_eq_true rfl) ?_
  change zV _ _ _ _ _ 0 0 0 [(0, .ref (c 1)), (1, .int (nI j))] []
  refine zv_iload_n (n := 1) dX5_delete_0 rfl rfl ?_
  refine zv_iconst (n := 2) dX5_delete_1 rfl (v := 0) (by decide) ?_
  refine zv_callSP (n := 5) (As := [.int (nI j), .int 0]) (rest := []) (kc' := 0) (ks' := 0) dX5_delete_2 rfl (c_max (nI j) 0) rfl kJ9_max_7cf53 lX5_35 rfl rfl ⟨by decide, by decide⟩ (Nat.le_of_ble_eq_true rfl) rfl rfl (by decide) (by decide) ?_
  have h12 := hN.2
  rw [show fMax (nI j) 0 = nI j from if_neg (nI_pos (by omega))]
  refine zv_istore_n (n := 6) (lv' := [(2, .int (nI j)), (0, .ref (c 1)), (1, .int (nI j))]) dX5_delete_5 rfl (by decide) rfl ?_
  refine l_X5_delete (n := fCnt S) hN.2 (fCnt S - 1 - j) j M S _ hC hN.1 (by omega) (fun M' h1 h2 => zFi ⟨h1, h2⟩)

/-- the racks of T up to i, in place of S's -/
def fCpy (S T : zS) (i : Nat) : zS := fun k => if k = 0 then T 0 else if k < 1 + 3 * i then T k else S k
theorem fCpy_s {S T : zS} {i : Nat} : ∀ k, fCpy S T (i + 1) k = upd (upd (upd (fCpy S T i) (1 + 3 * i) (T (1 + 3 * i))) (2 + 3 * i) (T (2 + 3 * i))) (3 + 3 * i) (T (3 + 3 * i)) k := by
  intro k
  show (if k = 0 then T 0 else if k < 1 + 3 * (i + 1) then T k else S k) = (if k = 3 + 3 * i then T (3 + 3 * i) else if k = 2 + 3 * i then T (2 + 3 * i) else if k = 1 + 3 * i then T (1 + 3 * i) else if k = 0 then T 0 else if k < 1 + 3 * i then T k else S k)
  by_cases h0 : k = 0
  · subst h0
    rw [if_pos rfl, if_neg (by omega), if_neg (by omega), if_neg (by omega), if_pos rfl]
  · by_cases h3 : k = 3 + 3 * i
    · subst h3; rw [if_neg h0, if_pos (by omega), if_pos rfl]
    · by_cases h2 : k = 2 + 3 * i
      · subst h2; rw [if_neg h0, if_pos (by omega), if_neg (by omega), if_pos rfl]
      · by_cases h1 : k = 1 + 3 * i
        · subst h1; rw [if_neg h0, if_pos (by omega), if_neg (by omega), if_neg (by omega), if_pos rfl]
        · by_cases h4 : k < 1 + 3 * i
          · rw [if_neg h0, if_pos (by omega), if_neg h3, if_neg h2, if_neg h1, if_neg h0, if_pos h4]
          · rw [if_neg h0, if_neg (by omega), if_neg h3, if_neg h2, if_neg h1, if_neg h0, if_neg h4]
/-- two centres apart -/
def zApart (c d : Nat → Nat) : Prop := ∀ i j, i < 20 → j < 20 → c i ≠ d j
theorem zCen.keep {M M' : zM} {c d : Nat → Nat} {T : zS} (h : zCen M d T) (ha : zApart c d) (ho : zOff M M' c) : zCen M' d T := h.frame (fun i hi => ho (d i) (fun j hj e => ha j i hj hi e.symm))
set_option maxRecDepth 100000 in
set_option maxHeartbeats 4000000 in
theorem l_X5_copyFrom {σ : zSg} {c d : Nat → Nat} {S T : zS} (ha : zApart c d) : ∀ (k i : Nat) (M : zM) (Q : zO → zM → Prop), zCen M c (fCpy S T i) → zCen M d T → i + k = 12 → (∀ M', zCen M' c (fCpy S T 12) → zOff M M' c → Q (.inl none) M') → zV μX5_copyFrom (2, 0, 0) σ Q M 0 0 10 [(2, .int (nI i)), (0, .ref (c 1)), (1, .ref (d 1))] [] := by
  intro k
  induction k with
  | zero =>
    intro i M Q hC hT hi hQ
    obtain ⟨f5, hf5, gf5⟩ := hC.c5
    refine zv_iload_n (n := 11) dX5_copyFrom_10 rfl rfl ?_
    refine zv_aload_n (n := 12) dX5_copyFrom_11 rfl rfl ?_
    refine zv_get (n := 15) dX5_copyFrom_12 rfl hC.c1 FX5_11 rfl ?_
    refine zv_alen (n := 16) dX5_copyFrom_15 rfl hf5 (by decide) (v := (nI 12)) rfl ?_
    refine zv_icmp_ge (n := 19) (tgt := 49) dX5_copyFrom_16 (by decide) rfl (fun h16 => ?_) (fun h16 => False.elim (absurd ((nI12 (by omega)).mpr (by omega)) h16))
    refine zv_vret dX5_copyFrom_49 rfl (by decide) (by decide) ?_
    rw [show i = 12 by omega] at hC
    exact hQ _ hC zOff.rf
  | succ k ih =>
    intro i M Q hC hT hi hQ
    obtain ⟨f5, hf5, gf5⟩ := hC.c5
    obtain ⟨f5', df5, dg5⟩ := hT.c5
    refine zv_iload_n (n := 11) dX5_copyFrom_10 rfl rfl ?_
    refine zv_aload_n (n := 12) dX5_copyFrom_11 rfl rfl ?_
    refine zv_get (n := 15) dX5_copyFrom_12 rfl hC.c1 FX5_11 rfl ?_
    refine zv_alen (n := 16) dX5_copyFrom_15 rfl hf5 (by decide) (v := (nI 12)) rfl ?_
    refine zv_icmp_ge (n := 19) (tgt := 49) dX5_copyFrom_16 (by decide) rfl (fun h16 => False.elim (absurd ((nI12 (by omega)).mp h16) (by omega))) (fun h16 => ?_)
    refine zv_iload_n (n := 20) dX5_copyFrom_19 rfl rfl ?_
    refine zv_aload_n (n := 21) dX5_copyFrom_20 rfl rfl ?_
    refine zv_get (n := 24) dX5_copyFrom_21 rfl hT.c1 FX5_11 rfl ?_
    refine zv_alen (n := 25) dX5_copyFrom_24 rfl df5 (by decide) (v := (nI 12)) rfl ?_
    refine zv_icmp_ge (n := 28) (tgt := 49) dX5_copyFrom_25 (by decide) rfl (fun h25 => False.elim (absurd ((nI12 (by omega)).mp h25) (by omega))) (fun h25 => ?_)
    refine zv_aload_n (n := 29) dX5_copyFrom_28 rfl rfl ?_
    refine zv_get (n := 32) dX5_copyFrom_29 rfl hC.c1 FX5_11 rfl ?_
    refine zv_iload_n (n := 33) dX5_copyFrom_32 rfl rfl ?_
    refine zv_aldR' (n := 34) dX5_copyFrom_33 rfl hf5 (vp_in_nI (by omega) (by decide)) (by rw [nI_clamp (by omega)]; exact gf5 i (by omega)) ?_
    refine zv_aload_n (n := 35) dX5_copyFrom_34 rfl rfl ?_
    refine zv_get (n := 38) dX5_copyFrom_35 rfl hT.c1 FX5_11 rfl ?_
    refine zv_iload_n (n := 39) dX5_copyFrom_38 rfl rfl ?_
    refine zv_aldR' (n := 40) dX5_copyFrom_39 rfl df5 (vp_in_nI (by omega) (by decide)) (by rw [nI_clamp (by omega)]; exact dg5 i (by omega)) ?_
    refine zv_callVF0 (n := 43) (As := [.ref (d (8 + i))]) (rest := []) (kc' := 0) (ks' := 0) dX5_copyFrom_40 rfl (c_X4_copyFrom (hC.rk (i := i) (by omega)) (hT.rk (i := i) (by omega)) (fun e => ha (8 + i) (8 + i) (by omega) (by omega) e.symm)) rfl kX4_copyFrom lX5_41 (hC.rk (i := i) (by omega)) rfl rfl rfl ⟨by decide, by decide⟩ (Nat.le_of_ble_eq_true rfl) rfl rfl (by decide) (by decide) (fun M1 hq => ?_)
    subst hq
    refine zv_iinc (n := 46) (v := nI (i + 1)) (lv' := [(2, .int (nI (i + 1))), (0, .ref (c 1)), (1, .ref (d 1))]) dX5_copyFrom_43 rfl rfl (nI_1 i) (by decide) rfl ?_
    refine zv_goto (tgt := 10) dX5_copyFrom_46 (by decide) ?_
    refine ih (i + 1) _ Q ((hC.putR3 (by omega) _ _ _).ext (fun k _ => fCpy_s k)) (hT.keep ha (zOff.up (by omega))) (by omega) (fun M' h1 h2 => hQ M' h1 ((zOff.up (by omega)).tr h2))

set_option maxRecDepth 100000 in
set_option maxHeartbeats 4000000 in
theorem c_X5_copyFrom {σ : zSg} {M : zM} {c d : Nat → Nat} {S T : zS} (hC : zCen M c S) (hT : zCen M d T) (ha : zApart c d) : zCon μX5_copyFrom (2, 0, 0) σ [.ref (c 1), .ref (d 1)] M (zF none (fun M' => zCen M' c (fCpy S T 12) ∧ zOff M M' c)) := by
  refine zCon.of (plainFor_of_name (by decide)) rfl (Nat.le_of_ble_eq_true rfl) ?_
  change zV _ _ _ _ _ 0 0 0 [(0, .ref (c 1)), (1, .ref (d 1))] []
  refine zv_aload_n (n := 1) dX5_copyFrom_0 rfl rfl ?_
  refine zv_aload_n (n := 2) dX5_copyFrom_1 rfl rfl ?_
  refine zv_get (n := 5) dX5_copyFrom_2 rfl hT.c1 FX5_18 rfl ?_
  refine zv_put (n := 8) dX5_copyFrom_5 rfl hC.c1 FX5_18 zcl_X5 zty_X5_1 rfl rfl (Nat.le_of_ble_eq_true rfl) ?_
  refine zv_iconst (n := 9) dX5_copyFrom_8 rfl (v := 0) (by decide) ?_
  refine zv_istore_n (n := 10) (lv' := [(2, .int 0), (0, .ref (c 1)), (1, .ref (d 1))]) dX5_copyFrom_9 rfl (by decide) rfl ?_
  refine l_X5_copyFrom (S := S) (T := T) ha 12 0 _ _ ((hC.putN (T 0)).ext (fun k hk => ?_)) (hT.keep ha (zOff.up (by decide))) (by omega) (fun M' h1 h2 => zFi ⟨h1, (zOff.up (by decide)).tr h2⟩)
  unfold fCpy
  by_cases h0 : k = 0
  · subst h0; rw [if_pos rfl, u_s]
  · rw [if_neg h0, if_neg (by omega), u_n h0]

def fSpd (S : zS) (a : Int32) : Int32 := fAt 4 (fun j => S (37 + j)) a
def fPt (S : zS) (a : Int32) : Int32 := fAt 3 (fun j => S (41 + j)) a
def fSto (S : zS) (a : Int32) : Int32 := fAt 4 (fun j => S (44 + j)) a

set_option maxRecDepth 100000 in
set_option maxHeartbeats 4000000 in
theorem c_X3_speedIn {σ : zSg} {M : zM} {c : Nat → Nat} {S : zS} (hC : zCen M c S) (a : Int32) : zCon μX3_speedIn (2, 0, 0) σ [.ref (c 2), .int a] M (zP (some (.int (fSpd S a))) M) := by
  obtain ⟨f6, hf6, gf6⟩ := hC.c6
  refine zCon.of (plainFor_of_name (by decide)) rfl (Nat.le_of_ble_eq_true rfl) ?_
  change zV _ _ _ _ _ 0 0 0 [(0, .ref (c 2)), (1, .int a)] []
  refine zv_aload_n (n := 1) dX3_speedIn_0 rfl rfl ?_
  refine zv_get (n := 4) dX3_speedIn_1 rfl hC.c2 FX3_9 rfl ?_
  refine zv_iload_n (n := 5) dX3_speedIn_4 rfl rfl ?_
  refine zv_callSNP (n := 8) (As := [.ref (c 6), .int a]) (rest := []) (kc' := 0) (ks' := 0) dX3_speedIn_5 rfl (c_X8_at hf6 (by decide) a) rfl kX8_at lX3_18 rfl rfl ⟨by decide, by decide⟩ (Nat.le_of_ble_eq_true rfl) rfl rfl (by decide) (by decide) ?_
  rw [show fAt 4 f6 a = fSpd S a from fAt_cong (by decide) gf6 _]
  refine zv_iret dX3_speedIn_8 rfl (by decide) (by decide) ?_
  exact zPi

set_option maxRecDepth 100000 in
set_option maxHeartbeats 4000000 in
theorem c_X3_pointAt {σ : zSg} {M : zM} {c : Nat → Nat} {S : zS} (hC : zCen M c S) (a : Int32) : zCon μX3_pointAt (2, 0, 0) σ [.ref (c 2), .int a] M (zP (some (.int (fPt S a))) M) := by
  obtain ⟨f7, hf7, gf7⟩ := hC.c7
  refine zCon.of (plainFor_of_name (by decide)) rfl (Nat.le_of_ble_eq_true rfl) ?_
  change zV _ _ _ _ _ 0 0 0 [(0, .ref (c 2)), (1, .int a)] []
  refine zv_aload_n (n := 1) dX3_pointAt_0 rfl rfl ?_
  refine zv_get (n := 4) dX3_pointAt_1 rfl hC.c2 FX3_15 rfl ?_
  refine zv_iload_n (n := 5) dX3_pointAt_4 rfl rfl ?_
  refine zv_callSNP (n := 8) (As := [.ref (c 7), .int a]) (rest := []) (kc' := 0) (ks' := 0) dX3_pointAt_5 rfl (c_X8_at hf7 (by decide) a) rfl kX8_at lX3_18 rfl rfl ⟨by decide, by decide⟩ (Nat.le_of_ble_eq_true rfl) rfl rfl (by decide) (by decide) ?_
  rw [show fAt 3 f7 a = fPt S a from fAt_cong (by decide) gf7 _]
  refine zv_iret dX3_pointAt_8 rfl (by decide) (by decide) ?_
  exact zPi

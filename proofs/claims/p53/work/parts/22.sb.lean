/-! What StringBuilder's methods do: laid by wip/p53/m22.py. -/
section
variable {μ : zMeth} {R : zRoom} {σ : zSg} {Q : zO → zM → Prop} {M : zM} {kc ks pc n : Nat} {lv : List (Nat × Value)} {rest : List Value}
theorem zv_tbald {t N : Nat} {f : Nat → Value} {i : Int32} {v : Value} (hd : decode μ.2.1 pc = .ok (.baload, 1)) (hn : pc + 1 = n) (hT : ∀ (U : State) (H : Heap), zG σ U H → va_T .byte t N f (zA σ) U H) (hi : vp_in i N) (hv : f i.toNatClampNeg = v) (kk : zV μ R σ Q M kc ks n lv (v :: rest)) : zV μ R σ Q M kc ks pc lv (.int i :: .ref t :: rest) := by
  subst hn
  exact fun p l e s m args below meth c κ Z H locs ls hM hS hl => va_tb Z.1 Z.2.1 (hT s s.heap Z.G) hS hi hv hd (kk p l e s m args below meth c κ Z H locs ls hM hS hl)
theorem zv_getsQ {C nm d : String} {idx : Nat} (hd : decode μ.2.1 pc = .ok (.getstatic idx, 3)) (hn : pc + 3 = n) (hZ : ∀ (U : State) (H : Heap), zG σ U H → va_Zq C nm d (zA σ) U H) (hw : zin (.fieldLink μ.1.cls idx C nm d)) (k0 : zV μ R σ Q M kc ks n lv (.null :: rest)) (k1 : ∀ q : Nat, zV μ R σ Q M kc ks n lv (.ref q :: rest)) : zV μ R σ Q M kc ks pc lv (rest) := by
  subst hn
  intro p l e s m args below meth c κ Z H locs ls hM hS hl
  rcases hZ s s.heap Z.G with h | ⟨t, h⟩
  · exact va_gets Z.1 Z.2.1 h hS Z.own (Z.w hw _) (fun _ h => h) hd (k0 p l e s m args below meth c κ Z H locs ls hM hS hl)
  · exact va_gets Z.1 Z.2.1 h hS Z.own (Z.w hw _) (fun _ h => h) hd (k1 t p l e s m args below meth c κ Z H locs ls hM hS hl)
end
theorem nar_ch {c : Nat} (h : c < 256) : narrow .char (.int (nI c)) = .int (nI c) := by
  have h9 := pk_nc (nI c)
  rw [(sb_byte c h).2.1] at h9
  exact h9
theorem u_ap {f : Nat → Int32} {k : Nat} {v : Int32} {j : Nat} : upd f k v j = if j = k then v else f j := rfl

set_option maxRecDepth 100000 in
set_option maxHeartbeats 4000000 in
theorem c_J3_checkIndex {σ : zSg} {M : zM} {i n q : Nat} (hi : i < n) (hn : n < 2 ^ 31) : zCon μJ3_checkIndex_8e157 (1, 0, 0) σ [.int (nI i), .int (nI n), .ref q] M (zP (some (.int (nI i))) M) := by
  refine zCon.of (plainFor_of_name (by decide)) rfl (Nat.le_of_ble_eq_true rfl) ?_
  change zV _ _ _ _ _ 0 0 0 [(0, .int (nI i)), (1, .int (nI n)), (2, .ref q)] []
  refine zv_iload_n (n := 1) dJ3_checkIndex_8e157_0 rfl rfl ?_
  refine zv_if_lt (n := 4) (tgt := 9) dJ3_checkIndex_8e157_1 (by decide) rfl (fun h1 => False.elim (nI_pos (by omega) h1)) (fun h1 => ?_)
  refine zv_iload_n (n := 5) dJ3_checkIndex_8e157_4 rfl rfl ?_
  refine zv_iload_n (n := 6) dJ3_checkIndex_8e157_5 rfl rfl ?_
  refine zv_icmp_lt (n := 9) (tgt := 16) dJ3_checkIndex_8e157_6 (by decide) rfl (fun h6 => ?_) (fun h6 => False.elim (h6 (nI_lt hi hn)))
  refine zv_iload_n (n := 17) dJ3_checkIndex_8e157_16 rfl rfl ?_
  refine zv_iret dJ3_checkIndex_8e157_17 rfl (by decide) (by decide) ?_
  exact zPi

set_option maxRecDepth 100000 in
set_option maxHeartbeats 4000000 in
theorem c_J3_checkIndexN {σ : zSg} {M : zM} {i n : Nat} (hi : i < n) (hn : n < 2 ^ 31) : zCon μJ3_checkIndex_8e157 (1, 0, 0) σ [.int (nI i), .int (nI n), .null] M (zP (some (.int (nI i))) M) := by
  refine zCon.of (plainFor_of_name (by decide)) rfl (Nat.le_of_ble_eq_true rfl) ?_
  change zV _ _ _ _ _ 0 0 0 [(0, .int (nI i)), (1, .int (nI n)), (2, .null)] []
  refine zv_iload_n (n := 1) dJ3_checkIndex_8e157_0 rfl rfl ?_
  refine zv_if_lt (n := 4) (tgt := 9) dJ3_checkIndex_8e157_1 (by decide) rfl (fun h1 => False.elim (nI_pos (by omega) h1)) (fun h1 => ?_)
  refine zv_iload_n (n := 5) dJ3_checkIndex_8e157_4 rfl rfl ?_
  refine zv_iload_n (n := 6) dJ3_checkIndex_8e157_5 rfl rfl ?_
  refine zv_icmp_lt (n := 9) (tgt := 16) dJ3_checkIndex_8e157_6 (by decide) rfl (fun h6 => ?_) (fun h6 => False.elim (h6 (nI_lt hi hn)))
  refine zv_iload_n (n := 17) dJ3_checkIndex_8e157_16 rfl rfl ?_
  refine zv_iret dJ3_checkIndex_8e157_17 rfl (by decide) (by decide) ?_
  exact zPi

set_option maxRecDepth 100000 in
set_option maxHeartbeats 4000000 in
theorem c_J0_checkIndex {σ : zSg} {M : zM} {i n : Nat} (hi : i < n) (hn : n < 2 ^ 31) : zCon μJ0_checkIndex_df160 (2, 0, 0) σ [.int (nI i), .int (nI n)] M (zP none M) := by
  refine zCon.of (plainFor_of_name (by decide)) rfl (Nat.le_of_ble_eq_true rfl) ?_
  change zV _ _ _ _ _ 0 0 0 [(0, .int (nI i)), (1, .int (nI n))] []
  refine zv_iload_n (n := 1) dJ0_checkIndex_df160_0 rfl rfl ?_
  refine zv_iload_n (n := 2) dJ0_checkIndex_df160_1 rfl rfl ?_
  refine zv_getsQ (n := 5) dJ0_checkIndex_df160_2 rfl (fun U H h => h.2.2.2.2.2.2.2.2.2.2.2.2.2.2.2.2.2.2.2.2.2) SJ0_1053 ?_ (fun q => ?_)
  · skip
    refine zv_callSP (n := 8) (As := [.int (nI i), .int (nI n), .null]) (rest := []) (kc' := 0) (ks' := 0) dJ0_checkIndex_df160_5 rfl (c_J3_checkIndexN hi hn) rfl kJ3_checkIndex_8e157 lJ0_1059 rfl rfl ⟨by decide, by decide⟩ (Nat.le_of_ble_eq_true rfl) rfl rfl (by decide) (by decide) ?_
    refine zv_pop (n := 9) dJ0_checkIndex_df160_8 rfl rfl ?_
    refine zv_vret dJ0_checkIndex_df160_9 rfl (by decide) (by decide) ?_
    exact zPi
  · skip
    refine zv_callSP (n := 8) (As := [.int (nI i), .int (nI n), .ref q]) (rest := []) (kc' := 0) (ks' := 0) dJ0_checkIndex_df160_5 rfl (c_J3_checkIndex (q := q) hi hn) rfl kJ3_checkIndex_8e157 lJ0_1059 rfl rfl ⟨by decide, by decide⟩ (Nat.le_of_ble_eq_true rfl) rfl rfl (by decide) (by decide) ?_
    refine zv_pop (n := 9) dJ0_checkIndex_df160_8 rfl rfl ?_
    refine zv_vret dJ0_checkIndex_df160_9 rfl (by decide) (by decide) ?_
    exact zPi

set_option maxRecDepth 100000 in
set_option maxHeartbeats 4000000 in
theorem c_J5_isLatin1 {σ : zSg} {M : zM} {s : Nat} {x y z : Value} (hs : M s = some (.inr (1, [x, .int 0, y, z]))) : zCon μJ5_isLatin1_aae02 (1, 0, 0) σ [.ref s] M (zP (some (.int 1)) M) := by
  refine zCon.of (plainFor_of_name (by decide)) rfl (Nat.le_of_ble_eq_true rfl) ?_
  change zV _ _ _ _ _ 0 0 0 [(0, .ref s)] []
  refine zv_gets (n := 3) (v := .int 1) dJ5_isLatin1_aae02_0 rfl (fun U H h => h.2.2.2.2.2.2.1) SJ5_18 ?_
  refine zv_if_eq (n := 6) (tgt := 17) dJ5_isLatin1_aae02_3 (by decide) rfl (fun h3 => False.elim (absurd h3 (by decide))) (fun h3 => ?_)
  refine zv_aload_n (n := 7) dJ5_isLatin1_aae02_6 rfl rfl ?_
  refine zv_get (n := 10) dJ5_isLatin1_aae02_7 rfl hs FJ5_22 rfl ?_
  refine zv_if_ne (n := 13) (tgt := 17) dJ5_isLatin1_aae02_10 (by decide) rfl (fun h10 => False.elim (h10 rfl)) (fun h10 => ?_)
  refine zv_iconst (n := 14) dJ5_isLatin1_aae02_13 rfl (v := 1) (by decide) ?_
  refine zv_goto (tgt := 18) dJ5_isLatin1_aae02_14 (by decide) ?_
  refine zv_zret dJ5_isLatin1_aae02_18 rfl rfl (by decide) (by decide) ?_
  exact zPi

set_option maxRecDepth 100000 in
set_option maxHeartbeats 4000000 in
theorem c_J1_canEncode {σ : zSg} {M : zM} {c : Nat} (hc : c < 256) : zCon μJ1_canEncode_fc78d (1, 0, 0) σ [.int (nI c)] M (zP (some (.int 1)) M) := by
  refine zCon.of (plainFor_of_name (by decide)) rfl (Nat.le_of_ble_eq_true rfl) ?_
  change zV _ _ _ _ _ 0 0 0 [(0, .int (nI c))] []
  refine zv_iload_n (n := 1) dJ1_canEncode_fc78d_0 rfl rfl ?_
  refine zv_sipush (n := 4) dJ1_canEncode_fc78d_1 rfl (v := 255) (by decide) ?_
  refine zv_icmp_gt (n := 7) (tgt := 11) dJ1_canEncode_fc78d_4 (by decide) rfl (fun h4 => False.elim (absurd h4 (nI_nlt (a := 255) (by omega) (by decide)))) (fun h4 => ?_)
  refine zv_iconst (n := 8) dJ1_canEncode_fc78d_7 rfl (v := 1) (by decide) ?_
  refine zv_goto (tgt := 12) dJ1_canEncode_fc78d_8 (by decide) ?_
  refine zv_zret dJ1_canEncode_fc78d_12 rfl rfl (by decide) (by decide) ?_
  exact zPi

theorem cap_eq {q m : Nat} (h : m < q) : sb_cap q m = m + (if q - m < m + 2 then m + 2 else q - m) := by
  unfold sb_cap
  rw [if_neg (by omega)]
  split <;> split <;> omega

set_option maxRecDepth 100000 in
set_option maxHeartbeats 4000000 in
theorem c_J5_newCapacity {σ : zSg} {M : zM} {s v n m q : Nat} {t : Nat → Nat} (hS : zSB M s v t n m) (hq : m < q) (hc : sb_cap q m ≤ 150) : zCon μJ5_newCapacity_0f7a4 (3, 0, 0) σ [.ref s, .int (nI q)] M (zP (some (.int (nI (sb_cap q m)))) M) := by
  obtain ⟨ml, a, h1, h2, hL, hf, hnm, hm⟩ := hS
  have hg := sb_cap_ge q m
  refine zCon.of (plainFor_of_name (by decide)) rfl (Nat.le_of_ble_eq_true rfl) ?_
  change zV _ _ _ _ _ 0 0 0 [(0, .ref s), (1, .int (nI q))] []
  refine zv_aload_n (n := 1) dJ5_newCapacity_0f7a4_0 rfl rfl ?_
  refine zv_get (n := 4) dJ5_newCapacity_0f7a4_1 rfl h1 FJ5_15 rfl ?_
  refine zv_alen (n := 5) dJ5_newCapacity_0f7a4_4 rfl h2 (by decide) (v := (nI m)) rfl ?_
  refine zv_istore_n (n := 6) (lv' := [(2, .int (nI m)), (0, .ref s), (1, .int (nI q))]) dJ5_newCapacity_0f7a4_5 rfl (by decide) rfl ?_
  refine zv_iload_n (n := 7) dJ5_newCapacity_0f7a4_6 rfl rfl ?_
  refine zv_aload_n (n := 8) dJ5_newCapacity_0f7a4_7 rfl rfl ?_
  refine zv_get (n := 11) dJ5_newCapacity_0f7a4_8 rfl h1 FJ5_22 rfl ?_
  refine zv_ishl (n := 12) dJ5_newCapacity_0f7a4_11 rfl ?_
  rw [sb_shl0]
  refine zv_istore_n (n := 13) (lv' := [(3, .int (nI q)), (2, .int (nI m)), (0, .ref s), (1, .int (nI q))]) dJ5_newCapacity_0f7a4_12 rfl (by decide) rfl ?_
  refine zv_iload_n (n := 14) dJ5_newCapacity_0f7a4_13 rfl rfl ?_
  refine zv_iload_n (n := 15) dJ5_newCapacity_0f7a4_14 rfl rfl ?_
  refine zv_isub (n := 16) dJ5_newCapacity_0f7a4_15 rfl ?_
  rw [show nI q - nI m = nI (q - m) from pk_sub (by omega)]
  refine zv_istore (n := 18) (lv' := [(4, .int (nI (q - m))), (3, .int (nI q)), (2, .int (nI m)), (0, .ref s), (1, .int (nI q))]) dJ5_newCapacity_0f7a4_16 rfl (by decide) rfl ?_
  refine zv_iload_n (n := 19) dJ5_newCapacity_0f7a4_18 rfl rfl ?_
  refine zv_iload (n := 21) dJ5_newCapacity_0f7a4_19 rfl rfl ?_
  refine zv_iload_n (n := 22) dJ5_newCapacity_0f7a4_21 rfl rfl ?_
  refine zv_iconst (n := 23) dJ5_newCapacity_0f7a4_22 rfl (v := 2) (by decide) ?_
  refine zv_aload_n (n := 24) dJ5_newCapacity_0f7a4_23 rfl rfl ?_
  refine zv_get (n := 27) dJ5_newCapacity_0f7a4_24 rfl h1 FJ5_22 rfl ?_
  refine zv_ishl (n := 28) dJ5_newCapacity_0f7a4_27 rfl ?_
  rw [sb_shl0]
  refine zv_iadd (n := 29) dJ5_newCapacity_0f7a4_28 rfl ?_
  rw [show nI m + 2 = nI (m + 2) from nI_add m 2]
  refine zv_callSP (n := 32) (As := [.int (nI m), .int (nI (q - m)), .int (nI (m + 2))]) (rest := []) (kc' := 0) (ks' := 0) dJ5_newCapacity_0f7a4_29 rfl (c_J8_newLength (o := m) (k := q - m) (r := m + 2) (by split <;> omega) (by rw [← cap_eq hq]; omega)) rfl kJ8_newLength_cabcc lJ5_114 rfl rfl ⟨by decide, by decide⟩ (Nat.le_of_ble_eq_true rfl) rfl rfl (by decide) (by decide) ?_
  rw [← cap_eq hq]
  refine zv_istore (n := 34) (lv' := [(5, .int (nI (sb_cap q m))), (4, .int (nI (q - m))), (3, .int (nI q)), (2, .int (nI m)), (0, .ref s), (1, .int (nI q))]) dJ5_newCapacity_0f7a4_32 rfl (by decide) rfl ?_
  refine zv_iload (n := 36) dJ5_newCapacity_0f7a4_34 rfl rfl ?_
  refine zv_ldci (n := 38) dJ5_newCapacity_0f7a4_36 rfl qJ5_39 ?_
  refine zv_icmp_ne (n := 41) (tgt := 51) dJ5_newCapacity_0f7a4_38 (by decide) rfl (fun h38 => ?_) (fun h38 => False.elim (absurd h38 (fun e => absurd ((nI_eq (b := 2147483647) (by omega) (by decide)).mp e) (by omega))))
  refine zv_iload (n := 53) dJ5_newCapacity_0f7a4_51 rfl rfl ?_
  refine zv_aload_n (n := 54) dJ5_newCapacity_0f7a4_53 rfl rfl ?_
  refine zv_get (n := 57) dJ5_newCapacity_0f7a4_54 rfl h1 FJ5_22 rfl ?_
  refine zv_ishr (n := 58) dJ5_newCapacity_0f7a4_57 rfl ?_
  rw [sb_shr0]
  refine zv_iret dJ5_newCapacity_0f7a4_58 rfl (by decide) (by decide) ?_
  exact zPi

set_option maxRecDepth 100000 in
set_option maxHeartbeats 4000000 in
theorem c_J7_copyOf {σ : zSg} {M : zM} {v m q : Nat} {a : Nat → Int32} (hv : M v = some (zAB m a)) (hf : sb_Fit a) (hq : m < q) (hc : q ≤ 150) : zCon μJ7_copyOf_9075b (2, 1, 150) σ [.ref v, .int (nI q)] M (zE9 (fun r M' => ∃ v', r = .ref v' ∧ M v' = none ∧ M' = zup M v' (zAB q (va_cpy a (fun _ => 0) 0 0 m)))) := by
  refine zCon.of (plainFor_of_name (by decide)) rfl (Nat.le_of_ble_eq_true rfl) ?_
  change zV _ _ _ _ _ 0 0 0 [(0, .ref v), (1, .int (nI q))] []
  refine zv_iload_n (n := 1) dJ7_copyOf_9075b_0 rfl rfl ?_
  refine zv_aload_n (n := 2) dJ7_copyOf_9075b_1 rfl rfl ?_
  refine zv_alen (n := 3) dJ7_copyOf_9075b_2 rfl hv (by decide) (v := (nI m)) rfl ?_
  refine zv_icmp_ne (n := 6) (tgt := 14) dJ7_copyOf_9075b_3 (by decide) rfl (fun h3 => ?_) (fun h3 => False.elim (absurd h3 (fun e => absurd ((nI_eq (by omega) (by omega)).mp e) (by omega))))
  refine zv_iload_n (n := 15) dJ7_copyOf_9075b_14 rfl rfl ?_
  refine zv_newB (N := q) (n := 17) (kc' := 1) (ks' := 0 + q) dJ7_copyOf_9075b_15 rfl zaB (nI_pos (by omega)) (nI_clamp (by omega)) (by show q * 1 ≤ 536870912; omega) rfl rfl (by decide) (by show 0 + q ≤ 150; omega) (fun v' hv' => ?_)
  have hvv : v ≠ v' := fun e => by rw [e, hv'] at hv; cases hv
  refine zv_astore_n (n := 18) (lv' := [(2, .ref v'), (0, .ref v), (1, .int (nI q))]) dJ7_copyOf_9075b_17 rfl (by decide) rfl ?_
  refine zv_aload_n (n := 19) dJ7_copyOf_9075b_18 rfl rfl ?_
  refine zv_iconst (n := 20) dJ7_copyOf_9075b_19 rfl (v := 0) (by decide) ?_
  refine zv_aload_n (n := 21) dJ7_copyOf_9075b_20 rfl rfl ?_
  refine zv_iconst (n := 22) dJ7_copyOf_9075b_21 rfl (v := 0) (by decide) ?_
  refine zv_aload_n (n := 23) dJ7_copyOf_9075b_22 rfl rfl ?_
  refine zv_alen (n := 24) dJ7_copyOf_9075b_23 rfl ((zup_n hvv).trans hv) (by decide) (v := (nI m)) rfl ?_
  refine zv_iload_n (n := 25) dJ7_copyOf_9075b_24 rfl rfl ?_
  refine zv_callSP (n := 28) (As := [.int (nI m), .int (nI q)]) (rest := [.int 0, .ref v', .int 0, .ref v]) (kc' := 1) (ks' := (0 + q)) dJ7_copyOf_9075b_25 rfl (c_min (nI m) (nI q)) rfl kJ9_min_7cf53 lJ7_304 rfl rfl ⟨by decide, by decide⟩ (Nat.le_of_ble_eq_true rfl) rfl rfl (by decide) (by show 0 + q ≤ 150; omega) ?_
  rw [show fMin (nI m) (nI q) = nI m from if_neg (nI_nlt (by omega) (by omega))]
  refine zv_copyb (n := 31) dJ7_copyOf_9075b_28 rfl lJ7_150 ((zup_n hvv).trans hv) zup_s hf (by decide) (by decide) (nI_pos (by omega)) (by rw [nI_clamp (by omega), sb_cl0]; omega) (by rw [nI_clamp (by omega), sb_cl0]; omega) (by decide) ?_
  rw [nI_clamp (by omega), sb_cl0, zup_zup]
  refine zv_aload_n (n := 32) dJ7_copyOf_9075b_31 rfl rfl ?_
  refine zv_aret dJ7_copyOf_9075b_32 rfl (Or.inr ⟨_, rfl⟩) (by decide) (by show 0 + q ≤ 150; omega) ?_
  exact zEi ⟨v', rfl, hv', rfl⟩

set_option maxRecDepth 100000 in
set_option maxHeartbeats 4000000 in
theorem c_J5_ens_0 {σ : zSg} {M : zM} {s v n m q : Nat} {t : Nat → Nat} (hS : zSB M s v t n m) (hq : q ≤ m) : zCon μJ5_ensureCapacityInternal_d00df (4, 1, 150) σ [.ref s, .int (nI q)] M (zF none (fun M' => ∃ v', zSB M' s v' t n (sb_cap q m) ∧ zGr M M' s v v')) := by
  obtain ⟨ml, a, h1, h2, hL, hf, hnm, hm⟩ := hS
  
  refine zCon.of (plainFor_of_name (by decide)) rfl (Nat.le_of_ble_eq_true rfl) ?_
  change zV _ _ _ _ _ 0 0 0 [(0, .ref s), (1, .int (nI q))] []
  refine zv_aload_n (n := 1) dJ5_ensureCapacityInternal_d00df_0 rfl rfl ?_
  refine zv_get (n := 4) dJ5_ensureCapacityInternal_d00df_1 rfl h1 FJ5_15 rfl ?_
  refine zv_alen (n := 5) dJ5_ensureCapacityInternal_d00df_4 rfl h2 (by decide) (v := (nI m)) rfl ?_
  refine zv_aload_n (n := 6) dJ5_ensureCapacityInternal_d00df_5 rfl rfl ?_
  refine zv_get (n := 9) dJ5_ensureCapacityInternal_d00df_6 rfl h1 FJ5_22 rfl ?_
  refine zv_ishr (n := 10) dJ5_ensureCapacityInternal_d00df_9 rfl ?_
  rw [sb_shr0]
  refine zv_istore_n (n := 11) (lv' := [(2, .int (nI m)), (0, .ref s), (1, .int (nI q))]) dJ5_ensureCapacityInternal_d00df_10 rfl (by decide) rfl ?_
  refine zv_iload_n (n := 12) dJ5_ensureCapacityInternal_d00df_11 rfl rfl ?_
  refine zv_iload_n (n := 13) dJ5_ensureCapacityInternal_d00df_12 rfl rfl ?_
  refine zv_isub (n := 14) dJ5_ensureCapacityInternal_d00df_13 rfl ?_
  refine zv_if_le (n := 17) (tgt := 38) dJ5_ensureCapacityInternal_d00df_14 (by decide) rfl (fun h14 => ?_) (fun h14 => False.elim (h14 (by rw [Int32.le_iff_toInt_le, pk_sub_toInt (by omega) (by omega), Int32.toInt_zero]; omega)))
  refine zv_vret dJ5_ensureCapacityInternal_d00df_38 rfl (by decide) (by decide) ?_
  refine zFi ⟨v, ?_, zGr.rf⟩
  rw [sb_cap, if_pos hq]
  exact ⟨ml, a, h1, h2, hL, hf, hnm, hm⟩

set_option maxRecDepth 100000 in
set_option maxHeartbeats 4000000 in
theorem c_J5_ens_1 {σ : zSg} {M : zM} {s v n m q : Nat} {t : Nat → Nat} (hS : zSB M s v t n m) (hq : m < q) (hc : sb_cap q m ≤ 150) : zCon μJ5_ensureCapacityInternal_d00df (4, 1, 150) σ [.ref s, .int (nI q)] M (zF none (fun M' => ∃ v', zSB M' s v' t n (sb_cap q m) ∧ zGr M M' s v v')) := by
  have hS0 := hS
  obtain ⟨ml, a, h1, h2, hL, hf, hnm, hm⟩ := hS0
  have hg := sb_cap_ge q m
  refine zCon.of (plainFor_of_name (by decide)) rfl (Nat.le_of_ble_eq_true rfl) ?_
  change zV _ _ _ _ _ 0 0 0 [(0, .ref s), (1, .int (nI q))] []
  refine zv_aload_n (n := 1) dJ5_ensureCapacityInternal_d00df_0 rfl rfl ?_
  refine zv_get (n := 4) dJ5_ensureCapacityInternal_d00df_1 rfl h1 FJ5_15 rfl ?_
  refine zv_alen (n := 5) dJ5_ensureCapacityInternal_d00df_4 rfl h2 (by decide) (v := (nI m)) rfl ?_
  refine zv_aload_n (n := 6) dJ5_ensureCapacityInternal_d00df_5 rfl rfl ?_
  refine zv_get (n := 9) dJ5_ensureCapacityInternal_d00df_6 rfl h1 FJ5_22 rfl ?_
  refine zv_ishr (n := 10) dJ5_ensureCapacityInternal_d00df_9 rfl ?_
  rw [sb_shr0]
  refine zv_istore_n (n := 11) (lv' := [(2, .int (nI m)), (0, .ref s), (1, .int (nI q))]) dJ5_ensureCapacityInternal_d00df_10 rfl (by decide) rfl ?_
  refine zv_iload_n (n := 12) dJ5_ensureCapacityInternal_d00df_11 rfl rfl ?_
  refine zv_iload_n (n := 13) dJ5_ensureCapacityInternal_d00df_12 rfl rfl ?_
  refine zv_isub (n := 14) dJ5_ensureCapacityInternal_d00df_13 rfl ?_
  refine zv_if_le (n := 17) (tgt := 38) dJ5_ensureCapacityInternal_d00df_14 (by decide) rfl (fun h14 => False.elim (absurd h14 (by rw [Int32.le_iff_toInt_le, pk_sub_toInt (by omega) (by omega), Int32.toInt_zero]; omega))) (fun h14 => ?_)
  refine zv_aload_n (n := 18) dJ5_ensureCapacityInternal_d00df_17 rfl rfl ?_
  refine zv_aload_n (n := 19) dJ5_ensureCapacityInternal_d00df_18 rfl rfl ?_
  refine zv_get (n := 22) dJ5_ensureCapacityInternal_d00df_19 rfl h1 FJ5_15 rfl ?_
  refine zv_aload_n (n := 23) dJ5_ensureCapacityInternal_d00df_22 rfl rfl ?_
  refine zv_iload_n (n := 24) dJ5_ensureCapacityInternal_d00df_23 rfl rfl ?_
  refine zv_callQP (n := 27) (As := [.int (nI q)]) (rest := [.ref v, .ref s]) (kc' := 0) (ks' := 0) dJ5_ensureCapacityInternal_d00df_24 rfl (c_J5_newCapacity hS hq hc) rfl kJ5_newCapacity_0f7a4Q lJ5_104 h1 rfl rfl rfl ⟨by decide, by decide⟩ (Nat.le_of_ble_eq_true rfl) rfl rfl (by decide) (by decide) ?_
  refine zv_aload_n (n := 28) dJ5_ensureCapacityInternal_d00df_27 rfl rfl ?_
  refine zv_get (n := 31) dJ5_ensureCapacityInternal_d00df_28 rfl h1 FJ5_22 rfl ?_
  refine zv_ishl (n := 32) dJ5_ensureCapacityInternal_d00df_31 rfl ?_
  rw [sb_shl0]
  refine zv_callSE (n := 35) (As := [.ref v, .int (nI (sb_cap q m))]) (rest := [.ref s]) (kc' := 1) (ks' := 150) dJ5_ensureCapacityInternal_d00df_32 rfl (c_J7_copyOf h2 hf (q := sb_cap q m) (by omega) hc) rfl kJ7_copyOf_9075b lJ5_108 rfl rfl ⟨by decide, by decide⟩ (Nat.le_of_ble_eq_true rfl) rfl rfl (by decide) (by decide) (fun v9 M1 hq9 => ?_)
  obtain ⟨v', rfl, hv', rfl⟩ := hq9
  have hsv : s ≠ v' := fun e => by rw [e, hv'] at h1; cases h1
  refine zv_put (n := 38) dJ5_ensureCapacityInternal_d00df_35 rfl ((zup_n hsv).trans h1) FJ5_15 zcl_J4 zty_J4_0 rfl rfl (Nat.le_of_ble_eq_true rfl) ?_
  refine zv_vret dJ5_ensureCapacityInternal_d00df_38 rfl (by decide) (by decide) ?_
  refine zFi ⟨v', ⟨ml, _, zup_s, (zup_n hsv.symm).trans zup_s, fun j hj => ?_, sb_fitC hf sb_fit0, by omega, by omega⟩, Or.inr hv', fun x hx1 hx2 hx3 => ?_⟩
  · rw [sb_cpy0 (by omega)]
    exact hL j hj
  · rw [zup_n hx1, zup_n hx3]

theorem c_J5_ens {σ : zSg} {M : zM} {s v n m q : Nat} {t : Nat → Nat} (hS : zSB M s v t n m) (hc : q ≤ m ∨ sb_cap q m ≤ 150) : zCon μJ5_ensureCapacityInternal_d00df (4, 1, 150) σ [.ref s, .int (nI q)] M (zF none (fun M' => ∃ v', zSB M' s v' t n (sb_cap q m) ∧ zGr M M' s v v')) := by
  rcases Nat.lt_or_ge m q with h | h
  · exact c_J5_ens_1 hS h (hc.resolve_left (by omega))
  · exact c_J5_ens_0 hS h

set_option maxRecDepth 100000 in
set_option maxHeartbeats 4000000 in
theorem c_J5_appendC {σ : zSg} {M : zM} {s v n m : Nat} {t : Nat → Nat} (hS : zSB M s v t n m) {c : Nat} (hcc : c < 256) (hc : n + 1 ≤ m ∨ sb_cap (n + 1) m ≤ 150) : zCon μJ5_append_3fe6f (5, 1, 150) σ [.ref s, .int (nI c)] M (zF (some (.ref s)) (fun M' => ∃ v', zSB M' s v' (sb_cat t n (fun _ => c)) (n + 1) (sb_cap (n + 1) m) ∧ zGr M M' s v v')) := by
  have hS0 := hS
  obtain ⟨ml, a, h1, h2, hL, hf, hnm, hm⟩ := hS0
  
  refine zCon.of (plainFor_of_name (by decide)) rfl (Nat.le_of_ble_eq_true rfl) ?_
  change zV _ _ _ _ _ 0 0 0 [(0, .ref s), (1, .int (nI c))] []
  refine zv_aload_n (n := 1) dJ5_append_3fe6f_0 rfl rfl ?_
  refine zv_aload_n (n := 2) dJ5_append_3fe6f_1 rfl rfl ?_
  refine zv_get (n := 5) dJ5_append_3fe6f_2 rfl h1 FJ5_79 rfl ?_
  refine zv_iconst (n := 6) dJ5_append_3fe6f_5 rfl (v := 1) (by decide) ?_
  refine zv_iadd (n := 7) dJ5_append_3fe6f_6 rfl ?_
  rw [nI_1]
  refine zv_callQF0 (n := 10) (As := [.int (nI (n + 1))]) (rest := []) (kc' := 1) (ks' := 150) dJ5_append_3fe6f_7 rfl (c_J5_ens hS (q := n + 1) hc) rfl kJ5_ensureCapacityInternal_d00dfQ lJ5_100 h1 rfl rfl rfl ⟨by decide, by decide⟩ (Nat.le_of_ble_eq_true rfl) rfl rfl (by decide) (by decide) (fun M1 hq => ?_)
  obtain ⟨v', ⟨ml', a', g1, g2, gL, gf, gn, gm⟩, gG⟩ := hq
  have hcg := sb_cap_ge (n + 1) m
  have hvs : v' ≠ s := fun e => by rw [e, g1] at g2; cases g2
  refine zv_aload_n (n := 11) dJ5_append_3fe6f_10 rfl rfl ?_
  refine zv_callCP (n := 14) (As := []) (rest := []) (kc' := 1) (ks' := 150) dJ5_append_3fe6f_11 rfl (c_J5_isLatin1 g1) rfl kJ5_isLatin1_aae02C lJ5_83 g1 rfl rfl rfl ⟨by decide, by decide⟩ (Nat.le_of_ble_eq_true rfl) rfl rfl (by decide) (by decide) ?_
  refine zv_if_eq (n := 17) (tgt := 45) dJ5_append_3fe6f_14 (by decide) rfl (fun h14 => False.elim (absurd h14 (by decide))) (fun h14 => ?_)
  refine zv_iload_n (n := 18) dJ5_append_3fe6f_17 rfl rfl ?_
  refine zv_callSP (n := 21) (As := [.int (nI c)]) (rest := []) (kc' := 1) (ks' := 150) dJ5_append_3fe6f_18 rfl (c_J1_canEncode hcc) rfl kJ1_canEncode_fc78d lJ5_191 rfl rfl ⟨by decide, by decide⟩ (Nat.le_of_ble_eq_true rfl) rfl rfl (by decide) (by decide) ?_
  refine zv_if_eq (n := 24) (tgt := 45) dJ5_append_3fe6f_21 (by decide) rfl (fun h21 => False.elim (absurd h21 (by decide))) (fun h21 => ?_)
  refine zv_aload_n (n := 25) dJ5_append_3fe6f_24 rfl rfl ?_
  refine zv_get (n := 28) dJ5_append_3fe6f_25 rfl g1 FJ5_15 rfl ?_
  refine zv_aload_n (n := 29) dJ5_append_3fe6f_28 rfl rfl ?_
  refine zv_dup (n := 30) dJ5_append_3fe6f_29 rfl rfl ?_
  refine zv_get (n := 33) dJ5_append_3fe6f_30 rfl g1 FJ5_79 rfl ?_
  refine zv_dup_x1 (n := 34) dJ5_append_3fe6f_33 rfl rfl rfl ?_
  refine zv_iconst (n := 35) dJ5_append_3fe6f_34 rfl (v := 1) (by decide) ?_
  refine zv_iadd (n := 36) dJ5_append_3fe6f_35 rfl ?_
  rw [nI_1]
  refine zv_put (n := 39) dJ5_append_3fe6f_36 rfl g1 FJ5_79 zcl_J4 zty_J4_3 rfl rfl (Nat.le_of_ble_eq_true rfl) ?_
  refine zv_iload_n (n := 40) dJ5_append_3fe6f_39 rfl rfl ?_
  refine zv_i2b (n := 41) dJ5_append_3fe6f_40 rfl ?_
  refine zv_bast (n := 42) dJ5_append_3fe6f_41 rfl ((zup_n hvs).trans g2) (vp_in_nI (by omega) (by omega)) ?_
  rw [nI_clamp (by omega), pk_vb]
  refine zv_goto (tgt := 75) dJ5_append_3fe6f_42 (by decide) ?_
  refine zv_aload_n (n := 76) dJ5_append_3fe6f_75 rfl rfl ?_
  refine zv_aret dJ5_append_3fe6f_76 rfl (Or.inl ⟨_, rfl⟩) (by decide) (by decide) ?_
  refine zFi ⟨v', ⟨ml', _, (zup_n hvs.symm).trans zup_s, zup_s, sb_latPut gL (fun j hj => ?_) (fun i hi => ?_), sb_fitU gf (sb_fitB c), hcg, gm⟩, gG.1, fun x hx1 hx2 hx3 => ?_⟩
  · rw [u_n (by omega)]
  · obtain rfl : i = 0 := by omega
    exact ⟨hcc, u_s⟩
  · rw [zup_n hx3, zup_n hx1]
    exact gG.2 x hx1 hx2 hx3

set_option maxRecDepth 100000 in
set_option maxHeartbeats 4000000 in
theorem c_J4_appendC {σ : zSg} {M : zM} {s v n m : Nat} {t : Nat → Nat} (hS : zSB M s v t n m) {c : Nat} (hcc : c < 256) (hc : n + 1 ≤ m ∨ sb_cap (n + 1) m ≤ 150) : zCon μJ4_append_cf468 (6, 1, 150) σ [.ref s, .int (nI c)] M (zF (some (.ref s)) (fun M' => ∃ v', zSB M' s v' (sb_cat t n (fun _ => c)) (n + 1) (sb_cap (n + 1) m) ∧ zGr M M' s v v')) := by
  have hS0 := hS
  obtain ⟨ml, a, h1, h2, hL, hf, hnm, hm⟩ := hS0
  
  refine zCon.of (plainFor_of_name (by decide)) rfl (Nat.le_of_ble_eq_true rfl) ?_
  change zV _ _ _ _ _ 0 0 0 [(0, .ref s), (1, .int (nI c))] []
  refine zv_aload_n (n := 1) dJ4_append_cf468_0 rfl rfl ?_
  refine zv_iload_n (n := 2) dJ4_append_cf468_1 rfl rfl ?_
  refine zv_callUF (n := 5) (As := [.int (nI c)]) (rest := []) (kc' := 1) (ks' := 150) dJ4_append_cf468_2 rfl (c_J5_appendC hS hcc hc) rfl kJ5_append_3fe6fU lJ4_50 h1 rfl rfl rfl ⟨by decide, by decide⟩ (Nat.le_of_ble_eq_true rfl) rfl rfl (by decide) (by decide) (fun M1 hq => ?_)
  refine zv_pop (n := 6) dJ4_append_cf468_5 rfl rfl ?_
  refine zv_aload_n (n := 7) dJ4_append_cf468_6 rfl rfl ?_
  refine zv_aret dJ4_append_cf468_7 rfl (Or.inl ⟨_, rfl⟩) (by decide) (by decide) ?_
  exact zFi hq

theorem c_J5_ens0 {σ : zSg} {M : zM} {s v n m : Nat} {t : Nat → Nat} (hS : zSB M s v t n m) : zCon μJ5_ensureCapacityInternal_d00df (4, 0, 0) σ [.ref s, .int 0] M (zP none M) := by
  obtain ⟨ml, a, h1, h2, hL, hf, hnm, hm⟩ := hS
  refine zCon.of (plainFor_of_name (by decide)) rfl (Nat.le_of_ble_eq_true rfl) ?_
  change zV _ _ _ _ _ 0 0 0 [(0, .ref s), (1, .int 0)] []
  refine zv_aload_n (n := 1) dJ5_ensureCapacityInternal_d00df_0 rfl rfl ?_
  refine zv_get (n := 4) dJ5_ensureCapacityInternal_d00df_1 rfl h1 FJ5_15 rfl ?_
  refine zv_alen (n := 5) dJ5_ensureCapacityInternal_d00df_4 rfl h2 (by decide) (v := (nI m)) rfl ?_
  refine zv_aload_n (n := 6) dJ5_ensureCapacityInternal_d00df_5 rfl rfl ?_
  refine zv_get (n := 9) dJ5_ensureCapacityInternal_d00df_6 rfl h1 FJ5_22 rfl ?_
  refine zv_ishr (n := 10) dJ5_ensureCapacityInternal_d00df_9 rfl ?_
  rw [sb_shr0]
  refine zv_istore_n (n := 11) (lv' := [(2, .int (nI m)), (0, .ref s), (1, .int 0)]) dJ5_ensureCapacityInternal_d00df_10 rfl (by decide) rfl ?_
  refine zv_iload_n (n := 12) dJ5_ensureCapacityInternal_d00df_11 rfl rfl ?_
  refine zv_iload_n (n := 13) dJ5_ensureCapacityInternal_d00df_12 rfl rfl ?_
  refine zv_isub (n := 14) dJ5_ensureCapacityInternal_d00df_13 rfl ?_
  refine zv_if_le (n := 17) (tgt := 38) dJ5_ensureCapacityInternal_d00df_14 (by decide) rfl (fun h14 => ?_) (fun h14 => False.elim (h14 (by rw [Int32.le_iff_toInt_le, show (0 : Int32) - nI m = nI 0 - nI m from rfl, pk_sub_toInt (by omega) (by omega), Int32.toInt_zero]; omega)))
  refine zv_vret dJ5_ensureCapacityInternal_d00df_38 rfl (by decide) (by decide) ?_
  exact zPi

set_option maxRecDepth 100000 in
set_option maxHeartbeats 4000000 in
theorem c_J5_setLength {σ : zSg} {M : zM} {s v n m : Nat} {t : Nat → Nat} (hS : zSB M s v t n m)  : zCon μJ5_setLength_d00df (5, 0, 0) σ [.ref s, .int 0] M (zF none (fun M' => zSB M' s v t 0 m ∧ zGr M M' s v v)) := by
  have hS0 := hS
  obtain ⟨ml, a, h1, h2, hL, hf, hnm, hm⟩ := hS0
  
  refine zCon.of (plainFor_of_name (by decide)) rfl (Nat.le_of_ble_eq_true rfl) ?_
  change zV _ _ _ _ _ 0 0 0 [(0, .ref s), (1, .int 0)] []
  refine zv_iload_n (n := 1) dJ5_setLength_d00df_0 rfl rfl ?_
  refine zv_if_ge (n := 4) (tgt := 13) dJ5_setLength_d00df_1 (by decide) rfl (fun h1_ => ?_) (fun h1_ => False.elim (absurd (by decide) h1_))
  refine zv_aload_n (n := 14) dJ5_setLength_d00df_13 rfl rfl ?_
  refine zv_iload_n (n := 15) dJ5_setLength_d00df_14 rfl rfl ?_
  refine zv_callQF0 (n := 18) (As := [.int 0]) (rest := []) (kc' := 0) (ks' := 0) dJ5_setLength_d00df_15 rfl (c_J5_ens0 hS) rfl kJ5_ensureCapacityInternal_d00dfQ lJ5_100 h1 rfl rfl rfl ⟨by decide, by decide⟩ (Nat.le_of_ble_eq_true rfl) rfl rfl (by decide) (by decide) (fun M1 hq => ?_)
  subst hq
  refine zv_aload_n (n := 19) dJ5_setLength_d00df_18 rfl rfl ?_
  refine zv_get (n := 22) dJ5_setLength_d00df_19 rfl h1 FJ5_79 rfl ?_
  refine zv_iload_n (n := 23) dJ5_setLength_d00df_22 rfl rfl ?_
  refine zv_icmp_ge (n := 26) (tgt := 63) dJ5_setLength_d00df_23 (by decide) rfl (fun h23 => ?_) (fun h23 => False.elim (h23 (nI_pos' (by omega))))
  refine zv_aload_n (n := 64) dJ5_setLength_d00df_63 rfl rfl ?_
  refine zv_get (n := 67) dJ5_setLength_d00df_64 rfl h1 FJ5_79 rfl ?_
  refine zv_iload_n (n := 68) dJ5_setLength_d00df_67 rfl rfl ?_
  refine zv_icmp_le (n := 71) (tgt := 76) dJ5_setLength_d00df_68 (by decide) rfl (fun h68 => ?_) (fun h68 => ?_)
  · skip
    skip
    refine zv_aload_n (n := 77) dJ5_setLength_d00df_76 rfl rfl ?_
    refine zv_iload_n (n := 78) dJ5_setLength_d00df_77 rfl rfl ?_
    refine zv_put (n := 81) dJ5_setLength_d00df_78 rfl h1 FJ5_79 zcl_J4 zty_J4_3 rfl rfl (Nat.le_of_ble_eq_true rfl) ?_
    refine zv_vret dJ5_setLength_d00df_81 rfl (by decide) (by decide) ?_
    first
      | exact zFi ⟨⟨_, a, zup_s, (zup_n (hS.vs)).trans h2, fun j hj => absurd hj (Nat.not_lt_zero _), hf, Nat.zero_le _, hm⟩, Or.inl rfl, fun x hx1 _ _ => zup_n hx1⟩
      | exact zFi ⟨⟨_, a, zup_s, (zup_n (hS.vs)).trans ((zup_n (hS.vs)).trans h2), fun j hj => absurd hj (Nat.not_lt_zero _), hf, Nat.zero_le _, hm⟩, Or.inl rfl, fun x hx1 _ _ => (zup_n hx1).trans (zup_n hx1)⟩
  · skip
    skip
    refine zv_aload_n (n := 72) dJ5_setLength_d00df_71 rfl rfl ?_
    refine zv_iconst (n := 73) dJ5_setLength_d00df_72 rfl (v := 1) (by decide) ?_
    refine zv_put (n := 76) dJ5_setLength_d00df_73 rfl h1 FJ5_73 zcl_J4 zty_J4_2 rfl rfl (Nat.le_of_ble_eq_true rfl) ?_
    refine zv_aload_n (n := 77) dJ5_setLength_d00df_76 rfl rfl ?_
    refine zv_iload_n (n := 78) dJ5_setLength_d00df_77 rfl rfl ?_
    refine zv_put (n := 81) dJ5_setLength_d00df_78 rfl zup_s FJ5_79 zcl_J4 zty_J4_3 rfl rfl (Nat.le_of_ble_eq_true rfl) ?_
    refine zv_vret dJ5_setLength_d00df_81 rfl (by decide) (by decide) ?_
    first
      | exact zFi ⟨⟨_, a, zup_s, (zup_n (hS.vs)).trans h2, fun j hj => absurd hj (Nat.not_lt_zero _), hf, Nat.zero_le _, hm⟩, Or.inl rfl, fun x hx1 _ _ => zup_n hx1⟩
      | exact zFi ⟨⟨_, a, zup_s, (zup_n (hS.vs)).trans ((zup_n (hS.vs)).trans h2), fun j hj => absurd hj (Nat.not_lt_zero _), hf, Nat.zero_le _, hm⟩, Or.inl rfl, fun x hx1 _ _ => (zup_n hx1).trans (zup_n hx1)⟩

set_option maxRecDepth 100000 in
set_option maxHeartbeats 4000000 in
theorem c_J4_setLength {σ : zSg} {M : zM} {s v n m : Nat} {t : Nat → Nat} (hS : zSB M s v t n m)  : zCon μJ4_setLength_d00df (6, 0, 0) σ [.ref s, .int 0] M (zF none (fun M' => zSB M' s v t 0 m ∧ zGr M M' s v v)) := by
  have hS0 := hS
  obtain ⟨ml, a, h1, h2, hL, hf, hnm, hm⟩ := hS0
  
  refine zCon.of (plainFor_of_name (by decide)) rfl (Nat.le_of_ble_eq_true rfl) ?_
  change zV _ _ _ _ _ 0 0 0 [(0, .ref s), (1, .int 0)] []
  refine zv_aload_n (n := 1) dJ4_setLength_d00df_0 rfl rfl ?_
  refine zv_iload_n (n := 2) dJ4_setLength_d00df_1 rfl rfl ?_
  refine zv_callUF0 (n := 5) (As := [.int 0]) (rest := []) (kc' := 0) (ks' := 0) dJ4_setLength_d00df_2 rfl (c_J5_setLength hS) rfl kJ5_setLength_d00dfU lJ4_333 h1 rfl rfl rfl ⟨by decide, by decide⟩ (Nat.le_of_ble_eq_true rfl) rfl rfl (by decide) (by decide) (fun M1 hq => ?_)
  refine zv_vret dJ4_setLength_d00df_5 rfl (by decide) (by decide) ?_
  exact zFi hq

set_option maxRecDepth 100000 in
set_option maxHeartbeats 4000000 in
theorem c_J5_length {σ : zSg} {M : zM} {s v n m : Nat} {t : Nat → Nat} (hS : zSB M s v t n m)  : zCon μJ5_length_8abf5 (1, 0, 0) σ [.ref s] M (zP (some (.int (nI n))) M) := by
  obtain ⟨ml, a, h1, h2, hL, hf, hnm, hm⟩ := hS
  
  refine zCon.of (plainFor_of_name (by decide)) rfl (Nat.le_of_ble_eq_true rfl) ?_
  change zV _ _ _ _ _ 0 0 0 [(0, .ref s)] []
  refine zv_aload_n (n := 1) dJ5_length_8abf5_0 rfl rfl ?_
  refine zv_get (n := 4) dJ5_length_8abf5_1 rfl h1 FJ5_79 rfl ?_
  refine zv_iret dJ5_length_8abf5_4 rfl (by decide) (by decide) ?_
  exact zPi

theorem c_J4_length {σ : zSg} {M : zM} {s v n m : Nat} {t : Nat → Nat} (hS : zSB M s v t n m) : zCon μJ4_length_8abf5 (2, 0, 0) σ [.ref s] M (zP (some (.int (nI n))) M) := by
  have hS0 := hS
  obtain ⟨ml, a, h1, h2, hL, hf, hnm, hm⟩ := hS0
  refine zCon.of (plainFor_of_name (by decide)) rfl (Nat.le_of_ble_eq_true rfl) ?_
  change zV _ _ _ _ _ 0 0 0 [(0, .ref s)] []
  refine zv_aload_n (n := 1) dJ4_length_8abf5_0 rfl rfl ?_
  refine zv_callUP (n := 4) (As := []) (rest := []) (kc' := 0) (ks' := 0) dJ4_length_8abf5_1 rfl (c_J5_length hS) rfl kJ5_length_8abf5U lJ4_343 h1 rfl rfl rfl ⟨by decide, by decide⟩ (Nat.le_of_ble_eq_true rfl) rfl rfl (by decide) (by decide) ?_
  refine zv_iret dJ4_length_8abf5_4 rfl (by decide) (by decide) ?_
  exact zPi

set_option maxRecDepth 100000 in
set_option maxHeartbeats 4000000 in
theorem c_J5_charAt {σ : zSg} {M : zM} {s v n m : Nat} {t : Nat → Nat} (hS : zSB M s v t n m) {i : Nat} (hi : i < n) : zCon μJ5_charAt_5068e (3, 0, 0) σ [.ref s, .int (nI i)] M (zP (some (.int (nI (t i)))) M) := by
  obtain ⟨ml, a, h1, h2, hL, hf, hnm, hm⟩ := hS
  
  refine zCon.of (plainFor_of_name (by decide)) rfl (Nat.le_of_ble_eq_true rfl) ?_
  change zV _ _ _ _ _ 0 0 0 [(0, .ref s), (1, .int (nI i))] []
  refine zv_aload_n (n := 1) dJ5_charAt_5068e_0 rfl rfl ?_
  refine zv_get (n := 4) dJ5_charAt_5068e_1 rfl h1 FJ5_22 rfl ?_
  refine zv_istore_n (n := 5) (lv' := [(2, .int 0), (0, .ref s), (1, .int (nI i))]) dJ5_charAt_5068e_4 rfl (by decide) rfl ?_
  refine zv_aload_n (n := 6) dJ5_charAt_5068e_5 rfl rfl ?_
  refine zv_get (n := 9) dJ5_charAt_5068e_6 rfl h1 FJ5_15 rfl ?_
  refine zv_astore_n (n := 10) (lv' := [(3, .ref v), (2, .int 0), (0, .ref s), (1, .int (nI i))]) dJ5_charAt_5068e_9 rfl (by decide) rfl ?_
  refine zv_aload_n (n := 11) dJ5_charAt_5068e_10 rfl rfl ?_
  refine zv_get (n := 14) dJ5_charAt_5068e_11 rfl h1 FJ5_79 rfl ?_
  refine zv_aload_n (n := 15) dJ5_charAt_5068e_14 rfl rfl ?_
  refine zv_alen (n := 16) dJ5_charAt_5068e_15 rfl h2 (by decide) (v := (nI m)) rfl ?_
  refine zv_iload_n (n := 17) dJ5_charAt_5068e_16 rfl rfl ?_
  refine zv_ishr (n := 18) dJ5_charAt_5068e_17 rfl ?_
  rw [sb_shr0]
  refine zv_callSP (n := 21) (As := [.int (nI n), .int (nI m)]) (rest := []) (kc' := 0) (ks' := 0) dJ5_charAt_5068e_18 rfl (c_min (nI n) (nI m)) rfl kJ9_min_7cf53 lJ5_138 rfl rfl ⟨by decide, by decide⟩ (Nat.le_of_ble_eq_true rfl) rfl rfl (by decide) (by decide) ?_
  rw [show fMin (nI n) (nI m) = nI n from if_neg (nI_nlt (by omega) (by omega))]
  refine zv_istore (n := 23) (lv' := [(4, .int (nI n)), (3, .ref v), (2, .int 0), (0, .ref s), (1, .int (nI i))]) dJ5_charAt_5068e_21 rfl (by decide) rfl ?_
  refine zv_iload_n (n := 24) dJ5_charAt_5068e_23 rfl rfl ?_
  refine zv_iload (n := 26) dJ5_charAt_5068e_24 rfl rfl ?_
  refine zv_callSP0 (n := 29) (As := [.int (nI i), .int (nI n)]) (rest := []) (kc' := 0) (ks' := 0) dJ5_charAt_5068e_26 rfl (c_J0_checkIndex hi (by omega)) rfl kJ0_checkIndex_df160 lJ5_144 rfl rfl ⟨by decide, by decide⟩ (Nat.le_of_ble_eq_true rfl) rfl rfl (by decide) (by decide) ?_
  refine zv_iload_n (n := 30) dJ5_charAt_5068e_29 rfl rfl ?_
  refine zv_if_ne (n := 33) (tgt := 42) dJ5_charAt_5068e_30 (by decide) rfl (fun h30 => False.elim (h30 rfl)) (fun h30 => ?_)
  refine zv_aload_n (n := 34) dJ5_charAt_5068e_33 rfl rfl ?_
  refine zv_iload_n (n := 35) dJ5_charAt_5068e_34 rfl rfl ?_
  refine zv_bald' (n := 36) dJ5_charAt_5068e_35 rfl h2 (vp_in_nI (by omega) (by omega)) (show a (nI i).toNatClampNeg = sb_b (t i) by rw [nI_clamp (by omega)]; exact (hL i hi).2) ?_
  refine zv_sipush (n := 39) dJ5_charAt_5068e_36 rfl (v := 255) (by decide) ?_
  refine zv_iand (n := 40) dJ5_charAt_5068e_39 rfl ?_
  rw [(sb_byte (t i) (hL i hi).1).1]
  refine zv_i2c (n := 41) dJ5_charAt_5068e_40 rfl ?_
  rw [(sb_byte (t i) (hL i hi).1).2.1]
  refine zv_zret dJ5_charAt_5068e_41 rfl (nar_ch (hL i hi).1) (by decide) (by decide) ?_
  exact zPi

set_option maxRecDepth 100000 in
set_option maxHeartbeats 4000000 in
theorem c_J4_charAt {σ : zSg} {M : zM} {s v n m : Nat} {t : Nat → Nat} (hS : zSB M s v t n m) {i : Nat} (hi : i < n) : zCon μJ4_charAt_5068e (4, 0, 0) σ [.ref s, .int (nI i)] M (zP (some (.int (nI (t i)))) M) := by
  have hS0 := hS
  obtain ⟨ml, a, h1, h2, hL, hf, hnm, hm⟩ := hS0
  
  refine zCon.of (plainFor_of_name (by decide)) rfl (Nat.le_of_ble_eq_true rfl) ?_
  change zV _ _ _ _ _ 0 0 0 [(0, .ref s), (1, .int (nI i))] []
  refine zv_aload_n (n := 1) dJ4_charAt_5068e_0 rfl rfl ?_
  refine zv_iload_n (n := 2) dJ4_charAt_5068e_1 rfl rfl ?_
  refine zv_callUP (n := 5) (As := [.int (nI i)]) (rest := []) (kc' := 0) (ks' := 0) dJ4_charAt_5068e_2 rfl (c_J5_charAt hS hi) rfl kJ5_charAt_5068eU lJ4_329 h1 rfl rfl rfl ⟨by decide, by decide⟩ (Nat.le_of_ble_eq_true rfl) rfl rfl (by decide) (by decide) ?_
  refine zv_zret dJ4_charAt_5068e_5 rfl (nar_ch (hL i hi).1) (by decide) (by decide) ?_
  exact zPi

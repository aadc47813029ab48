/-! A builder's append of a small number: laid by wip/p53/m23.py. -/
theorem dg1 {k : Nat} (h : k < 10) : sb_dg k = 1 := if_pos h
theorem dg2 {k : Nat} (h : 10 ≤ k) (h2 : k < 100) : sb_dg k = 2 := by
  unfold sb_dg
  rw [if_neg (by omega), if_pos h2]

set_option maxRecDepth 100000 in
set_option maxHeartbeats 4000000 in
theorem c_J6_stringSize_1 {σ : zSg} {M : zM} {k : Nat} (hk : k < 10) : zCon μJ6_stringSize_0f7a4 (1, 0, 0) σ [.int (nI k)] M (zP (some (.int (nI (sb_dg k)))) M) := by
  refine zCon.of (plainFor_of_name (by decide)) rfl (Nat.le_of_ble_eq_true rfl) ?_
  change zV _ _ _ _ _ 0 0 0 [(0, .int (nI k))] []
  refine zv_iconst (n := 1) dJ6_stringSize_0f7a4_0 rfl (v := 1) (by decide) ?_
  refine zv_istore_n (n := 2) (lv' := [(1, .int 1), (0, .int (nI k))]) dJ6_stringSize_0f7a4_1 rfl (by decide) rfl ?_
  refine zv_iload_n (n := 3) dJ6_stringSize_0f7a4_2 rfl rfl ?_
  refine zv_if_lt (n := 6) (tgt := 11) dJ6_stringSize_0f7a4_3 (by decide) rfl (fun h3 => False.elim (nI_pos (by omega) h3)) (fun h3 => ?_)
  refine zv_iconst (n := 7) dJ6_stringSize_0f7a4_6 rfl (v := 0) (by decide) ?_
  refine zv_istore_n (n := 8) (lv' := [(1, .int 0), (0, .int (nI k))]) dJ6_stringSize_0f7a4_7 rfl (by decide) rfl ?_
  refine zv_iload_n (n := 9) dJ6_stringSize_0f7a4_8 rfl rfl ?_
  refine zv_ineg (n := 10) dJ6_stringSize_0f7a4_9 rfl ?_
  refine zv_istore_n (n := 11) (lv' := [(0, .int (-(nI k))), (1, .int 0)]) dJ6_stringSize_0f7a4_10 rfl (by decide) rfl ?_
  refine zv_bipush (n := 13) dJ6_stringSize_0f7a4_11 rfl (v := (-10)) (by decide) ?_
  refine zv_istore_n (n := 14) (lv' := [(2, .int (-10)), (0, .int (-(nI k))), (1, .int 0)]) dJ6_stringSize_0f7a4_13 rfl (by decide) rfl ?_
  refine zv_iconst (n := 15) dJ6_stringSize_0f7a4_14 rfl (v := 1) (by decide) ?_
  refine zv_istore_n (n := 16) (lv' := [(3, .int 1), (2, .int (-10)), (0, .int (-(nI k))), (1, .int 0)]) dJ6_stringSize_0f7a4_15 rfl (by decide) rfl ?_
  refine zv_iload_n (n := 17) dJ6_stringSize_0f7a4_16 rfl rfl ?_
  refine zv_bipush (n := 19) dJ6_stringSize_0f7a4_17 rfl (v := 10) (by decide) ?_
  refine zv_icmp_ge (n := 22) (tgt := 42) dJ6_stringSize_0f7a4_19 (by decide) rfl (fun h19 => False.elim (absurd h19 (by decide))) (fun h19 => ?_)
  refine zv_iload_n (n := 23) dJ6_stringSize_0f7a4_22 rfl rfl ?_
  refine zv_iload_n (n := 24) dJ6_stringSize_0f7a4_23 rfl rfl ?_
  refine zv_icmp_le (n := 27) (tgt := 31) dJ6_stringSize_0f7a4_24 (by decide) rfl (fun h24 => False.elim (absurd h24 (fun q => absurd ((sb_nle (b := 10) (by omega) (by decide)).mp q) (by omega)))) (fun h24 => ?_)
  refine zv_iload_n (n := 28) dJ6_stringSize_0f7a4_27 rfl rfl ?_
  refine zv_iload_n (n := 29) dJ6_stringSize_0f7a4_28 rfl rfl ?_
  refine zv_iadd (n := 30) dJ6_stringSize_0f7a4_29 rfl ?_
  refine zv_iret dJ6_stringSize_0f7a4_30 rfl (by decide) (by decide) ?_
  rw [dg1 hk]
  exact zPi

set_option maxRecDepth 100000 in
set_option maxHeartbeats 4000000 in
theorem c_J6_stringSize_2 {σ : zSg} {M : zM} {k : Nat} (hk : 10 ≤ k) (hk2 : k < 100) : zCon μJ6_stringSize_0f7a4 (1, 0, 0) σ [.int (nI k)] M (zP (some (.int (nI (sb_dg k)))) M) := by
  refine zCon.of (plainFor_of_name (by decide)) rfl (Nat.le_of_ble_eq_true rfl) ?_
  change zV _ _ _ _ _ 0 0 0 [(0, .int (nI k))] []
  refine zv_iconst (n := 1) dJ6_stringSize_0f7a4_0 rfl (v := 1) (by decide) ?_
  refine zv_istore_n (n := 2) (lv' := [(1, .int 1), (0, .int (nI k))]) dJ6_stringSize_0f7a4_1 rfl (by decide) rfl ?_
  refine zv_iload_n (n := 3) dJ6_stringSize_0f7a4_2 rfl rfl ?_
  refine zv_if_lt (n := 6) (tgt := 11) dJ6_stringSize_0f7a4_3 (by decide) rfl (fun h3 => False.elim (nI_pos (by omega) h3)) (fun h3 => ?_)
  refine zv_iconst (n := 7) dJ6_stringSize_0f7a4_6 rfl (v := 0) (by decide) ?_
  refine zv_istore_n (n := 8) (lv' := [(1, .int 0), (0, .int (nI k))]) dJ6_stringSize_0f7a4_7 rfl (by decide) rfl ?_
  refine zv_iload_n (n := 9) dJ6_stringSize_0f7a4_8 rfl rfl ?_
  refine zv_ineg (n := 10) dJ6_stringSize_0f7a4_9 rfl ?_
  refine zv_istore_n (n := 11) (lv' := [(0, .int (-(nI k))), (1, .int 0)]) dJ6_stringSize_0f7a4_10 rfl (by decide) rfl ?_
  refine zv_bipush (n := 13) dJ6_stringSize_0f7a4_11 rfl (v := (-10)) (by decide) ?_
  refine zv_istore_n (n := 14) (lv' := [(2, .int (-10)), (0, .int (-(nI k))), (1, .int 0)]) dJ6_stringSize_0f7a4_13 rfl (by decide) rfl ?_
  refine zv_iconst (n := 15) dJ6_stringSize_0f7a4_14 rfl (v := 1) (by decide) ?_
  refine zv_istore_n (n := 16) (lv' := [(3, .int 1), (2, .int (-10)), (0, .int (-(nI k))), (1, .int 0)]) dJ6_stringSize_0f7a4_15 rfl (by decide) rfl ?_
  refine zv_iload_n (n := 17) dJ6_stringSize_0f7a4_16 rfl rfl ?_
  refine zv_bipush (n := 19) dJ6_stringSize_0f7a4_17 rfl (v := 10) (by decide) ?_
  refine zv_icmp_ge (n := 22) (tgt := 42) dJ6_stringSize_0f7a4_19 (by decide) rfl (fun h19 => False.elim (absurd h19 (by decide))) (fun h19 => ?_)
  refine zv_iload_n (n := 23) dJ6_stringSize_0f7a4_22 rfl rfl ?_
  refine zv_iload_n (n := 24) dJ6_stringSize_0f7a4_23 rfl rfl ?_
  refine zv_icmp_le (n := 27) (tgt := 31) dJ6_stringSize_0f7a4_24 (by decide) rfl (fun h24 => ?_) (fun h24 => False.elim (h24 ((sb_nle (b := 10) (by omega) (by decide)).mpr (by omega))))
  refine zv_bipush (n := 33) dJ6_stringSize_0f7a4_31 rfl (v := 10) (by decide) ?_
  refine zv_iload_n (n := 34) dJ6_stringSize_0f7a4_33 rfl rfl ?_
  refine zv_imul (n := 35) dJ6_stringSize_0f7a4_34 rfl ?_
  rw [show (10 : Int32) * -10 = -100 from by decide]
  refine zv_istore_n (n := 36) (lv' := [(2, .int (-100)), (3, .int 1), (0, .int (-(nI k))), (1, .int 0)]) dJ6_stringSize_0f7a4_35 rfl (by decide) rfl ?_
  refine zv_iinc (n := 39) (v := 2) (lv' := [(3, .int 2), (2, .int (-100)), (0, .int (-(nI k))), (1, .int 0)]) dJ6_stringSize_0f7a4_36 rfl rfl rfl (by decide) rfl ?_
  refine zv_goto (tgt := 16) dJ6_stringSize_0f7a4_39 (by decide) ?_
  refine zv_iload_n (n := 17) dJ6_stringSize_0f7a4_16 rfl rfl ?_
  refine zv_bipush (n := 19) dJ6_stringSize_0f7a4_17 rfl (v := 10) (by decide) ?_
  refine zv_icmp_ge (n := 22) (tgt := 42) dJ6_stringSize_0f7a4_19 (by decide) rfl (fun h19 => False.elim (absurd h19 (by decide))) (fun h19 => ?_)
  refine zv_iload_n (n := 23) dJ6_stringSize_0f7a4_22 rfl rfl ?_
  refine zv_iload_n (n := 24) dJ6_stringSize_0f7a4_23 rfl rfl ?_
  refine zv_icmp_le (n := 27) (tgt := 31) dJ6_stringSize_0f7a4_24 (by decide) rfl (fun h24 => False.elim (absurd h24 (fun q => absurd ((sb_nle (b := 100) (by omega) (by decide)).mp q) (by omega)))) (fun h24 => ?_)
  refine zv_iload_n (n := 28) dJ6_stringSize_0f7a4_27 rfl rfl ?_
  refine zv_iload_n (n := 29) dJ6_stringSize_0f7a4_28 rfl rfl ?_
  refine zv_iadd (n := 30) dJ6_stringSize_0f7a4_29 rfl ?_
  refine zv_iret dJ6_stringSize_0f7a4_30 rfl (by decide) (by decide) ?_
  rw [dg2 hk hk2]
  exact zPi

theorem c_J6_stringSize {σ : zSg} {M : zM} {k : Nat} (hk : k < 100) : zCon μJ6_stringSize_0f7a4 (1, 0, 0) σ [.int (nI k)] M (zP (some (.int (nI (sb_dg k)))) M) := by
  rcases Nat.lt_or_ge k 10 with h | h
  · exact c_J6_stringSize_1 h
  · exact c_J6_stringSize_2 h hk
def fDig (k n : Nat) (a : Nat → Int32) : Nat → Int32 := if k < 10 then upd a n (sb_b (48 + k % 10)) else upd (upd a (n + 1) (sb_b (48 + k % 10))) n (sb_b (48 + k / 10))
theorem nar_b (c : Nat) : vp_nar .byte (nI c) = sb_b c := by
  rw [vp_nar_byte]
  rfl
theorem neg_neg_nI (k : Nat) : -(-nI k) = nI k := Int32.neg_neg

set_option maxRecDepth 100000 in
set_option maxHeartbeats 4000000 in
theorem c_J6_getChars_1 {σ : zSg} {M : zM} {k n v m : Nat} {a : Nat → Int32} (hv : M v = some (zAB m a)) (hk : k < 10) (hn : n + 1 ≤ m) (hm : m ≤ 65536) : zCon μJ6_getChars_ba4f3 (1, 0, 0) σ [.int (nI k), .int (nI (n + 1)), .ref v] M (zF (some (.int (nI n))) (fun M' => M' = zup M v (zAB m (fDig k n a)))) := by
  refine zCon.of (plainFor_of_name (by decide)) rfl (Nat.le_of_ble_eq_true rfl) ?_
  change zV _ _ _ _ _ 0 0 0 [(0, .int (nI k)), (1, .int (nI (n + 1))), (2, .ref v)] []
  refine zv_iload_n (n := 1) dJ6_getChars_ba4f3_0 rfl rfl ?_
  refine zv_istore (n := 3) (lv' := [(5, .int (nI (n + 1))), (0, .int (nI k)), (1, .int (nI (n + 1))), (2, .ref v)]) dJ6_getChars_ba4f3_1 rfl (by decide) rfl ?_
  refine zv_iload_n (n := 4) dJ6_getChars_ba4f3_3 rfl rfl ?_
  refine zv_if_ge (n := 7) (tgt := 11) dJ6_getChars_ba4f3_4 (by decide) rfl (fun h4 => ?_) (fun h4 => False.elim (h4 (nI_pos' (by omega))))
  refine zv_iconst (n := 12) dJ6_getChars_ba4f3_11 rfl (v := 0) (by decide) ?_
  refine zv_istore (n := 14) (lv' := [(6, .int 0), (5, .int (nI (n + 1))), (0, .int (nI k)), (1, .int (nI (n + 1))), (2, .ref v)]) dJ6_getChars_ba4f3_12 rfl (by decide) rfl ?_
  refine zv_iload (n := 16) dJ6_getChars_ba4f3_14 rfl rfl ?_
  refine zv_if_ne (n := 19) (tgt := 22) dJ6_getChars_ba4f3_16 (by decide) rfl (fun h16 => False.elim (h16 rfl)) (fun h16 => ?_)
  refine zv_iload_n (n := 20) dJ6_getChars_ba4f3_19 rfl rfl ?_
  refine zv_ineg (n := 21) dJ6_getChars_ba4f3_20 rfl ?_
  refine zv_istore_n (n := 22) (lv' := [(0, .int (-(nI k))), (6, .int 0), (5, .int (nI (n + 1))), (1, .int (nI (n + 1))), (2, .ref v)]) dJ6_getChars_ba4f3_21 rfl (by decide) rfl ?_
  refine zv_iload_n (n := 23) dJ6_getChars_ba4f3_22 rfl rfl ?_
  refine zv_bipush (n := 25) dJ6_getChars_ba4f3_23 rfl (v := (-100)) (by decide) ?_
  refine zv_icmp_gt (n := 28) (tgt := 72) dJ6_getChars_ba4f3_25 (by decide) rfl (fun h25 => ?_) (fun h25 => False.elim (h25 ((sb_nlt (a := 100) (by decide) (by omega)).mpr (by omega))))
  refine zv_aload_n (n := 73) dJ6_getChars_ba4f3_72 rfl rfl ?_
  refine zv_iinc (n := 76) (v := nI n) (lv' := [(5, .int (nI n)), (0, .int (-(nI k))), (6, .int 0), (1, .int (nI (n + 1))), (2, .ref v)]) dJ6_getChars_ba4f3_73 rfl rfl (sb_m1 (by omega)) (by decide) rfl ?_
  refine zv_iload (n := 78) dJ6_getChars_ba4f3_76 rfl rfl ?_
  refine zv_gets (n := 81) (v := .ref (σ.1 5)) dJ6_getChars_ba4f3_78 rfl (fun U H h => h.2.2.2.2.2.2.2.2.2.2.2.2.2.1) SJ6_83 ?_
  refine zv_iload_n (n := 82) dJ6_getChars_ba4f3_81 rfl rfl ?_
  refine zv_ineg (n := 83) dJ6_getChars_ba4f3_82 rfl ?_
  rw [neg_neg_nI]
  refine zv_tbald (n := 84) (v := .int (nI (48 + k % 10))) dJ6_getChars_ba4f3_83 rfl (fun U H h => h.2.2.2.2.2.2.2.2.2.2.2.2.2.2.1) (vp_in_nI (by omega) (by decide)) (by rw [nI_clamp (by omega)]) ?_
  refine zv_bast (n := 85) dJ6_getChars_ba4f3_84 rfl hv (vp_in_nI (by omega) (by omega)) ?_
  rw [nI_clamp (by omega), nar_b]
  refine zv_iload_n (n := 86) dJ6_getChars_ba4f3_85 rfl rfl ?_
  refine zv_bipush (n := 88) dJ6_getChars_ba4f3_86 rfl (v := (-9)) (by decide) ?_
  refine zv_icmp_ge (n := 91) (tgt := 104) dJ6_getChars_ba4f3_88 (by decide) rfl (fun h88 => ?_) (fun h88 => False.elim (h88 ((sb_nle (a := 9) (by decide) (by omega)).mpr (by omega))))
  refine zv_iload (n := 106) dJ6_getChars_ba4f3_104 rfl rfl ?_
  refine zv_if_eq (n := 109) (tgt := 118) dJ6_getChars_ba4f3_106 (by decide) rfl (fun h106 => ?_) (fun h106 => False.elim (h106 rfl))
  refine zv_iload (n := 120) dJ6_getChars_ba4f3_118 rfl rfl ?_
  refine zv_iret dJ6_getChars_ba4f3_120 rfl (by decide) (by decide) ?_
  exact zFi (by unfold fDig; rw [if_pos hk])

set_option maxRecDepth 100000 in
set_option maxHeartbeats 4000000 in
theorem c_J6_getChars_2 {σ : zSg} {M : zM} {k n v m : Nat} {a : Nat → Int32} (hv : M v = some (zAB m a)) (hk : 10 ≤ k) (hk2 : k < 100) (hn : n + 2 ≤ m) (hm : m ≤ 65536) : zCon μJ6_getChars_ba4f3 (1, 0, 0) σ [.int (nI k), .int (nI (n + 2)), .ref v] M (zF (some (.int (nI n))) (fun M' => M' = zup M v (zAB m (fDig k n a)))) := by
  refine zCon.of (plainFor_of_name (by decide)) rfl (Nat.le_of_ble_eq_true rfl) ?_
  change zV _ _ _ _ _ 0 0 0 [(0, .int (nI k)), (1, .int (nI (n + 2))), (2, .ref v)] []
  refine zv_iload_n (n := 1) dJ6_getChars_ba4f3_0 rfl rfl ?_
  refine zv_istore (n := 3) (lv' := [(5, .int (nI (n + 2))), (0, .int (nI k)), (1, .int (nI (n + 2))), (2, .ref v)]) dJ6_getChars_ba4f3_1 rfl (by decide) rfl ?_
  refine zv_iload_n (n := 4) dJ6_getChars_ba4f3_3 rfl rfl ?_
  refine zv_if_ge (n := 7) (tgt := 11) dJ6_getChars_ba4f3_4 (by decide) rfl (fun h4 => ?_) (fun h4 => False.elim (h4 (nI_pos' (by omega))))
  refine zv_iconst (n := 12) dJ6_getChars_ba4f3_11 rfl (v := 0) (by decide) ?_
  refine zv_istore (n := 14) (lv' := [(6, .int 0), (5, .int (nI (n + 2))), (0, .int (nI k)), (1, .int (nI (n + 2))), (2, .ref v)]) dJ6_getChars_ba4f3_12 rfl (by decide) rfl ?_
  refine zv_iload (n := 16) dJ6_getChars_ba4f3_14 rfl rfl ?_
  refine zv_if_ne (n := 19) (tgt := 22) dJ6_getChars_ba4f3_16 (by decide) rfl (fun h16 => False.elim (h16 rfl)) (fun h16 => ?_)
  refine zv_iload_n (n := 20) dJ6_getChars_ba4f3_19 rfl rfl ?_
  refine zv_ineg (n := 21) dJ6_getChars_ba4f3_20 rfl ?_
  refine zv_istore_n (n := 22) (lv' := [(0, .int (-(nI k))), (6, .int 0), (5, .int (nI (n + 2))), (1, .int (nI (n + 2))), (2, .ref v)]) dJ6_getChars_ba4f3_21 rfl (by decide) rfl ?_
  refine zv_iload_n (n := 23) dJ6_getChars_ba4f3_22 rfl rfl ?_
  refine zv_bipush (n := 25) dJ6_getChars_ba4f3_23 rfl (v := (-100)) (by decide) ?_
  refine zv_icmp_gt (n := 28) (tgt := 72) dJ6_getChars_ba4f3_25 (by decide) rfl (fun h25 => ?_) (fun h25 => False.elim (h25 ((sb_nlt (a := 100) (by decide) (by omega)).mpr (by omega))))
  refine zv_aload_n (n := 73) dJ6_getChars_ba4f3_72 rfl rfl ?_
  refine zv_iinc (n := 76) (v := nI (n + 1)) (lv' := [(5, .int (nI (n + 1))), (0, .int (-(nI k))), (6, .int 0), (1, .int (nI (n + 2))), (2, .ref v)]) dJ6_getChars_ba4f3_73 rfl rfl (sb_m1 (by omega)) (by decide) rfl ?_
  refine zv_iload (n := 78) dJ6_getChars_ba4f3_76 rfl rfl ?_
  refine zv_gets (n := 81) (v := .ref (σ.1 5)) dJ6_getChars_ba4f3_78 rfl (fun U H h => h.2.2.2.2.2.2.2.2.2.2.2.2.2.1) SJ6_83 ?_
  refine zv_iload_n (n := 82) dJ6_getChars_ba4f3_81 rfl rfl ?_
  refine zv_ineg (n := 83) dJ6_getChars_ba4f3_82 rfl ?_
  rw [neg_neg_nI]
  refine zv_tbald (n := 84) (v := .int (nI (48 + k % 10))) dJ6_getChars_ba4f3_83 rfl (fun U H h => h.2.2.2.2.2.2.2.2.2.2.2.2.2.2.1) (vp_in_nI (by omega) (by decide)) (by rw [nI_clamp (by omega)]) ?_
  refine zv_bast (n := 85) dJ6_getChars_ba4f3_84 rfl hv (vp_in_nI (by omega) (by omega)) ?_
  rw [nI_clamp (by omega), nar_b]
  refine zv_iload_n (n := 86) dJ6_getChars_ba4f3_85 rfl rfl ?_
  refine zv_bipush (n := 88) dJ6_getChars_ba4f3_86 rfl (v := (-9)) (by decide) ?_
  refine zv_icmp_ge (n := 91) (tgt := 104) dJ6_getChars_ba4f3_88 (by decide) rfl (fun h88 => False.elim (absurd h88 (fun q => absurd ((sb_nle (a := 9) (by decide) (by omega)).mp q) (by omega)))) (fun h88 => ?_)
  refine zv_aload_n (n := 92) dJ6_getChars_ba4f3_91 rfl rfl ?_
  refine zv_iinc (n := 95) (v := nI n) (lv' := [(5, .int (nI n)), (0, .int (-(nI k))), (6, .int 0), (1, .int (nI (n + 2))), (2, .ref v)]) dJ6_getChars_ba4f3_92 rfl rfl (sb_m1 (by omega)) (by decide) rfl ?_
  refine zv_iload (n := 97) dJ6_getChars_ba4f3_95 rfl rfl ?_
  refine zv_gets (n := 100) (v := .ref (σ.1 6)) dJ6_getChars_ba4f3_97 rfl (fun U H h => h.2.2.2.2.2.2.2.2.2.2.2.2.2.2.2.1) SJ6_87 ?_
  refine zv_iload_n (n := 101) dJ6_getChars_ba4f3_100 rfl rfl ?_
  refine zv_ineg (n := 102) dJ6_getChars_ba4f3_101 rfl ?_
  rw [neg_neg_nI]
  refine zv_tbald (n := 103) (v := .int (nI (48 + k / 10))) dJ6_getChars_ba4f3_102 rfl (fun U H h => h.2.2.2.2.2.2.2.2.2.2.2.2.2.2.2.2.1) (vp_in_nI (by omega) (by decide)) (by rw [nI_clamp (by omega)]) ?_
  refine zv_bast (n := 104) dJ6_getChars_ba4f3_103 rfl zup_s (vp_in_nI (by omega) (by omega)) ?_
  rw [nI_clamp (by omega), nar_b, zup_zup]
  refine zv_iload (n := 106) dJ6_getChars_ba4f3_104 rfl rfl ?_
  refine zv_if_eq (n := 109) (tgt := 118) dJ6_getChars_ba4f3_106 (by decide) rfl (fun h106 => ?_) (fun h106 => False.elim (h106 rfl))
  refine zv_iload (n := 120) dJ6_getChars_ba4f3_118 rfl rfl ?_
  refine zv_iret dJ6_getChars_ba4f3_120 rfl (by decide) (by decide) ?_
  exact zFi (by unfold fDig; rw [if_neg (by omega)])

theorem c_J6_getChars {σ : zSg} {M : zM} {k n v m : Nat} {a : Nat → Int32} (hv : M v = some (zAB m a)) (hk : k < 100) (hn : n + sb_dg k ≤ m) (hm : m ≤ 65536) : zCon μJ6_getChars_ba4f3 (1, 0, 0) σ [.int (nI k), .int (nI (n + sb_dg k)), .ref v] M (zF (some (.int (nI n))) (fun M' => M' = zup M v (zAB m (fDig k n a)))) := by
  rcases Nat.lt_or_ge k 10 with h | h
  · rw [dg1 h] at hn ⊢
    exact c_J6_getChars_1 hv h hn hm
  · rw [dg2 h hk] at hn ⊢
    exact c_J6_getChars_2 hv h hk hn hm
theorem fDig_fit {k n : Nat} {a : Nat → Int32} (hf : sb_Fit a) : sb_Fit (fDig k n a) := by
  unfold fDig
  split
  · exact sb_fitU hf (sb_fitB _)
  · exact sb_fitU (sb_fitU hf (sb_fitB _)) (sb_fitB _)
theorem fDig_lat {k n : Nat} {t : Nat → Nat} {a : Nat → Int32} (hk : k < 100) (hL : sb_Lat t n a) : sb_Lat (sb_cat t n (sb_dec k)) (n + sb_dg k) (fDig k n a) := by
  refine sb_latPut hL (fun j hj => ?_) (fun i hi => ?_)
  · unfold fDig
    split
    · rw [u_n (by omega)]
    · rw [u_n (by omega), u_n (by omega)]
  · rcases Nat.lt_or_ge k 10 with h | h
    · rw [dg1 h] at hi
      obtain rfl : i = 0 := by omega
      unfold sb_dec fDig
      rw [dg1 h, if_pos h]
      refine ⟨?_, ?_⟩
      · show 48 + k / 10 ^ 0 % 10 < 256
        omega
      · show upd a n _ n = _
        rw [u_s]
        show sb_b (48 + k % 10) = sb_b (48 + k / 10 ^ 0 % 10)
        rw [Nat.pow_zero, Nat.div_one]
    · rw [dg2 h hk] at hi
      unfold sb_dec fDig
      rw [dg2 h hk, if_neg (by omega)]
      rcases (show i = 0 ∨ i = 1 by omega) with rfl | rfl
      · refine ⟨?_, ?_⟩
        · show 48 + k / 10 ^ 1 % 10 < 256
          omega
        · show upd _ n _ n = _
          rw [u_s]
          show sb_b (48 + k / 10) = sb_b (48 + k / 10 ^ 1 % 10)
          rw [Nat.pow_one, Nat.mod_eq_of_lt (by omega)]
      · refine ⟨?_, ?_⟩
        · show 48 + k / 10 ^ 0 % 10 < 256
          omega
        · show upd (upd _ (n + 1) _) n _ (n + 1) = _
          rw [u_n (by omega), u_s]
          show sb_b (48 + k % 10) = sb_b (48 + k / 10 ^ 0 % 10)
          rw [Nat.pow_zero, Nat.div_one]

set_option maxRecDepth 100000 in
set_option maxHeartbeats 4000000 in
theorem c_J5_appendI {σ : zSg} {M : zM} {s v n m : Nat} {t : Nat → Nat} (hS : zSB M s v t n m) {k : Nat} (hk : k < 100) (hc : n + sb_dg k ≤ m ∨ sb_cap (n + sb_dg k) m ≤ 150) : zCon μJ5_append_c97b9 (5, 1, 150) σ [.ref s, .int (nI k)] M (zF (some (.ref s)) (fun M' => ∃ v', zSB M' s v' (sb_cat t n (sb_dec k)) (n + sb_dg k) (sb_cap (n + sb_dg k) m) ∧ zGr M M' s v v')) := by
  have hS0 := hS
  have hdg := sb_dg_in k
  obtain ⟨ml, a, h1, h2, hL, hf, hnm, hm⟩ := hS0
  
  refine zCon.of (plainFor_of_name (by decide)) rfl (Nat.le_of_ble_eq_true rfl) ?_
  change zV _ _ _ _ _ 0 0 0 [(0, .ref s), (1, .int (nI k))] []
  refine zv_aload_n (n := 1) dJ5_append_c97b9_0 rfl rfl ?_
  refine zv_get (n := 4) dJ5_append_c97b9_1 rfl h1 FJ5_79 rfl ?_
  refine zv_istore_n (n := 5) (lv' := [(2, .int (nI n)), (0, .ref s), (1, .int (nI k))]) dJ5_append_c97b9_4 rfl (by decide) rfl ?_
  refine zv_iload_n (n := 6) dJ5_append_c97b9_5 rfl rfl ?_
  refine zv_iload_n (n := 7) dJ5_append_c97b9_6 rfl rfl ?_
  refine zv_callSP (n := 10) (As := [.int (nI k)]) (rest := [.int (nI n)]) (kc' := 0) (ks' := 0) dJ5_append_c97b9_7 rfl (c_J6_stringSize hk) rfl kJ6_stringSize_0f7a4 lJ5_245 rfl rfl ⟨by decide, by decide⟩ (Nat.le_of_ble_eq_true rfl) rfl rfl (by decide) (by decide) ?_
  refine zv_iadd (n := 11) dJ5_append_c97b9_10 rfl ?_
  rw [nI_add]
  refine zv_istore_n (n := 12) (lv' := [(3, .int (nI (n + sb_dg k))), (2, .int (nI n)), (0, .ref s), (1, .int (nI k))]) dJ5_append_c97b9_11 rfl (by decide) rfl ?_
  refine zv_aload_n (n := 13) dJ5_append_c97b9_12 rfl rfl ?_
  refine zv_iload_n (n := 14) dJ5_append_c97b9_13 rfl rfl ?_
  refine zv_callQF0 (n := 17) (As := [.int (nI (n + sb_dg k))]) (rest := []) (kc' := 1) (ks' := 150) dJ5_append_c97b9_14 rfl (c_J5_ens hS (q := n + sb_dg k) hc) rfl kJ5_ensureCapacityInternal_d00dfQ lJ5_100 h1 rfl rfl rfl ⟨by decide, by decide⟩ (Nat.le_of_ble_eq_true rfl) rfl rfl (by decide) (by decide) (fun M1 hq => ?_)
  obtain ⟨v', ⟨ml', a', g1, g2, gL, gf, gn, gm⟩, gG⟩ := hq
  have hcg := sb_cap_ge (n + sb_dg k) m
  have hvs : v' ≠ s := fun e => by rw [e, g1] at g2; cases g2
  refine zv_aload_n (n := 18) dJ5_append_c97b9_17 rfl rfl ?_
  refine zv_callCP (n := 21) (As := []) (rest := []) (kc' := 1) (ks' := 150) dJ5_append_c97b9_18 rfl (c_J5_isLatin1 g1) rfl kJ5_isLatin1_aae02C lJ5_83 g1 rfl rfl rfl ⟨by decide, by decide⟩ (Nat.le_of_ble_eq_true rfl) rfl rfl (by decide) (by decide) ?_
  refine zv_if_eq (n := 24) (tgt := 37) dJ5_append_c97b9_21 (by decide) rfl (fun h21 => False.elim (absurd h21 (by decide))) (fun h21 => ?_)
  refine zv_iload_n (n := 25) dJ5_append_c97b9_24 rfl rfl ?_
  refine zv_iload_n (n := 26) dJ5_append_c97b9_25 rfl rfl ?_
  refine zv_aload_n (n := 27) dJ5_append_c97b9_26 rfl rfl ?_
  refine zv_get (n := 30) dJ5_append_c97b9_27 rfl g1 FJ5_15 rfl ?_
  refine zv_callSF (n := 33) (As := [.int (nI k), .int (nI (n + sb_dg k)), .ref v']) (rest := []) (kc' := 1) (ks' := 150) dJ5_append_c97b9_30 rfl (c_J6_getChars g2 hk hcg gm) rfl kJ6_getChars_ba4f3 lJ5_248 rfl rfl ⟨by decide, by decide⟩ (Nat.le_of_ble_eq_true rfl) rfl rfl (by decide) (by decide) (fun M2 hq => ?_)
  subst hq
  refine zv_pop (n := 34) dJ5_append_c97b9_33 rfl rfl ?_
  refine zv_goto (tgt := 48) dJ5_append_c97b9_34 (by decide) ?_
  refine zv_aload_n (n := 49) dJ5_append_c97b9_48 rfl rfl ?_
  refine zv_iload_n (n := 50) dJ5_append_c97b9_49 rfl rfl ?_
  refine zv_put (n := 53) dJ5_append_c97b9_50 rfl ((zup_n hvs.symm).trans g1) FJ5_79 zcl_J4 zty_J4_3 rfl rfl (Nat.le_of_ble_eq_true rfl) ?_
  refine zv_aload_n (n := 54) dJ5_append_c97b9_53 rfl rfl ?_
  refine zv_aret dJ5_append_c97b9_54 rfl (Or.inl ⟨_, rfl⟩) (by decide) (by decide) ?_
  refine zFi ⟨v', ⟨ml', _, zup_s, (zup_n hvs).trans zup_s, fDig_lat hk gL, fDig_fit gf, hcg, gm⟩, gG.1, fun x hx1 hx2 hx3 => ?_⟩
  rw [zup_n hx1, zup_n hx3]
  exact gG.2 x hx1 hx2 hx3

set_option maxRecDepth 100000 in
set_option maxHeartbeats 4000000 in
theorem c_J4_appendI {σ : zSg} {M : zM} {s v n m : Nat} {t : Nat → Nat} (hS : zSB M s v t n m) {k : Nat} (hk : k < 100) (hc : n + sb_dg k ≤ m ∨ sb_cap (n + sb_dg k) m ≤ 150) : zCon μJ4_append_bf812 (6, 1, 150) σ [.ref s, .int (nI k)] M (zF (some (.ref s)) (fun M' => ∃ v', zSB M' s v' (sb_cat t n (sb_dec k)) (n + sb_dg k) (sb_cap (n + sb_dg k) m) ∧ zGr M M' s v v')) := by
  have hS0 := hS
  obtain ⟨ml, a, h1, h2, hL, hf, hnm, hm⟩ := hS0
  
  refine zCon.of (plainFor_of_name (by decide)) rfl (Nat.le_of_ble_eq_true rfl) ?_
  change zV _ _ _ _ _ 0 0 0 [(0, .ref s), (1, .int (nI k))] []
  refine zv_aload_n (n := 1) dJ4_append_bf812_0 rfl rfl ?_
  refine zv_iload_n (n := 2) dJ4_append_bf812_1 rfl rfl ?_
  refine zv_callUF (n := 5) (As := [.int (nI k)]) (rest := []) (kc' := 1) (ks' := 150) dJ4_append_bf812_2 rfl (c_J5_appendI hS hk hc) rfl kJ5_append_c97b9U lJ4_53 h1 rfl rfl rfl ⟨by decide, by decide⟩ (Nat.le_of_ble_eq_true rfl) rfl rfl (by decide) (by decide) (fun M1 hq => ?_)
  refine zv_pop (n := 6) dJ4_append_bf812_5 rfl rfl ?_
  refine zv_aload_n (n := 7) dJ4_append_bf812_6 rfl rfl ?_
  refine zv_aret dJ4_append_bf812_7 rfl (Or.inl ⟨_, rfl⟩) (by decide) (by decide) ?_
  exact zFi hq

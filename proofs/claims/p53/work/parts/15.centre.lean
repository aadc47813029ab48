/-! A centre's copy, minutes and temperatures: laid by wip/p53/m15.py. -/
theorem cpy4 {f g : Nat → Int32} {n j : Nat} (h : j < n) : va_cpy f g 0 0 n j = f j := by
  unfold va_cpy
  rw [if_pos (by omega)]
  rw [Nat.sub_zero, Nat.zero_add]
def fCpF (S T : zS) : zS := fun k => if 37 ≤ k ∧ k < 44 then T k else S k

set_option maxRecDepth 100000 in
set_option maxHeartbeats 4000000 in
theorem c_X3_copyFrom {σ : zSg} {M : zM} {c d : Nat → Nat} {S T : zS} (hC : zCen M c S) (hT : zCen M d T) (ha : zApart c d) : zCon μX3_copyFrom (3, 0, 0) σ [.ref (c 2), .ref (d 2)] M (zF none (fun M' => zCen M' c (fCpF S T) ∧ zOff M M' c)) := by
  obtain ⟨f6, hf6, gf6⟩ := hC.c6
  obtain ⟨f7, hf7, gf7⟩ := hC.c7
  obtain ⟨d6, df6, dg6⟩ := hT.c6
  obtain ⟨d7, df7, dg7⟩ := hT.c7
  have h76 : c 7 ≠ c 6 := hC.ne (by decide) (by decide) (by decide)
  have e26 : d 2 ≠ c 6 := fun e => ha 6 2 (by decide) (by decide) e.symm
  have h26 : c 2 ≠ c 6 := hC.ne (by decide) (by decide) (by decide)
  have e76 : d 7 ≠ c 6 := fun e => ha 6 7 (by decide) (by decide) e.symm
  refine zCon.of (plainFor_of_name (by decide)) rfl (Nat.le_of_ble_eq_true rfl) ?_
  change zV _ _ _ _ _ 0 0 0 [(0, .ref (c 2)), (1, .ref (d 2))] []
  refine zv_aload_n (n := 1) dX3_copyFrom_0 rfl rfl ?_
  refine zv_get (n := 4) dX3_copyFrom_1 rfl hT.c2 FX3_9 rfl ?_
  refine zv_aload_n (n := 5) dX3_copyFrom_4 rfl rfl ?_
  refine zv_get (n := 8) dX3_copyFrom_5 rfl hC.c2 FX3_9 rfl ?_
  refine zv_callSNF0 (n := 11) (As := [.ref (d 6), .ref (c 6)]) (rest := []) (kc' := 0) (ks' := 0) dX3_copyFrom_8 rfl (c_X8_copy df6 hf6 (by decide)) rfl kX8_copy lX3_41 rfl rfl ⟨by decide, by decide⟩ (Nat.le_of_ble_eq_true rfl) rfl rfl (by decide) (by decide) (fun M1 hq => ?_)
  subst hq
  refine zv_aload_n (n := 12) dX3_copyFrom_11 rfl rfl ?_
  refine zv_get (n := 15) dX3_copyFrom_12 rfl ((zup_n e26).trans hT.c2) FX3_15 rfl ?_
  refine zv_aload_n (n := 16) dX3_copyFrom_15 rfl rfl ?_
  refine zv_get (n := 19) dX3_copyFrom_16 rfl ((zup_n h26).trans hC.c2) FX3_15 rfl ?_
  refine zv_callSNF0 (n := 22) (As := [.ref (d 7), .ref (c 7)]) (rest := []) (kc' := 0) (ks' := 0) dX3_copyFrom_19 rfl (c_X8_copy ((zup_n e76).trans df7) ((zup_n h76).trans hf7) (by decide)) rfl kX8_copy lX3_41 rfl rfl ⟨by decide, by decide⟩ (Nat.le_of_ble_eq_true rfl) rfl rfl (by decide) (by decide) (fun M1 hq => ?_)
  subst hq
  refine zv_vret dX3_copyFrom_22 rfl (by decide) (by decide) ?_
  have h1 := hC.set6 (f := va_cpy d6 f6 0 0 4) (T := T) (fun j hj => (cpy4 hj).trans (dg6 j hj))
  have h2 := h1.set7 (f := va_cpy d7 f7 0 0 3) (T := T) (fun j hj => (cpy4 hj).trans (dg7 j hj))
  refine zFi ⟨h2.ext (fun k hk => ?_), (zOff.up (by decide)).tr (zOff.up (by decide))⟩
  unfold fCpF
  split
  · rename_i h
    by_cases h3 : 41 ≤ k ∧ k < 44
    · rw [if_pos h3]
    · rw [if_neg h3, if_pos (by omega)]
  · rename_i h
    rw [if_neg (by omega), if_neg (by omega)]

set_option maxRecDepth 100000 in
set_option maxHeartbeats 4000000 in
theorem c_X1_copyFrom {σ : zSg} {M : zM} {c d : Nat → Nat} {S T : zS} (hC : zCen M c S) (hT : zCen M d T) (ha : zApart c d) : zCon μX1_copyFrom (4, 0, 0) σ [.ref (c 0), .ref (d 0)] M (zF none (fun M' => zCen M' c T ∧ zOff M M' c)) := by
  have e00 : d 0 ≠ c 0 := fun e => ha 0 0 (by decide) (by decide) e.symm
  refine zCon.of (plainFor_of_name (by decide)) rfl (Nat.le_of_ble_eq_true rfl) ?_
  change zV _ _ _ _ _ 0 0 0 [(0, .ref (c 0)), (1, .ref (d 0))] []
  refine zv_aload_n (n := 1) dX1_copyFrom_0 rfl rfl ?_
  refine zv_get (n := 4) dX1_copyFrom_1 rfl hC.c0 FX1_12 rfl ?_
  refine zv_aload_n (n := 5) dX1_copyFrom_4 rfl rfl ?_
  refine zv_get (n := 8) dX1_copyFrom_5 rfl hT.c0 FX1_12 rfl ?_
  refine zv_callVF0 (n := 11) (As := [.ref (d 1)]) (rest := []) (kc' := 0) (ks' := 0) dX1_copyFrom_8 rfl (c_X5_copyFrom hC hT ha) rfl kX5_copyFrom lX1_37 hC.c1 rfl rfl rfl ⟨by decide, by decide⟩ (Nat.le_of_ble_eq_true rfl) rfl rfl (by decide) (by decide) (fun M1 hq => ?_)
  obtain ⟨hC1, ho1⟩ := hq
  have hT1 := hT.keep ha ho1
  refine zv_aload_n (n := 12) dX1_copyFrom_11 rfl rfl ?_
  refine zv_get (n := 15) dX1_copyFrom_12 rfl hC1.c0 FX1_21 rfl ?_
  refine zv_aload_n (n := 16) dX1_copyFrom_15 rfl rfl ?_
  refine zv_get (n := 19) dX1_copyFrom_16 rfl hT1.c0 FX1_21 rfl ?_
  refine zv_callVF0 (n := 22) (As := [.ref (d 2)]) (rest := []) (kc' := 0) (ks' := 0) dX1_copyFrom_19 rfl (c_X3_copyFrom hC1 hT1 ha) rfl kX3_copyFrom lX1_41 hC1.c2 rfl rfl rfl ⟨by decide, by decide⟩ (Nat.le_of_ble_eq_true rfl) rfl rfl (by decide) (by decide) (fun M2 hq => ?_)
  obtain ⟨hC2, ho2⟩ := hq
  have hT2 := hT1.keep ha ho2
  obtain ⟨f3, hf3, gf3⟩ := hC2.c3
  obtain ⟨d3, df3, dg3⟩ := hT2.c3
  refine zv_aload_n (n := 23) dX1_copyFrom_22 rfl rfl ?_
  refine zv_get (n := 26) dX1_copyFrom_23 rfl hT2.c0 FX1_25 rfl ?_
  refine zv_aload_n (n := 27) dX1_copyFrom_26 rfl rfl ?_
  refine zv_get (n := 30) dX1_copyFrom_27 rfl hC2.c0 FX1_25 rfl ?_
  refine zv_callSNF0 (n := 33) (As := [.ref (d 3), .ref (c 3)]) (rest := []) (kc' := 0) (ks' := 0) dX1_copyFrom_30 rfl (c_X8_copy df3 hf3 (by decide)) rfl kX8_copy lX1_44 rfl rfl ⟨by decide, by decide⟩ (Nat.le_of_ble_eq_true rfl) rfl rfl (by decide) (by decide) (fun M3 hq => ?_)
  subst hq
  have hC3 := hC2.set3 (f := va_cpy d3 f3 0 0 4) (T := T) (fun j hj => (cpy4 hj).trans (dg3 j hj))
  have hT3 := hT2.keep ha (zOff.up (k := 3) (e := zAI 4 (va_cpy d3 f3 0 0 4)) (by decide))
  refine zv_aload_n (n := 34) dX1_copyFrom_33 rfl rfl ?_
  refine zv_aload_n (n := 35) dX1_copyFrom_34 rfl rfl ?_
  refine zv_get (n := 38) dX1_copyFrom_35 rfl hT3.c0 FX1_29 rfl ?_
  refine zv_put (n := 41) dX1_copyFrom_38 rfl hC3.c0 FX1_29 zcl_X1 zty_X1_3 rfl rfl (Nat.le_of_ble_eq_true rfl) ?_
  have hC4 := hC3.put0 (k := 3) (by decide) (by decide) (T 48)
  refine zv_aload_n (n := 42) dX1_copyFrom_41 rfl rfl ?_
  refine zv_aload_n (n := 43) dX1_copyFrom_42 rfl rfl ?_
  refine zv_get (n := 46) dX1_copyFrom_43 rfl ((zup_n e00).trans hT3.c0) FX1_48 rfl ?_
  refine zv_put (n := 49) dX1_copyFrom_46 rfl hC4.c0 FX1_48 zcl_X1 zty_X1_4 rfl rfl (Nat.le_of_ble_eq_true rfl) ?_
  have hC5 := hC4.put0 (k := 4) (by decide) (by decide) (T 49)
  refine zv_aload_n (n := 50) dX1_copyFrom_49 rfl rfl ?_
  refine zv_aload_n (n := 51) dX1_copyFrom_50 rfl rfl ?_
  refine zv_get (n := 54) dX1_copyFrom_51 rfl ((zup_n e00).trans ((zup_n e00).trans hT3.c0)) FX1_51 rfl ?_
  refine zv_put (n := 57) dX1_copyFrom_54 rfl hC5.c0 FX1_51 zcl_X1 zty_X1_5 rfl rfl (Nat.le_of_ble_eq_true rfl) ?_
  have hC6 := hC5.put0 (k := 5) (by decide) (by decide) (T 50)
  refine zv_aload_n (n := 58) dX1_copyFrom_57 rfl rfl ?_
  refine zv_aload_n (n := 59) dX1_copyFrom_58 rfl rfl ?_
  refine zv_get (n := 62) dX1_copyFrom_59 rfl ((zup_n e00).trans ((zup_n e00).trans ((zup_n e00).trans hT3.c0))) FX1_54 rfl ?_
  refine zv_put (n := 65) dX1_copyFrom_62 rfl hC6.c0 FX1_54 zcl_X1 zty_X1_6 rfl rfl (Nat.le_of_ble_eq_true rfl) ?_
  have hC7 := hC6.put0 (k := 6) (by decide) (by decide) (T 51)
  refine zv_aload_n (n := 66) dX1_copyFrom_65 rfl rfl ?_
  refine zv_aload_n (n := 67) dX1_copyFrom_66 rfl rfl ?_
  refine zv_get (n := 70) dX1_copyFrom_67 rfl ((zup_n e00).trans ((zup_n e00).trans ((zup_n e00).trans ((zup_n e00).trans hT3.c0)))) FX1_57 rfl ?_
  refine zv_put (n := 73) dX1_copyFrom_70 rfl hC7.c0 FX1_57 zcl_X1 zty_X1_7 rfl rfl (Nat.le_of_ble_eq_true rfl) ?_
  have hC8 := hC7.put0 (k := 7) (by decide) (by decide) (T 52)
  refine zv_vret dX1_copyFrom_73 rfl (by decide) (by decide) ?_
  refine zFi ⟨hC8.ext (fun k hk => ?_), ?_⟩
  · show T k = upd (upd (upd (upd (upd _ 48 _) 49 _) 50 _) 51 _) 52 _ k
    by_cases h52 : k = 52
    · subst h52; rw [u_s]
    · rw [u_n h52]
      by_cases h51 : k = 51
      · subst h51; rw [u_s]
      · rw [u_n h51]
        by_cases h50 : k = 50
        · subst h50; rw [u_s]
        · rw [u_n h50]
          by_cases h49 : k = 49
          · subst h49; rw [u_s]
          · rw [u_n h49]
            by_cases h48 : k = 48
            · subst h48; rw [u_s]
            · rw [u_n h48]
              by_cases h44 : 44 ≤ k
              · rw [if_pos (by omega)]
              · rw [if_neg (by omega)]
                unfold fCpF
                by_cases h37 : 37 ≤ k
                · rw [if_pos (by omega)]
                · rw [if_neg (by omega)]
                  unfold fCpy
                  by_cases h0 : k = 0
                  · subst h0; rw [if_pos rfl]
                  · rw [if_neg h0, if_pos (by omega)]
  · exact ho1.tr (ho2.tr ((zOff.up (by decide)).tr ((zOff.up (by decide)).tr ((zOff.up (by decide)).tr ((zOff.up (by decide)).tr ((zOff.up (by decide)).tr (zOff.up (by decide))))))))

set_option maxRecDepth 100000 in
set_option maxHeartbeats 4000000 in
theorem c_X1_storedIn {σ : zSg} {M : zM} {c : Nat → Nat} {S : zS} (hC : zCen M c S) (a : Int32) : zCon μX1_storedIn (2, 0, 0) σ [.ref (c 0), .int a] M (zP (some (.int (fSto S a))) M) := by
  obtain ⟨f3, hf3, gf3⟩ := hC.c3
  refine zCon.of (plainFor_of_name (by decide)) rfl (Nat.le_of_ble_eq_true rfl) ?_
  change zV _ _ _ _ _ 0 0 0 [(0, .ref (c 0)), (1, .int a)] []
  refine zv_aload_n (n := 1) dX1_storedIn_0 rfl rfl ?_
  refine zv_get (n := 4) dX1_storedIn_1 rfl hC.c0 FX1_25 rfl ?_
  refine zv_iload_n (n := 5) dX1_storedIn_4 rfl rfl ?_
  refine zv_callSNP (n := 8) (As := [.ref (c 3), .int a]) (rest := []) (kc' := 0) (ks' := 0) dX1_storedIn_5 rfl (c_X8_at hf3 (by decide) a) rfl kX8_at lX1_123 rfl rfl ⟨by decide, by decide⟩ (Nat.le_of_ble_eq_true rfl) rfl rfl (by decide) (by decide) ?_
  rw [show fAt 4 f3 a = fSto S a from fAt_cong (by decide) gf3 _]
  refine zv_iret dX1_storedIn_8 rfl (by decide) (by decide) ?_
  exact zPi

set_option maxRecDepth 100000 in
set_option maxHeartbeats 4000000 in
theorem c_X3_airflowFor {σ : zSg} {M : zM} {c : Nat → Nat} {S : zS} (hC : zCen M c S) (v : Int32) : zCon μX3_airflowFor (2, 0, 0) σ [.ref (c 2), .int v] M (zP (some (.float (fAir S v))) M) := by
  obtain ⟨f7, hf7, gf7⟩ := hC.c7
  refine zCon.of (plainFor_of_name (by decide)) rfl (Nat.le_of_ble_eq_true rfl) ?_
  change zV _ _ _ _ _ 0 0 0 [(0, .ref (c 2)), (1, .int v)] []
  refine zv_iload_n (n := 1) dX3_airflowFor_0 rfl rfl ?_
  refine zv_iconst (n := 2) dX3_airflowFor_1 rfl (v := 5) (by decide) ?_
  refine zv_icmp_gt (n := 5) (tgt := 9) dX3_airflowFor_2 (by decide) rfl (fun h2 => ?_) (fun h2 => ?_)
  · skip
    refine zv_iconst (n := 10) dX3_airflowFor_9 rfl (v := 1) (by decide) ?_
    refine zv_istore_n (n := 11) (lv' := [(2, .int 1), (0, .ref (c 2)), (1, .int v)]) dX3_airflowFor_10 rfl (by decide) rfl ?_
    refine zv_aload_n (n := 12) dX3_airflowFor_11 rfl rfl ?_
    refine zv_get (n := 15) dX3_airflowFor_12 rfl hC.c2 FX3_15 rfl ?_
    refine zv_iload_n (n := 16) dX3_airflowFor_15 rfl rfl ?_
    refine zv_callSNP (n := 19) (As := [.ref (c 7), .int 1]) (rest := []) (kc' := 0) (ks' := 0) dX3_airflowFor_16 rfl (c_X8_at hf7 (by decide) 1) rfl kX8_at lX3_18 rfl rfl ⟨by decide, by decide⟩ (Nat.le_of_ble_eq_true rfl) rfl rfl (by decide) (by decide) ?_
    rw [show fAt 3 f7 1 = fPt S 1 from fAt_cong (by decide) gf7 _]
    refine zv_istore_n (n := 20) (lv' := [(3, .int (fPt S 1)), (2, .int 1), (0, .ref (c 2)), (1, .int v)]) dX3_airflowFor_19 rfl (by decide) rfl ?_
    refine zv_aload_n (n := 21) dX3_airflowFor_20 rfl rfl ?_
    refine zv_get (n := 24) dX3_airflowFor_21 rfl hC.c2 FX3_15 rfl ?_
    refine zv_iload_n (n := 25) dX3_airflowFor_24 rfl rfl ?_
    refine zv_iconst (n := 26) dX3_airflowFor_25 rfl (v := 1) (by decide) ?_
    refine zv_iadd (n := 27) dX3_airflowFor_26 rfl ?_
    refine zv_callSNP (n := 30) (As := [.ref (c 7), .int (1 + 1)]) (rest := []) (kc' := 0) (ks' := 0) dX3_airflowFor_27 rfl (c_X8_at hf7 (by decide) (1 + 1)) rfl kX8_at lX3_18 rfl rfl ⟨by decide, by decide⟩ (Nat.le_of_ble_eq_true rfl) rfl rfl (by decide) (by decide) ?_
    rw [show fAt 3 f7 (1 + 1) = fPt S (1 + 1) from fAt_cong (by decide) gf7 _]
    refine zv_istore (n := 32) (lv' := [(4, .int (fPt S (1 + 1))), (3, .int (fPt S 1)), (2, .int 1), (0, .ref (c 2)), (1, .int v)]) dX3_airflowFor_30 rfl (by decide) rfl ?_
    refine zv_iload_n (n := 33) dX3_airflowFor_32 rfl rfl ?_
    refine zv_iload_n (n := 34) dX3_airflowFor_33 rfl rfl ?_
    refine zv_iconst (n := 35) dX3_airflowFor_34 rfl (v := 5) (by decide) ?_
    refine zv_imul (n := 36) dX3_airflowFor_35 rfl ?_
    refine zv_isub (n := 37) dX3_airflowFor_36 rfl ?_
    refine zv_istore (n := 39) (lv' := [(5, .int (v - (1 * 5))), (4, .int (fPt S (1 + 1))), (3, .int (fPt S 1)), (2, .int 1), (0, .ref (c 2)), (1, .int v)]) dX3_airflowFor_37 rfl (by decide) rfl ?_
    refine zv_iload_n (n := 40) dX3_airflowFor_39 rfl rfl ?_
    refine zv_i2f (n := 41) dX3_airflowFor_40 rfl ?_
    refine zv_iload (n := 43) dX3_airflowFor_41 rfl rfl ?_
    refine zv_iload_n (n := 44) dX3_airflowFor_43 rfl rfl ?_
    refine zv_isub (n := 45) dX3_airflowFor_44 rfl ?_
    refine zv_i2f (n := 46) dX3_airflowFor_45 rfl ?_
    refine zv_iload (n := 48) dX3_airflowFor_46 rfl rfl ?_
    refine zv_i2f (n := 49) dX3_airflowFor_48 rfl ?_
    refine zv_fmul (n := 50) dX3_airflowFor_49 rfl (fAirW_1.n (by decide)) ?_
    refine zv_ldcf (n := 52) dX3_airflowFor_50 rfl qX3_22 ?_
    refine zv_fdiv (n := 53) dX3_airflowFor_52 rfl (fAirW_2.n (by decide)) ?_
    refine zv_fadd (n := 54) dX3_airflowFor_53 rfl (fAirW_3.n (by decide)) ?_
    refine zv_fret dX3_airflowFor_54 rfl (by decide) (by decide) ?_
    rw [show fAir S v = fAirW (fPt S 1) (fPt S (1 + 1)) (v - 1 * 5) by unfold fAir fPnt; rw [if_pos h2]]
    exact zPi
  · skip
    refine zv_iconst (n := 6) dX3_airflowFor_5 rfl (v := 0) (by decide) ?_
    refine zv_goto (tgt := 10) dX3_airflowFor_6 (by decide) ?_
    refine zv_istore_n (n := 11) (lv' := [(2, .int 0), (0, .ref (c 2)), (1, .int v)]) dX3_airflowFor_10 rfl (by decide) rfl ?_
    refine zv_aload_n (n := 12) dX3_airflowFor_11 rfl rfl ?_
    refine zv_get (n := 15) dX3_airflowFor_12 rfl hC.c2 FX3_15 rfl ?_
    refine zv_iload_n (n := 16) dX3_airflowFor_15 rfl rfl ?_
    refine zv_callSNP (n := 19) (As := [.ref (c 7), .int 0]) (rest := []) (kc' := 0) (ks' := 0) dX3_airflowFor_16 rfl (c_X8_at hf7 (by decide) 0) rfl kX8_at lX3_18 rfl rfl ⟨by decide, by decide⟩ (Nat.le_of_ble_eq_true rfl) rfl rfl (by decide) (by decide) ?_
    rw [show fAt 3 f7 0 = fPt S 0 from fAt_cong (by decide) gf7 _]
    refine zv_istore_n (n := 20) (lv' := [(3, .int (fPt S 0)), (2, .int 0), (0, .ref (c 2)), (1, .int v)]) dX3_airflowFor_19 rfl (by decide) rfl ?_
    refine zv_aload_n (n := 21) dX3_airflowFor_20 rfl rfl ?_
    refine zv_get (n := 24) dX3_airflowFor_21 rfl hC.c2 FX3_15 rfl ?_
    refine zv_iload_n (n := 25) dX3_airflowFor_24 rfl rfl ?_
    refine zv_iconst (n := 26) dX3_airflowFor_25 rfl (v := 1) (by decide) ?_
    refine zv_iadd (n := 27) dX3_airflowFor_26 rfl ?_
    refine zv_callSNP (n := 30) (As := [.ref (c 7), .int (0 + 1)]) (rest := []) (kc' := 0) (ks' := 0) dX3_airflowFor_27 rfl (c_X8_at hf7 (by decide) (0 + 1)) rfl kX8_at lX3_18 rfl rfl ⟨by decide, by decide⟩ (Nat.le_of_ble_eq_true rfl) rfl rfl (by decide) (by decide) ?_
    rw [show fAt 3 f7 (0 + 1) = fPt S (0 + 1) from fAt_cong (by decide) gf7 _]
    refine zv_istore (n := 32) (lv' := [(4, .int (fPt S (0 + 1))), (3, .int (fPt S 0)), (2, .int 0), (0, .ref (c 2)), (1, .int v)]) dX3_airflowFor_30 rfl (by decide) rfl ?_
    refine zv_iload_n (n := 33) dX3_airflowFor_32 rfl rfl ?_
    refine zv_iload_n (n := 34) dX3_airflowFor_33 rfl rfl ?_
    refine zv_iconst (n := 35) dX3_airflowFor_34 rfl (v := 5) (by decide) ?_
    refine zv_imul (n := 36) dX3_airflowFor_35 rfl ?_
    refine zv_isub (n := 37) dX3_airflowFor_36 rfl ?_
    refine zv_istore (n := 39) (lv' := [(5, .int (v - (0 * 5))), (4, .int (fPt S (0 + 1))), (3, .int (fPt S 0)), (2, .int 0), (0, .ref (c 2)), (1, .int v)]) dX3_airflowFor_37 rfl (by decide) rfl ?_
    refine zv_iload_n (n := 40) dX3_airflowFor_39 rfl rfl ?_
    refine zv_i2f (n := 41) dX3_airflowFor_40 rfl ?_
    refine zv_iload (n := 43) dX3_airflowFor_41 rfl rfl ?_
    refine zv_iload_n (n := 44) dX3_airflowFor_43 rfl rfl ?_
    refine zv_isub (n := 45) dX3_airflowFor_44 rfl ?_
    refine zv_i2f (n := 46) dX3_airflowFor_45 rfl ?_
    refine zv_iload (n := 48) dX3_airflowFor_46 rfl rfl ?_
    refine zv_i2f (n := 49) dX3_airflowFor_48 rfl ?_
    refine zv_fmul (n := 50) dX3_airflowFor_49 rfl (fAirW_1.n (by decide)) ?_
    refine zv_ldcf (n := 52) dX3_airflowFor_50 rfl qX3_22 ?_
    refine zv_fdiv (n := 53) dX3_airflowFor_52 rfl (fAirW_2.n (by decide)) ?_
    refine zv_fadd (n := 54) dX3_airflowFor_53 rfl (fAirW_3.n (by decide)) ?_
    refine zv_fret dX3_airflowFor_54 rfl (by decide) (by decide) ?_
    rw [show fAir S v = fAirW (fPt S 0) (fPt S (0 + 1)) (v - 0 * 5) by unfold fAir fPnt; rw [if_neg h2]]
    exact zPi

set_option maxRecDepth 100000 in
set_option maxHeartbeats 4000000 in
theorem c_X1_heatAround {σ : zSg} {M : zM} {c : Nat → Nat} {S : zS} (hC : zCen M c S) (hN : zNn S) (a : Int32) : zCon μX1_heatAround (2, 0, 0) σ [.ref (c 0), .int a] M (zP (some (.int (fHeat S (a - 1) + fHeat S (a + 1)))) M) := by
  refine zCon.of (plainFor_of_name (by decide)) rfl (Nat.le_of_ble_eq_true rfl) ?_
  change zV _ _ _ _ _ 0 0 0 [(0, .ref (c 0)), (1, .int a)] []
  refine zv_aload_n (n := 1) dX1_heatAround_0 rfl rfl ?_
  refine zv_get (n := 4) dX1_heatAround_1 rfl hC.c0 FX1_12 rfl ?_
  refine zv_iload_n (n := 5) dX1_heatAround_4 rfl rfl ?_
  refine zv_iconst (n := 6) dX1_heatAround_5 rfl (v := 1) (by decide) ?_
  refine zv_isub (n := 7) dX1_heatAround_6 rfl ?_
  refine zv_callVP (n := 10) (As := [.int (a - 1)]) (rest := []) (kc' := 0) (ks' := 0) dX1_heatAround_7 rfl (c_X5_heatIn hC hN (a - 1)) rfl kX5_heatIn lX1_112 hC.c1 rfl rfl rfl ⟨by decide, by decide⟩ (Nat.le_of_ble_eq_true rfl) rfl rfl (by decide) (by decide) ?_
  refine zv_aload_n (n := 11) dX1_heatAround_10 rfl rfl ?_
  refine zv_get (n := 14) dX1_heatAround_11 rfl hC.c0 FX1_12 rfl ?_
  refine zv_iload_n (n := 15) dX1_heatAround_14 rfl rfl ?_
  refine zv_iconst (n := 16) dX1_heatAround_15 rfl (v := 1) (by decide) ?_
  refine zv_iadd (n := 17) dX1_heatAround_16 rfl ?_
  refine zv_callVP (n := 20) (As := [.int (a + 1)]) (rest := [.int (fHeat S (a - 1))]) (kc' := 0) (ks' := 0) dX1_heatAround_17 rfl (c_X5_heatIn hC hN (a + 1)) rfl kX5_heatIn lX1_112 hC.c1 rfl rfl rfl ⟨by decide, by decide⟩ (Nat.le_of_ble_eq_true rfl) rfl rfl (by decide) (by decide) ?_
  refine zv_iadd (n := 21) dX1_heatAround_20 rfl ?_
  refine zv_iret dX1_heatAround_21 rfl (by decide) (by decide) ?_
  exact zPi

set_option maxRecDepth 100000 in
set_option maxHeartbeats 4000000 in
theorem c_X1_inletFor {σ : zSg} {M : zM} (h u : Int32) : zCon μX1_inletFor (1, 0, 0) σ [.int h, .int u] M (zP (some (.float (fInlW h u))) M) := by
  refine zCon.of (plainFor_of_name (by decide)) rfl (Nat.le_of_ble_eq_true rfl) ?_
  change zV _ _ _ _ _ 0 0 0 [(0, .int h), (1, .int u)] []
  refine zv_ldcf (n := 2) dX1_inletFor_0 rfl qX1_146 ?_
  refine zv_ldcf (n := 4) dX1_inletFor_2 rfl qX1_147 ?_
  refine zv_iload_n (n := 5) dX1_inletFor_4 rfl rfl ?_
  refine zv_i2f (n := 6) dX1_inletFor_5 rfl ?_
  refine zv_fmul (n := 7) dX1_inletFor_6 rfl (fInlW_1.n (by decide)) ?_
  refine zv_fadd (n := 8) dX1_inletFor_7 rfl (fInlW_2.n (by decide)) ?_
  refine zv_ldcf (n := 10) dX1_inletFor_8 rfl qX1_148 ?_
  refine zv_iload_n (n := 11) dX1_inletFor_10 rfl rfl ?_
  refine zv_i2f (n := 12) dX1_inletFor_11 rfl ?_
  refine zv_fmul (n := 13) dX1_inletFor_12 rfl (fInlW_3.n (by decide)) ?_
  refine zv_fadd (n := 14) dX1_inletFor_13 rfl (fInlW_4.n (by decide)) ?_
  refine zv_fret dX1_inletFor_14 rfl (by decide) (by decide) ?_
  exact zPi

set_option maxRecDepth 100000 in
set_option maxHeartbeats 4000000 in
theorem c_X1_inletOf {σ : zSg} {M : zM} {c : Nat → Nat} {S : zS} (hC : zCen M c S) (hN : zNn S) (a : Int32) : zCon μX1_inletOf (3, 0, 0) σ [.ref (c 0), .int a] M (zP (some (.float (fInl S a))) M) := by
  obtain ⟨f3, hf3, gf3⟩ := hC.c3
  refine zCon.of (plainFor_of_name (by decide)) rfl (Nat.le_of_ble_eq_true rfl) ?_
  change zV _ _ _ _ _ 0 0 0 [(0, .ref (c 0)), (1, .int a)] []
  refine zv_aload_n (n := 1) dX1_inletOf_0 rfl rfl ?_
  refine zv_iload_n (n := 2) dX1_inletOf_1 rfl rfl ?_
  refine zv_callVP (n := 5) (As := [.int a]) (rest := []) (kc' := 0) (ks' := 0) dX1_inletOf_2 rfl (c_X1_heatAround hC hN a) rfl kX1_heatAround lX1_139 hC.c0 rfl rfl rfl ⟨by decide, by decide⟩ (Nat.le_of_ble_eq_true rfl) rfl rfl (by decide) (by decide) ?_
  refine zv_aload_n (n := 6) dX1_inletOf_5 rfl rfl ?_
  refine zv_get (n := 9) dX1_inletOf_6 rfl hC.c0 FX1_25 rfl ?_
  refine zv_iload_n (n := 10) dX1_inletOf_9 rfl rfl ?_
  refine zv_callSNP (n := 13) (As := [.ref (c 3), .int a]) (rest := [.int (fHeat S (a - 1) + fHeat S (a + 1))]) (kc' := 0) (ks' := 0) dX1_inletOf_10 rfl (c_X8_at hf3 (by decide) a) rfl kX8_at lX1_123 rfl rfl ⟨by decide, by decide⟩ (Nat.le_of_ble_eq_true rfl) rfl rfl (by decide) (by decide) ?_
  rw [show fAt 4 f3 a = fSto S a from fAt_cong (by decide) gf3 _]
  refine zv_callSP (n := 16) (As := [.int (fHeat S (a - 1) + fHeat S (a + 1)), .int (fSto S a)]) (rest := []) (kc' := 0) (ks' := 0) dX1_inletOf_13 rfl (c_X1_inletFor (fHeat S (a - 1) + fHeat S (a + 1)) (fSto S a)) rfl kX1_inletFor lX1_142 rfl rfl ⟨by decide, by decide⟩ (Nat.le_of_ble_eq_true rfl) rfl rfl (by decide) (by decide) ?_
  refine zv_fret dX1_inletOf_16 rfl (by decide) (by decide) ?_
  exact zPi

set_option maxRecDepth 100000 in
set_option maxHeartbeats 4000000 in
theorem c_X1_riseAt {σ : zSg} {M : zM} {c : Nat → Nat} {S : zS} (hC : zCen M c S) (hO : zOk S) (a : Int32) {v : Int32} (hv : 0 ≤ v.toInt) : zCon μX1_riseAt (3, 0, 0) σ [.ref (c 0), .int a, .int v] M (zP (some (.float (fRis S a v))) M) := by
  refine zCon.of (plainFor_of_name (by decide)) rfl (Nat.le_of_ble_eq_true rfl) ?_
  change zV _ _ _ _ _ 0 0 0 [(0, .ref (c 0)), (1, .int a), (2, .int v)] []
  refine zv_aload_n (n := 1) dX1_riseAt_0 rfl rfl ?_
  refine zv_get (n := 4) dX1_riseAt_1 rfl hC.c0 FX1_12 rfl ?_
  refine zv_iload_n (n := 5) dX1_riseAt_4 rfl rfl ?_
  refine zv_callVP (n := 8) (As := [.int a]) (rest := []) (kc' := 0) (ks' := 0) dX1_riseAt_5 rfl (c_X5_heatIn hC hO.1 a) rfl kX5_heatIn lX1_112 hC.c1 rfl rfl rfl ⟨by decide, by decide⟩ (Nat.le_of_ble_eq_true rfl) rfl rfl (by decide) (by decide) ?_
  refine zv_istore_n (n := 9) (lv' := [(3, .int (fHeat S a)), (0, .ref (c 0)), (1, .int a), (2, .int v)]) dX1_riseAt_8 rfl (by decide) rfl ?_
  refine zv_iload_n (n := 10) dX1_riseAt_9 rfl rfl ?_
  refine zv_if_ne (n := 13) (tgt := 15) dX1_riseAt_10 (by decide) rfl (fun h10 => ?_) (fun h10 => ?_)
  · skip
    refine zv_aload_n (n := 16) dX1_riseAt_15 rfl rfl ?_
    refine zv_get (n := 19) dX1_riseAt_16 rfl hC.c0 FX1_21 rfl ?_
    refine zv_iload_n (n := 20) dX1_riseAt_19 rfl rfl ?_
    refine zv_callVP (n := 23) (As := [.int v]) (rest := []) (kc' := 0) (ks' := 0) dX1_riseAt_20 rfl (c_X3_airflowFor hC v) rfl kX3_airflowFor lX1_119 hC.c2 rfl rfl rfl ⟨by decide, by decide⟩ (Nat.le_of_ble_eq_true rfl) rfl rfl (by decide) (by decide) ?_
    refine zv_fstore (n := 25) (lv' := [(4, .float (fAir S v)), (3, .int (fHeat S a)), (0, .ref (c 0)), (1, .int a), (2, .int v)]) dX1_riseAt_23 rfl (by decide) rfl ?_
    refine zv_fload (n := 27) dX1_riseAt_25 rfl rfl ?_
    refine zv_fconst0 (n := 28) dX1_riseAt_27 rfl ?_
    refine zv_fcmp (n := 29) dX1_riseAt_28 rfl ?_
    refine zv_if_ne (n := 32) (tgt := 35) dX1_riseAt_29 (by decide) rfl (fun h29 => ?_) (fun h29 => ?_)
    · skip
      refine zv_ldcf (n := 37) dX1_riseAt_35 rfl qX1_150 ?_
      refine zv_iload_n (n := 38) dX1_riseAt_37 rfl rfl ?_
      refine zv_i2f (n := 39) dX1_riseAt_38 rfl ?_
      refine zv_fmul (n := 40) dX1_riseAt_39 rfl (fRisW_1.n (by decide)) ?_
      refine zv_fload (n := 42) dX1_riseAt_40 rfl rfl ?_
      refine zv_fdiv (n := 43) dX1_riseAt_42 rfl (zf_n32 (fRisW_n (hO.air hv).1 (fRis_nz h29))) ?_
      refine zv_fstore (n := 45) (lv' := [(5, .float (FP.fdiv (FP.fmul 1075838976 (FP.i2f (fHeat S a))) (fAir S v))), (4, .float (fAir S v)), (3, .int (fHeat S a)), (0, .ref (c 0)), (1, .int a), (2, .int v)]) dX1_riseAt_43 rfl (by decide) rfl ?_
      refine zv_fload (n := 47) dX1_riseAt_45 rfl rfl ?_
      refine zv_ldcf (n := 49) dX1_riseAt_47 rfl qX1_149 ?_
      refine zv_fcmp (n := 50) dX1_riseAt_49 rfl ?_
      refine zv_if_ge (n := 53) (tgt := 58) dX1_riseAt_50 (by decide) rfl (fun h50 => ?_) (fun h50 => ?_)
      · skip
        refine zv_ldcf (n := 60) dX1_riseAt_58 rfl qX1_149 ?_
        refine zv_fret dX1_riseAt_60 rfl (by decide) (by decide) ?_
        rw [show fRis S a v = 1109393408 by unfold fRis; rw [if_neg h10, if_neg h29]; exact if_pos h50]
        exact zPi
      · skip
        refine zv_fload (n := 55) dX1_riseAt_53 rfl rfl ?_
        refine zv_goto (tgt := 60) dX1_riseAt_55 (by decide) ?_
        refine zv_fret dX1_riseAt_60 rfl (by decide) (by decide) ?_
        rw [show fRis S a v = fRisW (fHeat S a) (fAir S v) by unfold fRis; rw [if_neg h10, if_neg h29]; exact if_neg h50]
        exact zPi
    · skip
      refine zv_ldcf (n := 34) dX1_riseAt_32 rfl qX1_149 ?_
      refine zv_fret dX1_riseAt_34 rfl (by decide) (by decide) ?_
      rw [show fRis S a v = 1109393408 by unfold fRis; rw [if_neg h10, if_pos h29]]
      exact zPi
  · skip
    refine zv_fconst0 (n := 14) dX1_riseAt_13 rfl ?_
    refine zv_fret dX1_riseAt_14 rfl (by decide) (by decide) ?_
    rw [show fRis S a v = FP.fconst0 from if_pos h10]
    exact zPi

set_option maxRecDepth 100000 in
set_option maxHeartbeats 4000000 in
theorem c_X1_temperatureFor {σ : zSg} {M : zM} {i r : UInt32} (hi : zFK 161 i) (hr : zFK 133 r) (q : Int32) : zCon μX1_temperatureFor (1, 0, 0) σ [.float i, .float r, .int q] M (zP (some (.float (fTmpW i r q))) M) := by
  refine zCon.of (plainFor_of_name (by decide)) rfl (Nat.le_of_ble_eq_true rfl) ?_
  change zV _ _ _ _ _ 0 0 0 [(0, .float i), (1, .float r), (2, .int q)] []
  refine zv_fload_n (n := 1) dX1_temperatureFor_0 rfl rfl ?_
  refine zv_fload_n (n := 2) dX1_temperatureFor_1 rfl rfl ?_
  refine zv_fconst1 (n := 3) dX1_temperatureFor_2 rfl ?_
  refine zv_iload_n (n := 4) dX1_temperatureFor_3 rfl rfl ?_
  refine zv_i2f (n := 5) dX1_temperatureFor_4 rfl ?_
  refine zv_ldcf (n := 7) dX1_temperatureFor_5 rfl qX1_151 ?_
  refine zv_fdiv (n := 8) dX1_temperatureFor_7 rfl (fTmpW_1.n (by decide)) ?_
  refine zv_fadd (n := 9) dX1_temperatureFor_8 rfl (fTmpW_2.n (by decide)) ?_
  refine zv_fmul (n := 10) dX1_temperatureFor_9 rfl ((fTmpW_3 hr).n (by decide)) ?_
  refine zv_fadd (n := 11) dX1_temperatureFor_10 rfl ((fTmpW_4 hi hr).n (by decide)) ?_
  refine zv_fret dX1_temperatureFor_11 rfl (by decide) (by decide) ?_
  exact zPi

set_option maxRecDepth 100000 in
set_option maxHeartbeats 4000000 in
theorem c_X1_temperatureOf {σ : zSg} {M : zM} {c : Nat → Nat} {S : zS} (hC : zCen M c S) (hO : zOk S) {i : Nat} (hi : i < 12) : zCon μX1_temperatureOf (4, 0, 0) σ [.ref (c 0), .ref (c (8 + i))] M (zP (some (.float (fTmp S i))) M) := by
  refine zCon.of (plainFor_of_name (by decide)) rfl (Nat.le_of_ble_eq_true rfl) ?_
  change zV _ _ _ _ _ 0 0 0 [(0, .ref (c 0)), (1, .ref (c (8 + i)))] []
  refine zv_aload_n (n := 1) dX1_temperatureOf_0 rfl rfl ?_
  refine zv_aload_n (n := 2) dX1_temperatureOf_1 rfl rfl ?_
  refine zv_getN (n := 5) dX1_temperatureOf_2 rfl (hC.rk (by omega)) FX1_93 rfl ?_
  refine zv_aload_n (n := 6) dX1_temperatureOf_5 rfl rfl ?_
  refine zv_get (n := 9) dX1_temperatureOf_6 rfl hC.c0 FX1_21 rfl ?_
  refine zv_aload_n (n := 10) dX1_temperatureOf_9 rfl rfl ?_
  refine zv_getN (n := 13) dX1_temperatureOf_10 rfl (hC.rk (by omega)) FX1_93 rfl ?_
  refine zv_callVP (n := 16) (As := [.int (S (1 + 3 * i))]) (rest := [.int (S (1 + 3 * i)), .ref (c 0)]) (kc' := 0) (ks' := 0) dX1_temperatureOf_13 rfl (c_X3_speedIn hC (S (1 + 3 * i))) rfl kX3_speedIn lX1_116 hC.c2 rfl rfl rfl ⟨by decide, by decide⟩ (Nat.le_of_ble_eq_true rfl) rfl rfl (by decide) (by decide) ?_
  refine zv_callVP (n := 19) (As := [.int (S (1 + 3 * i)), .int (fSpd S (S (1 + 3 * i)))]) (rest := []) (kc' := 0) (ks' := 0) dX1_temperatureOf_16 rfl (c_X1_riseAt hC hO (S (1 + 3 * i)) (hO.spd _).1) rfl kX1_riseAt lX1_152 hC.c0 rfl rfl rfl ⟨by decide, by decide⟩ (Nat.le_of_ble_eq_true rfl) rfl rfl (by decide) (by decide) ?_
  refine zv_fstore_n (n := 20) (lv' := [(2, .float (fRis S (S (1 + 3 * i)) (fSpd S (S (1 + 3 * i))))), (0, .ref (c 0)), (1, .ref (c (8 + i)))]) dX1_temperatureOf_19 rfl (by decide) rfl ?_
  refine zv_aload_n (n := 21) dX1_temperatureOf_20 rfl rfl ?_
  refine zv_aload_n (n := 22) dX1_temperatureOf_21 rfl rfl ?_
  refine zv_getN (n := 25) dX1_temperatureOf_22 rfl (hC.rk (by omega)) FX1_93 rfl ?_
  refine zv_callVP (n := 28) (As := [.int (S (1 + 3 * i))]) (rest := []) (kc' := 0) (ks' := 0) dX1_temperatureOf_25 rfl (c_X1_inletOf hC hO.1 (S (1 + 3 * i))) rfl kX1_inletOf lX1_155 hC.c0 rfl rfl rfl ⟨by decide, by decide⟩ (Nat.le_of_ble_eq_true rfl) rfl rfl (by decide) (by decide) ?_
  refine zv_fload_n (n := 29) dX1_temperatureOf_28 rfl rfl ?_
  refine zv_aload_n (n := 30) dX1_temperatureOf_29 rfl rfl ?_
  refine zv_getN (n := 33) dX1_temperatureOf_30 rfl (hC.rk (by omega)) FX1_98 rfl ?_
  refine zv_callSP (n := 36) (As := [.float (fInl S (S (1 + 3 * i))), .float (fRis S (S (1 + 3 * i)) (fSpd S (S (1 + 3 * i)))), .int (S (2 + 3 * i))]) (rest := []) (kc' := 0) (ks' := 0) dX1_temperatureOf_33 rfl (c_X1_temperatureFor fInlW_4 (hO.ris _ (hO.spd _).1) (S (2 + 3 * i))) rfl kX1_temperatureFor lX1_158 rfl rfl ⟨by decide, by decide⟩ (Nat.le_of_ble_eq_true rfl) rfl rfl (by decide) (by decide) ?_
  refine zv_fret dX1_temperatureOf_36 rfl (by decide) (by decide) ?_
  exact zPi

theorem fOver_t {S : zS} {t : UInt32} (h : ¬ Op.cmpValue (FP.fcmp t (FP.i2f (S 48))) .l ≤ 0) : fOver S t = true := by
  unfold fOver
  rw [decide_eq_false h]
  rfl
theorem fOver_f {S : zS} {t : UInt32} (h : Op.cmpValue (FP.fcmp t (FP.i2f (S 48))) .l ≤ 0) : fOver S t = false := by
  unfold fOver
  rw [decide_eq_true h]
  rfl

set_option maxRecDepth 100000 in
set_option maxHeartbeats 4000000 in
theorem c_X1_isOverLimit {σ : zSg} {M : zM} {c : Nat → Nat} {S : zS} (hC : zCen M c S) (t : UInt32) : zCon μX1_isOverLimit (1, 0, 0) σ [.ref (c 0), .float t] M (zP (some (.int (fB (fOver S t)))) M) := by
  refine zCon.of (plainFor_of_name (by decide)) rfl (Nat.le_of_ble_eq_true rfl) ?_
  change zV _ _ _ _ _ 0 0 0 [(0, .ref (c 0)), (1, .float t)] []
  refine zv_fload_n (n := 1) dX1_isOverLimit_0 rfl rfl ?_
  refine zv_aload_n (n := 2) dX1_isOverLimit_1 rfl rfl ?_
  refine zv_get (n := 5) dX1_isOverLimit_2 rfl hC.c0 FX1_29 rfl ?_
  refine zv_i2f (n := 6) dX1_isOverLimit_5 rfl ?_
  refine zv_fcmp (n := 7) dX1_isOverLimit_6 rfl ?_
  refine zv_if_le (n := 10) (tgt := 14) dX1_isOverLimit_7 (by decide) rfl (fun h7 => ?_) (fun h7 => ?_)
  · skip
    refine zv_iconst (n := 15) dX1_isOverLimit_14 rfl (v := 0) (by decide) ?_
    refine zv_zret dX1_isOverLimit_15 rfl rfl (by decide) (by decide) ?_
    rw [fB_f (fOver_f h7)]
    exact zPi
  · skip
    refine zv_iconst (n := 11) dX1_isOverLimit_10 rfl (v := 1) (by decide) ?_
    refine zv_goto (tgt := 15) dX1_isOverLimit_11 (by decide) ?_
    refine zv_zret dX1_isOverLimit_15 rfl rfl (by decide) (by decide) ?_
    rw [fB_t (fOver_t h7)]
    exact zPi

set_option maxRecDepth 100000 in
set_option maxHeartbeats 4000000 in
theorem c_X1_isRackHot {σ : zSg} {M : zM} {c : Nat → Nat} {S : zS} (hC : zCen M c S) (hO : zOk S) {i : Nat} (hi : i < 12) : zCon μX1_isRackHot (5, 0, 0) σ [.ref (c 0), .ref (c (8 + i))] M (zP (some (.int (fB (fHot S i)))) M) := by
  refine zCon.of (plainFor_of_name (by decide)) rfl (Nat.le_of_ble_eq_true rfl) ?_
  change zV _ _ _ _ _ 0 0 0 [(0, .ref (c 0)), (1, .ref (c (8 + i)))] []
  refine zv_aload_n (n := 1) dX1_isRackHot_0 rfl rfl ?_
  refine zv_aload_n (n := 2) dX1_isRackHot_1 rfl rfl ?_
  refine zv_aload_n (n := 3) dX1_isRackHot_2 rfl rfl ?_
  refine zv_callVP (n := 6) (As := [.ref (c (8 + i))]) (rest := [.ref (c 0)]) (kc' := 0) (ks' := 0) dX1_isRackHot_3 rfl (c_X1_temperatureOf hC hO hi) rfl kX1_temperatureOf lX1_162 hC.c0 rfl rfl rfl ⟨by decide, by decide⟩ (Nat.le_of_ble_eq_true rfl) rfl rfl (by decide) (by decide) ?_
  refine zv_callVP (n := 9) (As := [.float (fTmp S i)]) (rest := []) (kc' := 0) (ks' := 0) dX1_isRackHot_6 rfl (c_X1_isOverLimit hC (fTmp S i)) rfl kX1_isOverLimit lX1_166 hC.c0 rfl rfl rfl ⟨by decide, by decide⟩ (Nat.le_of_ble_eq_true rfl) rfl rfl (by decide) (by decide) ?_
  refine zv_zret dX1_isRackHot_9 rfl (fB_nar _) (by decide) (by decide) ?_
  exact zPi

/-! A planner's minutes, a rack described: laid by wip/p53/m33.py. -/
def fN (S : zS) (i : Nat) : Nat := (S i).toNatClampNeg
theorem fN_of {S : zS} {i n : Nat} (hn : n < 2 ^ 31) (h : fBt (S i) 0 (nI n) = true) : S i = nI (fN S i) ∧ fN S i ≤ n := by
  obtain ⟨j, hj, e⟩ := fBt_n hn h
  unfold fN
  rw [e, nI_clamp (by omega)]
  exact ⟨rfl, hj⟩
theorem dgl {c : Nat} (h : c < 100) : sb_dg c ≤ 2 := by
  rcases Nat.lt_or_ge c 10 with q | q
  · rw [dg1 q]; decide
  · rw [dg2 q h]; decide
abbrev tc0 : (Nat → Nat) × Nat := (fun _ => 0, 0)
theorem tcI0 (u : Nat → Nat) (k : Nat) : tcI (u, 0) k = tcI tc0 k := by
  show (sb_cat u 0 _, _) = (sb_cat _ 0 _, _)
  rw [cat0, cat0]
theorem tcC0 (u : Nat → Nat) (k : Nat) : tcC (u, 0) k = tcC tc0 k := by
  show (sb_cat u 0 _, _) = (sb_cat _ 0 _, _)
  rw [cat0, cat0]
def fTxR (S : zS) (j : Nat) : (Nat → Nat) × Nat := if fHot S j = true then tcC (tcI (tcC (tcI (tcC (tcI (tcC (tcI tc0 j) 64) (fN S (1 + 3 * j))) 46) (fN S (2 + 3 * j))) 58) (fN S (3 + 3 * j))) 33 else tcI (tcC (tcI (tcC (tcI (tcC (tcI tc0 j) 64) (fN S (1 + 3 * j))) 46) (fN S (2 + 3 * j))) 58) (fN S (3 + 3 * j))
/-- a description's end -/
def zRen (M : zM) (Z : Nat → Prop) (b : Nat → Nat) (C : Nat → Nat → Nat) (S : Nat → zS) (nw un : Nat) (hs ea fa : Int32) (t : Nat → Nat) (n : Nat) (x : (Nat → Nat) × Nat) : zO → zM → Prop := fun o M' => o = .inl (some (.int (nI x.2))) ∧ zPl M' Z b C S nw un hs ea fa t n x.1 x.2 ∧ zKe M M' Z
/-- the minutes' end -/
def zAdv (M : zM) (Z : Nat → Prop) (b : Nat → Nat) (C : Nat → Nat → Nat) (S : Nat → zS) (nw un : Nat) (hs ea fa : Int32) (t : Nat → Nat) (n : Nat) (u : Nat → Nat) (k : Nat) (r : Int32 × zS) : zO → zM → Prop := fun o M' => zKe M M' Z ∧
  (∀ E, fEx r.1 = some E → o = .inr E ∧ zPl M' Z b C (va_up S (nx nw) r.2) nw un hs ea fa t n u k) ∧
  (fEx r.1 = none → o = .inl (some (.int (nI (fHts r.2)))) ∧ zPl M' Z b C (va_up S (nx nw) r.2) (nx nw) (if un < 8 then un + 1 else 8) hs ea fa t n u k)

set_option maxRecDepth 100000 in
set_option maxHeartbeats 4000000 in
theorem c_X8_advance {σ : zSg} {M : zM} {Z : Nat → Prop} {b : Nat → Nat} {C : Nat → Nat → Nat} {S : Nat → zS} {nw un : Nat} {hs ea fa : Int32} {t : Nat → Nat} {n : Nat} {u : Nat → Nat} {k : Nat} (hP : zPl M Z b C S nw un hs ea fa t n u k) (m : Int32) : zCon μX8_advance (7, 1, 6) σ [.ref (b 0), .int m] M (zAdv M Z b C S nw un hs ea fa t n u k (fPas (S nw) m)) := by
  have hnw : nw < 10 := hP.2.1.1
  have hC := hP.1.cen (i := nw) (by omega)
  have hO := hP.1.ok (i := nw) (by omega)
  refine zCon.of (plainFor_of_name (by decide)) rfl (Nat.le_of_ble_eq_true rfl) ?_
  change zV _ _ _ _ _ 0 0 0 [(0, .ref (b 0)), (1, .int m)] []
  refine zv_aload_n (n := 1) dX8_advance_0 rfl rfl ?_
  refine zv_aload_n (n := 2) dX8_advance_1 rfl rfl ?_
  refine zv_get (n := 5) dX8_advance_2 rfl hP.2.2.1 FX8_10 rfl ?_
  refine zv_callVF (n := 8) (As := []) (rest := [.ref (b 0)]) (kc' := 0) (ks' := 0) dX8_advance_5 rfl (c_X7_draft hP.2.1 hP.1) rfl kX7_draft lX8_44 hP.2.1.2.2.1 rfl rfl rfl ⟨by decide, by decide⟩ (Nat.le_of_ble_eq_true rfl) rfl rfl (by decide) (by decide) (fun M1 hq => ?_)
  obtain ⟨hA1, ho1⟩ := hq
  have hx := nx_lt nw
  obtain ⟨hP1, hz1⟩ := hP.out hA1 (hP.2.1.off hP.1 (by omega) ho1) (ho1.out (by omega))
  have hC1 := hA1.cen (i := nx nw) (by omega)
  have hO1 := hA1.ok (i := nx nw) (by omega)
  rw [va_up_self] at hC1 hO1
  refine zv_iload_n (n := 9) dX8_advance_8 rfl rfl ?_
  refine zv_callVF (n := 12) (As := [.int m]) (rest := [.ref (b 0)]) (kc' := 0) (ks' := 0) dX8_advance_9 rfl (c_X1_pass hC1 hO1.1 m) rfl kX1_pass lX8_84 hC1.c0 rfl rfl rfl ⟨by decide, by decide⟩ (Nat.le_of_ble_eq_true rfl) rfl rfl (by decide) (by decide) (fun M2 hq => ?_)
  obtain ⟨hC2, ho2⟩ := hq
  have hO2 := fPas_ok hO1 m
  obtain ⟨hP2, hz2⟩ := hP1.cen (by omega) hC2 hO2 ho2
  rw [va_up_up] at hP2
  cases hE : fEx (fPas (S nw) m).1 with
  | some E =>
    refine zv_callVT (n := 15) (As := [.int (fPas (S nw) m).1]) (rest := []) (kc' := 1) (ks' := 6) dX8_advance_12 rfl (c_X8_keep_x hP2 hE) rfl kX8_keepUnlessRefused lX8_52 hP2.2.2.1 rfl rfl rfl ⟨by decide, by decide⟩ (Nat.le_of_ble_eq_true rfl) rfl rfl (by decide) (by decide) ?_
    exact zvx_out rfl (by decide) (by decide) ⟨hz1.tr hz2, (fun E9 h9 => ⟨(by rw [hE] at h9; cases h9; rfl), hP2⟩), (fun h9 => by rw [hE] at h9; cases h9)⟩
  | none =>
    skip
    refine zv_callVF (n := 15) (As := [.int (fPas (S nw) m).1]) (rest := []) (kc' := 1) (ks' := 6) dX8_advance_12 rfl (c_X8_keep_n hP2 hE) rfl kX8_keepUnlessRefused lX8_52 hP2.2.2.1 rfl rfl rfl ⟨by decide, by decide⟩ (Nat.le_of_ble_eq_true rfl) rfl rfl (by decide) (by decide) (fun M3 hq => ?_)
    have hC3 := hq.1.1.cen (i := nx nw) (by omega)
    rw [va_up_self] at hC3
    refine zv_pop (n := 16) dX8_advance_15 rfl rfl ?_
    refine zv_aload_n (n := 17) dX8_advance_16 rfl rfl ?_
    refine zv_callVP (n := 20) (As := []) (rest := []) (kc' := 1) (ks' := 6) dX8_advance_17 rfl (c_X8_now hq.1) rfl kX8_now lX8_87 hq.1.2.2.1 rfl rfl rfl ⟨by decide, by decide⟩ (Nat.le_of_ble_eq_true rfl) rfl rfl (by decide) (by decide) ?_
    refine zv_callVP (n := 23) (As := []) (rest := []) (kc' := 1) (ks' := 6) dX8_advance_20 rfl (c_X1_countHotRacks hC3 hO2) rfl kX1_countHotRacks lX8_90 hC3.c0 rfl rfl rfl ⟨by decide, by decide⟩ (Nat.le_of_ble_eq_true rfl) rfl rfl (by decide) (by decide) ?_
    refine zv_iret dX8_advance_23 rfl (by decide) (by decide) ?_
    exact ⟨(hz1.tr hz2).tr hq.2, (fun E9 h9 => by rw [hE] at h9; cases h9), fun _ => ⟨rfl, hq.1⟩⟩

set_option maxRecDepth 100000 in
set_option maxHeartbeats 4000000 in
theorem c_X8_renderRack {σ : zSg} {M : zM} {Z : Nat → Prop} {b : Nat → Nat} {C : Nat → Nat → Nat} {S : Nat → zS} {nw un : Nat} {hs ea fa : Int32} {t : Nat → Nat} {n : Nat} {u : Nat → Nat} {k : Nat} (hP : zPl M Z b C S nw un hs ea fa t n u k) {j : Nat} (hj : j < fCnt (S nw)) : zCon μX8_renderRack (7, 9, 1206) σ [.ref (b 0), .int (nI j)] M (zRen M Z b C S nw un hs ea fa t n (fTxR (S nw) j)) := by
  have hnw : nw < 10 := hP.2.1.1
  have hC := hP.1.cen (i := nw) (by omega)
  have hO := hP.1.ok (i := nw) (by omega)
  have hj12 : j < 12 := by have := hO.1.2; omega
  obtain ⟨e1, b1⟩ := fN_of (n := 3) (by decide) (hO.2.1 j hj12).1
  obtain ⟨e2, b2⟩ := fN_of (n := 5) (by decide) (hO.2.1 j hj12).2.1
  obtain ⟨e3, b3⟩ := fN_of (n := 20) (by decide) (hO.2.1 j hj12).2.2
  have d0 := dgl (c := j) (by omega)
  have d1 := dgl (c := fN (S nw) (1 + 3 * j)) (by omega)
  have d2 := dgl (c := fN (S nw) (2 + 3 * j)) (by omega)
  have d3 := dgl (c := fN (S nw) (3 + 3 * j)) (by omega)
  obtain ⟨ml0, v0, hB0⟩ := hP.outB
  refine zCon.of (plainFor_of_name (by decide)) rfl (Nat.le_of_ble_eq_true rfl) ?_
  change zV _ _ _ _ _ 0 0 0 [(0, .ref (b 0)), (1, .int (nI j))] []
  refine zv_aload_n (n := 1) dX8_renderRack_0 rfl rfl ?_
  refine zv_iload_n (n := 2) dX8_renderRack_1 rfl rfl ?_
  refine zv_callVP (n := 5) (As := [.int (nI j)]) (rest := []) (kc' := 1) (ks' := 6) dX8_renderRack_2 rfl (c_X8_exR_1 hP hj) rfl kX8_existingRack lX8_103 hP.2.2.1 rfl rfl rfl ⟨by decide, by decide⟩ (Nat.le_of_ble_eq_true rfl) rfl rfl (by decide) (by decide) ?_
  refine zv_astore_n (n := 6) (lv' := [(2, .ref (C nw (8 + j))), (0, .ref (b 0)), (1, .int (nI j))]) dX8_renderRack_5 rfl (by decide) rfl ?_
  refine zv_aload_n (n := 7) dX8_renderRack_6 rfl rfl ?_
  refine zv_get (n := 10) dX8_renderRack_7 rfl hP.2.2.1 FX8_40 rfl ?_
  refine zv_iconst (n := 11) dX8_renderRack_10 rfl (v := 0) (by decide) ?_
  refine zv_callVF0 (n := 14) (As := [.int 0]) (rest := []) (kc' := 1) (ks' := 6) dX8_renderRack_11 rfl (c_out0 hP) rfl kJ4_setLength_d00df lX8_237 hB0 rfl rfl rfl ⟨by decide, by decide⟩ (Nat.le_of_ble_eq_true rfl) rfl rfl (by decide) (by decide) (fun M1 hq => ?_)
  obtain ⟨hP1, hz1⟩ := hq
  obtain ⟨ml1, v1, hB1⟩ := hP1.outB
  refine zv_aload_n (n := 15) dX8_renderRack_14 rfl rfl ?_
  refine zv_get (n := 18) dX8_renderRack_15 rfl hP1.2.2.1 FX8_40 rfl ?_
  refine zv_iload_n (n := 19) dX8_renderRack_18 rfl rfl ?_
  refine zv_callVF (n := 22) (As := [.int (nI j)]) (rest := []) (kc' := 2) (ks' := 156) dX8_renderRack_19 rfl (c_outI hP1 (c := j) (by omega) (show 0 + 2 ≤ 70 by omega)) rfl kJ4_append_bf812 lX8_240 hB1 rfl rfl rfl ⟨by decide, by decide⟩ (Nat.le_of_ble_eq_true rfl) rfl rfl (by decide) (by decide) (fun M2 hq => ?_)
  obtain ⟨hP2, hz2⟩ := hq
  obtain ⟨ml2, v2, hB2⟩ := hP2.outB
  refine zv_bipush (n := 24) dX8_renderRack_22 rfl (v := 64) (by decide) ?_
  refine zv_callVF (n := 27) (As := [.int 64]) (rest := []) (kc' := 3) (ks' := 306) dX8_renderRack_24 rfl (c_outC hP2 (c := 64) (by decide) (show 0 + sb_dg j + 1 ≤ 70 by omega)) rfl kJ4_append_cf468 lX8_244 hB2 rfl rfl rfl ⟨by decide, by decide⟩ (Nat.le_of_ble_eq_true rfl) rfl rfl (by decide) (by decide) (fun M3 hq => ?_)
  obtain ⟨hP3, hz3⟩ := hq
  obtain ⟨ml3, v3, hB3⟩ := hP3.outB
  refine zv_aload_n (n := 28) dX8_renderRack_27 rfl rfl ?_
  refine zv_getN (n := 31) dX8_renderRack_28 rfl ((hP3.1.cen (i := nw) (by omega)).rk hj12) FX8_107 rfl ?_
  rw [e1]
  refine zv_callVF (n := 34) (As := [.int (nI (fN (S nw) (1 + 3 * j)))]) (rest := []) (kc' := 4) (ks' := 456) dX8_renderRack_31 rfl (c_outI hP3 (c := (fN (S nw) (1 + 3 * j))) (by omega) (show 0 + sb_dg j + 1 + 2 ≤ 70 by omega)) rfl kJ4_append_bf812 lX8_240 hB3 rfl rfl rfl ⟨by decide, by decide⟩ (Nat.le_of_ble_eq_true rfl) rfl rfl (by decide) (by decide) (fun M4 hq => ?_)
  obtain ⟨hP4, hz4⟩ := hq
  obtain ⟨ml4, v4, hB4⟩ := hP4.outB
  refine zv_bipush (n := 36) dX8_renderRack_34 rfl (v := 46) (by decide) ?_
  refine zv_callVF (n := 39) (As := [.int 46]) (rest := []) (kc' := 5) (ks' := 606) dX8_renderRack_36 rfl (c_outC hP4 (c := 46) (by decide) (show 0 + sb_dg j + 1 + sb_dg (fN (S nw) (1 + 3 * j)) + 1 ≤ 70 by omega)) rfl kJ4_append_cf468 lX8_244 hB4 rfl rfl rfl ⟨by decide, by decide⟩ (Nat.le_of_ble_eq_true rfl) rfl rfl (by decide) (by decide) (fun M5 hq => ?_)
  obtain ⟨hP5, hz5⟩ := hq
  obtain ⟨ml5, v5, hB5⟩ := hP5.outB
  refine zv_aload_n (n := 40) dX8_renderRack_39 rfl rfl ?_
  refine zv_getN (n := 43) dX8_renderRack_40 rfl ((hP5.1.cen (i := nw) (by omega)).rk hj12) FX8_112 rfl ?_
  rw [e2]
  refine zv_callVF (n := 46) (As := [.int (nI (fN (S nw) (2 + 3 * j)))]) (rest := []) (kc' := 6) (ks' := 756) dX8_renderRack_43 rfl (c_outI hP5 (c := (fN (S nw) (2 + 3 * j))) (by omega) (show 0 + sb_dg j + 1 + sb_dg (fN (S nw) (1 + 3 * j)) + 1 + 2 ≤ 70 by omega)) rfl kJ4_append_bf812 lX8_240 hB5 rfl rfl rfl ⟨by decide, by decide⟩ (Nat.le_of_ble_eq_true rfl) rfl rfl (by decide) (by decide) (fun M6 hq => ?_)
  obtain ⟨hP6, hz6⟩ := hq
  obtain ⟨ml6, v6, hB6⟩ := hP6.outB
  refine zv_pop (n := 47) dX8_renderRack_46 rfl rfl ?_
  refine zv_aload_n (n := 48) dX8_renderRack_47 rfl rfl ?_
  refine zv_get (n := 51) dX8_renderRack_48 rfl hP6.2.2.1 FX8_40 rfl ?_
  refine zv_bipush (n := 53) dX8_renderRack_51 rfl (v := 58) (by decide) ?_
  refine zv_callVF (n := 56) (As := [.int 58]) (rest := []) (kc' := 7) (ks' := 906) dX8_renderRack_53 rfl (c_outC hP6 (c := 58) (by decide) (show 0 + sb_dg j + 1 + sb_dg (fN (S nw) (1 + 3 * j)) + 1 + sb_dg (fN (S nw) (2 + 3 * j)) + 1 ≤ 70 by omega)) rfl kJ4_append_cf468 lX8_244 hB6 rfl rfl rfl ⟨by decide, by decide⟩ (Nat.le_of_ble_eq_true rfl) rfl rfl (by decide) (by decide) (fun M7 hq => ?_)
  obtain ⟨hP7, hz7⟩ := hq
  obtain ⟨ml7, v7, hB7⟩ := hP7.outB
  refine zv_aload_n (n := 57) dX8_renderRack_56 rfl rfl ?_
  refine zv_getN (n := 60) dX8_renderRack_57 rfl ((hP7.1.cen (i := nw) (by omega)).rk hj12) FX8_115 rfl ?_
  rw [e3]
  refine zv_callVF (n := 63) (As := [.int (nI (fN (S nw) (3 + 3 * j)))]) (rest := []) (kc' := 8) (ks' := 1056) dX8_renderRack_60 rfl (c_outI hP7 (c := (fN (S nw) (3 + 3 * j))) (by omega) (show 0 + sb_dg j + 1 + sb_dg (fN (S nw) (1 + 3 * j)) + 1 + sb_dg (fN (S nw) (2 + 3 * j)) + 1 + 2 ≤ 70 by omega)) rfl kJ4_append_bf812 lX8_240 hB7 rfl rfl rfl ⟨by decide, by decide⟩ (Nat.le_of_ble_eq_true rfl) rfl rfl (by decide) (by decide) (fun M8 hq => ?_)
  obtain ⟨hP8, hz8⟩ := hq
  obtain ⟨ml8, v8, hB8⟩ := hP8.outB
  refine zv_pop (n := 64) dX8_renderRack_63 rfl rfl ?_
  refine zv_aload_n (n := 65) dX8_renderRack_64 rfl rfl ?_
  refine zv_callVP (n := 68) (As := []) (rest := []) (kc' := 8) (ks' := 1056) dX8_renderRack_65 rfl (c_X8_now hP8) rfl kX8_now lX8_87 hP8.2.2.1 rfl rfl rfl ⟨by decide, by decide⟩ (Nat.le_of_ble_eq_true rfl) rfl rfl (by decide) (by decide) ?_
  refine zv_aload_n (n := 69) dX8_renderRack_68 rfl rfl ?_
  refine zv_callVP (n := 72) (As := [.ref (C nw (8 + j))]) (rest := []) (kc' := 8) (ks' := 1056) dX8_renderRack_69 rfl (c_X1_isRackHot (hP8.1.cen (i := nw) (by omega)) hO hj12) rfl kX1_isRackHot lX8_182 (hP8.1.cen (i := nw) (by omega)).c0 rfl rfl rfl ⟨by decide, by decide⟩ (Nat.le_of_ble_eq_true rfl) rfl rfl (by decide) (by decide) ?_
  refine zv_if_eq (n := 75) (tgt := 85) dX8_renderRack_72 (by decide) rfl (fun h72 => ?_) (fun h72 => ?_)
  · skip
    have eh := fB_eq h72
    refine zv_aload_n (n := 86) dX8_renderRack_85 rfl rfl ?_
    refine zv_get (n := 89) dX8_renderRack_86 rfl hP8.2.2.1 FX8_40 rfl ?_
    have ex : fTxR (S nw) j = tcI (tcC (tcI (tcC (tcI (tcC (tcI (u, 0) j) 64) (fN (S nw) (1 + 3 * j))) 46) (fN (S nw) (2 + 3 * j))) 58) (fN (S nw) (3 + 3 * j)) := by unfold fTxR; rw [if_neg (by rw [eh]; decide), tcI0 u j]
    refine zv_callVP (n := 92) (As := []) (rest := []) (kc' := 8) (ks' := 1056) dX8_renderRack_89 rfl (c_outL hP8) rfl kJ4_length_8abf5 lX8_247 hB8 rfl rfl rfl ⟨by decide, by decide⟩ (Nat.le_of_ble_eq_true rfl) rfl rfl (by decide) (by decide) ?_
    refine zv_iret dX8_renderRack_92 rfl (by decide) (by decide) ?_
    exact ⟨by rw [ex], by rw [ex]; exact hP8, (((((((hz1.tr hz2).tr hz3).tr hz4).tr hz5).tr hz6).tr hz7).tr hz8)⟩
  · skip
    have eh := fB_ne h72
    refine zv_aload_n (n := 76) dX8_renderRack_75 rfl rfl ?_
    refine zv_get (n := 79) dX8_renderRack_76 rfl hP8.2.2.1 FX8_40 rfl ?_
    refine zv_bipush (n := 81) dX8_renderRack_79 rfl (v := 33) (by decide) ?_
    refine zv_callVF (n := 84) (As := [.int 33]) (rest := []) (kc' := 9) (ks' := 1206) dX8_renderRack_81 rfl (c_outC hP8 (c := 33) (by decide) (show 0 + sb_dg j + 1 + sb_dg (fN (S nw) (1 + 3 * j)) + 1 + sb_dg (fN (S nw) (2 + 3 * j)) + 1 + sb_dg (fN (S nw) (3 + 3 * j)) + 1 ≤ 70 by omega)) rfl kJ4_append_cf468 lX8_244 hB8 rfl rfl rfl ⟨by decide, by decide⟩ (Nat.le_of_ble_eq_true rfl) rfl rfl (by decide) (by decide) (fun M9 hq => ?_)
    obtain ⟨hP9, hz9⟩ := hq
    obtain ⟨ml9, v9, hB9⟩ := hP9.outB
    refine zv_pop (n := 85) dX8_renderRack_84 rfl rfl ?_
    refine zv_aload_n (n := 86) dX8_renderRack_85 rfl rfl ?_
    refine zv_get (n := 89) dX8_renderRack_86 rfl hP9.2.2.1 FX8_40 rfl ?_
    have ex : fTxR (S nw) j = tcC (tcI (tcC (tcI (tcC (tcI (tcC (tcI (u, 0) j) 64) (fN (S nw) (1 + 3 * j))) 46) (fN (S nw) (2 + 3 * j))) 58) (fN (S nw) (3 + 3 * j))) 33 := by unfold fTxR; rw [if_pos eh, tcI0 u j]
    refine zv_callVP (n := 92) (As := []) (rest := []) (kc' := 9) (ks' := 1206) dX8_renderRack_89 rfl (c_outL hP9) rfl kJ4_length_8abf5 lX8_247 hB9 rfl rfl rfl ⟨by decide, by decide⟩ (Nat.le_of_ble_eq_true rfl) rfl rfl (by decide) (by decide) ?_
    refine zv_iret dX8_renderRack_92 rfl (by decide) (by decide) ?_
    exact ⟨by rw [ex], by rw [ex]; exact hP9, ((((((((hz1.tr hz2).tr hz3).tr hz4).tr hz5).tr hz6).tr hz7).tr hz8).tr hz9)⟩

set_option maxRecDepth 100000 in
set_option maxHeartbeats 4000000 in
theorem c_X8_renderRack_0 {σ : zSg} {M : zM} {Z : Nat → Prop} {b : Nat → Nat} {C : Nat → Nat → Nat} {S : Nat → zS} {nw un : Nat} {hs ea fa : Int32} {t : Nat → Nat} {n : Nat} {u : Nat → Nat} {k : Nat} (hP : zPl M Z b C S nw un hs ea fa t n u k) {x : Int32} (hx : fBad (S nw) x)  : zCon μX8_renderRack (7, 9, 1206) σ [.ref (b 0), .int x] M (zT9 "java/lang/IndexOutOfBoundsException" M) := by
  have hnw : nw < 10 := hP.2.1.1
  have hC := hP.1.cen (i := nw) (by omega)
  have hO := hP.1.ok (i := nw) (by omega)
  refine zCon.of (plainFor_of_name (by decide)) rfl (Nat.le_of_ble_eq_true rfl) ?_
  change zV _ _ _ _ _ 0 0 0 [(0, .ref (b 0)), (1, .int x)] []
  refine zv_aload_n (n := 1) dX8_renderRack_0 rfl rfl ?_
  refine zv_iload_n (n := 2) dX8_renderRack_1 rfl rfl ?_
  refine zv_callVT (n := 5) (As := [.int x]) (rest := []) (kc' := 1) (ks' := 6) dX8_renderRack_2 rfl (c_X8_exR_0 hP hx) rfl kX8_existingRack lX8_103 hP.2.2.1 rfl rfl rfl ⟨by decide, by decide⟩ (Nat.le_of_ble_eq_true rfl) rfl rfl (by decide) (by decide) ?_
  exact zvx_out rfl (by decide) (by decide) ⟨rfl, rfl⟩

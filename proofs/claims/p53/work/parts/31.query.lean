/-! A planner's queries: laid by wip/p53/m31.py. -/
set_option maxRecDepth 100000 in
set_option maxHeartbeats 4000000 in
theorem c_X8_rackCount {σ : zSg} {M : zM} {Z : Nat → Prop} {b : Nat → Nat} {C : Nat → Nat → Nat} {S : Nat → zS} {nw un : Nat} {hs ea fa : Int32} {t : Nat → Nat} {n : Nat} {u : Nat → Nat} {k : Nat} (hP : zPl M Z b C S nw un hs ea fa t n u k)  : zCon μX8_rackCount (5, 0, 0) σ [.ref (b 0)] M (zP (some (.int (S nw 0))) M) := by
  have hnw : nw < 10 := hP.2.1.1
  have hC := hP.1.cen (i := nw) (by omega)
  have hO := hP.1.ok (i := nw) (by omega)
  refine zCon.of (plainFor_of_name (by decide)) rfl (Nat.le_of_ble_eq_true rfl) ?_
  change zV _ _ _ _ _ 0 0 0 [(0, .ref (b 0))] []
  refine zv_aload_n (n := 1) dX8_rackCount_0 rfl rfl ?_
  refine zv_callVP (n := 4) (As := []) (rest := []) (kc' := 0) (ks' := 0) dX8_rackCount_1 rfl (c_X8_now hP) rfl kX8_now lX8_87 hP.2.2.1 rfl rfl rfl ⟨by decide, by decide⟩ (Nat.le_of_ble_eq_true rfl) rfl rfl (by decide) (by decide) ?_
  refine zv_getN (n := 7) dX8_rackCount_4 rfl hC.c0 FX8_94 rfl ?_
  refine zv_getN (n := 10) dX8_rackCount_7 rfl hC.c1 FX8_98 rfl ?_
  refine zv_iret dX8_rackCount_10 rfl (by decide) (by decide) ?_
  exact zPi

set_option maxRecDepth 100000 in
set_option maxHeartbeats 4000000 in
theorem c_X8_limit {σ : zSg} {M : zM} {Z : Nat → Prop} {b : Nat → Nat} {C : Nat → Nat → Nat} {S : Nat → zS} {nw un : Nat} {hs ea fa : Int32} {t : Nat → Nat} {n : Nat} {u : Nat → Nat} {k : Nat} (hP : zPl M Z b C S nw un hs ea fa t n u k)  : zCon μX8_limit (5, 0, 0) σ [.ref (b 0)] M (zP (some (.int (S nw 48))) M) := by
  have hnw : nw < 10 := hP.2.1.1
  have hC := hP.1.cen (i := nw) (by omega)
  have hO := hP.1.ok (i := nw) (by omega)
  refine zCon.of (plainFor_of_name (by decide)) rfl (Nat.le_of_ble_eq_true rfl) ?_
  change zV _ _ _ _ _ 0 0 0 [(0, .ref (b 0))] []
  refine zv_aload_n (n := 1) dX8_limit_0 rfl rfl ?_
  refine zv_callVP (n := 4) (As := []) (rest := []) (kc' := 0) (ks' := 0) dX8_limit_1 rfl (c_X8_now hP) rfl kX8_now lX8_87 hP.2.2.1 rfl rfl rfl ⟨by decide, by decide⟩ (Nat.le_of_ble_eq_true rfl) rfl rfl (by decide) (by decide) ?_
  refine zv_getN (n := 7) dX8_limit_4 rfl hC.c0 FX8_208 rfl ?_
  refine zv_iret dX8_limit_7 rfl (by decide) (by decide) ?_
  exact zPi

set_option maxRecDepth 100000 in
set_option maxHeartbeats 4000000 in
theorem c_X8_minute {σ : zSg} {M : zM} {Z : Nat → Prop} {b : Nat → Nat} {C : Nat → Nat → Nat} {S : Nat → zS} {nw un : Nat} {hs ea fa : Int32} {t : Nat → Nat} {n : Nat} {u : Nat → Nat} {k : Nat} (hP : zPl M Z b C S nw un hs ea fa t n u k)  : zCon μX8_minute (5, 0, 0) σ [.ref (b 0)] M (zP (some (.int (S nw 49))) M) := by
  have hnw : nw < 10 := hP.2.1.1
  have hC := hP.1.cen (i := nw) (by omega)
  have hO := hP.1.ok (i := nw) (by omega)
  refine zCon.of (plainFor_of_name (by decide)) rfl (Nat.le_of_ble_eq_true rfl) ?_
  change zV _ _ _ _ _ 0 0 0 [(0, .ref (b 0))] []
  refine zv_aload_n (n := 1) dX8_minute_0 rfl rfl ?_
  refine zv_callVP (n := 4) (As := []) (rest := []) (kc' := 0) (ks' := 0) dX8_minute_1 rfl (c_X8_now hP) rfl kX8_now lX8_87 hP.2.2.1 rfl rfl rfl ⟨by decide, by decide⟩ (Nat.le_of_ble_eq_true rfl) rfl rfl (by decide) (by decide) ?_
  refine zv_getN (n := 7) dX8_minute_4 rfl hC.c0 FX8_211 rfl ?_
  refine zv_iret dX8_minute_7 rfl (by decide) (by decide) ?_
  exact zPi

set_option maxRecDepth 100000 in
set_option maxHeartbeats 4000000 in
theorem c_X8_madeTotal {σ : zSg} {M : zM} {Z : Nat → Prop} {b : Nat → Nat} {C : Nat → Nat → Nat} {S : Nat → zS} {nw un : Nat} {hs ea fa : Int32} {t : Nat → Nat} {n : Nat} {u : Nat → Nat} {k : Nat} (hP : zPl M Z b C S nw un hs ea fa t n u k)  : zCon μX8_madeTotal (5, 0, 0) σ [.ref (b 0)] M (zP (some (.int (S nw 50))) M) := by
  have hnw : nw < 10 := hP.2.1.1
  have hC := hP.1.cen (i := nw) (by omega)
  have hO := hP.1.ok (i := nw) (by omega)
  refine zCon.of (plainFor_of_name (by decide)) rfl (Nat.le_of_ble_eq_true rfl) ?_
  change zV _ _ _ _ _ 0 0 0 [(0, .ref (b 0))] []
  refine zv_aload_n (n := 1) dX8_madeTotal_0 rfl rfl ?_
  refine zv_callVP (n := 4) (As := []) (rest := []) (kc' := 0) (ks' := 0) dX8_madeTotal_1 rfl (c_X8_now hP) rfl kX8_now lX8_87 hP.2.2.1 rfl rfl rfl ⟨by decide, by decide⟩ (Nat.le_of_ble_eq_true rfl) rfl rfl (by decide) (by decide) ?_
  refine zv_getN (n := 7) dX8_madeTotal_4 rfl hC.c0 FX8_214 rfl ?_
  refine zv_iret dX8_madeTotal_7 rfl (by decide) (by decide) ?_
  exact zPi

set_option maxRecDepth 100000 in
set_option maxHeartbeats 4000000 in
theorem c_X8_carriedTotal {σ : zSg} {M : zM} {Z : Nat → Prop} {b : Nat → Nat} {C : Nat → Nat → Nat} {S : Nat → zS} {nw un : Nat} {hs ea fa : Int32} {t : Nat → Nat} {n : Nat} {u : Nat → Nat} {k : Nat} (hP : zPl M Z b C S nw un hs ea fa t n u k)  : zCon μX8_carriedTotal (5, 0, 0) σ [.ref (b 0)] M (zP (some (.int (S nw 51))) M) := by
  have hnw : nw < 10 := hP.2.1.1
  have hC := hP.1.cen (i := nw) (by omega)
  have hO := hP.1.ok (i := nw) (by omega)
  refine zCon.of (plainFor_of_name (by decide)) rfl (Nat.le_of_ble_eq_true rfl) ?_
  change zV _ _ _ _ _ 0 0 0 [(0, .ref (b 0))] []
  refine zv_aload_n (n := 1) dX8_carriedTotal_0 rfl rfl ?_
  refine zv_callVP (n := 4) (As := []) (rest := []) (kc' := 0) (ks' := 0) dX8_carriedTotal_1 rfl (c_X8_now hP) rfl kX8_now lX8_87 hP.2.2.1 rfl rfl rfl ⟨by decide, by decide⟩ (Nat.le_of_ble_eq_true rfl) rfl rfl (by decide) (by decide) ?_
  refine zv_getN (n := 7) dX8_carriedTotal_4 rfl hC.c0 FX8_217 rfl ?_
  refine zv_iret dX8_carriedTotal_7 rfl (by decide) (by decide) ?_
  exact zPi

set_option maxRecDepth 100000 in
set_option maxHeartbeats 4000000 in
theorem c_X8_energyTotal {σ : zSg} {M : zM} {Z : Nat → Prop} {b : Nat → Nat} {C : Nat → Nat → Nat} {S : Nat → zS} {nw un : Nat} {hs ea fa : Int32} {t : Nat → Nat} {n : Nat} {u : Nat → Nat} {k : Nat} (hP : zPl M Z b C S nw un hs ea fa t n u k)  : zCon μX8_energyTotal (5, 0, 0) σ [.ref (b 0)] M (zP (some (.int (S nw 52))) M) := by
  have hnw : nw < 10 := hP.2.1.1
  have hC := hP.1.cen (i := nw) (by omega)
  have hO := hP.1.ok (i := nw) (by omega)
  refine zCon.of (plainFor_of_name (by decide)) rfl (Nat.le_of_ble_eq_true rfl) ?_
  change zV _ _ _ _ _ 0 0 0 [(0, .ref (b 0))] []
  refine zv_aload_n (n := 1) dX8_energyTotal_0 rfl rfl ?_
  refine zv_callVP (n := 4) (As := []) (rest := []) (kc' := 0) (ks' := 0) dX8_energyTotal_1 rfl (c_X8_now hP) rfl kX8_now lX8_87 hP.2.2.1 rfl rfl rfl ⟨by decide, by decide⟩ (Nat.le_of_ble_eq_true rfl) rfl rfl (by decide) (by decide) ?_
  refine zv_getN (n := 7) dX8_energyTotal_4 rfl hC.c0 FX8_220 rfl ?_
  refine zv_iret dX8_energyTotal_7 rfl (by decide) (by decide) ?_
  exact zPi

set_option maxRecDepth 100000 in
set_option maxHeartbeats 4000000 in
theorem c_X8_totalLoad {σ : zSg} {M : zM} {Z : Nat → Prop} {b : Nat → Nat} {C : Nat → Nat → Nat} {S : Nat → zS} {nw un : Nat} {hs ea fa : Int32} {t : Nat → Nat} {n : Nat} {u : Nat → Nat} {k : Nat} (hP : zPl M Z b C S nw un hs ea fa t n u k)  : zCon μX8_totalLoad (5, 0, 0) σ [.ref (b 0)] M (zP (some (.int (fSum (S nw)))) M) := by
  have hnw : nw < 10 := hP.2.1.1
  have hC := hP.1.cen (i := nw) (by omega)
  have hO := hP.1.ok (i := nw) (by omega)
  refine zCon.of (plainFor_of_name (by decide)) rfl (Nat.le_of_ble_eq_true rfl) ?_
  change zV _ _ _ _ _ 0 0 0 [(0, .ref (b 0))] []
  refine zv_aload_n (n := 1) dX8_totalLoad_0 rfl rfl ?_
  refine zv_callVP (n := 4) (As := []) (rest := []) (kc' := 0) (ks' := 0) dX8_totalLoad_1 rfl (c_X8_now hP) rfl kX8_now lX8_87 hP.2.2.1 rfl rfl rfl ⟨by decide, by decide⟩ (Nat.le_of_ble_eq_true rfl) rfl rfl (by decide) (by decide) ?_
  refine zv_getN (n := 7) dX8_totalLoad_4 rfl hC.c0 FX8_94 rfl ?_
  refine zv_callVP (n := 10) (As := []) (rest := []) (kc' := 0) (ks' := 0) dX8_totalLoad_7 rfl (c_X5_sumByRacks hC hO.1) rfl kX5_sumByRacks lX8_142 hC.c1 rfl rfl rfl ⟨by decide, by decide⟩ (Nat.le_of_ble_eq_true rfl) rfl rfl (by decide) (by decide) ?_
  refine zv_iret dX8_totalLoad_10 rfl (by decide) (by decide) ?_
  exact zPi

set_option maxRecDepth 100000 in
set_option maxHeartbeats 4000000 in
theorem c_X8_hotSpots {σ : zSg} {M : zM} {Z : Nat → Prop} {b : Nat → Nat} {C : Nat → Nat → Nat} {S : Nat → zS} {nw un : Nat} {hs ea fa : Int32} {t : Nat → Nat} {n : Nat} {u : Nat → Nat} {k : Nat} (hP : zPl M Z b C S nw un hs ea fa t n u k)  : zCon μX8_hotSpots (7, 0, 0) σ [.ref (b 0)] M (zP (some (.int (nI (fHts (S nw))))) M) := by
  have hnw : nw < 10 := hP.2.1.1
  have hC := hP.1.cen (i := nw) (by omega)
  have hO := hP.1.ok (i := nw) (by omega)
  refine zCon.of (plainFor_of_name (by decide)) rfl (Nat.le_of_ble_eq_true rfl) ?_
  change zV _ _ _ _ _ 0 0 0 [(0, .ref (b 0))] []
  refine zv_aload_n (n := 1) dX8_hotSpots_0 rfl rfl ?_
  refine zv_callVP (n := 4) (As := []) (rest := []) (kc' := 0) (ks' := 0) dX8_hotSpots_1 rfl (c_X8_now hP) rfl kX8_now lX8_87 hP.2.2.1 rfl rfl rfl ⟨by decide, by decide⟩ (Nat.le_of_ble_eq_true rfl) rfl rfl (by decide) (by decide) ?_
  refine zv_callVP (n := 7) (As := []) (rest := []) (kc' := 0) (ks' := 0) dX8_hotSpots_4 rfl (c_X1_countHotRacks hC hO) rfl kX1_countHotRacks lX8_90 hC.c0 rfl rfl rfl ⟨by decide, by decide⟩ (Nat.le_of_ble_eq_true rfl) rfl rfl (by decide) (by decide) ?_
  refine zv_iret dX8_hotSpots_7 rfl (by decide) (by decide) ?_
  exact zPi

theorem c_X8_reqR_0 {σ : zSg} {M : zM} {Z : Nat → Prop} {b : Nat → Nat} {C : Nat → Nat → Nat} {S : Nat → zS} {nw un : Nat} {hs ea fa : Int32} {t : Nat → Nat} {n : Nat} {u : Nat → Nat} {k : Nat} (hP : zPl M Z b C S nw un hs ea fa t n u k) (h : fCnt (S nw) = 0) : zCon μX8_requireRacks (5, 1, 6) σ [.ref (b 0)] M (zT9 "java/lang/ArithmeticException" M) := by
  have hnw : nw < 10 := hP.2.1.1
  have hC := hP.1.cen (i := nw) (by omega)
  have hO := hP.1.ok (i := nw) (by omega)
  refine zCon.of (plainFor_of_name (by decide)) rfl (Nat.le_of_ble_eq_true rfl) ?_
  change zV _ _ _ _ _ 0 0 0 [(0, .ref (b 0))] []
  refine zv_aload_n (n := 1) dX8_requireRacks_0 rfl rfl ?_
  refine zv_callVP (n := 4) (As := []) (rest := []) (kc' := 0) (ks' := 0) dX8_requireRacks_1 rfl (c_X8_now hP) rfl kX8_now lX8_87 hP.2.2.1 rfl rfl rfl ⟨by decide, by decide⟩ (Nat.le_of_ble_eq_true rfl) rfl rfl (by decide) (by decide) ?_
  refine zv_getN (n := 7) dX8_requireRacks_4 rfl hC.c0 FX8_94 rfl ?_
  refine zv_getN (n := 10) dX8_requireRacks_7 rfl hC.c1 FX8_98 rfl ?_
  refine zv_if_ne (n := 13) (tgt := 24) dX8_requireRacks_10 (by decide) rfl (fun h10 => False.elim (h10 (by rw [hO.1.1, h]; rfl))) (fun h10 => ?_)
  refine zv_throwSW (j := 28) (names := ["java/lang/RuntimeException", "java/lang/Exception"]) hfit_Arithmetic.1 hfit_Arithmetic.2 eX8_337 ini_ArithmeticException rfl rfl rfl hat_Arithmetic hgo_Arithmetic dX8_requireRacks_13 dX8_requireRacks_16 dX8_requireRacks_17 dX8_requireRacks_20 dX8_requireRacks_23 rfl (by decide) (by decide) (by decide) (by decide) ?_
  exact ⟨rfl, rfl⟩

set_option maxRecDepth 100000 in
set_option maxHeartbeats 4000000 in
theorem c_X8_mean_1 {σ : zSg} {M : zM} {Z : Nat → Prop} {b : Nat → Nat} {C : Nat → Nat → Nat} {S : Nat → zS} {nw un : Nat} {hs ea fa : Int32} {t : Nat → Nat} {n : Nat} {u : Nat → Nat} {k : Nat} (hP : zPl M Z b C S nw un hs ea fa t n u k) (h : 0 < fCnt (S nw)) : zCon μX8_meanTemperature (6, 1, 6) σ [.ref (b 0)] M (zP (some (.double (FP.ddiv (fSmT (S nw) (fCnt (S nw))) (FP.i2d (S nw 0))))) M) := by
  have hnw : nw < 10 := hP.2.1.1
  have hC := hP.1.cen (i := nw) (by omega)
  have hO := hP.1.ok (i := nw) (by omega)
  refine zCon.of (plainFor_of_name (by decide)) rfl (Nat.le_of_ble_eq_true rfl) ?_
  change zV _ _ _ _ _ 0 0 0 [(0, .ref (b 0))] []
  refine zv_aload_n (n := 1) dX8_meanTemperature_0 rfl rfl ?_
  refine zv_callVP0 (n := 4) (As := []) (rest := []) (kc' := 1) (ks' := 6) dX8_meanTemperature_1 rfl (c_X8_reqR_1 hP h) rfl kX8_requireRacks lX8_223 hP.2.2.1 rfl rfl rfl ⟨by decide, by decide⟩ (Nat.le_of_ble_eq_true rfl) rfl rfl (by decide) (by decide) ?_
  refine zv_aload_n (n := 5) dX8_meanTemperature_4 rfl rfl ?_
  refine zv_callVP (n := 8) (As := []) (rest := []) (kc' := 1) (ks' := 6) dX8_meanTemperature_5 rfl (c_X8_now hP) rfl kX8_now lX8_87 hP.2.2.1 rfl rfl rfl ⟨by decide, by decide⟩ (Nat.le_of_ble_eq_true rfl) rfl rfl (by decide) (by decide) ?_
  refine zv_callVP (n := 11) (As := []) (rest := []) (kc' := 1) (ks' := 6) dX8_meanTemperature_8 rfl (c_X1_sumOfTemperatures hC hO) rfl kX1_sumOfTemperatures lX8_226 hC.c0 rfl rfl rfl ⟨by decide, by decide⟩ (Nat.le_of_ble_eq_true rfl) rfl rfl (by decide) (by decide) ?_
  refine zv_aload_n (n := 12) dX8_meanTemperature_11 rfl rfl ?_
  refine zv_callVP (n := 15) (As := []) (rest := [.double (fSmT (S nw) (fCnt (S nw)))]) (kc' := 1) (ks' := 6) dX8_meanTemperature_12 rfl (c_X8_now hP) rfl kX8_now lX8_87 hP.2.2.1 rfl rfl rfl ⟨by decide, by decide⟩ (Nat.le_of_ble_eq_true rfl) rfl rfl (by decide) (by decide) ?_
  refine zv_getN (n := 18) dX8_meanTemperature_15 rfl hC.c0 FX8_94 rfl ?_
  refine zv_getN (n := 21) dX8_meanTemperature_18 rfl hC.c1 FX8_98 rfl ?_
  refine zv_i2d (n := 22) dX8_meanTemperature_21 rfl ?_
  refine zv_ddiv (n := 23) dX8_meanTemperature_22 rfl (zf_n64 (Jvm.FP.Core.ddiv_out (fSmT_n hO _) (Jvm.FP.Core.i2d_fin _) (fun hz => Jvm.FP.Core.i2d_ne_zero (show S nw 0 ≠ 0 by rw [hO.1.1]; exact nI_ne0 h (by have := hO.1.2; omega)) ((Jvm.FP.Core.zero_bits2 _).mp hz)))) ?_
  refine zv_dret dX8_meanTemperature_23 rfl (by decide) (by decide) ?_
  exact zPi

set_option maxRecDepth 100000 in
set_option maxHeartbeats 4000000 in
theorem c_X8_mean_0 {σ : zSg} {M : zM} {Z : Nat → Prop} {b : Nat → Nat} {C : Nat → Nat → Nat} {S : Nat → zS} {nw un : Nat} {hs ea fa : Int32} {t : Nat → Nat} {n : Nat} {u : Nat → Nat} {k : Nat} (hP : zPl M Z b C S nw un hs ea fa t n u k) (h : fCnt (S nw) = 0) : zCon μX8_meanTemperature (6, 1, 6) σ [.ref (b 0)] M (zT9 "java/lang/ArithmeticException" M) := by
  have hnw : nw < 10 := hP.2.1.1
  have hC := hP.1.cen (i := nw) (by omega)
  have hO := hP.1.ok (i := nw) (by omega)
  refine zCon.of (plainFor_of_name (by decide)) rfl (Nat.le_of_ble_eq_true rfl) ?_
  change zV _ _ _ _ _ 0 0 0 [(0, .ref (b 0))] []
  refine zv_aload_n (n := 1) dX8_meanTemperature_0 rfl rfl ?_
  refine zv_callVT (n := 4) (As := []) (rest := []) (kc' := 1) (ks' := 6) dX8_meanTemperature_1 rfl (c_X8_reqR_0 hP h) rfl kX8_requireRacks lX8_223 hP.2.2.1 rfl rfl rfl ⟨by decide, by decide⟩ (Nat.le_of_ble_eq_true rfl) rfl rfl (by decide) (by decide) ?_
  exact zvx_out rfl (by decide) (by decide) ⟨rfl, rfl⟩

set_option maxRecDepth 100000 in
set_option maxHeartbeats 4000000 in
theorem c_X8_hotShare_1 {σ : zSg} {M : zM} {Z : Nat → Prop} {b : Nat → Nat} {C : Nat → Nat → Nat} {S : Nat → zS} {nw un : Nat} {hs ea fa : Int32} {t : Nat → Nat} {n : Nat} {u : Nat → Nat} {k : Nat} (hP : zPl M Z b C S nw un hs ea fa t n u k) (h : 0 < fCnt (S nw)) : zCon μX8_hotShare (7, 1, 6) σ [.ref (b 0)] M (zP (some (.float (FP.fdiv (FP.i2f (nI (fHts (S nw)))) (FP.i2f (S nw 0))))) M) := by
  have hnw : nw < 10 := hP.2.1.1
  have hC := hP.1.cen (i := nw) (by omega)
  have hO := hP.1.ok (i := nw) (by omega)
  refine zCon.of (plainFor_of_name (by decide)) rfl (Nat.le_of_ble_eq_true rfl) ?_
  change zV _ _ _ _ _ 0 0 0 [(0, .ref (b 0))] []
  refine zv_aload_n (n := 1) dX8_hotShare_0 rfl rfl ?_
  refine zv_callVP0 (n := 4) (As := []) (rest := []) (kc' := 1) (ks' := 6) dX8_hotShare_1 rfl (c_X8_reqR_1 hP h) rfl kX8_requireRacks lX8_223 hP.2.2.1 rfl rfl rfl ⟨by decide, by decide⟩ (Nat.le_of_ble_eq_true rfl) rfl rfl (by decide) (by decide) ?_
  refine zv_aload_n (n := 5) dX8_hotShare_4 rfl rfl ?_
  refine zv_callVP (n := 8) (As := []) (rest := []) (kc' := 1) (ks' := 6) dX8_hotShare_5 rfl (c_X8_now hP) rfl kX8_now lX8_87 hP.2.2.1 rfl rfl rfl ⟨by decide, by decide⟩ (Nat.le_of_ble_eq_true rfl) rfl rfl (by decide) (by decide) ?_
  refine zv_callVP (n := 11) (As := []) (rest := []) (kc' := 1) (ks' := 6) dX8_hotShare_8 rfl (c_X1_countHotRacks hC hO) rfl kX1_countHotRacks lX8_90 hC.c0 rfl rfl rfl ⟨by decide, by decide⟩ (Nat.le_of_ble_eq_true rfl) rfl rfl (by decide) (by decide) ?_
  refine zv_i2f (n := 12) dX8_hotShare_11 rfl ?_
  refine zv_aload_n (n := 13) dX8_hotShare_12 rfl rfl ?_
  refine zv_callVP (n := 16) (As := []) (rest := [.float (FP.i2f (nI (fHts (S nw))))]) (kc' := 1) (ks' := 6) dX8_hotShare_13 rfl (c_X8_now hP) rfl kX8_now lX8_87 hP.2.2.1 rfl rfl rfl ⟨by decide, by decide⟩ (Nat.le_of_ble_eq_true rfl) rfl rfl (by decide) (by decide) ?_
  refine zv_getN (n := 19) dX8_hotShare_16 rfl hC.c0 FX8_94 rfl ?_
  refine zv_getN (n := 22) dX8_hotShare_19 rfl hC.c1 FX8_98 rfl ?_
  refine zv_i2f (n := 23) dX8_hotShare_22 rfl ?_
  refine zv_fdiv (n := 24) dX8_hotShare_23 rfl (zf_n32 (Jvm.FP.Core.fdiv_out (Jvm.FP.Core.i2f_fin _).notNaN (Jvm.FP.Core.i2f_fin _) (fun hz => Jvm.FP.Core.i2f_ne_zero (show S nw 0 ≠ 0 by rw [hO.1.1]; exact nI_ne0 h (by have := hO.1.2; omega)) ((Jvm.FP.Core.zero_bits232 _).mp hz)))) ?_
  refine zv_fret dX8_hotShare_24 rfl (by decide) (by decide) ?_
  exact zPi

set_option maxRecDepth 100000 in
set_option maxHeartbeats 4000000 in
theorem c_X8_hotShare_0 {σ : zSg} {M : zM} {Z : Nat → Prop} {b : Nat → Nat} {C : Nat → Nat → Nat} {S : Nat → zS} {nw un : Nat} {hs ea fa : Int32} {t : Nat → Nat} {n : Nat} {u : Nat → Nat} {k : Nat} (hP : zPl M Z b C S nw un hs ea fa t n u k) (h : fCnt (S nw) = 0) : zCon μX8_hotShare (6, 1, 6) σ [.ref (b 0)] M (zT9 "java/lang/ArithmeticException" M) := by
  have hnw : nw < 10 := hP.2.1.1
  have hC := hP.1.cen (i := nw) (by omega)
  have hO := hP.1.ok (i := nw) (by omega)
  refine zCon.of (plainFor_of_name (by decide)) rfl (Nat.le_of_ble_eq_true rfl) ?_
  change zV _ _ _ _ _ 0 0 0 [(0, .ref (b 0))] []
  refine zv_aload_n (n := 1) dX8_hotShare_0 rfl rfl ?_
  refine zv_callVT (n := 4) (As := []) (rest := []) (kc' := 1) (ks' := 6) dX8_hotShare_1 rfl (c_X8_reqR_0 hP h) rfl kX8_requireRacks lX8_223 hP.2.2.1 rfl rfl rfl ⟨by decide, by decide⟩ (Nat.le_of_ble_eq_true rfl) rfl rfl (by decide) (by decide) ?_
  exact zvx_out rfl (by decide) (by decide) ⟨rfl, rfl⟩

set_option maxRecDepth 100000 in
set_option maxHeartbeats 4000000 in
theorem c_X8_airflow_1 {σ : zSg} {M : zM} {Z : Nat → Prop} {b : Nat → Nat} {C : Nat → Nat → Nat} {S : Nat → zS} {nw un : Nat} {hs ea fa : Int32} {t : Nat → Nat} {n : Nat} {u : Nat → Nat} {k : Nat} (hP : zPl M Z b C S nw un hs ea fa t n u k) {v : Int32} (hv : fBt v 0 10 = true) : zCon μX8_airflowAt (5, 1, 6) σ [.ref (b 0), .int v] M (zP (some (.float (fAir (S nw) v))) M) := by
  have hnw : nw < 10 := hP.2.1.1
  have hC := hP.1.cen (i := nw) (by omega)
  have hO := hP.1.ok (i := nw) (by omega)
  refine zCon.of (plainFor_of_name (by decide)) rfl (Nat.le_of_ble_eq_true rfl) ?_
  change zV _ _ _ _ _ 0 0 0 [(0, .ref (b 0)), (1, .int v)] []
  refine zv_iload_n (n := 1) dX8_airflowAt_0 rfl rfl ?_
  refine zv_callSP (n := 4) (As := [.int v]) (rest := []) (kc' := 0) (ks' := 0) dX8_airflowAt_1 rfl (c_X8_isSpeed v) rfl kX8_isSpeed lX8_162 rfl rfl ⟨by decide, by decide⟩ (Nat.le_of_ble_eq_true rfl) rfl rfl (by decide) (by decide) ?_
  refine zv_if_ne (n := 7) (tgt := 17) dX8_airflowAt_4 (by decide) rfl (fun h4 => ?_) (fun h4 => False.elim (absurd h4 (by rw [hv]; decide)))
  refine zv_aload_n (n := 18) dX8_airflowAt_17 rfl rfl ?_
  refine zv_callVP (n := 21) (As := []) (rest := []) (kc' := 0) (ks' := 0) dX8_airflowAt_18 rfl (c_X8_now hP) rfl kX8_now lX8_87 hP.2.2.1 rfl rfl rfl ⟨by decide, by decide⟩ (Nat.le_of_ble_eq_true rfl) rfl rfl (by decide) (by decide) ?_
  refine zv_getN (n := 24) dX8_airflowAt_21 rfl hC.c0 FX8_69 rfl ?_
  refine zv_iload_n (n := 25) dX8_airflowAt_24 rfl rfl ?_
  refine zv_callVP (n := 28) (As := [.int v]) (rest := []) (kc' := 0) (ks' := 0) dX8_airflowAt_25 rfl (c_X3_airflowFor hC v) rfl kX3_airflowFor lX8_167 hC.c2 rfl rfl rfl ⟨by decide, by decide⟩ (Nat.le_of_ble_eq_true rfl) rfl rfl (by decide) (by decide) ?_
  refine zv_fret dX8_airflowAt_28 rfl (by decide) (by decide) ?_
  exact zPi

set_option maxRecDepth 100000 in
set_option maxHeartbeats 4000000 in
theorem c_X8_airflow_0 {σ : zSg} {M : zM} {Z : Nat → Prop} {b : Nat → Nat} {C : Nat → Nat → Nat} {S : Nat → zS} {nw un : Nat} {hs ea fa : Int32} {t : Nat → Nat} {n : Nat} {u : Nat → Nat} {k : Nat} (hP : zPl M Z b C S nw un hs ea fa t n u k) {v : Int32} (hv : fBt v 0 10 = false) : zCon μX8_airflowAt (5, 1, 6) σ [.ref (b 0), .int v] M (zT9 "java/lang/IllegalArgumentException" M) := by
  have hnw : nw < 10 := hP.2.1.1
  have hC := hP.1.cen (i := nw) (by omega)
  have hO := hP.1.ok (i := nw) (by omega)
  refine zCon.of (plainFor_of_name (by decide)) rfl (Nat.le_of_ble_eq_true rfl) ?_
  change zV _ _ _ _ _ 0 0 0 [(0, .ref (b 0)), (1, .int v)] []
  refine zv_iload_n (n := 1) dX8_airflowAt_0 rfl rfl ?_
  refine zv_callSP (n := 4) (As := [.int v]) (rest := []) (kc' := 0) (ks' := 0) dX8_airflowAt_1 rfl (c_X8_isSpeed v) rfl kX8_isSpeed lX8_162 rfl rfl ⟨by decide, by decide⟩ (Nat.le_of_ble_eq_true rfl) rfl rfl (by decide) (by decide) ?_
  refine zv_if_ne (n := 7) (tgt := 17) dX8_airflowAt_4 (by decide) rfl (fun h4 => False.elim (h4 (by rw [hv]; rfl))) (fun h4 => ?_)
  refine zv_throwS (j := 30) (names := ["java/lang/RuntimeException", "java/lang/Exception"]) hfit_IllegalArgument.1 hfit_IllegalArgument.2 eX8_126 ini_IllegalArgumentException rfl rfl rfl hat_IllegalArgument hgo_IllegalArgument dX8_airflowAt_7 dX8_airflowAt_10 dX8_airflowAt_11 dX8_airflowAt_13 dX8_airflowAt_16 rfl (by decide) (by decide) (by decide) (by decide) ?_
  exact ⟨rfl, rfl⟩

set_option maxRecDepth 100000 in
set_option maxHeartbeats 4000000 in
theorem c_X8_inlet_1 {σ : zSg} {M : zM} {Z : Nat → Prop} {b : Nat → Nat} {C : Nat → Nat → Nat} {S : Nat → zS} {nw un : Nat} {hs ea fa : Int32} {t : Nat → Nat} {n : Nat} {u : Nat → Nat} {k : Nat} (hP : zPl M Z b C S nw un hs ea fa t n u k) {a : Int32} (ha : fBt a 0 3 = true)  : zCon μX8_inletTemperature (5, 1, 6) σ [.ref (b 0), .int a] M (zP (some (.float (fInl (S nw) a))) M) := by
  have hnw : nw < 10 := hP.2.1.1
  have hC := hP.1.cen (i := nw) (by omega)
  have hO := hP.1.ok (i := nw) (by omega)
  refine zCon.of (plainFor_of_name (by decide)) rfl (Nat.le_of_ble_eq_true rfl) ?_
  change zV _ _ _ _ _ 0 0 0 [(0, .ref (b 0)), (1, .int a)] []
  refine zv_iload_n (n := 1) dX8_inletTemperature_0 rfl rfl ?_
  refine zv_callSP0 (n := 4) (As := [.int a]) (rest := []) (kc' := 1) (ks' := 6) dX8_inletTemperature_1 rfl (c_X8_reqA_1 ha) rfl kX8_requireAisle lX8_118 rfl rfl ⟨by decide, by decide⟩ (Nat.le_of_ble_eq_true rfl) rfl rfl (by decide) (by decide) ?_
  refine zv_aload_n (n := 5) dX8_inletTemperature_4 rfl rfl ?_
  refine zv_callVP (n := 8) (As := []) (rest := []) (kc' := 1) (ks' := 6) dX8_inletTemperature_5 rfl (c_X8_now hP) rfl kX8_now lX8_87 hP.2.2.1 rfl rfl rfl ⟨by decide, by decide⟩ (Nat.le_of_ble_eq_true rfl) rfl rfl (by decide) (by decide) ?_
  refine zv_iload_n (n := 9) dX8_inletTemperature_8 rfl rfl ?_
  refine zv_callVP (n := 12) (As := [.int a]) (rest := []) (kc' := 1) (ks' := 6) dX8_inletTemperature_9 rfl (c_X1_inletOf hC hO.1 a) rfl kX1_inletOf lX8_171 hC.c0 rfl rfl rfl ⟨by decide, by decide⟩ (Nat.le_of_ble_eq_true rfl) rfl rfl (by decide) (by decide) ?_
  refine zv_fret dX8_inletTemperature_12 rfl (by decide) (by decide) ?_
  exact zPi

set_option maxRecDepth 100000 in
set_option maxHeartbeats 4000000 in
theorem c_X8_inlet_0 {σ : zSg} {M : zM} {Z : Nat → Prop} {b : Nat → Nat} {C : Nat → Nat → Nat} {S : Nat → zS} {nw un : Nat} {hs ea fa : Int32} {t : Nat → Nat} {n : Nat} {u : Nat → Nat} {k : Nat} (hP : zPl M Z b C S nw un hs ea fa t n u k) {a : Int32} (ha : fBt a 0 3 = false)  : zCon μX8_inletTemperature (5, 1, 6) σ [.ref (b 0), .int a] M (zT9 "java/lang/IndexOutOfBoundsException" M) := by
  have hnw : nw < 10 := hP.2.1.1
  have hC := hP.1.cen (i := nw) (by omega)
  have hO := hP.1.ok (i := nw) (by omega)
  refine zCon.of (plainFor_of_name (by decide)) rfl (Nat.le_of_ble_eq_true rfl) ?_
  change zV _ _ _ _ _ 0 0 0 [(0, .ref (b 0)), (1, .int a)] []
  refine zv_iload_n (n := 1) dX8_inletTemperature_0 rfl rfl ?_
  refine zv_callST (n := 4) (As := [.int a]) (rest := []) (kc' := 1) (ks' := 6) dX8_inletTemperature_1 rfl (c_X8_reqA_0 ha) rfl kX8_requireAisle lX8_118 rfl rfl ⟨by decide, by decide⟩ (Nat.le_of_ble_eq_true rfl) rfl rfl (by decide) (by decide) ?_
  exact zvx_out rfl (by decide) (by decide) ⟨rfl, rfl⟩

set_option maxRecDepth 100000 in
set_option maxHeartbeats 4000000 in
theorem c_X8_rise_1 {σ : zSg} {M : zM} {Z : Nat → Prop} {b : Nat → Nat} {C : Nat → Nat → Nat} {S : Nat → zS} {nw un : Nat} {hs ea fa : Int32} {t : Nat → Nat} {n : Nat} {u : Nat → Nat} {k : Nat} (hP : zPl M Z b C S nw un hs ea fa t n u k) {a : Int32} (ha : fBt a 0 3 = true)  : zCon μX8_rise (5, 1, 6) σ [.ref (b 0), .int a] M (zP (some (.float (fRis (S nw) a (fSpd (S nw) a)))) M) := by
  have hnw : nw < 10 := hP.2.1.1
  have hC := hP.1.cen (i := nw) (by omega)
  have hO := hP.1.ok (i := nw) (by omega)
  refine zCon.of (plainFor_of_name (by decide)) rfl (Nat.le_of_ble_eq_true rfl) ?_
  change zV _ _ _ _ _ 0 0 0 [(0, .ref (b 0)), (1, .int a)] []
  refine zv_iload_n (n := 1) dX8_rise_0 rfl rfl ?_
  refine zv_callSP0 (n := 4) (As := [.int a]) (rest := []) (kc' := 1) (ks' := 6) dX8_rise_1 rfl (c_X8_reqA_1 ha) rfl kX8_requireAisle lX8_118 rfl rfl ⟨by decide, by decide⟩ (Nat.le_of_ble_eq_true rfl) rfl rfl (by decide) (by decide) ?_
  refine zv_aload_n (n := 5) dX8_rise_4 rfl rfl ?_
  refine zv_callVP (n := 8) (As := []) (rest := []) (kc' := 1) (ks' := 6) dX8_rise_5 rfl (c_X8_now hP) rfl kX8_now lX8_87 hP.2.2.1 rfl rfl rfl ⟨by decide, by decide⟩ (Nat.le_of_ble_eq_true rfl) rfl rfl (by decide) (by decide) ?_
  refine zv_iload_n (n := 9) dX8_rise_8 rfl rfl ?_
  refine zv_aload_n (n := 10) dX8_rise_9 rfl rfl ?_
  refine zv_callVP (n := 13) (As := []) (rest := [.int a, .ref (C nw 0)]) (kc' := 1) (ks' := 6) dX8_rise_10 rfl (c_X8_now hP) rfl kX8_now lX8_87 hP.2.2.1 rfl rfl rfl ⟨by decide, by decide⟩ (Nat.le_of_ble_eq_true rfl) rfl rfl (by decide) (by decide) ?_
  refine zv_getN (n := 16) dX8_rise_13 rfl hC.c0 FX8_69 rfl ?_
  refine zv_iload_n (n := 17) dX8_rise_16 rfl rfl ?_
  refine zv_callVP (n := 20) (As := [.int a]) (rest := [.int a, .ref (C nw 0)]) (kc' := 1) (ks' := 6) dX8_rise_17 rfl (c_X3_speedIn hC a) rfl kX3_speedIn lX8_148 hC.c2 rfl rfl rfl ⟨by decide, by decide⟩ (Nat.le_of_ble_eq_true rfl) rfl rfl (by decide) (by decide) ?_
  refine zv_callVP (n := 23) (As := [.int a, .int (fSpd (S nw) a)]) (rest := []) (kc' := 1) (ks' := 6) dX8_rise_20 rfl (c_X1_riseAt hC hO a (hO.spd a).1) rfl kX1_riseAt lX8_174 hC.c0 rfl rfl rfl ⟨by decide, by decide⟩ (Nat.le_of_ble_eq_true rfl) rfl rfl (by decide) (by decide) ?_
  refine zv_fret dX8_rise_23 rfl (by decide) (by decide) ?_
  exact zPi

set_option maxRecDepth 100000 in
set_option maxHeartbeats 4000000 in
theorem c_X8_rise_0 {σ : zSg} {M : zM} {Z : Nat → Prop} {b : Nat → Nat} {C : Nat → Nat → Nat} {S : Nat → zS} {nw un : Nat} {hs ea fa : Int32} {t : Nat → Nat} {n : Nat} {u : Nat → Nat} {k : Nat} (hP : zPl M Z b C S nw un hs ea fa t n u k) {a : Int32} (ha : fBt a 0 3 = false)  : zCon μX8_rise (5, 1, 6) σ [.ref (b 0), .int a] M (zT9 "java/lang/IndexOutOfBoundsException" M) := by
  have hnw : nw < 10 := hP.2.1.1
  have hC := hP.1.cen (i := nw) (by omega)
  have hO := hP.1.ok (i := nw) (by omega)
  refine zCon.of (plainFor_of_name (by decide)) rfl (Nat.le_of_ble_eq_true rfl) ?_
  change zV _ _ _ _ _ 0 0 0 [(0, .ref (b 0)), (1, .int a)] []
  refine zv_iload_n (n := 1) dX8_rise_0 rfl rfl ?_
  refine zv_callST (n := 4) (As := [.int a]) (rest := []) (kc' := 1) (ks' := 6) dX8_rise_1 rfl (c_X8_reqA_0 ha) rfl kX8_requireAisle lX8_118 rfl rfl ⟨by decide, by decide⟩ (Nat.le_of_ble_eq_true rfl) rfl rfl (by decide) (by decide) ?_
  exact zvx_out rfl (by decide) (by decide) ⟨rfl, rfl⟩

set_option maxRecDepth 100000 in
set_option maxHeartbeats 4000000 in
theorem c_X8_stored_1 {σ : zSg} {M : zM} {Z : Nat → Prop} {b : Nat → Nat} {C : Nat → Nat → Nat} {S : Nat → zS} {nw un : Nat} {hs ea fa : Int32} {t : Nat → Nat} {n : Nat} {u : Nat → Nat} {k : Nat} (hP : zPl M Z b C S nw un hs ea fa t n u k) {a : Int32} (ha : fBt a 0 3 = true)  : zCon μX8_storedHeat (5, 1, 6) σ [.ref (b 0), .int a] M (zP (some (.int (fSto (S nw) a))) M) := by
  have hnw : nw < 10 := hP.2.1.1
  have hC := hP.1.cen (i := nw) (by omega)
  have hO := hP.1.ok (i := nw) (by omega)
  refine zCon.of (plainFor_of_name (by decide)) rfl (Nat.le_of_ble_eq_true rfl) ?_
  change zV _ _ _ _ _ 0 0 0 [(0, .ref (b 0)), (1, .int a)] []
  refine zv_iload_n (n := 1) dX8_storedHeat_0 rfl rfl ?_
  refine zv_callSP0 (n := 4) (As := [.int a]) (rest := []) (kc' := 1) (ks' := 6) dX8_storedHeat_1 rfl (c_X8_reqA_1 ha) rfl kX8_requireAisle lX8_118 rfl rfl ⟨by decide, by decide⟩ (Nat.le_of_ble_eq_true rfl) rfl rfl (by decide) (by decide) ?_
  refine zv_aload_n (n := 5) dX8_storedHeat_4 rfl rfl ?_
  refine zv_callVP (n := 8) (As := []) (rest := []) (kc' := 1) (ks' := 6) dX8_storedHeat_5 rfl (c_X8_now hP) rfl kX8_now lX8_87 hP.2.2.1 rfl rfl rfl ⟨by decide, by decide⟩ (Nat.le_of_ble_eq_true rfl) rfl rfl (by decide) (by decide) ?_
  refine zv_iload_n (n := 9) dX8_storedHeat_8 rfl rfl ?_
  refine zv_callVP (n := 12) (As := [.int a]) (rest := []) (kc' := 1) (ks' := 6) dX8_storedHeat_9 rfl (c_X1_storedIn hC a) rfl kX1_storedIn lX8_205 hC.c0 rfl rfl rfl ⟨by decide, by decide⟩ (Nat.le_of_ble_eq_true rfl) rfl rfl (by decide) (by decide) ?_
  refine zv_iret dX8_storedHeat_12 rfl (by decide) (by decide) ?_
  exact zPi

set_option maxRecDepth 100000 in
set_option maxHeartbeats 4000000 in
theorem c_X8_stored_0 {σ : zSg} {M : zM} {Z : Nat → Prop} {b : Nat → Nat} {C : Nat → Nat → Nat} {S : Nat → zS} {nw un : Nat} {hs ea fa : Int32} {t : Nat → Nat} {n : Nat} {u : Nat → Nat} {k : Nat} (hP : zPl M Z b C S nw un hs ea fa t n u k) {a : Int32} (ha : fBt a 0 3 = false)  : zCon μX8_storedHeat (5, 1, 6) σ [.ref (b 0), .int a] M (zT9 "java/lang/IndexOutOfBoundsException" M) := by
  have hnw : nw < 10 := hP.2.1.1
  have hC := hP.1.cen (i := nw) (by omega)
  have hO := hP.1.ok (i := nw) (by omega)
  refine zCon.of (plainFor_of_name (by decide)) rfl (Nat.le_of_ble_eq_true rfl) ?_
  change zV _ _ _ _ _ 0 0 0 [(0, .ref (b 0)), (1, .int a)] []
  refine zv_iload_n (n := 1) dX8_storedHeat_0 rfl rfl ?_
  refine zv_callST (n := 4) (As := [.int a]) (rest := []) (kc' := 1) (ks' := 6) dX8_storedHeat_1 rfl (c_X8_reqA_0 ha) rfl kX8_requireAisle lX8_118 rfl rfl ⟨by decide, by decide⟩ (Nat.le_of_ble_eq_true rfl) rfl rfl (by decide) (by decide) ?_
  exact zvx_out rfl (by decide) (by decide) ⟨rfl, rfl⟩

set_option maxRecDepth 100000 in
set_option maxHeartbeats 4000000 in
theorem c_X8_heat_0 {σ : zSg} {M : zM} {Z : Nat → Prop} {b : Nat → Nat} {C : Nat → Nat → Nat} {S : Nat → zS} {nw un : Nat} {hs ea fa : Int32} {t : Nat → Nat} {n : Nat} {u : Nat → Nat} {k : Nat} (hP : zPl M Z b C S nw un hs ea fa t n u k) {a : Int32} (ha : fBt a 0 3 = false)  : zCon μX8_heat (5, 1, 6) σ [.ref (b 0), .int a] M (zT9 "java/lang/IndexOutOfBoundsException" M) := by
  have hnw : nw < 10 := hP.2.1.1
  have hC := hP.1.cen (i := nw) (by omega)
  have hO := hP.1.ok (i := nw) (by omega)
  refine zCon.of (plainFor_of_name (by decide)) rfl (Nat.le_of_ble_eq_true rfl) ?_
  change zV _ _ _ _ _ 0 0 0 [(0, .ref (b 0)), (1, .int a)] []
  refine zv_iload_n (n := 1) dX8_heat_0 rfl rfl ?_
  refine zv_callST (n := 4) (As := [.int a]) (rest := []) (kc' := 1) (ks' := 6) dX8_heat_1 rfl (c_X8_reqA_0 ha) rfl kX8_requireAisle lX8_118 rfl rfl ⟨by decide, by decide⟩ (Nat.le_of_ble_eq_true rfl) rfl rfl (by decide) (by decide) ?_
  exact zvx_out rfl (by decide) (by decide) ⟨rfl, rfl⟩

set_option maxRecDepth 100000 in
set_option maxHeartbeats 4000000 in
theorem c_X8_fan_1 {σ : zSg} {M : zM} {Z : Nat → Prop} {b : Nat → Nat} {C : Nat → Nat → Nat} {S : Nat → zS} {nw un : Nat} {hs ea fa : Int32} {t : Nat → Nat} {n : Nat} {u : Nat → Nat} {k : Nat} (hP : zPl M Z b C S nw un hs ea fa t n u k) {a : Int32} (ha : fBt a 0 3 = true)  : zCon μX8_fanSpeed (5, 1, 6) σ [.ref (b 0), .int a] M (zP (some (.int (fSpd (S nw) a))) M) := by
  have hnw : nw < 10 := hP.2.1.1
  have hC := hP.1.cen (i := nw) (by omega)
  have hO := hP.1.ok (i := nw) (by omega)
  refine zCon.of (plainFor_of_name (by decide)) rfl (Nat.le_of_ble_eq_true rfl) ?_
  change zV _ _ _ _ _ 0 0 0 [(0, .ref (b 0)), (1, .int a)] []
  refine zv_iload_n (n := 1) dX8_fanSpeed_0 rfl rfl ?_
  refine zv_callSP0 (n := 4) (As := [.int a]) (rest := []) (kc' := 1) (ks' := 6) dX8_fanSpeed_1 rfl (c_X8_reqA_1 ha) rfl kX8_requireAisle lX8_118 rfl rfl ⟨by decide, by decide⟩ (Nat.le_of_ble_eq_true rfl) rfl rfl (by decide) (by decide) ?_
  refine zv_aload_n (n := 5) dX8_fanSpeed_4 rfl rfl ?_
  refine zv_callVP (n := 8) (As := []) (rest := []) (kc' := 1) (ks' := 6) dX8_fanSpeed_5 rfl (c_X8_now hP) rfl kX8_now lX8_87 hP.2.2.1 rfl rfl rfl ⟨by decide, by decide⟩ (Nat.le_of_ble_eq_true rfl) rfl rfl (by decide) (by decide) ?_
  refine zv_getN (n := 11) dX8_fanSpeed_8 rfl hC.c0 FX8_69 rfl ?_
  refine zv_iload_n (n := 12) dX8_fanSpeed_11 rfl rfl ?_
  refine zv_callVP (n := 15) (As := [.int a]) (rest := []) (kc' := 1) (ks' := 6) dX8_fanSpeed_12 rfl (c_X3_speedIn hC a) rfl kX3_speedIn lX8_148 hC.c2 rfl rfl rfl ⟨by decide, by decide⟩ (Nat.le_of_ble_eq_true rfl) rfl rfl (by decide) (by decide) ?_
  refine zv_iret dX8_fanSpeed_15 rfl (by decide) (by decide) ?_
  exact zPi

set_option maxRecDepth 100000 in
set_option maxHeartbeats 4000000 in
theorem c_X8_fan_0 {σ : zSg} {M : zM} {Z : Nat → Prop} {b : Nat → Nat} {C : Nat → Nat → Nat} {S : Nat → zS} {nw un : Nat} {hs ea fa : Int32} {t : Nat → Nat} {n : Nat} {u : Nat → Nat} {k : Nat} (hP : zPl M Z b C S nw un hs ea fa t n u k) {a : Int32} (ha : fBt a 0 3 = false)  : zCon μX8_fanSpeed (5, 1, 6) σ [.ref (b 0), .int a] M (zT9 "java/lang/IndexOutOfBoundsException" M) := by
  have hnw : nw < 10 := hP.2.1.1
  have hC := hP.1.cen (i := nw) (by omega)
  have hO := hP.1.ok (i := nw) (by omega)
  refine zCon.of (plainFor_of_name (by decide)) rfl (Nat.le_of_ble_eq_true rfl) ?_
  change zV _ _ _ _ _ 0 0 0 [(0, .ref (b 0)), (1, .int a)] []
  refine zv_iload_n (n := 1) dX8_fanSpeed_0 rfl rfl ?_
  refine zv_callST (n := 4) (As := [.int a]) (rest := []) (kc' := 1) (ks' := 6) dX8_fanSpeed_1 rfl (c_X8_reqA_0 ha) rfl kX8_requireAisle lX8_118 rfl rfl ⟨by decide, by decide⟩ (Nat.le_of_ble_eq_true rfl) rfl rfl (by decide) (by decide) ?_
  exact zvx_out rfl (by decide) (by decide) ⟨rfl, rfl⟩

set_option maxRecDepth 100000 in
set_option maxHeartbeats 4000000 in
theorem c_X8_curve_1 {σ : zSg} {M : zM} {Z : Nat → Prop} {b : Nat → Nat} {C : Nat → Nat → Nat} {S : Nat → zS} {nw un : Nat} {hs ea fa : Int32} {t : Nat → Nat} {n : Nat} {u : Nat → Nat} {k : Nat} (hP : zPl M Z b C S nw un hs ea fa t n u k) {v : Int32} (hv : fBt v 0 2 = true) : zCon μX8_curvePoint (5, 1, 6) σ [.ref (b 0), .int v] M (zP (some (.int (fPt (S nw) v))) M) := by
  have hnw : nw < 10 := hP.2.1.1
  have hC := hP.1.cen (i := nw) (by omega)
  have hO := hP.1.ok (i := nw) (by omega)
  refine zCon.of (plainFor_of_name (by decide)) rfl (Nat.le_of_ble_eq_true rfl) ?_
  change zV _ _ _ _ _ 0 0 0 [(0, .ref (b 0)), (1, .int v)] []
  refine zv_iload_n (n := 1) dX8_curvePoint_0 rfl rfl ?_
  refine zv_callSP (n := 4) (As := [.int v]) (rest := []) (kc' := 0) (ks' := 0) dX8_curvePoint_1 rfl (c_X8_isCurvePoint v) rfl kX8_isCurvePoint lX8_151 rfl rfl ⟨by decide, by decide⟩ (Nat.le_of_ble_eq_true rfl) rfl rfl (by decide) (by decide) ?_
  refine zv_if_ne (n := 7) (tgt := 17) dX8_curvePoint_4 (by decide) rfl (fun h4 => ?_) (fun h4 => False.elim (absurd h4 (by rw [hv]; decide)))
  refine zv_aload_n (n := 18) dX8_curvePoint_17 rfl rfl ?_
  refine zv_callVP (n := 21) (As := []) (rest := []) (kc' := 0) (ks' := 0) dX8_curvePoint_18 rfl (c_X8_now hP) rfl kX8_now lX8_87 hP.2.2.1 rfl rfl rfl ⟨by decide, by decide⟩ (Nat.le_of_ble_eq_true rfl) rfl rfl (by decide) (by decide) ?_
  refine zv_getN (n := 24) dX8_curvePoint_21 rfl hC.c0 FX8_69 rfl ?_
  refine zv_iload_n (n := 25) dX8_curvePoint_24 rfl rfl ?_
  refine zv_callVP (n := 28) (As := [.int v]) (rest := []) (kc' := 0) (ks' := 0) dX8_curvePoint_25 rfl (c_X3_pointAt hC v) rfl kX3_pointAt lX8_159 hC.c2 rfl rfl rfl ⟨by decide, by decide⟩ (Nat.le_of_ble_eq_true rfl) rfl rfl (by decide) (by decide) ?_
  refine zv_iret dX8_curvePoint_28 rfl (by decide) (by decide) ?_
  exact zPi

set_option maxRecDepth 100000 in
set_option maxHeartbeats 4000000 in
theorem c_X8_curve_0 {σ : zSg} {M : zM} {Z : Nat → Prop} {b : Nat → Nat} {C : Nat → Nat → Nat} {S : Nat → zS} {nw un : Nat} {hs ea fa : Int32} {t : Nat → Nat} {n : Nat} {u : Nat → Nat} {k : Nat} (hP : zPl M Z b C S nw un hs ea fa t n u k) {v : Int32} (hv : fBt v 0 2 = false) : zCon μX8_curvePoint (5, 1, 6) σ [.ref (b 0), .int v] M (zT9 "java/lang/IndexOutOfBoundsException" M) := by
  have hnw : nw < 10 := hP.2.1.1
  have hC := hP.1.cen (i := nw) (by omega)
  have hO := hP.1.ok (i := nw) (by omega)
  refine zCon.of (plainFor_of_name (by decide)) rfl (Nat.le_of_ble_eq_true rfl) ?_
  change zV _ _ _ _ _ 0 0 0 [(0, .ref (b 0)), (1, .int v)] []
  refine zv_iload_n (n := 1) dX8_curvePoint_0 rfl rfl ?_
  refine zv_callSP (n := 4) (As := [.int v]) (rest := []) (kc' := 0) (ks' := 0) dX8_curvePoint_1 rfl (c_X8_isCurvePoint v) rfl kX8_isCurvePoint lX8_151 rfl rfl ⟨by decide, by decide⟩ (Nat.le_of_ble_eq_true rfl) rfl rfl (by decide) (by decide) ?_
  refine zv_if_ne (n := 7) (tgt := 17) dX8_curvePoint_4 (by decide) rfl (fun h4 => False.elim (h4 (by rw [hv]; rfl))) (fun h4 => ?_)
  refine zv_throwS (j := 31) (names := ["java/lang/RuntimeException", "java/lang/Exception"]) hfit_IndexOutOfBounds.1 hfit_IndexOutOfBounds.2 eX8_154 ini_IndexOutOfBoundsException rfl rfl rfl hat_IndexOutOfBounds hgo_IndexOutOfBounds dX8_curvePoint_7 dX8_curvePoint_10 dX8_curvePoint_11 dX8_curvePoint_13 dX8_curvePoint_16 rfl (by decide) (by decide) (by decide) (by decide) ?_
  exact ⟨rfl, rfl⟩

set_option maxRecDepth 100000 in
set_option maxHeartbeats 4000000 in
theorem c_X8_needed_1 {σ : zSg} {M : zM} {Z : Nat → Prop} {b : Nat → Nat} {C : Nat → Nat → Nat} {S : Nat → zS} {nw un : Nat} {hs ea fa : Int32} {t : Nat → Nat} {n : Nat} {u : Nat → Nat} {k : Nat} (hP : zPl M Z b C S nw un hs ea fa t n u k) {a : Int32} (ha : fBt a 0 3 = true) (hf : ¬ (fLst (S nw) a) = -1) : zCon μX8_neededSpeed (6, 2, 12) σ [.ref (b 0), .int a] M (zP (some (.int (fLst (S nw) a))) M) := by
  have hnw : nw < 10 := hP.2.1.1
  have hC := hP.1.cen (i := nw) (by omega)
  have hO := hP.1.ok (i := nw) (by omega)
  refine zCon.of (plainFor_of_name (by decide)) rfl (Nat.le_of_ble_eq_true rfl) ?_
  change zV _ _ _ _ _ 0 0 0 [(0, .ref (b 0)), (1, .int a)] []
  refine zv_iload_n (n := 1) dX8_neededSpeed_0 rfl rfl ?_
  refine zv_callSP0 (n := 4) (As := [.int a]) (rest := []) (kc' := 1) (ks' := 6) dX8_neededSpeed_1 rfl (c_X8_reqA_1 ha) rfl kX8_requireAisle lX8_118 rfl rfl ⟨by decide, by decide⟩ (Nat.le_of_ble_eq_true rfl) rfl rfl (by decide) (by decide) ?_
  refine zv_aload_n (n := 5) dX8_neededSpeed_4 rfl rfl ?_
  refine zv_callVP (n := 8) (As := []) (rest := []) (kc' := 1) (ks' := 6) dX8_neededSpeed_5 rfl (c_X8_now hP) rfl kX8_now lX8_87 hP.2.2.1 rfl rfl rfl ⟨by decide, by decide⟩ (Nat.le_of_ble_eq_true rfl) rfl rfl (by decide) (by decide) ?_
  refine zv_iload_n (n := 9) dX8_neededSpeed_8 rfl rfl ?_
  refine zv_callVP (n := 12) (As := [.int a]) (rest := []) (kc' := 1) (ks' := 6) dX8_neededSpeed_9 rfl (c_X1_lowestSpeedByTrying hC hO a) rfl kX1_lowestSpeedByTrying lX8_189 hC.c0 rfl rfl rfl ⟨by decide, by decide⟩ (Nat.le_of_ble_eq_true rfl) rfl rfl (by decide) (by decide) ?_
  refine zv_callSP (n := 15) (As := [.int (fLst (S nw) a)]) (rest := []) (kc' := 2) (ks' := 12) dX8_neededSpeed_12 rfl (c_X8_found_1 hf) rfl kX8_found lX8_136 rfl rfl ⟨by decide, by decide⟩ (Nat.le_of_ble_eq_true rfl) rfl rfl (by decide) (by decide) ?_
  refine zv_iret dX8_neededSpeed_15 rfl (by decide) (by decide) ?_
  exact zPi

set_option maxRecDepth 100000 in
set_option maxHeartbeats 4000000 in
theorem c_X8_needed_2 {σ : zSg} {M : zM} {Z : Nat → Prop} {b : Nat → Nat} {C : Nat → Nat → Nat} {S : Nat → zS} {nw un : Nat} {hs ea fa : Int32} {t : Nat → Nat} {n : Nat} {u : Nat → Nat} {k : Nat} (hP : zPl M Z b C S nw un hs ea fa t n u k) {a : Int32} (ha : fBt a 0 3 = true) (hf : (fLst (S nw) a) = -1) : zCon μX8_neededSpeed (6, 2, 12) σ [.ref (b 0), .int a] M (zT9 "java/util/NoSuchElementException" M) := by
  have hnw : nw < 10 := hP.2.1.1
  have hC := hP.1.cen (i := nw) (by omega)
  have hO := hP.1.ok (i := nw) (by omega)
  refine zCon.of (plainFor_of_name (by decide)) rfl (Nat.le_of_ble_eq_true rfl) ?_
  change zV _ _ _ _ _ 0 0 0 [(0, .ref (b 0)), (1, .int a)] []
  refine zv_iload_n (n := 1) dX8_neededSpeed_0 rfl rfl ?_
  refine zv_callSP0 (n := 4) (As := [.int a]) (rest := []) (kc' := 1) (ks' := 6) dX8_neededSpeed_1 rfl (c_X8_reqA_1 ha) rfl kX8_requireAisle lX8_118 rfl rfl ⟨by decide, by decide⟩ (Nat.le_of_ble_eq_true rfl) rfl rfl (by decide) (by decide) ?_
  refine zv_aload_n (n := 5) dX8_neededSpeed_4 rfl rfl ?_
  refine zv_callVP (n := 8) (As := []) (rest := []) (kc' := 1) (ks' := 6) dX8_neededSpeed_5 rfl (c_X8_now hP) rfl kX8_now lX8_87 hP.2.2.1 rfl rfl rfl ⟨by decide, by decide⟩ (Nat.le_of_ble_eq_true rfl) rfl rfl (by decide) (by decide) ?_
  refine zv_iload_n (n := 9) dX8_neededSpeed_8 rfl rfl ?_
  refine zv_callVP (n := 12) (As := [.int a]) (rest := []) (kc' := 1) (ks' := 6) dX8_neededSpeed_9 rfl (c_X1_lowestSpeedByTrying hC hO a) rfl kX1_lowestSpeedByTrying lX8_189 hC.c0 rfl rfl rfl ⟨by decide, by decide⟩ (Nat.le_of_ble_eq_true rfl) rfl rfl (by decide) (by decide) ?_
  rw [hf]
  refine zv_callST (n := 15) (As := [.int (-1)]) (rest := []) (kc' := 2) (ks' := 12) dX8_neededSpeed_12 rfl c_X8_found_0 rfl kX8_found lX8_136 rfl rfl ⟨by decide, by decide⟩ (Nat.le_of_ble_eq_true rfl) rfl rfl (by decide) (by decide) ?_
  exact zvx_out rfl (by decide) (by decide) ⟨rfl, rfl⟩

set_option maxRecDepth 100000 in
set_option maxHeartbeats 4000000 in
theorem c_X8_needed_0 {σ : zSg} {M : zM} {Z : Nat → Prop} {b : Nat → Nat} {C : Nat → Nat → Nat} {S : Nat → zS} {nw un : Nat} {hs ea fa : Int32} {t : Nat → Nat} {n : Nat} {u : Nat → Nat} {k : Nat} (hP : zPl M Z b C S nw un hs ea fa t n u k) {a : Int32} (ha : fBt a 0 3 = false)  : zCon μX8_neededSpeed (6, 2, 12) σ [.ref (b 0), .int a] M (zT9 "java/lang/IndexOutOfBoundsException" M) := by
  have hnw : nw < 10 := hP.2.1.1
  have hC := hP.1.cen (i := nw) (by omega)
  have hO := hP.1.ok (i := nw) (by omega)
  refine zCon.of (plainFor_of_name (by decide)) rfl (Nat.le_of_ble_eq_true rfl) ?_
  change zV _ _ _ _ _ 0 0 0 [(0, .ref (b 0)), (1, .int a)] []
  refine zv_iload_n (n := 1) dX8_neededSpeed_0 rfl rfl ?_
  refine zv_callST (n := 4) (As := [.int a]) (rest := []) (kc' := 1) (ks' := 6) dX8_neededSpeed_1 rfl (c_X8_reqA_0 ha) rfl kX8_requireAisle lX8_118 rfl rfl ⟨by decide, by decide⟩ (Nat.le_of_ble_eq_true rfl) rfl rfl (by decide) (by decide) ?_
  exact zvx_out rfl (by decide) (by decide) ⟨rfl, rfl⟩

set_option maxRecDepth 100000 in
set_option maxHeartbeats 4000000 in
theorem c_X8_neededS_0 {σ : zSg} {M : zM} {Z : Nat → Prop} {b : Nat → Nat} {C : Nat → Nat → Nat} {S : Nat → zS} {nw un : Nat} {hs ea fa : Int32} {t : Nat → Nat} {n : Nat} {u : Nat → Nat} {k : Nat} (hP : zPl M Z b C S nw un hs ea fa t n u k) {a : Int32} (ha : fBt a 0 3 = false)  : zCon μX8_neededSpeedBySearch (6, 2, 12) σ [.ref (b 0), .int a] M (zT9 "java/lang/IndexOutOfBoundsException" M) := by
  have hnw : nw < 10 := hP.2.1.1
  have hC := hP.1.cen (i := nw) (by omega)
  have hO := hP.1.ok (i := nw) (by omega)
  refine zCon.of (plainFor_of_name (by decide)) rfl (Nat.le_of_ble_eq_true rfl) ?_
  change zV _ _ _ _ _ 0 0 0 [(0, .ref (b 0)), (1, .int a)] []
  refine zv_iload_n (n := 1) dX8_neededSpeedBySearch_0 rfl rfl ?_
  refine zv_callST (n := 4) (As := [.int a]) (rest := []) (kc' := 1) (ks' := 6) dX8_neededSpeedBySearch_1 rfl (c_X8_reqA_0 ha) rfl kX8_requireAisle lX8_118 rfl rfl ⟨by decide, by decide⟩ (Nat.le_of_ble_eq_true rfl) rfl rfl (by decide) (by decide) ?_
  exact zvx_out rfl (by decide) (by decide) ⟨rfl, rfl⟩

set_option maxRecDepth 100000 in
set_option maxHeartbeats 4000000 in
theorem c_X8_byHeat_1 {σ : zSg} {M : zM} {Z : Nat → Prop} {b : Nat → Nat} {C : Nat → Nat → Nat} {S : Nat → zS} {nw un : Nat} {hs ea fa : Int32} {t : Nat → Nat} {n : Nat} {u : Nat → Nat} {k : Nat} (hP : zPl M Z b C S nw un hs ea fa t n u k) {r : Int32} (hf : ¬ (fAiR (S nw) r) = -1) : zCon μX8_aisleByHeat (5, 1, 6) σ [.ref (b 0), .int r] M (zP (some (.int (fAiR (S nw) r))) M) := by
  have hnw : nw < 10 := hP.2.1.1
  have hC := hP.1.cen (i := nw) (by omega)
  have hO := hP.1.ok (i := nw) (by omega)
  refine zCon.of (plainFor_of_name (by decide)) rfl (Nat.le_of_ble_eq_true rfl) ?_
  change zV _ _ _ _ _ 0 0 0 [(0, .ref (b 0)), (1, .int r)] []
  refine zv_aload_n (n := 1) dX8_aisleByHeat_0 rfl rfl ?_
  refine zv_callVP (n := 4) (As := []) (rest := []) (kc' := 0) (ks' := 0) dX8_aisleByHeat_1 rfl (c_X8_now hP) rfl kX8_now lX8_87 hP.2.2.1 rfl rfl rfl ⟨by decide, by decide⟩ (Nat.le_of_ble_eq_true rfl) rfl rfl (by decide) (by decide) ?_
  refine zv_iload_n (n := 5) dX8_aisleByHeat_4 rfl rfl ?_
  refine zv_callVP (n := 8) (As := [.int r]) (rest := []) (kc' := 0) (ks' := 0) dX8_aisleByHeat_5 rfl (c_X1_aisleAtRank hC hO.1 r) rfl kX1_aisleAtRank lX8_202 hC.c0 rfl rfl rfl ⟨by decide, by decide⟩ (Nat.le_of_ble_eq_true rfl) rfl rfl (by decide) (by decide) ?_
  refine zv_callSP (n := 11) (As := [.int (fAiR (S nw) r)]) (rest := []) (kc' := 1) (ks' := 6) dX8_aisleByHeat_8 rfl (c_X8_found_1 hf) rfl kX8_found lX8_136 rfl rfl ⟨by decide, by decide⟩ (Nat.le_of_ble_eq_true rfl) rfl rfl (by decide) (by decide) ?_
  refine zv_iret dX8_aisleByHeat_11 rfl (by decide) (by decide) ?_
  exact zPi

set_option maxRecDepth 100000 in
set_option maxHeartbeats 4000000 in
theorem c_X8_byHeat_0 {σ : zSg} {M : zM} {Z : Nat → Prop} {b : Nat → Nat} {C : Nat → Nat → Nat} {S : Nat → zS} {nw un : Nat} {hs ea fa : Int32} {t : Nat → Nat} {n : Nat} {u : Nat → Nat} {k : Nat} (hP : zPl M Z b C S nw un hs ea fa t n u k) {r : Int32} (hf : (fAiR (S nw) r) = -1) : zCon μX8_aisleByHeat (5, 1, 6) σ [.ref (b 0), .int r] M (zT9 "java/util/NoSuchElementException" M) := by
  have hnw : nw < 10 := hP.2.1.1
  have hC := hP.1.cen (i := nw) (by omega)
  have hO := hP.1.ok (i := nw) (by omega)
  refine zCon.of (plainFor_of_name (by decide)) rfl (Nat.le_of_ble_eq_true rfl) ?_
  change zV _ _ _ _ _ 0 0 0 [(0, .ref (b 0)), (1, .int r)] []
  refine zv_aload_n (n := 1) dX8_aisleByHeat_0 rfl rfl ?_
  refine zv_callVP (n := 4) (As := []) (rest := []) (kc' := 0) (ks' := 0) dX8_aisleByHeat_1 rfl (c_X8_now hP) rfl kX8_now lX8_87 hP.2.2.1 rfl rfl rfl ⟨by decide, by decide⟩ (Nat.le_of_ble_eq_true rfl) rfl rfl (by decide) (by decide) ?_
  refine zv_iload_n (n := 5) dX8_aisleByHeat_4 rfl rfl ?_
  refine zv_callVP (n := 8) (As := [.int r]) (rest := []) (kc' := 0) (ks' := 0) dX8_aisleByHeat_5 rfl (c_X1_aisleAtRank hC hO.1 r) rfl kX1_aisleAtRank lX8_202 hC.c0 rfl rfl rfl ⟨by decide, by decide⟩ (Nat.le_of_ble_eq_true rfl) rfl rfl (by decide) (by decide) ?_
  rw [hf]
  refine zv_callST (n := 11) (As := [.int (-1)]) (rest := []) (kc' := 1) (ks' := 6) dX8_aisleByHeat_8 rfl c_X8_found_0 rfl kX8_found lX8_136 rfl rfl ⟨by decide, by decide⟩ (Nat.le_of_ble_eq_true rfl) rfl rfl (by decide) (by decide) ?_
  exact zvx_out rfl (by decide) (by decide) ⟨rfl, rfl⟩

/-- a query that writes only into the present centre's room for the ranking -/
def zQm (M : zM) (Z : Nat → Prop) (b : Nat → Nat) (C : Nat → Nat → Nat) (S : Nat → zS) (nw un : Nat) (hs ea fa : Int32) (t : Nat → Nat) (n : Nat) (u : Nat → Nat) (k : Nat) (o9 : zO) : zO → zM → Prop := fun o M' => o = o9 ∧ zPl M' Z b C S nw un hs ea fa t n u k ∧ zKe M M' Z
theorem va_up_id {α : Type} (f : Nat → α) (k : Nat) : va_up f k (f k) = f := by
  funext j
  by_cases h : j = k
  · subst h; rw [va_up_self]
  · rw [va_up_ne _ _ h]

set_option maxRecDepth 100000 in
set_option maxHeartbeats 4000000 in
theorem c_X8_byTemp_1 {σ : zSg} {M : zM} {Z : Nat → Prop} {b : Nat → Nat} {C : Nat → Nat → Nat} {S : Nat → zS} {nw un : Nat} {hs ea fa : Int32} {t : Nat → Nat} {n : Nat} {u : Nat → Nat} {k : Nat} (hP : zPl M Z b C S nw un hs ea fa t n u k) {r : Int32} (hf : ¬ (fRkR (S nw) r) = -1) : zCon μX8_rackByTemperature (7, 1, 6) σ [.ref (b 0), .int r] M (zQm M Z b C S nw un hs ea fa t n u k (.inl (some (.int (fRkR (S nw) r))))) := by
  have hnw : nw < 10 := hP.2.1.1
  have hC := hP.1.cen (i := nw) (by omega)
  have hO := hP.1.ok (i := nw) (by omega)
  refine zCon.of (plainFor_of_name (by decide)) rfl (Nat.le_of_ble_eq_true rfl) ?_
  change zV _ _ _ _ _ 0 0 0 [(0, .ref (b 0)), (1, .int r)] []
  refine zv_aload_n (n := 1) dX8_rackByTemperature_0 rfl rfl ?_
  refine zv_callVP (n := 4) (As := []) (rest := []) (kc' := 0) (ks' := 0) dX8_rackByTemperature_1 rfl (c_X8_now hP) rfl kX8_now lX8_87 hP.2.2.1 rfl rfl rfl ⟨by decide, by decide⟩ (Nat.le_of_ble_eq_true rfl) rfl rfl (by decide) (by decide) ?_
  refine zv_iload_n (n := 5) dX8_rackByTemperature_4 rfl rfl ?_
  refine zv_callVF (n := 8) (As := [.int r]) (rest := []) (kc' := 0) (ks' := 0) dX8_rackByTemperature_5 rfl (c_X1_rackAtRank hC hO r) rfl kX1_rackAtRank lX8_199 hC.c0 rfl rfl rfl ⟨by decide, by decide⟩ (Nat.le_of_ble_eq_true rfl) rfl rfl (by decide) (by decide) (fun M1 hq => ?_)
  obtain ⟨hP1, hz1⟩ := hP.cen (by omega) hq.1 hO hq.2
  rw [va_up_id] at hP1
  refine zv_callSP (n := 11) (As := [.int (fRkR (S nw) r)]) (rest := []) (kc' := 1) (ks' := 6) dX8_rackByTemperature_8 rfl (c_X8_found_1 hf) rfl kX8_found lX8_136 rfl rfl ⟨by decide, by decide⟩ (Nat.le_of_ble_eq_true rfl) rfl rfl (by decide) (by decide) ?_
  refine zv_iret dX8_rackByTemperature_11 rfl (by decide) (by decide) ?_
  exact ⟨rfl, hP1, hz1⟩

set_option maxRecDepth 100000 in
set_option maxHeartbeats 4000000 in
theorem c_X8_byTemp_0 {σ : zSg} {M : zM} {Z : Nat → Prop} {b : Nat → Nat} {C : Nat → Nat → Nat} {S : Nat → zS} {nw un : Nat} {hs ea fa : Int32} {t : Nat → Nat} {n : Nat} {u : Nat → Nat} {k : Nat} (hP : zPl M Z b C S nw un hs ea fa t n u k) {r : Int32} (hf : (fRkR (S nw) r) = -1) : zCon μX8_rackByTemperature (7, 1, 6) σ [.ref (b 0), .int r] M (zQm M Z b C S nw un hs ea fa t n u k (.inr "java/util/NoSuchElementException")) := by
  have hnw : nw < 10 := hP.2.1.1
  have hC := hP.1.cen (i := nw) (by omega)
  have hO := hP.1.ok (i := nw) (by omega)
  refine zCon.of (plainFor_of_name (by decide)) rfl (Nat.le_of_ble_eq_true rfl) ?_
  change zV _ _ _ _ _ 0 0 0 [(0, .ref (b 0)), (1, .int r)] []
  refine zv_aload_n (n := 1) dX8_rackByTemperature_0 rfl rfl ?_
  refine zv_callVP (n := 4) (As := []) (rest := []) (kc' := 0) (ks' := 0) dX8_rackByTemperature_1 rfl (c_X8_now hP) rfl kX8_now lX8_87 hP.2.2.1 rfl rfl rfl ⟨by decide, by decide⟩ (Nat.le_of_ble_eq_true rfl) rfl rfl (by decide) (by decide) ?_
  refine zv_iload_n (n := 5) dX8_rackByTemperature_4 rfl rfl ?_
  refine zv_callVF (n := 8) (As := [.int r]) (rest := []) (kc' := 0) (ks' := 0) dX8_rackByTemperature_5 rfl (c_X1_rackAtRank hC hO r) rfl kX1_rackAtRank lX8_199 hC.c0 rfl rfl rfl ⟨by decide, by decide⟩ (Nat.le_of_ble_eq_true rfl) rfl rfl (by decide) (by decide) (fun M1 hq => ?_)
  obtain ⟨hP1, hz1⟩ := hP.cen (by omega) hq.1 hO hq.2
  rw [va_up_id] at hP1
  rw [hf]
  refine zv_callST (n := 11) (As := [.int (-1)]) (rest := []) (kc' := 1) (ks' := 6) dX8_rackByTemperature_8 rfl c_X8_found_0 rfl kX8_found lX8_136 rfl rfl ⟨by decide, by decide⟩ (Nat.le_of_ble_eq_true rfl) rfl rfl (by decide) (by decide) ?_
  exact zvx_out rfl (by decide) (by decide) ⟨rfl, hP1, hz1⟩

set_option maxRecDepth 100000 in
set_option maxHeartbeats 4000000 in
theorem c_X8_aisleOf_1 {σ : zSg} {M : zM} {Z : Nat → Prop} {b : Nat → Nat} {C : Nat → Nat → Nat} {S : Nat → zS} {nw un : Nat} {hs ea fa : Int32} {t : Nat → Nat} {n : Nat} {u : Nat → Nat} {k : Nat} (hP : zPl M Z b C S nw un hs ea fa t n u k) {j : Nat} (hj : j < fCnt (S nw))  : zCon μX8_aisleOf (6, 1, 6) σ [.ref (b 0), .int (nI j)] M (zP (some (.int (S nw (1 + 3 * j)))) M) := by
  have hnw : nw < 10 := hP.2.1.1
  have hC := hP.1.cen (i := nw) (by omega)
  have hO := hP.1.ok (i := nw) (by omega)
  refine zCon.of (plainFor_of_name (by decide)) rfl (Nat.le_of_ble_eq_true rfl) ?_
  change zV _ _ _ _ _ 0 0 0 [(0, .ref (b 0)), (1, .int (nI j))] []
  refine zv_aload_n (n := 1) dX8_aisleOf_0 rfl rfl ?_
  refine zv_iload_n (n := 2) dX8_aisleOf_1 rfl rfl ?_
  refine zv_callVP (n := 5) (As := [.int (nI j)]) (rest := []) (kc' := 1) (ks' := 6) dX8_aisleOf_2 rfl (c_X8_exR_1 hP hj) rfl kX8_existingRack lX8_103 hP.2.2.1 rfl rfl rfl ⟨by decide, by decide⟩ (Nat.le_of_ble_eq_true rfl) rfl rfl (by decide) (by decide) ?_
  refine zv_getN (n := 8) dX8_aisleOf_5 rfl (hC.rk (i := j) (by have := hO.1.2; omega)) FX8_107 rfl ?_
  refine zv_iret dX8_aisleOf_8 rfl (by decide) (by decide) ?_
  exact zPi

set_option maxRecDepth 100000 in
set_option maxHeartbeats 4000000 in
theorem c_X8_aisleOf_0 {σ : zSg} {M : zM} {Z : Nat → Prop} {b : Nat → Nat} {C : Nat → Nat → Nat} {S : Nat → zS} {nw un : Nat} {hs ea fa : Int32} {t : Nat → Nat} {n : Nat} {u : Nat → Nat} {k : Nat} (hP : zPl M Z b C S nw un hs ea fa t n u k) {x : Int32} (hx : fBad (S nw) x)  : zCon μX8_aisleOf (6, 1, 6) σ [.ref (b 0), .int x] M (zT9 "java/lang/IndexOutOfBoundsException" M) := by
  have hnw : nw < 10 := hP.2.1.1
  have hC := hP.1.cen (i := nw) (by omega)
  have hO := hP.1.ok (i := nw) (by omega)
  refine zCon.of (plainFor_of_name (by decide)) rfl (Nat.le_of_ble_eq_true rfl) ?_
  change zV _ _ _ _ _ 0 0 0 [(0, .ref (b 0)), (1, .int x)] []
  refine zv_aload_n (n := 1) dX8_aisleOf_0 rfl rfl ?_
  refine zv_iload_n (n := 2) dX8_aisleOf_1 rfl rfl ?_
  refine zv_callVT (n := 5) (As := [.int x]) (rest := []) (kc' := 1) (ks' := 6) dX8_aisleOf_2 rfl (c_X8_exR_0 hP hx) rfl kX8_existingRack lX8_103 hP.2.2.1 rfl rfl rfl ⟨by decide, by decide⟩ (Nat.le_of_ble_eq_true rfl) rfl rfl (by decide) (by decide) ?_
  exact zvx_out rfl (by decide) (by decide) ⟨rfl, rfl⟩

set_option maxRecDepth 100000 in
set_option maxHeartbeats 4000000 in
theorem c_X8_placeOf_1 {σ : zSg} {M : zM} {Z : Nat → Prop} {b : Nat → Nat} {C : Nat → Nat → Nat} {S : Nat → zS} {nw un : Nat} {hs ea fa : Int32} {t : Nat → Nat} {n : Nat} {u : Nat → Nat} {k : Nat} (hP : zPl M Z b C S nw un hs ea fa t n u k) {j : Nat} (hj : j < fCnt (S nw))  : zCon μX8_placeOf (6, 1, 6) σ [.ref (b 0), .int (nI j)] M (zP (some (.int (S nw (2 + 3 * j)))) M) := by
  have hnw : nw < 10 := hP.2.1.1
  have hC := hP.1.cen (i := nw) (by omega)
  have hO := hP.1.ok (i := nw) (by omega)
  refine zCon.of (plainFor_of_name (by decide)) rfl (Nat.le_of_ble_eq_true rfl) ?_
  change zV _ _ _ _ _ 0 0 0 [(0, .ref (b 0)), (1, .int (nI j))] []
  refine zv_aload_n (n := 1) dX8_placeOf_0 rfl rfl ?_
  refine zv_iload_n (n := 2) dX8_placeOf_1 rfl rfl ?_
  refine zv_callVP (n := 5) (As := [.int (nI j)]) (rest := []) (kc' := 1) (ks' := 6) dX8_placeOf_2 rfl (c_X8_exR_1 hP hj) rfl kX8_existingRack lX8_103 hP.2.2.1 rfl rfl rfl ⟨by decide, by decide⟩ (Nat.le_of_ble_eq_true rfl) rfl rfl (by decide) (by decide) ?_
  refine zv_getN (n := 8) dX8_placeOf_5 rfl (hC.rk (i := j) (by have := hO.1.2; omega)) FX8_112 rfl ?_
  refine zv_iret dX8_placeOf_8 rfl (by decide) (by decide) ?_
  exact zPi

set_option maxRecDepth 100000 in
set_option maxHeartbeats 4000000 in
theorem c_X8_placeOf_0 {σ : zSg} {M : zM} {Z : Nat → Prop} {b : Nat → Nat} {C : Nat → Nat → Nat} {S : Nat → zS} {nw un : Nat} {hs ea fa : Int32} {t : Nat → Nat} {n : Nat} {u : Nat → Nat} {k : Nat} (hP : zPl M Z b C S nw un hs ea fa t n u k) {x : Int32} (hx : fBad (S nw) x)  : zCon μX8_placeOf (6, 1, 6) σ [.ref (b 0), .int x] M (zT9 "java/lang/IndexOutOfBoundsException" M) := by
  have hnw : nw < 10 := hP.2.1.1
  have hC := hP.1.cen (i := nw) (by omega)
  have hO := hP.1.ok (i := nw) (by omega)
  refine zCon.of (plainFor_of_name (by decide)) rfl (Nat.le_of_ble_eq_true rfl) ?_
  change zV _ _ _ _ _ 0 0 0 [(0, .ref (b 0)), (1, .int x)] []
  refine zv_aload_n (n := 1) dX8_placeOf_0 rfl rfl ?_
  refine zv_iload_n (n := 2) dX8_placeOf_1 rfl rfl ?_
  refine zv_callVT (n := 5) (As := [.int x]) (rest := []) (kc' := 1) (ks' := 6) dX8_placeOf_2 rfl (c_X8_exR_0 hP hx) rfl kX8_existingRack lX8_103 hP.2.2.1 rfl rfl rfl ⟨by decide, by decide⟩ (Nat.le_of_ble_eq_true rfl) rfl rfl (by decide) (by decide) ?_
  exact zvx_out rfl (by decide) (by decide) ⟨rfl, rfl⟩

set_option maxRecDepth 100000 in
set_option maxHeartbeats 4000000 in
theorem c_X8_load_1 {σ : zSg} {M : zM} {Z : Nat → Prop} {b : Nat → Nat} {C : Nat → Nat → Nat} {S : Nat → zS} {nw un : Nat} {hs ea fa : Int32} {t : Nat → Nat} {n : Nat} {u : Nat → Nat} {k : Nat} (hP : zPl M Z b C S nw un hs ea fa t n u k) {j : Nat} (hj : j < fCnt (S nw))  : zCon μX8_load (6, 1, 6) σ [.ref (b 0), .int (nI j)] M (zP (some (.int (S nw (3 + 3 * j)))) M) := by
  have hnw : nw < 10 := hP.2.1.1
  have hC := hP.1.cen (i := nw) (by omega)
  have hO := hP.1.ok (i := nw) (by omega)
  refine zCon.of (plainFor_of_name (by decide)) rfl (Nat.le_of_ble_eq_true rfl) ?_
  change zV _ _ _ _ _ 0 0 0 [(0, .ref (b 0)), (1, .int (nI j))] []
  refine zv_aload_n (n := 1) dX8_load_0 rfl rfl ?_
  refine zv_iload_n (n := 2) dX8_load_1 rfl rfl ?_
  refine zv_callVP (n := 5) (As := [.int (nI j)]) (rest := []) (kc' := 1) (ks' := 6) dX8_load_2 rfl (c_X8_exR_1 hP hj) rfl kX8_existingRack lX8_103 hP.2.2.1 rfl rfl rfl ⟨by decide, by decide⟩ (Nat.le_of_ble_eq_true rfl) rfl rfl (by decide) (by decide) ?_
  refine zv_getN (n := 8) dX8_load_5 rfl (hC.rk (i := j) (by have := hO.1.2; omega)) FX8_115 rfl ?_
  refine zv_iret dX8_load_8 rfl (by decide) (by decide) ?_
  exact zPi

set_option maxRecDepth 100000 in
set_option maxHeartbeats 4000000 in
theorem c_X8_load_0 {σ : zSg} {M : zM} {Z : Nat → Prop} {b : Nat → Nat} {C : Nat → Nat → Nat} {S : Nat → zS} {nw un : Nat} {hs ea fa : Int32} {t : Nat → Nat} {n : Nat} {u : Nat → Nat} {k : Nat} (hP : zPl M Z b C S nw un hs ea fa t n u k) {x : Int32} (hx : fBad (S nw) x)  : zCon μX8_load (6, 1, 6) σ [.ref (b 0), .int x] M (zT9 "java/lang/IndexOutOfBoundsException" M) := by
  have hnw : nw < 10 := hP.2.1.1
  have hC := hP.1.cen (i := nw) (by omega)
  have hO := hP.1.ok (i := nw) (by omega)
  refine zCon.of (plainFor_of_name (by decide)) rfl (Nat.le_of_ble_eq_true rfl) ?_
  change zV _ _ _ _ _ 0 0 0 [(0, .ref (b 0)), (1, .int x)] []
  refine zv_aload_n (n := 1) dX8_load_0 rfl rfl ?_
  refine zv_iload_n (n := 2) dX8_load_1 rfl rfl ?_
  refine zv_callVT (n := 5) (As := [.int x]) (rest := []) (kc' := 1) (ks' := 6) dX8_load_2 rfl (c_X8_exR_0 hP hx) rfl kX8_existingRack lX8_103 hP.2.2.1 rfl rfl rfl ⟨by decide, by decide⟩ (Nat.le_of_ble_eq_true rfl) rfl rfl (by decide) (by decide) ?_
  exact zvx_out rfl (by decide) (by decide) ⟨rfl, rfl⟩

set_option maxRecDepth 100000 in
set_option maxHeartbeats 4000000 in
theorem c_X8_temperature_1 {σ : zSg} {M : zM} {Z : Nat → Prop} {b : Nat → Nat} {C : Nat → Nat → Nat} {S : Nat → zS} {nw un : Nat} {hs ea fa : Int32} {t : Nat → Nat} {n : Nat} {u : Nat → Nat} {k : Nat} (hP : zPl M Z b C S nw un hs ea fa t n u k) {j : Nat} (hj : j < fCnt (S nw))  : zCon μX8_temperature (6, 1, 6) σ [.ref (b 0), .int (nI j)] M (zP (some (.float (fTmp (S nw) j))) M) := by
  have hnw : nw < 10 := hP.2.1.1
  have hC := hP.1.cen (i := nw) (by omega)
  have hO := hP.1.ok (i := nw) (by omega)
  refine zCon.of (plainFor_of_name (by decide)) rfl (Nat.le_of_ble_eq_true rfl) ?_
  change zV _ _ _ _ _ 0 0 0 [(0, .ref (b 0)), (1, .int (nI j))] []
  refine zv_aload_n (n := 1) dX8_temperature_0 rfl rfl ?_
  refine zv_callVP (n := 4) (As := []) (rest := []) (kc' := 0) (ks' := 0) dX8_temperature_1 rfl (c_X8_now hP) rfl kX8_now lX8_87 hP.2.2.1 rfl rfl rfl ⟨by decide, by decide⟩ (Nat.le_of_ble_eq_true rfl) rfl rfl (by decide) (by decide) ?_
  refine zv_aload_n (n := 5) dX8_temperature_4 rfl rfl ?_
  refine zv_iload_n (n := 6) dX8_temperature_5 rfl rfl ?_
  refine zv_callVP (n := 9) (As := [.int (nI j)]) (rest := [.ref (C nw 0)]) (kc' := 1) (ks' := 6) dX8_temperature_6 rfl (c_X8_exR_1 hP hj) rfl kX8_existingRack lX8_103 hP.2.2.1 rfl rfl rfl ⟨by decide, by decide⟩ (Nat.le_of_ble_eq_true rfl) rfl rfl (by decide) (by decide) ?_
  refine zv_callVP (n := 12) (As := [.ref (C nw (8 + j))]) (rest := []) (kc' := 1) (ks' := 6) dX8_temperature_9 rfl (c_X1_temperatureOf hC hO (i := j) (by have := hO.1.2; omega)) rfl kX1_temperatureOf lX8_178 hC.c0 rfl rfl rfl ⟨by decide, by decide⟩ (Nat.le_of_ble_eq_true rfl) rfl rfl (by decide) (by decide) ?_
  refine zv_fret dX8_temperature_12 rfl (by decide) (by decide) ?_
  exact zPi

set_option maxRecDepth 100000 in
set_option maxHeartbeats 4000000 in
theorem c_X8_temperature_0 {σ : zSg} {M : zM} {Z : Nat → Prop} {b : Nat → Nat} {C : Nat → Nat → Nat} {S : Nat → zS} {nw un : Nat} {hs ea fa : Int32} {t : Nat → Nat} {n : Nat} {u : Nat → Nat} {k : Nat} (hP : zPl M Z b C S nw un hs ea fa t n u k) {x : Int32} (hx : fBad (S nw) x)  : zCon μX8_temperature (6, 2, 12) σ [.ref (b 0), .int x] M (zT9 "java/lang/IndexOutOfBoundsException" M) := by
  have hnw : nw < 10 := hP.2.1.1
  have hC := hP.1.cen (i := nw) (by omega)
  have hO := hP.1.ok (i := nw) (by omega)
  refine zCon.of (plainFor_of_name (by decide)) rfl (Nat.le_of_ble_eq_true rfl) ?_
  change zV _ _ _ _ _ 0 0 0 [(0, .ref (b 0)), (1, .int x)] []
  refine zv_aload_n (n := 1) dX8_temperature_0 rfl rfl ?_
  refine zv_callVP (n := 4) (As := []) (rest := []) (kc' := 0) (ks' := 0) dX8_temperature_1 rfl (c_X8_now hP) rfl kX8_now lX8_87 hP.2.2.1 rfl rfl rfl ⟨by decide, by decide⟩ (Nat.le_of_ble_eq_true rfl) rfl rfl (by decide) (by decide) ?_
  refine zv_aload_n (n := 5) dX8_temperature_4 rfl rfl ?_
  refine zv_iload_n (n := 6) dX8_temperature_5 rfl rfl ?_
  refine zv_callVT (n := 9) (As := [.int x]) (rest := [.ref (C nw 0)]) (kc' := 1) (ks' := 6) dX8_temperature_6 rfl (c_X8_exR_0 hP hx) rfl kX8_existingRack lX8_103 hP.2.2.1 rfl rfl rfl ⟨by decide, by decide⟩ (Nat.le_of_ble_eq_true rfl) rfl rfl (by decide) (by decide) ?_
  exact zvx_out rfl (by decide) (by decide) ⟨rfl, rfl⟩

set_option maxRecDepth 100000 in
set_option maxHeartbeats 4000000 in
theorem c_X8_isHot_0 {σ : zSg} {M : zM} {Z : Nat → Prop} {b : Nat → Nat} {C : Nat → Nat → Nat} {S : Nat → zS} {nw un : Nat} {hs ea fa : Int32} {t : Nat → Nat} {n : Nat} {u : Nat → Nat} {k : Nat} (hP : zPl M Z b C S nw un hs ea fa t n u k) {x : Int32} (hx : fBad (S nw) x)  : zCon μX8_isHot (6, 2, 12) σ [.ref (b 0), .int x] M (zT9 "java/lang/IndexOutOfBoundsException" M) := by
  have hnw : nw < 10 := hP.2.1.1
  have hC := hP.1.cen (i := nw) (by omega)
  have hO := hP.1.ok (i := nw) (by omega)
  refine zCon.of (plainFor_of_name (by decide)) rfl (Nat.le_of_ble_eq_true rfl) ?_
  change zV _ _ _ _ _ 0 0 0 [(0, .ref (b 0)), (1, .int x)] []
  refine zv_aload_n (n := 1) dX8_isHot_0 rfl rfl ?_
  refine zv_callVP (n := 4) (As := []) (rest := []) (kc' := 0) (ks' := 0) dX8_isHot_1 rfl (c_X8_now hP) rfl kX8_now lX8_87 hP.2.2.1 rfl rfl rfl ⟨by decide, by decide⟩ (Nat.le_of_ble_eq_true rfl) rfl rfl (by decide) (by decide) ?_
  refine zv_aload_n (n := 5) dX8_isHot_4 rfl rfl ?_
  refine zv_iload_n (n := 6) dX8_isHot_5 rfl rfl ?_
  refine zv_callVT (n := 9) (As := [.int x]) (rest := [.ref (C nw 0)]) (kc' := 1) (ks' := 6) dX8_isHot_6 rfl (c_X8_exR_0 hP hx) rfl kX8_existingRack lX8_103 hP.2.2.1 rfl rfl rfl ⟨by decide, by decide⟩ (Nat.le_of_ble_eq_true rfl) rfl rfl (by decide) (by decide) ?_
  exact zvx_out rfl (by decide) (by decide) ⟨rfl, rfl⟩

set_option maxRecDepth 100000 in
set_option maxHeartbeats 4000000 in
theorem c_X8_minutesUntilHot_0 {σ : zSg} {M : zM} {Z : Nat → Prop} {b : Nat → Nat} {C : Nat → Nat → Nat} {S : Nat → zS} {nw un : Nat} {hs ea fa : Int32} {t : Nat → Nat} {n : Nat} {u : Nat → Nat} {k : Nat} (hP : zPl M Z b C S nw un hs ea fa t n u k) {x : Int32} (hx : fBad (S nw) x)  : zCon μX8_minutesUntilHot (6, 2, 12) σ [.ref (b 0), .int x] M (zT9 "java/lang/IndexOutOfBoundsException" M) := by
  have hnw : nw < 10 := hP.2.1.1
  have hC := hP.1.cen (i := nw) (by omega)
  have hO := hP.1.ok (i := nw) (by omega)
  refine zCon.of (plainFor_of_name (by decide)) rfl (Nat.le_of_ble_eq_true rfl) ?_
  change zV _ _ _ _ _ 0 0 0 [(0, .ref (b 0)), (1, .int x)] []
  refine zv_aload_n (n := 1) dX8_minutesUntilHot_0 rfl rfl ?_
  refine zv_callVP (n := 4) (As := []) (rest := []) (kc' := 0) (ks' := 0) dX8_minutesUntilHot_1 rfl (c_X8_now hP) rfl kX8_now lX8_87 hP.2.2.1 rfl rfl rfl ⟨by decide, by decide⟩ (Nat.le_of_ble_eq_true rfl) rfl rfl (by decide) (by decide) ?_
  refine zv_aload_n (n := 5) dX8_minutesUntilHot_4 rfl rfl ?_
  refine zv_iload_n (n := 6) dX8_minutesUntilHot_5 rfl rfl ?_
  refine zv_callVT (n := 9) (As := [.int x]) (rest := [.ref (C nw 0)]) (kc' := 1) (ks' := 6) dX8_minutesUntilHot_6 rfl (c_X8_exR_0 hP hx) rfl kX8_existingRack lX8_103 hP.2.2.1 rfl rfl rfl ⟨by decide, by decide⟩ (Nat.le_of_ble_eq_true rfl) rfl rfl (by decide) (by decide) ?_
  exact zvx_out rfl (by decide) (by decide) ⟨rfl, rfl⟩

set_option maxRecDepth 100000 in
set_option maxHeartbeats 4000000 in
theorem c_X8_rackAt_0 {σ : zSg} {M : zM} {Z : Nat → Prop} {b : Nat → Nat} {C : Nat → Nat → Nat} {S : Nat → zS} {nw un : Nat} {hs ea fa : Int32} {t : Nat → Nat} {n : Nat} {u : Nat → Nat} {k : Nat} (hP : zPl M Z b C S nw un hs ea fa t n u k) {a : Int32} (ha : fBt a 0 3 = false) (p : Int32)  : zCon μX8_rackAt (5, 2, 12) σ [.ref (b 0), .int a, .int p] M (zT9 "java/lang/IndexOutOfBoundsException" M) := by
  have hnw : nw < 10 := hP.2.1.1
  have hC := hP.1.cen (i := nw) (by omega)
  have hO := hP.1.ok (i := nw) (by omega)
  refine zCon.of (plainFor_of_name (by decide)) rfl (Nat.le_of_ble_eq_true rfl) ?_
  change zV _ _ _ _ _ 0 0 0 [(0, .ref (b 0)), (1, .int a), (2, .int p)] []
  refine zv_iload_n (n := 1) dX8_rackAt_0 rfl rfl ?_
  refine zv_callST (n := 4) (As := [.int a]) (rest := []) (kc' := 1) (ks' := 6) dX8_rackAt_1 rfl (c_X8_reqA_0 ha) rfl kX8_requireAisle lX8_118 rfl rfl ⟨by decide, by decide⟩ (Nat.le_of_ble_eq_true rfl) rfl rfl (by decide) (by decide) ?_
  exact zvx_out rfl (by decide) (by decide) ⟨rfl, rfl⟩

set_option maxRecDepth 100000 in
set_option maxHeartbeats 4000000 in
theorem c_X8_rackAt_1 {σ : zSg} {M : zM} {Z : Nat → Prop} {b : Nat → Nat} {C : Nat → Nat → Nat} {S : Nat → zS} {nw un : Nat} {hs ea fa : Int32} {t : Nat → Nat} {n : Nat} {u : Nat → Nat} {k : Nat} (hP : zPl M Z b C S nw un hs ea fa t n u k) {a : Int32} (ha : fBt a 0 3 = true) {p : Int32} (hp : fBt p 0 5 = false)  : zCon μX8_rackAt (5, 2, 12) σ [.ref (b 0), .int a, .int p] M (zT9 "java/lang/IllegalArgumentException" M) := by
  have hnw : nw < 10 := hP.2.1.1
  have hC := hP.1.cen (i := nw) (by omega)
  have hO := hP.1.ok (i := nw) (by omega)
  refine zCon.of (plainFor_of_name (by decide)) rfl (Nat.le_of_ble_eq_true rfl) ?_
  change zV _ _ _ _ _ 0 0 0 [(0, .ref (b 0)), (1, .int a), (2, .int p)] []
  refine zv_iload_n (n := 1) dX8_rackAt_0 rfl rfl ?_
  refine zv_callSP0 (n := 4) (As := [.int a]) (rest := []) (kc' := 1) (ks' := 6) dX8_rackAt_1 rfl (c_X8_reqA_1 ha) rfl kX8_requireAisle lX8_118 rfl rfl ⟨by decide, by decide⟩ (Nat.le_of_ble_eq_true rfl) rfl rfl (by decide) (by decide) ?_
  refine zv_iload_n (n := 5) dX8_rackAt_4 rfl rfl ?_
  refine zv_callSP (n := 8) (As := [.int p]) (rest := []) (kc' := 1) (ks' := 6) dX8_rackAt_5 rfl (c_X8_isPlace p) rfl kX8_isPlace lX8_122 rfl rfl ⟨by decide, by decide⟩ (Nat.le_of_ble_eq_true rfl) rfl rfl (by decide) (by decide) ?_
  refine zv_if_ne (n := 11) (tgt := 21) dX8_rackAt_8 (by decide) rfl (fun h8 => False.elim (h8 (by rw [hp]; rfl))) (fun h8 => ?_)
  refine zv_throwS (j := 32) (names := ["java/lang/RuntimeException", "java/lang/Exception"]) hfit_IllegalArgument.1 hfit_IllegalArgument.2 eX8_126 ini_IllegalArgumentException rfl rfl rfl hat_IllegalArgument hgo_IllegalArgument dX8_rackAt_11 dX8_rackAt_14 dX8_rackAt_15 dX8_rackAt_17 dX8_rackAt_20 rfl (by decide) (by decide) (by decide) (by decide) ?_
  exact ⟨rfl, rfl⟩

set_option maxRecDepth 100000 in
set_option maxHeartbeats 4000000 in
theorem c_X8_errorPosition_1 {σ : zSg} {M : zM} {Z : Nat → Prop} {b : Nat → Nat} {C : Nat → Nat → Nat} {S : Nat → zS} {nw un : Nat} {hs ea fa : Int32} {t : Nat → Nat} {n : Nat} {u : Nat → Nat} {k : Nat} (hP : zPl M Z b C S nw un hs ea fa t n u k) (hf : ¬ ea = -1) : zCon μX8_errorPosition (5, 1, 6) σ [.ref (b 0)] M (zP (some (.int ea)) M) := by
  have hnw : nw < 10 := hP.2.1.1
  have hC := hP.1.cen (i := nw) (by omega)
  have hO := hP.1.ok (i := nw) (by omega)
  refine zCon.of (plainFor_of_name (by decide)) rfl (Nat.le_of_ble_eq_true rfl) ?_
  change zV _ _ _ _ _ 0 0 0 [(0, .ref (b 0))] []
  refine zv_aload_n (n := 1) dX8_errorPosition_0 rfl rfl ?_
  refine zv_get (n := 4) dX8_errorPosition_1 rfl hP.2.2.1 FX8_30 rfl ?_
  refine zv_callSP (n := 7) (As := [.int ea]) (rest := []) (kc' := 1) (ks' := 6) dX8_errorPosition_4 rfl (c_X8_found_1 hf) rfl kX8_found lX8_136 rfl rfl ⟨by decide, by decide⟩ (Nat.le_of_ble_eq_true rfl) rfl rfl (by decide) (by decide) ?_
  refine zv_iret dX8_errorPosition_7 rfl (by decide) (by decide) ?_
  exact zPi

set_option maxRecDepth 100000 in
set_option maxHeartbeats 4000000 in
theorem c_X8_failedCommand_1 {σ : zSg} {M : zM} {Z : Nat → Prop} {b : Nat → Nat} {C : Nat → Nat → Nat} {S : Nat → zS} {nw un : Nat} {hs ea fa : Int32} {t : Nat → Nat} {n : Nat} {u : Nat → Nat} {k : Nat} (hP : zPl M Z b C S nw un hs ea fa t n u k) (hf : ¬ fa = -1) : zCon μX8_failedCommand (5, 1, 6) σ [.ref (b 0)] M (zP (some (.int fa)) M) := by
  have hnw : nw < 10 := hP.2.1.1
  have hC := hP.1.cen (i := nw) (by omega)
  have hO := hP.1.ok (i := nw) (by omega)
  refine zCon.of (plainFor_of_name (by decide)) rfl (Nat.le_of_ble_eq_true rfl) ?_
  change zV _ _ _ _ _ 0 0 0 [(0, .ref (b 0))] []
  refine zv_aload_n (n := 1) dX8_failedCommand_0 rfl rfl ?_
  refine zv_get (n := 4) dX8_failedCommand_1 rfl hP.2.2.1 FX8_34 rfl ?_
  refine zv_callSP (n := 7) (As := [.int fa]) (rest := []) (kc' := 1) (ks' := 6) dX8_failedCommand_4 rfl (c_X8_found_1 hf) rfl kX8_found lX8_136 rfl rfl ⟨by decide, by decide⟩ (Nat.le_of_ble_eq_true rfl) rfl rfl (by decide) (by decide) ?_
  refine zv_iret dX8_failedCommand_7 rfl (by decide) (by decide) ?_
  exact zPi

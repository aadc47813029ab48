/-! The planner's helpers and changes: laid by wip/p53/m30.py. -/
/-- what a refused change throws -/
def fEx (a : Int32) : Option String := if a = -1 then some "java/lang/IndexOutOfBoundsException" else if a = -2 then some "java/lang/IllegalArgumentException" else if a = -3 then some "java/lang/IllegalStateException" else if a = -4 then some "java/lang/UnsupportedOperationException" else none
theorem fEx_none {a : Int32} (h : fEx a = none) : a.toInt < -4 ∨ -1 < a.toInt := by
  unfold fEx at h
  split at h
  · cases h
  · split at h
    · cases h
    · split at h
      · cases h
      · split at h
        · cases h
        · rename_i h1 h2 h3 h4
          have e1 : a.toInt ≠ -1 := fun e => h1 (Int32.toInt.inj e)
          have e2 : a.toInt ≠ -2 := fun e => h2 (Int32.toInt.inj e)
          have e3 : a.toInt ≠ -3 := fun e => h3 (Int32.toInt.inj e)
          have e4 : a.toInt ≠ -4 := fun e => h4 (Int32.toInt.inj e)
          omega

set_option maxRecDepth 100000 in
theorem c_X8_thr_0 {σ : zSg} {M : zM} : zCon μX8_throwIfRefused (1, 1, 6) σ [.int (-1)] M (zT9 "java/lang/IndexOutOfBoundsException" M) := by
  refine zCon.of (plainFor_of_name (by decide)) rfl (Nat.le_of_ble_eq_true rfl) ?_
  change zV _ _ _ _ _ 0 0 0 [(0, .int (-1))] []
  refine zv_iload_n (n := 1) dX8_throwIfRefused_0 rfl rfl ?_
  refine zv_switchIn (tgt := 32) (off := 31) dX8_throwIfRefused_1 (by decide) (by decide) (by decide) (by decide) ?_
  refine zv_throwSW (j := 16) (names := ["java/lang/RuntimeException", "java/lang/Exception"]) hfit_IndexOutOfBounds.1 hfit_IndexOutOfBounds.2 eX8_154 ini_IndexOutOfBoundsException rfl rfl rfl hat_IndexOutOfBounds hgo_IndexOutOfBounds dX8_throwIfRefused_32 dX8_throwIfRefused_35 dX8_throwIfRefused_36 dX8_throwIfRefused_39 dX8_throwIfRefused_42 rfl (by decide) (by decide) (by decide) (by decide) ?_
  exact ⟨rfl, rfl⟩
set_option maxRecDepth 100000 in
theorem c_X8_thr_1 {σ : zSg} {M : zM} : zCon μX8_throwIfRefused (1, 1, 6) σ [.int (-2)] M (zT9 "java/lang/IllegalArgumentException" M) := by
  refine zCon.of (plainFor_of_name (by decide)) rfl (Nat.le_of_ble_eq_true rfl) ?_
  change zV _ _ _ _ _ 0 0 0 [(0, .int (-2))] []
  refine zv_iload_n (n := 1) dX8_throwIfRefused_0 rfl rfl ?_
  refine zv_switchIn (tgt := 43) (off := 42) dX8_throwIfRefused_1 (by decide) (by decide) (by decide) (by decide) ?_
  refine zv_throwSW (j := 17) (names := ["java/lang/RuntimeException", "java/lang/Exception"]) hfit_IllegalArgument.1 hfit_IllegalArgument.2 eX8_126 ini_IllegalArgumentException rfl rfl rfl hat_IllegalArgument hgo_IllegalArgument dX8_throwIfRefused_43 dX8_throwIfRefused_46 dX8_throwIfRefused_47 dX8_throwIfRefused_50 dX8_throwIfRefused_53 rfl (by decide) (by decide) (by decide) (by decide) ?_
  exact ⟨rfl, rfl⟩
set_option maxRecDepth 100000 in
theorem c_X8_thr_2 {σ : zSg} {M : zM} : zCon μX8_throwIfRefused (1, 1, 6) σ [.int (-3)] M (zT9 "java/lang/IllegalStateException" M) := by
  refine zCon.of (plainFor_of_name (by decide)) rfl (Nat.le_of_ble_eq_true rfl) ?_
  change zV _ _ _ _ _ 0 0 0 [(0, .int (-3))] []
  refine zv_iload_n (n := 1) dX8_throwIfRefused_0 rfl rfl ?_
  refine zv_switchIn (tgt := 54) (off := 53) dX8_throwIfRefused_1 (by decide) (by decide) (by decide) (by decide) ?_
  refine zv_throwSW (j := 18) (names := ["java/lang/RuntimeException", "java/lang/Exception"]) hfit_IllegalState.1 hfit_IllegalState.2 eX8_264 ini_IllegalStateException rfl rfl rfl hat_IllegalState hgo_IllegalState dX8_throwIfRefused_54 dX8_throwIfRefused_57 dX8_throwIfRefused_58 dX8_throwIfRefused_61 dX8_throwIfRefused_64 rfl (by decide) (by decide) (by decide) (by decide) ?_
  exact ⟨rfl, rfl⟩
set_option maxRecDepth 100000 in
theorem c_X8_thr_3 {σ : zSg} {M : zM} : zCon μX8_throwIfRefused (1, 1, 6) σ [.int (-4)] M (zT9 "java/lang/UnsupportedOperationException" M) := by
  refine zCon.of (plainFor_of_name (by decide)) rfl (Nat.le_of_ble_eq_true rfl) ?_
  change zV _ _ _ _ _ 0 0 0 [(0, .int (-4))] []
  refine zv_iload_n (n := 1) dX8_throwIfRefused_0 rfl rfl ?_
  refine zv_switchIn (tgt := 65) (off := 64) dX8_throwIfRefused_1 (by decide) (by decide) (by decide) (by decide) ?_
  refine zv_throwSW (j := 19) (names := ["java/lang/RuntimeException", "java/lang/Exception"]) hfit_UnsupportedOperation.1 hfit_UnsupportedOperation.2 eX8_320 ini_UnsupportedOperationException rfl rfl rfl hat_UnsupportedOperation hgo_UnsupportedOperation dX8_throwIfRefused_65 dX8_throwIfRefused_68 dX8_throwIfRefused_69 dX8_throwIfRefused_72 dX8_throwIfRefused_75 rfl (by decide) (by decide) (by decide) (by decide) ?_
  exact ⟨rfl, rfl⟩
theorem c_X8_thr_n {σ : zSg} {M : zM} {a : Int32} (h : fEx a = none) : zCon μX8_throwIfRefused (1, 1, 6) σ [.int a] M (zP none M) := by
  refine zCon.of (plainFor_of_name (by decide)) rfl (Nat.le_of_ble_eq_true rfl) ?_
  change zV _ _ _ _ _ 0 0 0 [(0, .int a)] []
  refine zv_iload_n (n := 1) dX8_throwIfRefused_0 rfl rfl ?_
  refine zv_switchOut (tgt := 76) dX8_throwIfRefused_1 (fEx_none h) (by decide) ?_
  refine zv_vret dX8_throwIfRefused_76 rfl (by decide) (by decide) ?_
  exact zPi
theorem c_X8_thr_x {σ : zSg} {M : zM} {a : Int32} {E : String} (h : fEx a = some E) : zCon μX8_throwIfRefused (1, 1, 6) σ [.int a] M (zT9 E M) := by
  unfold fEx at h
  split at h
  · rename_i e; subst e; cases h; exact c_X8_thr_0
  · split at h
    · rename_i e; subst e; cases h; exact c_X8_thr_1
    · split at h
      · rename_i e; subst e; cases h; exact c_X8_thr_2
      · split at h
        · rename_i e; subst e; cases h; exact c_X8_thr_3
        · cases h

set_option maxRecDepth 100000 in
set_option maxHeartbeats 4000000 in
theorem c_X8_found_0 {σ : zSg} {M : zM}  : zCon μX8_found (1, 1, 6) σ [.int (-1)] M (zT9 "java/util/NoSuchElementException" M) := by
  refine zCon.of (plainFor_of_name (by decide)) rfl (Nat.le_of_ble_eq_true rfl) ?_
  change zV _ _ _ _ _ 0 0 0 [(0, .int (-1))] []
  refine zv_iload_n (n := 1) dX8_found_0 rfl rfl ?_
  refine zv_iconst (n := 2) dX8_found_1 rfl (v := (-1)) (by decide) ?_
  refine zv_icmp_ne (n := 5) (tgt := 16) dX8_found_2 (by decide) rfl (fun h2 => False.elim (h2 rfl)) (fun h2 => ?_)
  refine zv_throwSX (j := 26) (names := ["java/lang/RuntimeException", "java/lang/Exception"]) nse_0 nse_1 nse_2 nse_5 hfit_NoSuchElement.1 hfit_NoSuchElement.2 eX8_325 ini_NoSuchElementException rfl rfl rfl hat_NoSuchElement hgo_NoSuchElement dX8_found_5 dX8_found_8 dX8_found_9 dX8_found_12 dX8_found_15 rfl (by decide) (by decide) (by decide) (by decide) ?_
  exact ⟨rfl, rfl⟩

set_option maxRecDepth 100000 in
set_option maxHeartbeats 4000000 in
theorem c_X8_found_1 {σ : zSg} {M : zM} {a : Int32} (h : ¬ a = -1) : zCon μX8_found (1, 1, 6) σ [.int a] M (zP (some (.int a)) M) := by
  refine zCon.of (plainFor_of_name (by decide)) rfl (Nat.le_of_ble_eq_true rfl) ?_
  change zV _ _ _ _ _ 0 0 0 [(0, .int a)] []
  refine zv_iload_n (n := 1) dX8_found_0 rfl rfl ?_
  refine zv_iconst (n := 2) dX8_found_1 rfl (v := (-1)) (by decide) ?_
  refine zv_icmp_ne (n := 5) (tgt := 16) dX8_found_2 (by decide) rfl (fun h2 => ?_) (fun h2 => False.elim (h h2))
  refine zv_iload_n (n := 17) dX8_found_16 rfl rfl ?_
  refine zv_iret dX8_found_17 rfl (by decide) (by decide) ?_
  exact zPi

set_option maxRecDepth 100000 in
set_option maxHeartbeats 4000000 in
theorem c_X8_reqA_1 {σ : zSg} {M : zM} {a : Int32} (h : fBt a 0 3 = true) : zCon μX8_requireAisle (3, 1, 6) σ [.int a] M (zP none M) := by
  refine zCon.of (plainFor_of_name (by decide)) rfl (Nat.le_of_ble_eq_true rfl) ?_
  change zV _ _ _ _ _ 0 0 0 [(0, .int a)] []
  refine zv_iload_n (n := 1) dX8_requireAisle_0 rfl rfl ?_
  refine zv_callSP (n := 4) (As := [.int a]) (rest := []) (kc' := 0) (ks' := 0) dX8_requireAisle_1 rfl (c_X8_isAisle a) rfl kX8_isAisle lX8_330 rfl rfl ⟨by decide, by decide⟩ (Nat.le_of_ble_eq_true rfl) rfl rfl (by decide) (by decide) ?_
  refine zv_if_ne (n := 7) (tgt := 18) dX8_requireAisle_4 (by decide) rfl (fun h4 => ?_) (fun h4 => False.elim (absurd h4 (by rw [h]; decide)))
  refine zv_vret dX8_requireAisle_18 rfl (by decide) (by decide) ?_
  exact zPi

set_option maxRecDepth 100000 in
set_option maxHeartbeats 4000000 in
theorem c_X8_reqA_0 {σ : zSg} {M : zM} {a : Int32} (h : fBt a 0 3 = false) : zCon μX8_requireAisle (3, 1, 6) σ [.int a] M (zT9 "java/lang/IndexOutOfBoundsException" M) := by
  refine zCon.of (plainFor_of_name (by decide)) rfl (Nat.le_of_ble_eq_true rfl) ?_
  change zV _ _ _ _ _ 0 0 0 [(0, .int a)] []
  refine zv_iload_n (n := 1) dX8_requireAisle_0 rfl rfl ?_
  refine zv_callSP (n := 4) (As := [.int a]) (rest := []) (kc' := 0) (ks' := 0) dX8_requireAisle_1 rfl (c_X8_isAisle a) rfl kX8_isAisle lX8_330 rfl rfl ⟨by decide, by decide⟩ (Nat.le_of_ble_eq_true rfl) rfl rfl (by decide) (by decide) ?_
  refine zv_if_ne (n := 7) (tgt := 18) dX8_requireAisle_4 (by decide) rfl (fun h4 => False.elim (h4 (by rw [h]; rfl))) (fun h4 => ?_)
  refine zv_throwSW (j := 21) (names := ["java/lang/RuntimeException", "java/lang/Exception"]) hfit_IndexOutOfBounds.1 hfit_IndexOutOfBounds.2 eX8_154 ini_IndexOutOfBoundsException rfl rfl rfl hat_IndexOutOfBounds hgo_IndexOutOfBounds dX8_requireAisle_7 dX8_requireAisle_10 dX8_requireAisle_11 dX8_requireAisle_14 dX8_requireAisle_17 rfl (by decide) (by decide) (by decide) (by decide) ?_
  exact ⟨rfl, rfl⟩

theorem va_up_up {α : Type} (f : Nat → α) (k : Nat) (x y : α) : va_up (va_up f k x) k y = va_up f k y := by
  funext j
  by_cases h : j = k
  · subst h; rw [va_up_self, va_up_self]
  · rw [va_up_ne _ _ h, va_up_ne _ _ h, va_up_ne _ _ h]

set_option maxRecDepth 100000 in
set_option maxHeartbeats 4000000 in
theorem c_X8_now {σ : zSg} {M : zM} {Z : Nat → Prop} {b : Nat → Nat} {C : Nat → Nat → Nat} {S : Nat → zS} {nw un : Nat} {hs ea fa : Int32} {t : Nat → Nat} {n : Nat} {u : Nat → Nat} {k : Nat} (hP : zPl M Z b C S nw un hs ea fa t n u k)  : zCon μX8_now (4, 0, 0) σ [.ref (b 0)] M (zP (some (.ref (C nw 0))) M) := by
  refine zCon.of (plainFor_of_name (by decide)) rfl (Nat.le_of_ble_eq_true rfl) ?_
  change zV _ _ _ _ _ 0 0 0 [(0, .ref (b 0))] []
  refine zv_aload_n (n := 1) dX8_now_0 rfl rfl ?_
  refine zv_get (n := 4) dX8_now_1 rfl hP.2.2.1 FX8_10 rfl ?_
  refine zv_callVP (n := 7) (As := []) (rest := []) (kc' := 0) (ks' := 0) dX8_now_4 rfl (c_X7_present hP.2.1) rfl kX7_present lX8_308 hP.2.1.2.2.1 rfl rfl rfl ⟨by decide, by decide⟩ (Nat.le_of_ble_eq_true rfl) rfl rfl (by decide) (by decide) ?_
  refine zv_aret dX8_now_7 rfl (Or.inl ⟨_, rfl⟩) (by decide) (by decide) ?_
  exact zPi

set_option maxRecDepth 100000 in
set_option maxHeartbeats 4000000 in
theorem c_X8_exR_1 {σ : zSg} {M : zM} {Z : Nat → Prop} {b : Nat → Nat} {C : Nat → Nat → Nat} {S : Nat → zS} {nw un : Nat} {hs ea fa : Int32} {t : Nat → Nat} {n : Nat} {u : Nat → Nat} {k : Nat} (hP : zPl M Z b C S nw un hs ea fa t n u k) {j : Nat} (hj : j < fCnt (S nw)) : zCon μX8_existingRack (5, 1, 6) σ [.ref (b 0), .int (nI j)] M (zP (some (.ref (C nw (8 + j)))) M) := by
  have hnw : nw < 10 := hP.2.1.1
  have hC := hP.1.cen (i := nw) (by omega)
  have hO := hP.1.ok (i := nw) (by omega)
  refine zCon.of (plainFor_of_name (by decide)) rfl (Nat.le_of_ble_eq_true rfl) ?_
  change zV _ _ _ _ _ 0 0 0 [(0, .ref (b 0)), (1, .int (nI j))] []
  refine zv_aload_n (n := 1) dX8_existingRack_0 rfl rfl ?_
  refine zv_callVP (n := 4) (As := []) (rest := []) (kc' := 0) (ks' := 0) dX8_existingRack_1 rfl (c_X8_now hP) rfl kX8_now lX8_87 hP.2.2.1 rfl rfl rfl ⟨by decide, by decide⟩ (Nat.le_of_ble_eq_true rfl) rfl rfl (by decide) (by decide) ?_
  refine zv_getN (n := 7) dX8_existingRack_4 rfl hC.c0 FX8_94 rfl ?_
  refine zv_iload_n (n := 8) dX8_existingRack_7 rfl rfl ?_
  refine zv_callVP (n := 11) (As := [.int (nI j)]) (rest := []) (kc' := 0) (ks' := 0) dX8_existingRack_8 rfl (c_X5_get hC hO.1 hj) rfl kX5_get lX8_250 hC.c1 rfl rfl rfl ⟨by decide, by decide⟩ (Nat.le_of_ble_eq_true rfl) rfl rfl (by decide) (by decide) ?_
  refine zv_astore_n (n := 12) (lv' := [(2, .ref (C nw (8 + j))), (0, .ref (b 0)), (1, .int (nI j))]) dX8_existingRack_11 rfl (by decide) rfl ?_
  refine zv_aload_n (n := 13) dX8_existingRack_12 rfl rfl ?_
  refine zv_ifnonnull (tgt := 27) dX8_existingRack_13 (by decide) ?_
  refine zv_aload_n (n := 28) dX8_existingRack_27 rfl rfl ?_
  refine zv_aret dX8_existingRack_28 rfl (Or.inl ⟨_, rfl⟩) (by decide) (by decide) ?_
  exact zPi

set_option maxRecDepth 100000 in
set_option maxHeartbeats 4000000 in
theorem c_X8_exR_0 {σ : zSg} {M : zM} {Z : Nat → Prop} {b : Nat → Nat} {C : Nat → Nat → Nat} {S : Nat → zS} {nw un : Nat} {hs ea fa : Int32} {t : Nat → Nat} {n : Nat} {u : Nat → Nat} {k : Nat} (hP : zPl M Z b C S nw un hs ea fa t n u k) {x : Int32} (hx : fBad (S nw) x) : zCon μX8_existingRack (5, 1, 6) σ [.ref (b 0), .int x] M (zT9 "java/lang/IndexOutOfBoundsException" M) := by
  have hnw : nw < 10 := hP.2.1.1
  have hC := hP.1.cen (i := nw) (by omega)
  have hO := hP.1.ok (i := nw) (by omega)
  refine zCon.of (plainFor_of_name (by decide)) rfl (Nat.le_of_ble_eq_true rfl) ?_
  change zV _ _ _ _ _ 0 0 0 [(0, .ref (b 0)), (1, .int x)] []
  refine zv_aload_n (n := 1) dX8_existingRack_0 rfl rfl ?_
  refine zv_callVP (n := 4) (As := []) (rest := []) (kc' := 0) (ks' := 0) dX8_existingRack_1 rfl (c_X8_now hP) rfl kX8_now lX8_87 hP.2.2.1 rfl rfl rfl ⟨by decide, by decide⟩ (Nat.le_of_ble_eq_true rfl) rfl rfl (by decide) (by decide) ?_
  refine zv_getN (n := 7) dX8_existingRack_4 rfl hC.c0 FX8_94 rfl ?_
  refine zv_iload_n (n := 8) dX8_existingRack_7 rfl rfl ?_
  refine zv_callVP (n := 11) (As := [.int x]) (rest := []) (kc' := 0) (ks' := 0) dX8_existingRack_8 rfl (c_X5_getN hC hO.1 hx) rfl kX5_get lX8_250 hC.c1 rfl rfl rfl ⟨by decide, by decide⟩ (Nat.le_of_ble_eq_true rfl) rfl rfl (by decide) (by decide) ?_
  refine zv_astore_nN (n := 12) (lv' := [(2, .null), (0, .ref (b 0)), (1, .int x)]) dX8_existingRack_11 rfl (by decide) rfl ?_
  refine zv_aload_nN (n := 13) dX8_existingRack_12 rfl rfl ?_
  refine zv_ifnonnullN (n := 16) dX8_existingRack_13 rfl ?_
  refine zv_throwSW (j := 20) (names := ["java/lang/RuntimeException", "java/lang/Exception"]) hfit_IndexOutOfBounds.1 hfit_IndexOutOfBounds.2 eX8_154 ini_IndexOutOfBoundsException rfl rfl rfl hat_IndexOutOfBounds hgo_IndexOutOfBounds dX8_existingRack_16 dX8_existingRack_19 dX8_existingRack_20 dX8_existingRack_23 dX8_existingRack_26 rfl (by decide) (by decide) (by decide) (by decide) ?_
  exact ⟨rfl, rfl⟩

set_option maxRecDepth 100000 in
set_option maxHeartbeats 4000000 in
theorem c_X8_reqR_1 {σ : zSg} {M : zM} {Z : Nat → Prop} {b : Nat → Nat} {C : Nat → Nat → Nat} {S : Nat → zS} {nw un : Nat} {hs ea fa : Int32} {t : Nat → Nat} {n : Nat} {u : Nat → Nat} {k : Nat} (hP : zPl M Z b C S nw un hs ea fa t n u k) (h : 0 < fCnt (S nw)) : zCon μX8_requireRacks (5, 1, 6) σ [.ref (b 0)] M (zP none M) := by
  have hnw : nw < 10 := hP.2.1.1
  have hC := hP.1.cen (i := nw) (by omega)
  have hO := hP.1.ok (i := nw) (by omega)
  refine zCon.of (plainFor_of_name (by decide)) rfl (Nat.le_of_ble_eq_true rfl) ?_
  change zV _ _ _ _ _ 0 0 0 [(0, .ref (b 0))] []
  refine zv_aload_n (n := 1) dX8_requireRacks_0 rfl rfl ?_
  refine zv_callVP (n := 4) (As := []) (rest := []) (kc' := 0) (ks' := 0) dX8_requireRacks_1 rfl (c_X8_now hP) rfl kX8_now lX8_87 hP.2.2.1 rfl rfl rfl ⟨by decide, by decide⟩ (Nat.le_of_ble_eq_true rfl) rfl rfl (by decide) (by decide) ?_
  refine zv_getN (n := 7) dX8_requireRacks_4 rfl hC.c0 FX8_94 rfl ?_
  refine zv_getN (n := 10) dX8_requireRacks_7 rfl hC.c1 FX8_98 rfl ?_
  refine zv_if_ne (n := 13) (tgt := 24) dX8_requireRacks_10 (by decide) rfl (fun h10 => ?_) (fun h10 => False.elim (absurd h10 (by rw [hO.1.1]; exact nI_ne0 h (by have := hO.1.2; omega))))
  refine zv_vret dX8_requireRacks_24 rfl (by decide) (by decide) ?_
  exact zPi

/-- a change's end at the planner -/
def zChg (M : zM) (Z : Nat → Prop) (b : Nat → Nat) (C : Nat → Nat → Nat) (S : Nat → zS) (nw un : Nat) (hs ea fa : Int32) (t : Nat → Nat) (n : Nat) (u : Nat → Nat) (k : Nat) (r : Int32 × zS) : zO → zM → Prop := fun o M' => zKe M M' Z ∧
  (∀ E, fEx r.1 = some E → o = .inr E ∧ zPl M' Z b C (va_up S (nx nw) r.2) nw un hs ea fa t n u k) ∧
  (fEx r.1 = none → o = .inl (some (.int r.1)) ∧ zPl M' Z b C (va_up S (nx nw) r.2) (nx nw) (if un < 8 then un + 1 else 8) hs ea fa t n u k)

set_option maxRecDepth 100000 in
set_option maxHeartbeats 4000000 in
theorem c_X8_keep_x {σ : zSg} {M : zM} {Z : Nat → Prop} {b : Nat → Nat} {C : Nat → Nat → Nat} {S : Nat → zS} {nw un : Nat} {hs ea fa : Int32} {t : Nat → Nat} {n : Nat} {u : Nat → Nat} {k : Nat} (hP : zPl M Z b C S nw un hs ea fa t n u k) {a : Int32} {E : String} (h : fEx a = some E) : zCon μX8_keepUnlessRefused (3, 1, 6) σ [.ref (b 0), .int a] M (zT9 E M) := by
  refine zCon.of (plainFor_of_name (by decide)) rfl (Nat.le_of_ble_eq_true rfl) ?_
  change zV _ _ _ _ _ 0 0 0 [(0, .ref (b 0)), (1, .int a)] []
  refine zv_iload_n (n := 1) dX8_keepUnlessRefused_0 rfl rfl ?_
  refine zv_callST (n := 4) (As := [.int a]) (rest := []) (kc' := 1) (ks' := 6) dX8_keepUnlessRefused_1 rfl (c_X8_thr_x h) rfl kX8_throwIfRefused lX8_311 rfl rfl ⟨by decide, by decide⟩ (Nat.le_of_ble_eq_true rfl) rfl rfl (by decide) (by decide) ?_
  exact zvx_out rfl (by decide) (by decide) ⟨rfl, rfl⟩

set_option maxRecDepth 100000 in
set_option maxHeartbeats 4000000 in
theorem c_X8_keep_n {σ : zSg} {M : zM} {Z : Nat → Prop} {b : Nat → Nat} {C : Nat → Nat → Nat} {S : Nat → zS} {nw un : Nat} {hs ea fa : Int32} {t : Nat → Nat} {n : Nat} {u : Nat → Nat} {k : Nat} (hP : zPl M Z b C S nw un hs ea fa t n u k) {a : Int32} (h : fEx a = none) : zCon μX8_keepUnlessRefused (3, 1, 6) σ [.ref (b 0), .int a] M (zF (some (.int a)) (fun M' => zPl M' Z b C S (nx nw) (if un < 8 then un + 1 else 8) hs ea fa t n u k ∧ zKe M M' Z)) := by
  refine zCon.of (plainFor_of_name (by decide)) rfl (Nat.le_of_ble_eq_true rfl) ?_
  change zV _ _ _ _ _ 0 0 0 [(0, .ref (b 0)), (1, .int a)] []
  refine zv_iload_n (n := 1) dX8_keepUnlessRefused_0 rfl rfl ?_
  refine zv_callSP0 (n := 4) (As := [.int a]) (rest := []) (kc' := 1) (ks' := 6) dX8_keepUnlessRefused_1 rfl (c_X8_thr_n h) rfl kX8_throwIfRefused lX8_311 rfl rfl ⟨by decide, by decide⟩ (Nat.le_of_ble_eq_true rfl) rfl rfl (by decide) (by decide) ?_
  refine zv_aload_n (n := 5) dX8_keepUnlessRefused_4 rfl rfl ?_
  refine zv_get (n := 8) dX8_keepUnlessRefused_5 rfl hP.2.2.1 FX8_10 rfl ?_
  refine zv_callVF0 (n := 11) (As := []) (rest := []) (kc' := 1) (ks' := 6) dX8_keepUnlessRefused_8 rfl (c_X7_keepDraft hP.2.1) rfl kX7_keepDraft lX8_289 hP.2.1.2.2.1 rfl rfl rfl ⟨by decide, by decide⟩ (Nat.le_of_ble_eq_true rfl) rfl rfl (by decide) (by decide) (fun M1 hq => ?_)
  refine zv_iload_n (n := 12) dX8_keepUnlessRefused_11 rfl rfl ?_
  refine zv_iret dX8_keepUnlessRefused_12 rfl (by decide) (by decide) ?_
  exact zFi (hP.tl hq.1 hq.2)

set_option maxRecDepth 100000 in
set_option maxHeartbeats 4000000 in
theorem c_X8_addRack {σ : zSg} {M : zM} {Z : Nat → Prop} {b : Nat → Nat} {C : Nat → Nat → Nat} {S : Nat → zS} {nw un : Nat} {hs ea fa : Int32} {t : Nat → Nat} {n : Nat} {u : Nat → Nat} {k : Nat} (hP : zPl M Z b C S nw un hs ea fa t n u k) (a p l : Int32) : zCon μX8_addRack (6, 1, 6) σ [.ref (b 0), .int a, .int p, .int l] M (zChg M Z b C S nw un hs ea fa t n u k (fAdd (S nw) a p l)) := by
  have hnw : nw < 10 := hP.2.1.1
  have hC := hP.1.cen (i := nw) (by omega)
  have hO := hP.1.ok (i := nw) (by omega)
  refine zCon.of (plainFor_of_name (by decide)) rfl (Nat.le_of_ble_eq_true rfl) ?_
  change zV _ _ _ _ _ 0 0 0 [(0, .ref (b 0)), (1, .int a), (2, .int p), (3, .int l)] []
  refine zv_aload_n (n := 1) dX8_addRack_0 rfl rfl ?_
  refine zv_aload_n (n := 2) dX8_addRack_1 rfl rfl ?_
  refine zv_get (n := 5) dX8_addRack_2 rfl hP.2.2.1 FX8_10 rfl ?_
  refine zv_callVF (n := 8) (As := []) (rest := [.ref (b 0)]) (kc' := 0) (ks' := 0) dX8_addRack_5 rfl (c_X7_draft hP.2.1 hP.1) rfl kX7_draft lX8_44 hP.2.1.2.2.1 rfl rfl rfl ⟨by decide, by decide⟩ (Nat.le_of_ble_eq_true rfl) rfl rfl (by decide) (by decide) (fun M1 hq => ?_)
  obtain ⟨hA1, ho1⟩ := hq
  have hx := nx_lt nw
  obtain ⟨hP1, hz1⟩ := hP.out hA1 (hP.2.1.off hP.1 (by omega) ho1) (ho1.out (by omega))
  have hC1 := hA1.cen (i := nx nw) (by omega)
  have hO1 := hA1.ok (i := nx nw) (by omega)
  rw [va_up_self] at hC1 hO1
  refine zv_iload_n (n := 9) dX8_addRack_8 rfl rfl ?_
  refine zv_iload_n (n := 10) dX8_addRack_9 rfl rfl ?_
  refine zv_iload_n (n := 11) dX8_addRack_10 rfl rfl ?_
  refine zv_callVF (n := 14) (As := [.int a, .int p, .int l]) (rest := [.ref (b 0)]) (kc' := 0) (ks' := 0) dX8_addRack_11 rfl (c_X1_add hC1 hO1.1 a p l) rfl kX1_add lX8_48 hC1.c0 rfl rfl rfl ⟨by decide, by decide⟩ (Nat.le_of_ble_eq_true rfl) rfl rfl (by decide) (by decide) (fun M2 hq => ?_)
  obtain ⟨hC2, ho2⟩ := hq
  obtain ⟨hP2, hz2⟩ := hP1.cen (by omega) hC2 (fAdd_ok hO1 a p l) ho2
  rw [va_up_up] at hP2
  cases hE : fEx (fAdd (S nw) a p l).1 with
  | some E =>
    refine zv_callVT (n := 17) (As := [.int (fAdd (S nw) a p l).1]) (rest := []) (kc' := 1) (ks' := 6) dX8_addRack_14 rfl (c_X8_keep_x hP2 hE) rfl kX8_keepUnlessRefused lX8_52 hP2.2.2.1 rfl rfl rfl ⟨by decide, by decide⟩ (Nat.le_of_ble_eq_true rfl) rfl rfl (by decide) (by decide) ?_
    exact zvx_out rfl (by decide) (by decide) ⟨hz1.tr hz2, (fun E9 h9 => ⟨(by rw [hE] at h9; cases h9; rfl), hP2⟩), (fun h9 => by rw [hE] at h9; cases h9)⟩
  | none =>
    skip
    refine zv_callVF (n := 17) (As := [.int (fAdd (S nw) a p l).1]) (rest := []) (kc' := 1) (ks' := 6) dX8_addRack_14 rfl (c_X8_keep_n hP2 hE) rfl kX8_keepUnlessRefused lX8_52 hP2.2.2.1 rfl rfl rfl ⟨by decide, by decide⟩ (Nat.le_of_ble_eq_true rfl) rfl rfl (by decide) (by decide) (fun M3 hq => ?_)
    refine zv_iret dX8_addRack_17 rfl (by decide) (by decide) ?_
    exact ⟨(hz1.tr hz2).tr hq.2, (fun E9 h9 => by rw [hE] at h9; cases h9), fun _ => ⟨rfl, hq.1⟩⟩

set_option maxRecDepth 100000 in
set_option maxHeartbeats 4000000 in
theorem c_X8_removeRack {σ : zSg} {M : zM} {Z : Nat → Prop} {b : Nat → Nat} {C : Nat → Nat → Nat} {S : Nat → zS} {nw un : Nat} {hs ea fa : Int32} {t : Nat → Nat} {n : Nat} {u : Nat → Nat} {k : Nat} (hP : zPl M Z b C S nw un hs ea fa t n u k) (x : Int32) : zCon μX8_removeRack (6, 1, 6) σ [.ref (b 0), .int x] M (zChg M Z b C S nw un hs ea fa t n u k (fRem (S nw) x)) := by
  have hnw : nw < 10 := hP.2.1.1
  have hC := hP.1.cen (i := nw) (by omega)
  have hO := hP.1.ok (i := nw) (by omega)
  refine zCon.of (plainFor_of_name (by decide)) rfl (Nat.le_of_ble_eq_true rfl) ?_
  change zV _ _ _ _ _ 0 0 0 [(0, .ref (b 0)), (1, .int x)] []
  refine zv_aload_n (n := 1) dX8_removeRack_0 rfl rfl ?_
  refine zv_aload_n (n := 2) dX8_removeRack_1 rfl rfl ?_
  refine zv_get (n := 5) dX8_removeRack_2 rfl hP.2.2.1 FX8_10 rfl ?_
  refine zv_callVF (n := 8) (As := []) (rest := [.ref (b 0)]) (kc' := 0) (ks' := 0) dX8_removeRack_5 rfl (c_X7_draft hP.2.1 hP.1) rfl kX7_draft lX8_44 hP.2.1.2.2.1 rfl rfl rfl ⟨by decide, by decide⟩ (Nat.le_of_ble_eq_true rfl) rfl rfl (by decide) (by decide) (fun M1 hq => ?_)
  obtain ⟨hA1, ho1⟩ := hq
  have hx := nx_lt nw
  obtain ⟨hP1, hz1⟩ := hP.out hA1 (hP.2.1.off hP.1 (by omega) ho1) (ho1.out (by omega))
  have hC1 := hA1.cen (i := nx nw) (by omega)
  have hO1 := hA1.ok (i := nx nw) (by omega)
  rw [va_up_self] at hC1 hO1
  refine zv_iload_n (n := 9) dX8_removeRack_8 rfl rfl ?_
  refine zv_callVF (n := 12) (As := [.int x]) (rest := [.ref (b 0)]) (kc' := 0) (ks' := 0) dX8_removeRack_9 rfl (c_X1_remove hC1 hO1.1 x) rfl kX1_remove lX8_56 hC1.c0 rfl rfl rfl ⟨by decide, by decide⟩ (Nat.le_of_ble_eq_true rfl) rfl rfl (by decide) (by decide) (fun M2 hq => ?_)
  obtain ⟨hC2, ho2⟩ := hq
  obtain ⟨hP2, hz2⟩ := hP1.cen (by omega) hC2 (fRem_ok hO1 x) ho2
  rw [va_up_up] at hP2
  cases hE : fEx (fRem (S nw) x).1 with
  | some E =>
    refine zv_callVT (n := 15) (As := [.int (fRem (S nw) x).1]) (rest := []) (kc' := 1) (ks' := 6) dX8_removeRack_12 rfl (c_X8_keep_x hP2 hE) rfl kX8_keepUnlessRefused lX8_52 hP2.2.2.1 rfl rfl rfl ⟨by decide, by decide⟩ (Nat.le_of_ble_eq_true rfl) rfl rfl (by decide) (by decide) ?_
    exact zvx_out rfl (by decide) (by decide) ⟨hz1.tr hz2, (fun E9 h9 => ⟨(by rw [hE] at h9; cases h9; rfl), hP2⟩), (fun h9 => by rw [hE] at h9; cases h9)⟩
  | none =>
    skip
    refine zv_callVF (n := 15) (As := [.int (fRem (S nw) x).1]) (rest := []) (kc' := 1) (ks' := 6) dX8_removeRack_12 rfl (c_X8_keep_n hP2 hE) rfl kX8_keepUnlessRefused lX8_52 hP2.2.2.1 rfl rfl rfl ⟨by decide, by decide⟩ (Nat.le_of_ble_eq_true rfl) rfl rfl (by decide) (by decide) (fun M3 hq => ?_)
    refine zv_iret dX8_removeRack_15 rfl (by decide) (by decide) ?_
    exact ⟨(hz1.tr hz2).tr hq.2, (fun E9 h9 => by rw [hE] at h9; cases h9), fun _ => ⟨rfl, hq.1⟩⟩

set_option maxRecDepth 100000 in
set_option maxHeartbeats 4000000 in
theorem c_X8_moveRack {σ : zSg} {M : zM} {Z : Nat → Prop} {b : Nat → Nat} {C : Nat → Nat → Nat} {S : Nat → zS} {nw un : Nat} {hs ea fa : Int32} {t : Nat → Nat} {n : Nat} {u : Nat → Nat} {k : Nat} (hP : zPl M Z b C S nw un hs ea fa t n u k) (x a p : Int32) : zCon μX8_moveRack (6, 1, 6) σ [.ref (b 0), .int x, .int a, .int p] M (zChg M Z b C S nw un hs ea fa t n u k (fMov (S nw) x a p)) := by
  have hnw : nw < 10 := hP.2.1.1
  have hC := hP.1.cen (i := nw) (by omega)
  have hO := hP.1.ok (i := nw) (by omega)
  refine zCon.of (plainFor_of_name (by decide)) rfl (Nat.le_of_ble_eq_true rfl) ?_
  change zV _ _ _ _ _ 0 0 0 [(0, .ref (b 0)), (1, .int x), (2, .int a), (3, .int p)] []
  refine zv_aload_n (n := 1) dX8_moveRack_0 rfl rfl ?_
  refine zv_aload_n (n := 2) dX8_moveRack_1 rfl rfl ?_
  refine zv_get (n := 5) dX8_moveRack_2 rfl hP.2.2.1 FX8_10 rfl ?_
  refine zv_callVF (n := 8) (As := []) (rest := [.ref (b 0)]) (kc' := 0) (ks' := 0) dX8_moveRack_5 rfl (c_X7_draft hP.2.1 hP.1) rfl kX7_draft lX8_44 hP.2.1.2.2.1 rfl rfl rfl ⟨by decide, by decide⟩ (Nat.le_of_ble_eq_true rfl) rfl rfl (by decide) (by decide) (fun M1 hq => ?_)
  obtain ⟨hA1, ho1⟩ := hq
  have hx := nx_lt nw
  obtain ⟨hP1, hz1⟩ := hP.out hA1 (hP.2.1.off hP.1 (by omega) ho1) (ho1.out (by omega))
  have hC1 := hA1.cen (i := nx nw) (by omega)
  have hO1 := hA1.ok (i := nx nw) (by omega)
  rw [va_up_self] at hC1 hO1
  refine zv_iload_n (n := 9) dX8_moveRack_8 rfl rfl ?_
  refine zv_iload_n (n := 10) dX8_moveRack_9 rfl rfl ?_
  refine zv_iload_n (n := 11) dX8_moveRack_10 rfl rfl ?_
  refine zv_callVF (n := 14) (As := [.int x, .int a, .int p]) (rest := [.ref (b 0)]) (kc' := 0) (ks' := 0) dX8_moveRack_11 rfl (c_X1_move hC1 hO1.1 x a p) rfl kX1_move lX8_59 hC1.c0 rfl rfl rfl ⟨by decide, by decide⟩ (Nat.le_of_ble_eq_true rfl) rfl rfl (by decide) (by decide) (fun M2 hq => ?_)
  obtain ⟨hC2, ho2⟩ := hq
  obtain ⟨hP2, hz2⟩ := hP1.cen (by omega) hC2 (fMov_ok hO1 x a p) ho2
  rw [va_up_up] at hP2
  cases hE : fEx (fMov (S nw) x a p).1 with
  | some E =>
    refine zv_callVT (n := 17) (As := [.int (fMov (S nw) x a p).1]) (rest := []) (kc' := 1) (ks' := 6) dX8_moveRack_14 rfl (c_X8_keep_x hP2 hE) rfl kX8_keepUnlessRefused lX8_52 hP2.2.2.1 rfl rfl rfl ⟨by decide, by decide⟩ (Nat.le_of_ble_eq_true rfl) rfl rfl (by decide) (by decide) ?_
    exact zvx_out rfl (by decide) (by decide) ⟨hz1.tr hz2, (fun E9 h9 => ⟨(by rw [hE] at h9; cases h9; rfl), hP2⟩), (fun h9 => by rw [hE] at h9; cases h9)⟩
  | none =>
    skip
    refine zv_callVF (n := 17) (As := [.int (fMov (S nw) x a p).1]) (rest := []) (kc' := 1) (ks' := 6) dX8_moveRack_14 rfl (c_X8_keep_n hP2 hE) rfl kX8_keepUnlessRefused lX8_52 hP2.2.2.1 rfl rfl rfl ⟨by decide, by decide⟩ (Nat.le_of_ble_eq_true rfl) rfl rfl (by decide) (by decide) (fun M3 hq => ?_)
    refine zv_iret dX8_moveRack_17 rfl (by decide) (by decide) ?_
    exact ⟨(hz1.tr hz2).tr hq.2, (fun E9 h9 => by rw [hE] at h9; cases h9), fun _ => ⟨rfl, hq.1⟩⟩

set_option maxRecDepth 100000 in
set_option maxHeartbeats 4000000 in
theorem c_X8_setLoad {σ : zSg} {M : zM} {Z : Nat → Prop} {b : Nat → Nat} {C : Nat → Nat → Nat} {S : Nat → zS} {nw un : Nat} {hs ea fa : Int32} {t : Nat → Nat} {n : Nat} {u : Nat → Nat} {k : Nat} (hP : zPl M Z b C S nw un hs ea fa t n u k) (x l : Int32) : zCon μX8_setLoad (6, 1, 6) σ [.ref (b 0), .int x, .int l] M (zChg M Z b C S nw un hs ea fa t n u k (fLod (S nw) x l)) := by
  have hnw : nw < 10 := hP.2.1.1
  have hC := hP.1.cen (i := nw) (by omega)
  have hO := hP.1.ok (i := nw) (by omega)
  refine zCon.of (plainFor_of_name (by decide)) rfl (Nat.le_of_ble_eq_true rfl) ?_
  change zV _ _ _ _ _ 0 0 0 [(0, .ref (b 0)), (1, .int x), (2, .int l)] []
  refine zv_aload_n (n := 1) dX8_setLoad_0 rfl rfl ?_
  refine zv_aload_n (n := 2) dX8_setLoad_1 rfl rfl ?_
  refine zv_get (n := 5) dX8_setLoad_2 rfl hP.2.2.1 FX8_10 rfl ?_
  refine zv_callVF (n := 8) (As := []) (rest := [.ref (b 0)]) (kc' := 0) (ks' := 0) dX8_setLoad_5 rfl (c_X7_draft hP.2.1 hP.1) rfl kX7_draft lX8_44 hP.2.1.2.2.1 rfl rfl rfl ⟨by decide, by decide⟩ (Nat.le_of_ble_eq_true rfl) rfl rfl (by decide) (by decide) (fun M1 hq => ?_)
  obtain ⟨hA1, ho1⟩ := hq
  have hx := nx_lt nw
  obtain ⟨hP1, hz1⟩ := hP.out hA1 (hP.2.1.off hP.1 (by omega) ho1) (ho1.out (by omega))
  have hC1 := hA1.cen (i := nx nw) (by omega)
  have hO1 := hA1.ok (i := nx nw) (by omega)
  rw [va_up_self] at hC1 hO1
  refine zv_iload_n (n := 9) dX8_setLoad_8 rfl rfl ?_
  refine zv_iload_n (n := 10) dX8_setLoad_9 rfl rfl ?_
  refine zv_callVF (n := 13) (As := [.int x, .int l]) (rest := [.ref (b 0)]) (kc' := 0) (ks' := 0) dX8_setLoad_10 rfl (c_X1_changeLoad hC1 hO1.1 x l) rfl kX1_changeLoad lX8_62 hC1.c0 rfl rfl rfl ⟨by decide, by decide⟩ (Nat.le_of_ble_eq_true rfl) rfl rfl (by decide) (by decide) (fun M2 hq => ?_)
  obtain ⟨hC2, ho2⟩ := hq
  obtain ⟨hP2, hz2⟩ := hP1.cen (by omega) hC2 (fLod_ok hO1 x l) ho2
  rw [va_up_up] at hP2
  cases hE : fEx (fLod (S nw) x l).1 with
  | some E =>
    refine zv_callVT (n := 16) (As := [.int (fLod (S nw) x l).1]) (rest := []) (kc' := 1) (ks' := 6) dX8_setLoad_13 rfl (c_X8_keep_x hP2 hE) rfl kX8_keepUnlessRefused lX8_52 hP2.2.2.1 rfl rfl rfl ⟨by decide, by decide⟩ (Nat.le_of_ble_eq_true rfl) rfl rfl (by decide) (by decide) ?_
    exact zvx_out rfl (by decide) (by decide) ⟨hz1.tr hz2, (fun E9 h9 => ⟨(by rw [hE] at h9; cases h9; rfl), hP2⟩), (fun h9 => by rw [hE] at h9; cases h9)⟩
  | none =>
    skip
    refine zv_callVF (n := 16) (As := [.int (fLod (S nw) x l).1]) (rest := []) (kc' := 1) (ks' := 6) dX8_setLoad_13 rfl (c_X8_keep_n hP2 hE) rfl kX8_keepUnlessRefused lX8_52 hP2.2.2.1 rfl rfl rfl ⟨by decide, by decide⟩ (Nat.le_of_ble_eq_true rfl) rfl rfl (by decide) (by decide) (fun M3 hq => ?_)
    refine zv_iret dX8_setLoad_16 rfl (by decide) (by decide) ?_
    exact ⟨(hz1.tr hz2).tr hq.2, (fun E9 h9 => by rw [hE] at h9; cases h9), fun _ => ⟨rfl, hq.1⟩⟩

set_option maxRecDepth 100000 in
set_option maxHeartbeats 4000000 in
theorem c_X8_migrate {σ : zSg} {M : zM} {Z : Nat → Prop} {b : Nat → Nat} {C : Nat → Nat → Nat} {S : Nat → zS} {nw un : Nat} {hs ea fa : Int32} {t : Nat → Nat} {n : Nat} {u : Nat → Nat} {k : Nat} (hP : zPl M Z b C S nw un hs ea fa t n u k) (x y l : Int32) : zCon μX8_migrate (6, 1, 6) σ [.ref (b 0), .int x, .int y, .int l] M (zChg M Z b C S nw un hs ea fa t n u k (fSnd (S nw) x y l)) := by
  have hnw : nw < 10 := hP.2.1.1
  have hC := hP.1.cen (i := nw) (by omega)
  have hO := hP.1.ok (i := nw) (by omega)
  refine zCon.of (plainFor_of_name (by decide)) rfl (Nat.le_of_ble_eq_true rfl) ?_
  change zV _ _ _ _ _ 0 0 0 [(0, .ref (b 0)), (1, .int x), (2, .int y), (3, .int l)] []
  refine zv_aload_n (n := 1) dX8_migrate_0 rfl rfl ?_
  refine zv_aload_n (n := 2) dX8_migrate_1 rfl rfl ?_
  refine zv_get (n := 5) dX8_migrate_2 rfl hP.2.2.1 FX8_10 rfl ?_
  refine zv_callVF (n := 8) (As := []) (rest := [.ref (b 0)]) (kc' := 0) (ks' := 0) dX8_migrate_5 rfl (c_X7_draft hP.2.1 hP.1) rfl kX7_draft lX8_44 hP.2.1.2.2.1 rfl rfl rfl ⟨by decide, by decide⟩ (Nat.le_of_ble_eq_true rfl) rfl rfl (by decide) (by decide) (fun M1 hq => ?_)
  obtain ⟨hA1, ho1⟩ := hq
  have hx := nx_lt nw
  obtain ⟨hP1, hz1⟩ := hP.out hA1 (hP.2.1.off hP.1 (by omega) ho1) (ho1.out (by omega))
  have hC1 := hA1.cen (i := nx nw) (by omega)
  have hO1 := hA1.ok (i := nx nw) (by omega)
  rw [va_up_self] at hC1 hO1
  refine zv_iload_n (n := 9) dX8_migrate_8 rfl rfl ?_
  refine zv_iload_n (n := 10) dX8_migrate_9 rfl rfl ?_
  refine zv_iload_n (n := 11) dX8_migrate_10 rfl rfl ?_
  refine zv_callVF (n := 14) (As := [.int x, .int y, .int l]) (rest := [.ref (b 0)]) (kc' := 0) (ks' := 0) dX8_migrate_11 rfl (c_X1_send hC1 hO1.1 x y l) rfl kX1_send lX8_66 hC1.c0 rfl rfl rfl ⟨by decide, by decide⟩ (Nat.le_of_ble_eq_true rfl) rfl rfl (by decide) (by decide) (fun M2 hq => ?_)
  obtain ⟨hC2, ho2⟩ := hq
  obtain ⟨hP2, hz2⟩ := hP1.cen (by omega) hC2 (fSnd_ok hO1 x y l) ho2
  rw [va_up_up] at hP2
  cases hE : fEx (fSnd (S nw) x y l).1 with
  | some E =>
    refine zv_callVT (n := 17) (As := [.int (fSnd (S nw) x y l).1]) (rest := []) (kc' := 1) (ks' := 6) dX8_migrate_14 rfl (c_X8_keep_x hP2 hE) rfl kX8_keepUnlessRefused lX8_52 hP2.2.2.1 rfl rfl rfl ⟨by decide, by decide⟩ (Nat.le_of_ble_eq_true rfl) rfl rfl (by decide) (by decide) ?_
    exact zvx_out rfl (by decide) (by decide) ⟨hz1.tr hz2, (fun E9 h9 => ⟨(by rw [hE] at h9; cases h9; rfl), hP2⟩), (fun h9 => by rw [hE] at h9; cases h9)⟩
  | none =>
    skip
    refine zv_callVF (n := 17) (As := [.int (fSnd (S nw) x y l).1]) (rest := []) (kc' := 1) (ks' := 6) dX8_migrate_14 rfl (c_X8_keep_n hP2 hE) rfl kX8_keepUnlessRefused lX8_52 hP2.2.2.1 rfl rfl rfl ⟨by decide, by decide⟩ (Nat.le_of_ble_eq_true rfl) rfl rfl (by decide) (by decide) (fun M3 hq => ?_)
    refine zv_iret dX8_migrate_17 rfl (by decide) (by decide) ?_
    exact ⟨(hz1.tr hz2).tr hq.2, (fun E9 h9 => by rw [hE] at h9; cases h9), fun _ => ⟨rfl, hq.1⟩⟩

set_option maxRecDepth 100000 in
set_option maxHeartbeats 4000000 in
theorem c_X8_setFan {σ : zSg} {M : zM} {Z : Nat → Prop} {b : Nat → Nat} {C : Nat → Nat → Nat} {S : Nat → zS} {nw un : Nat} {hs ea fa : Int32} {t : Nat → Nat} {n : Nat} {u : Nat → Nat} {k : Nat} (hP : zPl M Z b C S nw un hs ea fa t n u k) (a v : Int32) : zCon μX8_setFan (6, 1, 6) σ [.ref (b 0), .int a, .int v] M (zChg M Z b C S nw un hs ea fa t n u k (fFan (S nw) a v)) := by
  have hnw : nw < 10 := hP.2.1.1
  have hC := hP.1.cen (i := nw) (by omega)
  have hO := hP.1.ok (i := nw) (by omega)
  refine zCon.of (plainFor_of_name (by decide)) rfl (Nat.le_of_ble_eq_true rfl) ?_
  change zV _ _ _ _ _ 0 0 0 [(0, .ref (b 0)), (1, .int a), (2, .int v)] []
  refine zv_aload_n (n := 1) dX8_setFan_0 rfl rfl ?_
  refine zv_aload_n (n := 2) dX8_setFan_1 rfl rfl ?_
  refine zv_get (n := 5) dX8_setFan_2 rfl hP.2.2.1 FX8_10 rfl ?_
  refine zv_callVF (n := 8) (As := []) (rest := [.ref (b 0)]) (kc' := 0) (ks' := 0) dX8_setFan_5 rfl (c_X7_draft hP.2.1 hP.1) rfl kX7_draft lX8_44 hP.2.1.2.2.1 rfl rfl rfl ⟨by decide, by decide⟩ (Nat.le_of_ble_eq_true rfl) rfl rfl (by decide) (by decide) (fun M1 hq => ?_)
  obtain ⟨hA1, ho1⟩ := hq
  have hx := nx_lt nw
  obtain ⟨hP1, hz1⟩ := hP.out hA1 (hP.2.1.off hP.1 (by omega) ho1) (ho1.out (by omega))
  have hC1 := hA1.cen (i := nx nw) (by omega)
  have hO1 := hA1.ok (i := nx nw) (by omega)
  rw [va_up_self] at hC1 hO1
  refine zv_getN (n := 11) dX8_setFan_8 rfl hC1.c0 FX8_69 rfl ?_
  refine zv_iload_n (n := 12) dX8_setFan_11 rfl rfl ?_
  refine zv_iload_n (n := 13) dX8_setFan_12 rfl rfl ?_
  refine zv_callVF (n := 16) (As := [.int a, .int v]) (rest := [.ref (b 0)]) (kc' := 0) (ks' := 0) dX8_setFan_13 rfl (c_X3_changeSpeed hC1 a v) rfl kX3_changeSpeed lX8_73 hC1.c2 rfl rfl rfl ⟨by decide, by decide⟩ (Nat.le_of_ble_eq_true rfl) rfl rfl (by decide) (by decide) (fun M2 hq => ?_)
  obtain ⟨hC2, ho2⟩ := hq
  obtain ⟨hP2, hz2⟩ := hP1.cen (by omega) hC2 (fFan_ok hO1 a v) ho2
  rw [va_up_up] at hP2
  cases hE : fEx (fFan (S nw) a v).1 with
  | some E =>
    refine zv_callVT (n := 19) (As := [.int (fFan (S nw) a v).1]) (rest := []) (kc' := 1) (ks' := 6) dX8_setFan_16 rfl (c_X8_keep_x hP2 hE) rfl kX8_keepUnlessRefused lX8_52 hP2.2.2.1 rfl rfl rfl ⟨by decide, by decide⟩ (Nat.le_of_ble_eq_true rfl) rfl rfl (by decide) (by decide) ?_
    exact zvx_out rfl (by decide) (by decide) ⟨hz1.tr hz2, (fun E9 h9 => ⟨(by rw [hE] at h9; cases h9; rfl), hP2⟩), (fun h9 => by rw [hE] at h9; cases h9)⟩
  | none =>
    skip
    refine zv_callVF (n := 19) (As := [.int (fFan (S nw) a v).1]) (rest := []) (kc' := 1) (ks' := 6) dX8_setFan_16 rfl (c_X8_keep_n hP2 hE) rfl kX8_keepUnlessRefused lX8_52 hP2.2.2.1 rfl rfl rfl ⟨by decide, by decide⟩ (Nat.le_of_ble_eq_true rfl) rfl rfl (by decide) (by decide) (fun M3 hq => ?_)
    refine zv_iret dX8_setFan_19 rfl (by decide) (by decide) ?_
    exact ⟨(hz1.tr hz2).tr hq.2, (fun E9 h9 => by rw [hE] at h9; cases h9), fun _ => ⟨rfl, hq.1⟩⟩

set_option maxRecDepth 100000 in
set_option maxHeartbeats 4000000 in
theorem c_X8_setCurvePoint {σ : zSg} {M : zM} {Z : Nat → Prop} {b : Nat → Nat} {C : Nat → Nat → Nat} {S : Nat → zS} {nw un : Nat} {hs ea fa : Int32} {t : Nat → Nat} {n : Nat} {u : Nat → Nat} {k : Nat} (hP : zPl M Z b C S nw un hs ea fa t n u k) (p v : Int32) : zCon μX8_setCurvePoint (6, 1, 6) σ [.ref (b 0), .int p, .int v] M (zChg M Z b C S nw un hs ea fa t n u k (fCrv (S nw) p v)) := by
  have hnw : nw < 10 := hP.2.1.1
  have hC := hP.1.cen (i := nw) (by omega)
  have hO := hP.1.ok (i := nw) (by omega)
  refine zCon.of (plainFor_of_name (by decide)) rfl (Nat.le_of_ble_eq_true rfl) ?_
  change zV _ _ _ _ _ 0 0 0 [(0, .ref (b 0)), (1, .int p), (2, .int v)] []
  refine zv_aload_n (n := 1) dX8_setCurvePoint_0 rfl rfl ?_
  refine zv_aload_n (n := 2) dX8_setCurvePoint_1 rfl rfl ?_
  refine zv_get (n := 5) dX8_setCurvePoint_2 rfl hP.2.2.1 FX8_10 rfl ?_
  refine zv_callVF (n := 8) (As := []) (rest := [.ref (b 0)]) (kc' := 0) (ks' := 0) dX8_setCurvePoint_5 rfl (c_X7_draft hP.2.1 hP.1) rfl kX7_draft lX8_44 hP.2.1.2.2.1 rfl rfl rfl ⟨by decide, by decide⟩ (Nat.le_of_ble_eq_true rfl) rfl rfl (by decide) (by decide) (fun M1 hq => ?_)
  obtain ⟨hA1, ho1⟩ := hq
  have hx := nx_lt nw
  obtain ⟨hP1, hz1⟩ := hP.out hA1 (hP.2.1.off hP.1 (by omega) ho1) (ho1.out (by omega))
  have hC1 := hA1.cen (i := nx nw) (by omega)
  have hO1 := hA1.ok (i := nx nw) (by omega)
  rw [va_up_self] at hC1 hO1
  refine zv_getN (n := 11) dX8_setCurvePoint_8 rfl hC1.c0 FX8_69 rfl ?_
  refine zv_iload_n (n := 12) dX8_setCurvePoint_11 rfl rfl ?_
  refine zv_iload_n (n := 13) dX8_setCurvePoint_12 rfl rfl ?_
  refine zv_callVF (n := 16) (As := [.int p, .int v]) (rest := [.ref (b 0)]) (kc' := 0) (ks' := 0) dX8_setCurvePoint_13 rfl (c_X3_changePoint hC1 p v) rfl kX3_changePoint lX8_78 hC1.c2 rfl rfl rfl ⟨by decide, by decide⟩ (Nat.le_of_ble_eq_true rfl) rfl rfl (by decide) (by decide) (fun M2 hq => ?_)
  obtain ⟨hC2, ho2⟩ := hq
  obtain ⟨hP2, hz2⟩ := hP1.cen (by omega) hC2 (fCrv_ok hO1 p v) ho2
  rw [va_up_up] at hP2
  cases hE : fEx (fCrv (S nw) p v).1 with
  | some E =>
    refine zv_callVT (n := 19) (As := [.int (fCrv (S nw) p v).1]) (rest := []) (kc' := 1) (ks' := 6) dX8_setCurvePoint_16 rfl (c_X8_keep_x hP2 hE) rfl kX8_keepUnlessRefused lX8_52 hP2.2.2.1 rfl rfl rfl ⟨by decide, by decide⟩ (Nat.le_of_ble_eq_true rfl) rfl rfl (by decide) (by decide) ?_
    exact zvx_out rfl (by decide) (by decide) ⟨hz1.tr hz2, (fun E9 h9 => ⟨(by rw [hE] at h9; cases h9; rfl), hP2⟩), (fun h9 => by rw [hE] at h9; cases h9)⟩
  | none =>
    skip
    refine zv_callVF (n := 19) (As := [.int (fCrv (S nw) p v).1]) (rest := []) (kc' := 1) (ks' := 6) dX8_setCurvePoint_16 rfl (c_X8_keep_n hP2 hE) rfl kX8_keepUnlessRefused lX8_52 hP2.2.2.1 rfl rfl rfl ⟨by decide, by decide⟩ (Nat.le_of_ble_eq_true rfl) rfl rfl (by decide) (by decide) (fun M3 hq => ?_)
    refine zv_iret dX8_setCurvePoint_19 rfl (by decide) (by decide) ?_
    exact ⟨(hz1.tr hz2).tr hq.2, (fun E9 h9 => by rw [hE] at h9; cases h9), fun _ => ⟨rfl, hq.1⟩⟩

set_option maxRecDepth 100000 in
set_option maxHeartbeats 4000000 in
theorem c_X8_setLimit {σ : zSg} {M : zM} {Z : Nat → Prop} {b : Nat → Nat} {C : Nat → Nat → Nat} {S : Nat → zS} {nw un : Nat} {hs ea fa : Int32} {t : Nat → Nat} {n : Nat} {u : Nat → Nat} {k : Nat} (hP : zPl M Z b C S nw un hs ea fa t n u k) (v : Int32) : zCon μX8_setLimit (6, 1, 6) σ [.ref (b 0), .int v] M (zChg M Z b C S nw un hs ea fa t n u k (fLim (S nw) v)) := by
  have hnw : nw < 10 := hP.2.1.1
  have hC := hP.1.cen (i := nw) (by omega)
  have hO := hP.1.ok (i := nw) (by omega)
  refine zCon.of (plainFor_of_name (by decide)) rfl (Nat.le_of_ble_eq_true rfl) ?_
  change zV _ _ _ _ _ 0 0 0 [(0, .ref (b 0)), (1, .int v)] []
  refine zv_aload_n (n := 1) dX8_setLimit_0 rfl rfl ?_
  refine zv_aload_n (n := 2) dX8_setLimit_1 rfl rfl ?_
  refine zv_get (n := 5) dX8_setLimit_2 rfl hP.2.2.1 FX8_10 rfl ?_
  refine zv_callVF (n := 8) (As := []) (rest := [.ref (b 0)]) (kc' := 0) (ks' := 0) dX8_setLimit_5 rfl (c_X7_draft hP.2.1 hP.1) rfl kX7_draft lX8_44 hP.2.1.2.2.1 rfl rfl rfl ⟨by decide, by decide⟩ (Nat.le_of_ble_eq_true rfl) rfl rfl (by decide) (by decide) (fun M1 hq => ?_)
  obtain ⟨hA1, ho1⟩ := hq
  have hx := nx_lt nw
  obtain ⟨hP1, hz1⟩ := hP.out hA1 (hP.2.1.off hP.1 (by omega) ho1) (ho1.out (by omega))
  have hC1 := hA1.cen (i := nx nw) (by omega)
  have hO1 := hA1.ok (i := nx nw) (by omega)
  rw [va_up_self] at hC1 hO1
  refine zv_iload_n (n := 9) dX8_setLimit_8 rfl rfl ?_
  refine zv_callVF (n := 12) (As := [.int v]) (rest := [.ref (b 0)]) (kc' := 0) (ks' := 0) dX8_setLimit_9 rfl (c_X1_changeLimit hC1 v) rfl kX1_changeLimit lX8_81 hC1.c0 rfl rfl rfl ⟨by decide, by decide⟩ (Nat.le_of_ble_eq_true rfl) rfl rfl (by decide) (by decide) (fun M2 hq => ?_)
  obtain ⟨hC2, ho2⟩ := hq
  obtain ⟨hP2, hz2⟩ := hP1.cen (by omega) hC2 (fLim_ok hO1 v) ho2
  rw [va_up_up] at hP2
  cases hE : fEx (fLim (S nw) v).1 with
  | some E =>
    refine zv_callVT (n := 15) (As := [.int (fLim (S nw) v).1]) (rest := []) (kc' := 1) (ks' := 6) dX8_setLimit_12 rfl (c_X8_keep_x hP2 hE) rfl kX8_keepUnlessRefused lX8_52 hP2.2.2.1 rfl rfl rfl ⟨by decide, by decide⟩ (Nat.le_of_ble_eq_true rfl) rfl rfl (by decide) (by decide) ?_
    exact zvx_out rfl (by decide) (by decide) ⟨hz1.tr hz2, (fun E9 h9 => ⟨(by rw [hE] at h9; cases h9; rfl), hP2⟩), (fun h9 => by rw [hE] at h9; cases h9)⟩
  | none =>
    skip
    refine zv_callVF (n := 15) (As := [.int (fLim (S nw) v).1]) (rest := []) (kc' := 1) (ks' := 6) dX8_setLimit_12 rfl (c_X8_keep_n hP2 hE) rfl kX8_keepUnlessRefused lX8_52 hP2.2.2.1 rfl rfl rfl ⟨by decide, by decide⟩ (Nat.le_of_ble_eq_true rfl) rfl rfl (by decide) (by decide) (fun M3 hq => ?_)
    refine zv_iret dX8_setLimit_15 rfl (by decide) (by decide) ?_
    exact ⟨(hz1.tr hz2).tr hq.2, (fun E9 h9 => by rw [hE] at h9; cases h9), fun _ => ⟨rfl, hq.1⟩⟩

/-! The law's wrappers: what the called method answers is answered, what it throws is a number: laid by wip/p53/m46.py. -/
/-- thrown, with a picture behind -/
def zX9 (E : String) (P : zM → Prop) : zO → zM → Prop := fun o M' => o = .inr E ∧ P M'
section
variable {μ : zMeth} {R : zRoom} {σ : zSg} {Q : zO → zM → Prop} {M : zM} {kc ks pc n : Nat} {lv : List (Nat × Value)}
theorem zv_callVX {y : zMeth} {Ry : zRoom} {As rest st : List Value} {idx k kc' ks' : Nat} {b ci : Nat} {fs : List Value} {E : String} {P : zM → Prop} (hd : decode μ.2.1 pc = .ok (.invokevirtual idx, 3)) (hn : pc + 3 = n) (hC : zCon y Ry σ (.ref b :: As) M (zX9 E P)) (hh : y.2.2.2.2 = []) (hK : zKV y k) (hlk : zin (.methodLink μ.1.cls idx y.1)) (hb : M b = some (.inr (ci, fs))) (hc : (vwCl[ci]?).map (fun r => r.1) = some y.1.cls) (hst : As.reverse ++ .ref b :: rest = st) (hlen : As.length = k) (hr : zRm y Ry R) (hW : (rest.map fun v => v.category).sum ≤ 8) (h1 : kc + Ry.2.1 = kc') (h2 : ks + Ry.2.2 = ks') (hk : kc' ≤ R.2.1) (hs : ks' ≤ R.2.2)
    (kk : ∀ M', P M' → zVX μ R σ Q M' kc' ks' pc lv E) : zV μ R σ Q M kc ks pc lv (st) :=
  zv_callV hd hn hC hh hK hlk hb hc hst hlen hr hW h1 h2 hk hs (fun v' M' h => nomatch h.1) (fun E' M' h => by
    obtain ⟨e1, e2⟩ := h
    cases e1
    exact kk M' e2)
end

set_option maxRecDepth 100000 in
set_option maxHeartbeats 4000000 in
theorem w_addRack_r {σ : zSg} {M : zM} {o : Nat} {fs : List Value} {x0 x1 x2 : Int32} {P : zM → Prop} {R0 R1 R2 R3 T2 T3 : Nat} {v : Int32} (hb : M o = some (.inr (10, fs))) (hC : zCon μX8_addRack (R1, R2, R3) σ [.ref o, .int x0, .int x1, .int x2] M (zF (some (.int v)) P)) (hR : R1 < R0) (h2 : R2 ≤ T2) (h3 : R3 ≤ T3) : zCon μL_addRack (R0, T2, T3) σ [.ref o, .int x0, .int x1, .int x2] M (zF (some (.int v)) P) := by
  refine zCon.ofH (by decide) rfl (Nat.le_of_ble_eq_true rfl) ?_
  change zV _ _ _ _ _ 0 0 0 [(0, .ref o), (1, .int x0), (2, .int x1), (3, .int x2)] []
  refine zv_aload_n (n := 1) dL_addRack_0 rfl rfl ?_
  refine zv_iload_n (n := 2) dL_addRack_1 rfl rfl ?_
  refine zv_iload_n (n := 3) dL_addRack_2 rfl rfl ?_
  refine zv_iload_n (n := 4) dL_addRack_3 rfl rfl ?_
  refine zv_callVF (n := 7) (As := [.int x0, .int x1, .int x2]) (rest := []) (kc' := (0 + R2)) (ks' := (0 + R3)) dL_addRack_4 rfl (hC) rfl kX8_addRack lL_7 hb rfl rfl rfl ⟨hR, by decide⟩ (Nat.le_of_ble_eq_true rfl) rfl rfl (by rw [Nat.zero_add]; exact h2) (by rw [Nat.zero_add]; exact h3) (fun M1 hq => ?_)
  refine zv_iret dL_addRack_7 rfl (by rw [Nat.zero_add]; exact h2) (by rw [Nat.zero_add]; exact h3) ?_
  exact ⟨rfl, hq⟩

set_option maxRecDepth 100000 in
set_option maxHeartbeats 4000000 in
theorem w_addRack_x0 {σ : zSg} {M : zM} {o : Nat} {fs : List Value} {x0 x1 x2 : Int32} {P : zM → Prop} {R0 R1 R2 R3 T2 T3 : Nat} (hb : M o = some (.inr (10, fs))) (hC : zCon μX8_addRack (R1, R2, R3) σ [.ref o, .int x0, .int x1, .int x2] M (zX9 "java/lang/IndexOutOfBoundsException" P)) (hR : R1 < R0) (h2 : R2 ≤ T2) (h3 : R3 ≤ T3) : zCon μL_addRack (R0, T2, T3) σ [.ref o, .int x0, .int x1, .int x2] M (zF (some (.int (-1001))) P) := by
  refine zCon.ofH (by decide) rfl (Nat.le_of_ble_eq_true rfl) ?_
  change zV _ _ _ _ _ 0 0 0 [(0, .ref o), (1, .int x0), (2, .int x1), (3, .int x2)] []
  refine zv_aload_n (n := 1) dL_addRack_0 rfl rfl ?_
  refine zv_iload_n (n := 2) dL_addRack_1 rfl rfl ?_
  refine zv_iload_n (n := 3) dL_addRack_2 rfl rfl ?_
  refine zv_iload_n (n := 4) dL_addRack_3 rfl rfl ?_
  refine zv_callVX (n := 7) (As := [.int x0, .int x1, .int x2]) (rest := []) (kc' := 0 + R2) (ks' := 0 + R3) dL_addRack_4 rfl hC rfl kX8_addRack lL_7 hb rfl rfl rfl ⟨hR, by decide⟩ (Nat.le_of_ble_eq_true rfl) rfl rfl (by rw [Nat.zero_add]; exact h2) (by rw [Nat.zero_add]; exact h3) ?_
  intro M1 hq
  refine zvx_catch (nm := "java/lang/IndexOutOfBoundsException") [] [(0, 7, 14, 15), (0, 7, 20, 17), (0, 7, 26, 19)] rfl (fun _ h => nomatch h) (by decide) (by decide) eL_13 ca_IndexOutOfBounds_IndexOutOfBounds (by rw [Nat.zero_add]; exact h2) (by rw [Nat.zero_add]; exact h3) (fun q => ?_)
  change zV _ _ _ _ _ _ _ 8 [(0, .ref o), (1, .int x0), (2, .int x1), (3, .int x2)] [.ref q]
  refine zv_astore (n := 10) (lv' := [(4, .ref q), (0, .ref o), (1, .int x0), (2, .int x1), (3, .int x2)]) dL_addRack_8 rfl (by decide) rfl ?_
  refine zv_sipush (n := 13) dL_addRack_10 rfl (v := (-1001)) (by decide) ?_
  refine zv_iret dL_addRack_13 rfl (by rw [Nat.zero_add]; exact h2) (by rw [Nat.zero_add]; exact h3) ?_
  exact ⟨rfl, hq⟩

set_option maxRecDepth 100000 in
set_option maxHeartbeats 4000000 in
theorem w_addRack_x1 {σ : zSg} {M : zM} {o : Nat} {fs : List Value} {x0 x1 x2 : Int32} {P : zM → Prop} {R0 R1 R2 R3 T2 T3 : Nat} (hb : M o = some (.inr (10, fs))) (hC : zCon μX8_addRack (R1, R2, R3) σ [.ref o, .int x0, .int x1, .int x2] M (zX9 "java/lang/IllegalArgumentException" P)) (hR : R1 < R0) (h2 : R2 ≤ T2) (h3 : R3 ≤ T3) : zCon μL_addRack (R0, T2, T3) σ [.ref o, .int x0, .int x1, .int x2] M (zF (some (.int (-1002))) P) := by
  refine zCon.ofH (by decide) rfl (Nat.le_of_ble_eq_true rfl) ?_
  change zV _ _ _ _ _ 0 0 0 [(0, .ref o), (1, .int x0), (2, .int x1), (3, .int x2)] []
  refine zv_aload_n (n := 1) dL_addRack_0 rfl rfl ?_
  refine zv_iload_n (n := 2) dL_addRack_1 rfl rfl ?_
  refine zv_iload_n (n := 3) dL_addRack_2 rfl rfl ?_
  refine zv_iload_n (n := 4) dL_addRack_3 rfl rfl ?_
  refine zv_callVX (n := 7) (As := [.int x0, .int x1, .int x2]) (rest := []) (kc' := 0 + R2) (ks' := 0 + R3) dL_addRack_4 rfl hC rfl kX8_addRack lL_7 hb rfl rfl rfl ⟨hR, by decide⟩ (Nat.le_of_ble_eq_true rfl) rfl rfl (by rw [Nat.zero_add]; exact h2) (by rw [Nat.zero_add]; exact h3) ?_
  intro M1 hq
  refine zvx_catch (nm := "java/lang/IllegalArgumentException") [(0, 7, 8, 13)] [(0, 7, 20, 17), (0, 7, 26, 19)] rfl (List.forall_mem_cons.mpr ⟨⟨by decide, _, eL_13, by decide +kernel⟩, (fun _ h => nomatch h)⟩) (by decide) (by decide) eL_15 ca_IllegalArgument_IllegalArgument (by rw [Nat.zero_add]; exact h2) (by rw [Nat.zero_add]; exact h3) (fun q => ?_)
  change zV _ _ _ _ _ _ _ 14 [(0, .ref o), (1, .int x0), (2, .int x1), (3, .int x2)] [.ref q]
  refine zv_astore (n := 16) (lv' := [(4, .ref q), (0, .ref o), (1, .int x0), (2, .int x1), (3, .int x2)]) dL_addRack_14 rfl (by decide) rfl ?_
  refine zv_sipush (n := 19) dL_addRack_16 rfl (v := (-1002)) (by decide) ?_
  refine zv_iret dL_addRack_19 rfl (by rw [Nat.zero_add]; exact h2) (by rw [Nat.zero_add]; exact h3) ?_
  exact ⟨rfl, hq⟩

set_option maxRecDepth 100000 in
set_option maxHeartbeats 4000000 in
theorem w_addRack_x2 {σ : zSg} {M : zM} {o : Nat} {fs : List Value} {x0 x1 x2 : Int32} {P : zM → Prop} {R0 R1 R2 R3 T2 T3 : Nat} (hb : M o = some (.inr (10, fs))) (hC : zCon μX8_addRack (R1, R2, R3) σ [.ref o, .int x0, .int x1, .int x2] M (zX9 "java/lang/IllegalStateException" P)) (hR : R1 < R0) (h2 : R2 ≤ T2) (h3 : R3 ≤ T3) : zCon μL_addRack (R0, T2, T3) σ [.ref o, .int x0, .int x1, .int x2] M (zF (some (.int (-1003))) P) := by
  refine zCon.ofH (by decide) rfl (Nat.le_of_ble_eq_true rfl) ?_
  change zV _ _ _ _ _ 0 0 0 [(0, .ref o), (1, .int x0), (2, .int x1), (3, .int x2)] []
  refine zv_aload_n (n := 1) dL_addRack_0 rfl rfl ?_
  refine zv_iload_n (n := 2) dL_addRack_1 rfl rfl ?_
  refine zv_iload_n (n := 3) dL_addRack_2 rfl rfl ?_
  refine zv_iload_n (n := 4) dL_addRack_3 rfl rfl ?_
  refine zv_callVX (n := 7) (As := [.int x0, .int x1, .int x2]) (rest := []) (kc' := 0 + R2) (ks' := 0 + R3) dL_addRack_4 rfl hC rfl kX8_addRack lL_7 hb rfl rfl rfl ⟨hR, by decide⟩ (Nat.le_of_ble_eq_true rfl) rfl rfl (by rw [Nat.zero_add]; exact h2) (by rw [Nat.zero_add]; exact h3) ?_
  intro M1 hq
  refine zvx_catch (nm := "java/lang/IllegalStateException") [(0, 7, 8, 13), (0, 7, 14, 15)] [(0, 7, 26, 19)] rfl (List.forall_mem_cons.mpr ⟨⟨by decide, _, eL_13, by decide +kernel⟩, (List.forall_mem_cons.mpr ⟨⟨by decide, _, eL_15, by decide +kernel⟩, (fun _ h => nomatch h)⟩)⟩) (by decide) (by decide) eL_17 ca_IllegalState_IllegalState (by rw [Nat.zero_add]; exact h2) (by rw [Nat.zero_add]; exact h3) (fun q => ?_)
  change zV _ _ _ _ _ _ _ 20 [(0, .ref o), (1, .int x0), (2, .int x1), (3, .int x2)] [.ref q]
  refine zv_astore (n := 22) (lv' := [(4, .ref q), (0, .ref o), (1, .int x0), (2, .int x1), (3, .int x2)]) dL_addRack_20 rfl (by decide) rfl ?_
  refine zv_sipush (n := 25) dL_addRack_22 rfl (v := (-1003)) (by decide) ?_
  refine zv_iret dL_addRack_25 rfl (by rw [Nat.zero_add]; exact h2) (by rw [Nat.zero_add]; exact h3) ?_
  exact ⟨rfl, hq⟩

set_option maxRecDepth 100000 in
set_option maxHeartbeats 4000000 in
theorem w_addRack_x3 {σ : zSg} {M : zM} {o : Nat} {fs : List Value} {x0 x1 x2 : Int32} {P : zM → Prop} {R0 R1 R2 R3 T2 T3 : Nat} (hb : M o = some (.inr (10, fs))) (hC : zCon μX8_addRack (R1, R2, R3) σ [.ref o, .int x0, .int x1, .int x2] M (zX9 "java/lang/UnsupportedOperationException" P)) (hR : R1 < R0) (h2 : R2 ≤ T2) (h3 : R3 ≤ T3) : zCon μL_addRack (R0, T2, T3) σ [.ref o, .int x0, .int x1, .int x2] M (zF (some (.int (-1004))) P) := by
  refine zCon.ofH (by decide) rfl (Nat.le_of_ble_eq_true rfl) ?_
  change zV _ _ _ _ _ 0 0 0 [(0, .ref o), (1, .int x0), (2, .int x1), (3, .int x2)] []
  refine zv_aload_n (n := 1) dL_addRack_0 rfl rfl ?_
  refine zv_iload_n (n := 2) dL_addRack_1 rfl rfl ?_
  refine zv_iload_n (n := 3) dL_addRack_2 rfl rfl ?_
  refine zv_iload_n (n := 4) dL_addRack_3 rfl rfl ?_
  refine zv_callVX (n := 7) (As := [.int x0, .int x1, .int x2]) (rest := []) (kc' := 0 + R2) (ks' := 0 + R3) dL_addRack_4 rfl hC rfl kX8_addRack lL_7 hb rfl rfl rfl ⟨hR, by decide⟩ (Nat.le_of_ble_eq_true rfl) rfl rfl (by rw [Nat.zero_add]; exact h2) (by rw [Nat.zero_add]; exact h3) ?_
  intro M1 hq
  refine zvx_catch (nm := "java/lang/UnsupportedOperationException") [(0, 7, 8, 13), (0, 7, 14, 15), (0, 7, 20, 17)] [] rfl (List.forall_mem_cons.mpr ⟨⟨by decide, _, eL_13, by decide +kernel⟩, (List.forall_mem_cons.mpr ⟨⟨by decide, _, eL_15, by decide +kernel⟩, (List.forall_mem_cons.mpr ⟨⟨by decide, _, eL_17, by decide +kernel⟩, (fun _ h => nomatch h)⟩)⟩)⟩) (by decide) (by decide) eL_19 ca_UnsupportedOperation_UnsupportedOperation (by rw [Nat.zero_add]; exact h2) (by rw [Nat.zero_add]; exact h3) (fun q => ?_)
  change zV _ _ _ _ _ _ _ 26 [(0, .ref o), (1, .int x0), (2, .int x1), (3, .int x2)] [.ref q]
  refine zv_astore (n := 28) (lv' := [(4, .ref q), (0, .ref o), (1, .int x0), (2, .int x1), (3, .int x2)]) dL_addRack_26 rfl (by decide) rfl ?_
  refine zv_sipush (n := 31) dL_addRack_28 rfl (v := (-1004)) (by decide) ?_
  refine zv_iret dL_addRack_31 rfl (by rw [Nat.zero_add]; exact h2) (by rw [Nat.zero_add]; exact h3) ?_
  exact ⟨rfl, hq⟩

set_option maxRecDepth 100000 in
set_option maxHeartbeats 4000000 in
theorem w_removeRack_r {σ : zSg} {M : zM} {o : Nat} {fs : List Value} {x0 : Int32} {P : zM → Prop} {R0 R1 R2 R3 T2 T3 : Nat} {v : Int32} (hb : M o = some (.inr (10, fs))) (hC : zCon μX8_removeRack (R1, R2, R3) σ [.ref o, .int x0] M (zF (some (.int v)) P)) (hR : R1 < R0) (h2 : R2 ≤ T2) (h3 : R3 ≤ T3) : zCon μL_removeRack (R0, T2, T3) σ [.ref o, .int x0] M (zF (some (.int v)) P) := by
  refine zCon.ofH (by decide) rfl (Nat.le_of_ble_eq_true rfl) ?_
  change zV _ _ _ _ _ 0 0 0 [(0, .ref o), (1, .int x0)] []
  refine zv_aload_n (n := 1) dL_removeRack_0 rfl rfl ?_
  refine zv_iload_n (n := 2) dL_removeRack_1 rfl rfl ?_
  refine zv_callVF (n := 5) (As := [.int x0]) (rest := []) (kc' := (0 + R2)) (ks' := (0 + R3)) dL_removeRack_2 rfl (hC) rfl kX8_removeRack lL_21 hb rfl rfl rfl ⟨hR, by decide⟩ (Nat.le_of_ble_eq_true rfl) rfl rfl (by rw [Nat.zero_add]; exact h2) (by rw [Nat.zero_add]; exact h3) (fun M1 hq => ?_)
  refine zv_iret dL_removeRack_5 rfl (by rw [Nat.zero_add]; exact h2) (by rw [Nat.zero_add]; exact h3) ?_
  exact ⟨rfl, hq⟩

set_option maxRecDepth 100000 in
set_option maxHeartbeats 4000000 in
theorem w_removeRack_x0 {σ : zSg} {M : zM} {o : Nat} {fs : List Value} {x0 : Int32} {P : zM → Prop} {R0 R1 R2 R3 T2 T3 : Nat} (hb : M o = some (.inr (10, fs))) (hC : zCon μX8_removeRack (R1, R2, R3) σ [.ref o, .int x0] M (zX9 "java/lang/IndexOutOfBoundsException" P)) (hR : R1 < R0) (h2 : R2 ≤ T2) (h3 : R3 ≤ T3) : zCon μL_removeRack (R0, T2, T3) σ [.ref o, .int x0] M (zF (some (.int (-1001))) P) := by
  refine zCon.ofH (by decide) rfl (Nat.le_of_ble_eq_true rfl) ?_
  change zV _ _ _ _ _ 0 0 0 [(0, .ref o), (1, .int x0)] []
  refine zv_aload_n (n := 1) dL_removeRack_0 rfl rfl ?_
  refine zv_iload_n (n := 2) dL_removeRack_1 rfl rfl ?_
  refine zv_callVX (n := 5) (As := [.int x0]) (rest := []) (kc' := 0 + R2) (ks' := 0 + R3) dL_removeRack_2 rfl hC rfl kX8_removeRack lL_21 hb rfl rfl rfl ⟨hR, by decide⟩ (Nat.le_of_ble_eq_true rfl) rfl rfl (by rw [Nat.zero_add]; exact h2) (by rw [Nat.zero_add]; exact h3) ?_
  intro M1 hq
  refine zvx_catch (nm := "java/lang/IndexOutOfBoundsException") [] [] rfl (fun _ h => nomatch h) (by decide) (by decide) eL_13 ca_IndexOutOfBounds_IndexOutOfBounds (by rw [Nat.zero_add]; exact h2) (by rw [Nat.zero_add]; exact h3) (fun q => ?_)
  change zV _ _ _ _ _ _ _ 6 [(0, .ref o), (1, .int x0)] [.ref q]
  refine zv_astore_n (n := 7) (lv' := [(2, .ref q), (0, .ref o), (1, .int x0)]) dL_removeRack_6 rfl (by decide) rfl ?_
  refine zv_sipush (n := 10) dL_removeRack_7 rfl (v := (-1001)) (by decide) ?_
  refine zv_iret dL_removeRack_10 rfl (by rw [Nat.zero_add]; exact h2) (by rw [Nat.zero_add]; exact h3) ?_
  exact ⟨rfl, hq⟩

set_option maxRecDepth 100000 in
set_option maxHeartbeats 4000000 in
theorem w_moveRack_r {σ : zSg} {M : zM} {o : Nat} {fs : List Value} {x0 x1 x2 : Int32} {P : zM → Prop} {R0 R1 R2 R3 T2 T3 : Nat} {v : Int32} (hb : M o = some (.inr (10, fs))) (hC : zCon μX8_moveRack (R1, R2, R3) σ [.ref o, .int x0, .int x1, .int x2] M (zF (some (.int v)) P)) (hR : R1 < R0) (h2 : R2 ≤ T2) (h3 : R3 ≤ T3) : zCon μL_moveRack (R0, T2, T3) σ [.ref o, .int x0, .int x1, .int x2] M (zF (some (.int v)) P) := by
  refine zCon.ofH (by decide) rfl (Nat.le_of_ble_eq_true rfl) ?_
  change zV _ _ _ _ _ 0 0 0 [(0, .ref o), (1, .int x0), (2, .int x1), (3, .int x2)] []
  refine zv_aload_n (n := 1) dL_moveRack_0 rfl rfl ?_
  refine zv_iload_n (n := 2) dL_moveRack_1 rfl rfl ?_
  refine zv_iload_n (n := 3) dL_moveRack_2 rfl rfl ?_
  refine zv_iload_n (n := 4) dL_moveRack_3 rfl rfl ?_
  refine zv_callVF (n := 7) (As := [.int x0, .int x1, .int x2]) (rest := []) (kc' := (0 + R2)) (ks' := (0 + R3)) dL_moveRack_4 rfl (hC) rfl kX8_moveRack lL_25 hb rfl rfl rfl ⟨hR, by decide⟩ (Nat.le_of_ble_eq_true rfl) rfl rfl (by rw [Nat.zero_add]; exact h2) (by rw [Nat.zero_add]; exact h3) (fun M1 hq => ?_)
  refine zv_iret dL_moveRack_7 rfl (by rw [Nat.zero_add]; exact h2) (by rw [Nat.zero_add]; exact h3) ?_
  exact ⟨rfl, hq⟩

set_option maxRecDepth 100000 in
set_option maxHeartbeats 4000000 in
theorem w_moveRack_x0 {σ : zSg} {M : zM} {o : Nat} {fs : List Value} {x0 x1 x2 : Int32} {P : zM → Prop} {R0 R1 R2 R3 T2 T3 : Nat} (hb : M o = some (.inr (10, fs))) (hC : zCon μX8_moveRack (R1, R2, R3) σ [.ref o, .int x0, .int x1, .int x2] M (zX9 "java/lang/IndexOutOfBoundsException" P)) (hR : R1 < R0) (h2 : R2 ≤ T2) (h3 : R3 ≤ T3) : zCon μL_moveRack (R0, T2, T3) σ [.ref o, .int x0, .int x1, .int x2] M (zF (some (.int (-1001))) P) := by
  refine zCon.ofH (by decide) rfl (Nat.le_of_ble_eq_true rfl) ?_
  change zV _ _ _ _ _ 0 0 0 [(0, .ref o), (1, .int x0), (2, .int x1), (3, .int x2)] []
  refine zv_aload_n (n := 1) dL_moveRack_0 rfl rfl ?_
  refine zv_iload_n (n := 2) dL_moveRack_1 rfl rfl ?_
  refine zv_iload_n (n := 3) dL_moveRack_2 rfl rfl ?_
  refine zv_iload_n (n := 4) dL_moveRack_3 rfl rfl ?_
  refine zv_callVX (n := 7) (As := [.int x0, .int x1, .int x2]) (rest := []) (kc' := 0 + R2) (ks' := 0 + R3) dL_moveRack_4 rfl hC rfl kX8_moveRack lL_25 hb rfl rfl rfl ⟨hR, by decide⟩ (Nat.le_of_ble_eq_true rfl) rfl rfl (by rw [Nat.zero_add]; exact h2) (by rw [Nat.zero_add]; exact h3) ?_
  intro M1 hq
  refine zvx_catch (nm := "java/lang/IndexOutOfBoundsException") [] [(0, 7, 14, 15), (0, 7, 20, 19)] rfl (fun _ h => nomatch h) (by decide) (by decide) eL_13 ca_IndexOutOfBounds_IndexOutOfBounds (by rw [Nat.zero_add]; exact h2) (by rw [Nat.zero_add]; exact h3) (fun q => ?_)
  change zV _ _ _ _ _ _ _ 8 [(0, .ref o), (1, .int x0), (2, .int x1), (3, .int x2)] [.ref q]
  refine zv_astore (n := 10) (lv' := [(4, .ref q), (0, .ref o), (1, .int x0), (2, .int x1), (3, .int x2)]) dL_moveRack_8 rfl (by decide) rfl ?_
  refine zv_sipush (n := 13) dL_moveRack_10 rfl (v := (-1001)) (by decide) ?_
  refine zv_iret dL_moveRack_13 rfl (by rw [Nat.zero_add]; exact h2) (by rw [Nat.zero_add]; exact h3) ?_
  exact ⟨rfl, hq⟩

set_option maxRecDepth 100000 in
set_option maxHeartbeats 4000000 in
theorem w_moveRack_x1 {σ : zSg} {M : zM} {o : Nat} {fs : List Value} {x0 x1 x2 : Int32} {P : zM → Prop} {R0 R1 R2 R3 T2 T3 : Nat} (hb : M o = some (.inr (10, fs))) (hC : zCon μX8_moveRack (R1, R2, R3) σ [.ref o, .int x0, .int x1, .int x2] M (zX9 "java/lang/IllegalArgumentException" P)) (hR : R1 < R0) (h2 : R2 ≤ T2) (h3 : R3 ≤ T3) : zCon μL_moveRack (R0, T2, T3) σ [.ref o, .int x0, .int x1, .int x2] M (zF (some (.int (-1002))) P) := by
  refine zCon.ofH (by decide) rfl (Nat.le_of_ble_eq_true rfl) ?_
  change zV _ _ _ _ _ 0 0 0 [(0, .ref o), (1, .int x0), (2, .int x1), (3, .int x2)] []
  refine zv_aload_n (n := 1) dL_moveRack_0 rfl rfl ?_
  refine zv_iload_n (n := 2) dL_moveRack_1 rfl rfl ?_
  refine zv_iload_n (n := 3) dL_moveRack_2 rfl rfl ?_
  refine zv_iload_n (n := 4) dL_moveRack_3 rfl rfl ?_
  refine zv_callVX (n := 7) (As := [.int x0, .int x1, .int x2]) (rest := []) (kc' := 0 + R2) (ks' := 0 + R3) dL_moveRack_4 rfl hC rfl kX8_moveRack lL_25 hb rfl rfl rfl ⟨hR, by decide⟩ (Nat.le_of_ble_eq_true rfl) rfl rfl (by rw [Nat.zero_add]; exact h2) (by rw [Nat.zero_add]; exact h3) ?_
  intro M1 hq
  refine zvx_catch (nm := "java/lang/IllegalArgumentException") [(0, 7, 8, 13)] [(0, 7, 20, 19)] rfl (List.forall_mem_cons.mpr ⟨⟨by decide, _, eL_13, by decide +kernel⟩, (fun _ h => nomatch h)⟩) (by decide) (by decide) eL_15 ca_IllegalArgument_IllegalArgument (by rw [Nat.zero_add]; exact h2) (by rw [Nat.zero_add]; exact h3) (fun q => ?_)
  change zV _ _ _ _ _ _ _ 14 [(0, .ref o), (1, .int x0), (2, .int x1), (3, .int x2)] [.ref q]
  refine zv_astore (n := 16) (lv' := [(4, .ref q), (0, .ref o), (1, .int x0), (2, .int x1), (3, .int x2)]) dL_moveRack_14 rfl (by decide) rfl ?_
  refine zv_sipush (n := 19) dL_moveRack_16 rfl (v := (-1002)) (by decide) ?_
  refine zv_iret dL_moveRack_19 rfl (by rw [Nat.zero_add]; exact h2) (by rw [Nat.zero_add]; exact h3) ?_
  exact ⟨rfl, hq⟩

set_option maxRecDepth 100000 in
set_option maxHeartbeats 4000000 in
theorem w_moveRack_x2 {σ : zSg} {M : zM} {o : Nat} {fs : List Value} {x0 x1 x2 : Int32} {P : zM → Prop} {R0 R1 R2 R3 T2 T3 : Nat} (hb : M o = some (.inr (10, fs))) (hC : zCon μX8_moveRack (R1, R2, R3) σ [.ref o, .int x0, .int x1, .int x2] M (zX9 "java/lang/UnsupportedOperationException" P)) (hR : R1 < R0) (h2 : R2 ≤ T2) (h3 : R3 ≤ T3) : zCon μL_moveRack (R0, T2, T3) σ [.ref o, .int x0, .int x1, .int x2] M (zF (some (.int (-1003))) P) := by
  refine zCon.ofH (by decide) rfl (Nat.le_of_ble_eq_true rfl) ?_
  change zV _ _ _ _ _ 0 0 0 [(0, .ref o), (1, .int x0), (2, .int x1), (3, .int x2)] []
  refine zv_aload_n (n := 1) dL_moveRack_0 rfl rfl ?_
  refine zv_iload_n (n := 2) dL_moveRack_1 rfl rfl ?_
  refine zv_iload_n (n := 3) dL_moveRack_2 rfl rfl ?_
  refine zv_iload_n (n := 4) dL_moveRack_3 rfl rfl ?_
  refine zv_callVX (n := 7) (As := [.int x0, .int x1, .int x2]) (rest := []) (kc' := 0 + R2) (ks' := 0 + R3) dL_moveRack_4 rfl hC rfl kX8_moveRack lL_25 hb rfl rfl rfl ⟨hR, by decide⟩ (Nat.le_of_ble_eq_true rfl) rfl rfl (by rw [Nat.zero_add]; exact h2) (by rw [Nat.zero_add]; exact h3) ?_
  intro M1 hq
  refine zvx_catch (nm := "java/lang/UnsupportedOperationException") [(0, 7, 8, 13), (0, 7, 14, 15)] [] rfl (List.forall_mem_cons.mpr ⟨⟨by decide, _, eL_13, by decide +kernel⟩, (List.forall_mem_cons.mpr ⟨⟨by decide, _, eL_15, by decide +kernel⟩, (fun _ h => nomatch h)⟩)⟩) (by decide) (by decide) eL_19 ca_UnsupportedOperation_UnsupportedOperation (by rw [Nat.zero_add]; exact h2) (by rw [Nat.zero_add]; exact h3) (fun q => ?_)
  change zV _ _ _ _ _ _ _ 20 [(0, .ref o), (1, .int x0), (2, .int x1), (3, .int x2)] [.ref q]
  refine zv_astore (n := 22) (lv' := [(4, .ref q), (0, .ref o), (1, .int x0), (2, .int x1), (3, .int x2)]) dL_moveRack_20 rfl (by decide) rfl ?_
  refine zv_sipush (n := 25) dL_moveRack_22 rfl (v := (-1003)) (by decide) ?_
  refine zv_iret dL_moveRack_25 rfl (by rw [Nat.zero_add]; exact h2) (by rw [Nat.zero_add]; exact h3) ?_
  exact ⟨rfl, hq⟩

set_option maxRecDepth 100000 in
set_option maxHeartbeats 4000000 in
theorem w_setLoad_r {σ : zSg} {M : zM} {o : Nat} {fs : List Value} {x0 x1 : Int32} {P : zM → Prop} {R0 R1 R2 R3 T2 T3 : Nat} {v : Int32} (hb : M o = some (.inr (10, fs))) (hC : zCon μX8_setLoad (R1, R2, R3) σ [.ref o, .int x0, .int x1] M (zF (some (.int v)) P)) (hR : R1 < R0) (h2 : R2 ≤ T2) (h3 : R3 ≤ T3) : zCon μL_setLoad (R0, T2, T3) σ [.ref o, .int x0, .int x1] M (zF (some (.int v)) P) := by
  refine zCon.ofH (by decide) rfl (Nat.le_of_ble_eq_true rfl) ?_
  change zV _ _ _ _ _ 0 0 0 [(0, .ref o), (1, .int x0), (2, .int x1)] []
  refine zv_aload_n (n := 1) dL_setLoad_0 rfl rfl ?_
  refine zv_iload_n (n := 2) dL_setLoad_1 rfl rfl ?_
  refine zv_iload_n (n := 3) dL_setLoad_2 rfl rfl ?_
  refine zv_callVF (n := 6) (As := [.int x0, .int x1]) (rest := []) (kc' := (0 + R2)) (ks' := (0 + R3)) dL_setLoad_3 rfl (hC) rfl kX8_setLoad lL_28 hb rfl rfl rfl ⟨hR, by decide⟩ (Nat.le_of_ble_eq_true rfl) rfl rfl (by rw [Nat.zero_add]; exact h2) (by rw [Nat.zero_add]; exact h3) (fun M1 hq => ?_)
  refine zv_iret dL_setLoad_6 rfl (by rw [Nat.zero_add]; exact h2) (by rw [Nat.zero_add]; exact h3) ?_
  exact ⟨rfl, hq⟩

set_option maxRecDepth 100000 in
set_option maxHeartbeats 4000000 in
theorem w_setLoad_x0 {σ : zSg} {M : zM} {o : Nat} {fs : List Value} {x0 x1 : Int32} {P : zM → Prop} {R0 R1 R2 R3 T2 T3 : Nat} (hb : M o = some (.inr (10, fs))) (hC : zCon μX8_setLoad (R1, R2, R3) σ [.ref o, .int x0, .int x1] M (zX9 "java/lang/IndexOutOfBoundsException" P)) (hR : R1 < R0) (h2 : R2 ≤ T2) (h3 : R3 ≤ T3) : zCon μL_setLoad (R0, T2, T3) σ [.ref o, .int x0, .int x1] M (zF (some (.int (-1001))) P) := by
  refine zCon.ofH (by decide) rfl (Nat.le_of_ble_eq_true rfl) ?_
  change zV _ _ _ _ _ 0 0 0 [(0, .ref o), (1, .int x0), (2, .int x1)] []
  refine zv_aload_n (n := 1) dL_setLoad_0 rfl rfl ?_
  refine zv_iload_n (n := 2) dL_setLoad_1 rfl rfl ?_
  refine zv_iload_n (n := 3) dL_setLoad_2 rfl rfl ?_
  refine zv_callVX (n := 6) (As := [.int x0, .int x1]) (rest := []) (kc' := 0 + R2) (ks' := 0 + R3) dL_setLoad_3 rfl hC rfl kX8_setLoad lL_28 hb rfl rfl rfl ⟨hR, by decide⟩ (Nat.le_of_ble_eq_true rfl) rfl rfl (by rw [Nat.zero_add]; exact h2) (by rw [Nat.zero_add]; exact h3) ?_
  intro M1 hq
  refine zvx_catch (nm := "java/lang/IndexOutOfBoundsException") [] [(0, 6, 12, 15)] rfl (fun _ h => nomatch h) (by decide) (by decide) eL_13 ca_IndexOutOfBounds_IndexOutOfBounds (by rw [Nat.zero_add]; exact h2) (by rw [Nat.zero_add]; exact h3) (fun q => ?_)
  change zV _ _ _ _ _ _ _ 7 [(0, .ref o), (1, .int x0), (2, .int x1)] [.ref q]
  refine zv_astore_n (n := 8) (lv' := [(3, .ref q), (0, .ref o), (1, .int x0), (2, .int x1)]) dL_setLoad_7 rfl (by decide) rfl ?_
  refine zv_sipush (n := 11) dL_setLoad_8 rfl (v := (-1001)) (by decide) ?_
  refine zv_iret dL_setLoad_11 rfl (by rw [Nat.zero_add]; exact h2) (by rw [Nat.zero_add]; exact h3) ?_
  exact ⟨rfl, hq⟩

set_option maxRecDepth 100000 in
set_option maxHeartbeats 4000000 in
theorem w_setLoad_x1 {σ : zSg} {M : zM} {o : Nat} {fs : List Value} {x0 x1 : Int32} {P : zM → Prop} {R0 R1 R2 R3 T2 T3 : Nat} (hb : M o = some (.inr (10, fs))) (hC : zCon μX8_setLoad (R1, R2, R3) σ [.ref o, .int x0, .int x1] M (zX9 "java/lang/IllegalArgumentException" P)) (hR : R1 < R0) (h2 : R2 ≤ T2) (h3 : R3 ≤ T3) : zCon μL_setLoad (R0, T2, T3) σ [.ref o, .int x0, .int x1] M (zF (some (.int (-1002))) P) := by
  refine zCon.ofH (by decide) rfl (Nat.le_of_ble_eq_true rfl) ?_
  change zV _ _ _ _ _ 0 0 0 [(0, .ref o), (1, .int x0), (2, .int x1)] []
  refine zv_aload_n (n := 1) dL_setLoad_0 rfl rfl ?_
  refine zv_iload_n (n := 2) dL_setLoad_1 rfl rfl ?_
  refine zv_iload_n (n := 3) dL_setLoad_2 rfl rfl ?_
  refine zv_callVX (n := 6) (As := [.int x0, .int x1]) (rest := []) (kc' := 0 + R2) (ks' := 0 + R3) dL_setLoad_3 rfl hC rfl kX8_setLoad lL_28 hb rfl rfl rfl ⟨hR, by decide⟩ (Nat.le_of_ble_eq_true rfl) rfl rfl (by rw [Nat.zero_add]; exact h2) (by rw [Nat.zero_add]; exact h3) ?_
  intro M1 hq
  refine zvx_catch (nm := "java/lang/IllegalArgumentException") [(0, 6, 7, 13)] [] rfl (List.forall_mem_cons.mpr ⟨⟨by decide, _, eL_13, by decide +kernel⟩, (fun _ h => nomatch h)⟩) (by decide) (by decide) eL_15 ca_IllegalArgument_IllegalArgument (by rw [Nat.zero_add]; exact h2) (by rw [Nat.zero_add]; exact h3) (fun q => ?_)
  change zV _ _ _ _ _ _ _ 12 [(0, .ref o), (1, .int x0), (2, .int x1)] [.ref q]
  refine zv_astore_n (n := 13) (lv' := [(3, .ref q), (0, .ref o), (1, .int x0), (2, .int x1)]) dL_setLoad_12 rfl (by decide) rfl ?_
  refine zv_sipush (n := 16) dL_setLoad_13 rfl (v := (-1002)) (by decide) ?_
  refine zv_iret dL_setLoad_16 rfl (by rw [Nat.zero_add]; exact h2) (by rw [Nat.zero_add]; exact h3) ?_
  exact ⟨rfl, hq⟩

set_option maxRecDepth 100000 in
set_option maxHeartbeats 4000000 in
theorem w_migrate_r {σ : zSg} {M : zM} {o : Nat} {fs : List Value} {x0 x1 x2 : Int32} {P : zM → Prop} {R0 R1 R2 R3 T2 T3 : Nat} {v : Int32} (hb : M o = some (.inr (10, fs))) (hC : zCon μX8_migrate (R1, R2, R3) σ [.ref o, .int x0, .int x1, .int x2] M (zF (some (.int v)) P)) (hR : R1 < R0) (h2 : R2 ≤ T2) (h3 : R3 ≤ T3) : zCon μL_migrate (R0, T2, T3) σ [.ref o, .int x0, .int x1, .int x2] M (zF (some (.int v)) P) := by
  refine zCon.ofH (by decide) rfl (Nat.le_of_ble_eq_true rfl) ?_
  change zV _ _ _ _ _ 0 0 0 [(0, .ref o), (1, .int x0), (2, .int x1), (3, .int x2)] []
  refine zv_aload_n (n := 1) dL_migrate_0 rfl rfl ?_
  refine zv_iload_n (n := 2) dL_migrate_1 rfl rfl ?_
  refine zv_iload_n (n := 3) dL_migrate_2 rfl rfl ?_
  refine zv_iload_n (n := 4) dL_migrate_3 rfl rfl ?_
  refine zv_callVF (n := 7) (As := [.int x0, .int x1, .int x2]) (rest := []) (kc' := (0 + R2)) (ks' := (0 + R3)) dL_migrate_4 rfl (hC) rfl kX8_migrate lL_32 hb rfl rfl rfl ⟨hR, by decide⟩ (Nat.le_of_ble_eq_true rfl) rfl rfl (by rw [Nat.zero_add]; exact h2) (by rw [Nat.zero_add]; exact h3) (fun M1 hq => ?_)
  refine zv_iret dL_migrate_7 rfl (by rw [Nat.zero_add]; exact h2) (by rw [Nat.zero_add]; exact h3) ?_
  exact ⟨rfl, hq⟩

set_option maxRecDepth 100000 in
set_option maxHeartbeats 4000000 in
theorem w_migrate_x0 {σ : zSg} {M : zM} {o : Nat} {fs : List Value} {x0 x1 x2 : Int32} {P : zM → Prop} {R0 R1 R2 R3 T2 T3 : Nat} (hb : M o = some (.inr (10, fs))) (hC : zCon μX8_migrate (R1, R2, R3) σ [.ref o, .int x0, .int x1, .int x2] M (zX9 "java/lang/IndexOutOfBoundsException" P)) (hR : R1 < R0) (h2 : R2 ≤ T2) (h3 : R3 ≤ T3) : zCon μL_migrate (R0, T2, T3) σ [.ref o, .int x0, .int x1, .int x2] M (zF (some (.int (-1001))) P) := by
  refine zCon.ofH (by decide) rfl (Nat.le_of_ble_eq_true rfl) ?_
  change zV _ _ _ _ _ 0 0 0 [(0, .ref o), (1, .int x0), (2, .int x1), (3, .int x2)] []
  refine zv_aload_n (n := 1) dL_migrate_0 rfl rfl ?_
  refine zv_iload_n (n := 2) dL_migrate_1 rfl rfl ?_
  refine zv_iload_n (n := 3) dL_migrate_2 rfl rfl ?_
  refine zv_iload_n (n := 4) dL_migrate_3 rfl rfl ?_
  refine zv_callVX (n := 7) (As := [.int x0, .int x1, .int x2]) (rest := []) (kc' := 0 + R2) (ks' := 0 + R3) dL_migrate_4 rfl hC rfl kX8_migrate lL_32 hb rfl rfl rfl ⟨hR, by decide⟩ (Nat.le_of_ble_eq_true rfl) rfl rfl (by rw [Nat.zero_add]; exact h2) (by rw [Nat.zero_add]; exact h3) ?_
  intro M1 hq
  refine zvx_catch (nm := "java/lang/IndexOutOfBoundsException") [] [(0, 7, 14, 15), (0, 7, 20, 19)] rfl (fun _ h => nomatch h) (by decide) (by decide) eL_13 ca_IndexOutOfBounds_IndexOutOfBounds (by rw [Nat.zero_add]; exact h2) (by rw [Nat.zero_add]; exact h3) (fun q => ?_)
  change zV _ _ _ _ _ _ _ 8 [(0, .ref o), (1, .int x0), (2, .int x1), (3, .int x2)] [.ref q]
  refine zv_astore (n := 10) (lv' := [(4, .ref q), (0, .ref o), (1, .int x0), (2, .int x1), (3, .int x2)]) dL_migrate_8 rfl (by decide) rfl ?_
  refine zv_sipush (n := 13) dL_migrate_10 rfl (v := (-1001)) (by decide) ?_
  refine zv_iret dL_migrate_13 rfl (by rw [Nat.zero_add]; exact h2) (by rw [Nat.zero_add]; exact h3) ?_
  exact ⟨rfl, hq⟩

set_option maxRecDepth 100000 in
set_option maxHeartbeats 4000000 in
theorem w_migrate_x1 {σ : zSg} {M : zM} {o : Nat} {fs : List Value} {x0 x1 x2 : Int32} {P : zM → Prop} {R0 R1 R2 R3 T2 T3 : Nat} (hb : M o = some (.inr (10, fs))) (hC : zCon μX8_migrate (R1, R2, R3) σ [.ref o, .int x0, .int x1, .int x2] M (zX9 "java/lang/IllegalArgumentException" P)) (hR : R1 < R0) (h2 : R2 ≤ T2) (h3 : R3 ≤ T3) : zCon μL_migrate (R0, T2, T3) σ [.ref o, .int x0, .int x1, .int x2] M (zF (some (.int (-1002))) P) := by
  refine zCon.ofH (by decide) rfl (Nat.le_of_ble_eq_true rfl) ?_
  change zV _ _ _ _ _ 0 0 0 [(0, .ref o), (1, .int x0), (2, .int x1), (3, .int x2)] []
  refine zv_aload_n (n := 1) dL_migrate_0 rfl rfl ?_
  refine zv_iload_n (n := 2) dL_migrate_1 rfl rfl ?_
  refine zv_iload_n (n := 3) dL_migrate_2 rfl rfl ?_
  refine zv_iload_n (n := 4) dL_migrate_3 rfl rfl ?_
  refine zv_callVX (n := 7) (As := [.int x0, .int x1, .int x2]) (rest := []) (kc' := 0 + R2) (ks' := 0 + R3) dL_migrate_4 rfl hC rfl kX8_migrate lL_32 hb rfl rfl rfl ⟨hR, by decide⟩ (Nat.le_of_ble_eq_true rfl) rfl rfl (by rw [Nat.zero_add]; exact h2) (by rw [Nat.zero_add]; exact h3) ?_
  intro M1 hq
  refine zvx_catch (nm := "java/lang/IllegalArgumentException") [(0, 7, 8, 13)] [(0, 7, 20, 19)] rfl (List.forall_mem_cons.mpr ⟨⟨by decide, _, eL_13, by decide +kernel⟩, (fun _ h => nomatch h)⟩) (by decide) (by decide) eL_15 ca_IllegalArgument_IllegalArgument (by rw [Nat.zero_add]; exact h2) (by rw [Nat.zero_add]; exact h3) (fun q => ?_)
  change zV _ _ _ _ _ _ _ 14 [(0, .ref o), (1, .int x0), (2, .int x1), (3, .int x2)] [.ref q]
  refine zv_astore (n := 16) (lv' := [(4, .ref q), (0, .ref o), (1, .int x0), (2, .int x1), (3, .int x2)]) dL_migrate_14 rfl (by decide) rfl ?_
  refine zv_sipush (n := 19) dL_migrate_16 rfl (v := (-1002)) (by decide) ?_
  refine zv_iret dL_migrate_19 rfl (by rw [Nat.zero_add]; exact h2) (by rw [Nat.zero_add]; exact h3) ?_
  exact ⟨rfl, hq⟩

set_option maxRecDepth 100000 in
set_option maxHeartbeats 4000000 in
theorem w_migrate_x2 {σ : zSg} {M : zM} {o : Nat} {fs : List Value} {x0 x1 x2 : Int32} {P : zM → Prop} {R0 R1 R2 R3 T2 T3 : Nat} (hb : M o = some (.inr (10, fs))) (hC : zCon μX8_migrate (R1, R2, R3) σ [.ref o, .int x0, .int x1, .int x2] M (zX9 "java/lang/UnsupportedOperationException" P)) (hR : R1 < R0) (h2 : R2 ≤ T2) (h3 : R3 ≤ T3) : zCon μL_migrate (R0, T2, T3) σ [.ref o, .int x0, .int x1, .int x2] M (zF (some (.int (-1003))) P) := by
  refine zCon.ofH (by decide) rfl (Nat.le_of_ble_eq_true rfl) ?_
  change zV _ _ _ _ _ 0 0 0 [(0, .ref o), (1, .int x0), (2, .int x1), (3, .int x2)] []
  refine zv_aload_n (n := 1) dL_migrate_0 rfl rfl ?_
  refine zv_iload_n (n := 2) dL_migrate_1 rfl rfl ?_
  refine zv_iload_n (n := 3) dL_migrate_2 rfl rfl ?_
  refine zv_iload_n (n := 4) dL_migrate_3 rfl rfl ?_
  refine zv_callVX (n := 7) (As := [.int x0, .int x1, .int x2]) (rest := []) (kc' := 0 + R2) (ks' := 0 + R3) dL_migrate_4 rfl hC rfl kX8_migrate lL_32 hb rfl rfl rfl ⟨hR, by decide⟩ (Nat.le_of_ble_eq_true rfl) rfl rfl (by rw [Nat.zero_add]; exact h2) (by rw [Nat.zero_add]; exact h3) ?_
  intro M1 hq
  refine zvx_catch (nm := "java/lang/UnsupportedOperationException") [(0, 7, 8, 13), (0, 7, 14, 15)] [] rfl (List.forall_mem_cons.mpr ⟨⟨by decide, _, eL_13, by decide +kernel⟩, (List.forall_mem_cons.mpr ⟨⟨by decide, _, eL_15, by decide +kernel⟩, (fun _ h => nomatch h)⟩)⟩) (by decide) (by decide) eL_19 ca_UnsupportedOperation_UnsupportedOperation (by rw [Nat.zero_add]; exact h2) (by rw [Nat.zero_add]; exact h3) (fun q => ?_)
  change zV _ _ _ _ _ _ _ 20 [(0, .ref o), (1, .int x0), (2, .int x1), (3, .int x2)] [.ref q]
  refine zv_astore (n := 22) (lv' := [(4, .ref q), (0, .ref o), (1, .int x0), (2, .int x1), (3, .int x2)]) dL_migrate_20 rfl (by decide) rfl ?_
  refine zv_sipush (n := 25) dL_migrate_22 rfl (v := (-1003)) (by decide) ?_
  refine zv_iret dL_migrate_25 rfl (by rw [Nat.zero_add]; exact h2) (by rw [Nat.zero_add]; exact h3) ?_
  exact ⟨rfl, hq⟩

set_option maxRecDepth 100000 in
set_option maxHeartbeats 4000000 in
theorem w_setFan_r {σ : zSg} {M : zM} {o : Nat} {fs : List Value} {x0 x1 : Int32} {P : zM → Prop} {R0 R1 R2 R3 T2 T3 : Nat} {v : Int32} (hb : M o = some (.inr (10, fs))) (hC : zCon μX8_setFan (R1, R2, R3) σ [.ref o, .int x0, .int x1] M (zF (some (.int v)) P)) (hR : R1 < R0) (h2 : R2 ≤ T2) (h3 : R3 ≤ T3) : zCon μL_setFan (R0, T2, T3) σ [.ref o, .int x0, .int x1] M (zF (some (.int v)) P) := by
  refine zCon.ofH (by decide) rfl (Nat.le_of_ble_eq_true rfl) ?_
  change zV _ _ _ _ _ 0 0 0 [(0, .ref o), (1, .int x0), (2, .int x1)] []
  refine zv_aload_n (n := 1) dL_setFan_0 rfl rfl ?_
  refine zv_iload_n (n := 2) dL_setFan_1 rfl rfl ?_
  refine zv_iload_n (n := 3) dL_setFan_2 rfl rfl ?_
  refine zv_callVF (n := 6) (As := [.int x0, .int x1]) (rest := []) (kc' := (0 + R2)) (ks' := (0 + R3)) dL_setFan_3 rfl (hC) rfl kX8_setFan lL_35 hb rfl rfl rfl ⟨hR, by decide⟩ (Nat.le_of_ble_eq_true rfl) rfl rfl (by rw [Nat.zero_add]; exact h2) (by rw [Nat.zero_add]; exact h3) (fun M1 hq => ?_)
  refine zv_iret dL_setFan_6 rfl (by rw [Nat.zero_add]; exact h2) (by rw [Nat.zero_add]; exact h3) ?_
  exact ⟨rfl, hq⟩

set_option maxRecDepth 100000 in
set_option maxHeartbeats 4000000 in
theorem w_setFan_x0 {σ : zSg} {M : zM} {o : Nat} {fs : List Value} {x0 x1 : Int32} {P : zM → Prop} {R0 R1 R2 R3 T2 T3 : Nat} (hb : M o = some (.inr (10, fs))) (hC : zCon μX8_setFan (R1, R2, R3) σ [.ref o, .int x0, .int x1] M (zX9 "java/lang/IndexOutOfBoundsException" P)) (hR : R1 < R0) (h2 : R2 ≤ T2) (h3 : R3 ≤ T3) : zCon μL_setFan (R0, T2, T3) σ [.ref o, .int x0, .int x1] M (zF (some (.int (-1001))) P) := by
  refine zCon.ofH (by decide) rfl (Nat.le_of_ble_eq_true rfl) ?_
  change zV _ _ _ _ _ 0 0 0 [(0, .ref o), (1, .int x0), (2, .int x1)] []
  refine zv_aload_n (n := 1) dL_setFan_0 rfl rfl ?_
  refine zv_iload_n (n := 2) dL_setFan_1 rfl rfl ?_
  refine zv_iload_n (n := 3) dL_setFan_2 rfl rfl ?_
  refine zv_callVX (n := 6) (As := [.int x0, .int x1]) (rest := []) (kc' := 0 + R2) (ks' := 0 + R3) dL_setFan_3 rfl hC rfl kX8_setFan lL_35 hb rfl rfl rfl ⟨hR, by decide⟩ (Nat.le_of_ble_eq_true rfl) rfl rfl (by rw [Nat.zero_add]; exact h2) (by rw [Nat.zero_add]; exact h3) ?_
  intro M1 hq
  refine zvx_catch (nm := "java/lang/IndexOutOfBoundsException") [] [(0, 6, 12, 15)] rfl (fun _ h => nomatch h) (by decide) (by decide) eL_13 ca_IndexOutOfBounds_IndexOutOfBounds (by rw [Nat.zero_add]; exact h2) (by rw [Nat.zero_add]; exact h3) (fun q => ?_)
  change zV _ _ _ _ _ _ _ 7 [(0, .ref o), (1, .int x0), (2, .int x1)] [.ref q]
  refine zv_astore_n (n := 8) (lv' := [(3, .ref q), (0, .ref o), (1, .int x0), (2, .int x1)]) dL_setFan_7 rfl (by decide) rfl ?_
  refine zv_sipush (n := 11) dL_setFan_8 rfl (v := (-1001)) (by decide) ?_
  refine zv_iret dL_setFan_11 rfl (by rw [Nat.zero_add]; exact h2) (by rw [Nat.zero_add]; exact h3) ?_
  exact ⟨rfl, hq⟩

set_option maxRecDepth 100000 in
set_option maxHeartbeats 4000000 in
theorem w_setFan_x1 {σ : zSg} {M : zM} {o : Nat} {fs : List Value} {x0 x1 : Int32} {P : zM → Prop} {R0 R1 R2 R3 T2 T3 : Nat} (hb : M o = some (.inr (10, fs))) (hC : zCon μX8_setFan (R1, R2, R3) σ [.ref o, .int x0, .int x1] M (zX9 "java/lang/IllegalArgumentException" P)) (hR : R1 < R0) (h2 : R2 ≤ T2) (h3 : R3 ≤ T3) : zCon μL_setFan (R0, T2, T3) σ [.ref o, .int x0, .int x1] M (zF (some (.int (-1002))) P) := by
  refine zCon.ofH (by decide) rfl (Nat.le_of_ble_eq_true rfl) ?_
  change zV _ _ _ _ _ 0 0 0 [(0, .ref o), (1, .int x0), (2, .int x1)] []
  refine zv_aload_n (n := 1) dL_setFan_0 rfl rfl ?_
  refine zv_iload_n (n := 2) dL_setFan_1 rfl rfl ?_
  refine zv_iload_n (n := 3) dL_setFan_2 rfl rfl ?_
  refine zv_callVX (n := 6) (As := [.int x0, .int x1]) (rest := []) (kc' := 0 + R2) (ks' := 0 + R3) dL_setFan_3 rfl hC rfl kX8_setFan lL_35 hb rfl rfl rfl ⟨hR, by decide⟩ (Nat.le_of_ble_eq_true rfl) rfl rfl (by rw [Nat.zero_add]; exact h2) (by rw [Nat.zero_add]; exact h3) ?_
  intro M1 hq
  refine zvx_catch (nm := "java/lang/IllegalArgumentException") [(0, 6, 7, 13)] [] rfl (List.forall_mem_cons.mpr ⟨⟨by decide, _, eL_13, by decide +kernel⟩, (fun _ h => nomatch h)⟩) (by decide) (by decide) eL_15 ca_IllegalArgument_IllegalArgument (by rw [Nat.zero_add]; exact h2) (by rw [Nat.zero_add]; exact h3) (fun q => ?_)
  change zV _ _ _ _ _ _ _ 12 [(0, .ref o), (1, .int x0), (2, .int x1)] [.ref q]
  refine zv_astore_n (n := 13) (lv' := [(3, .ref q), (0, .ref o), (1, .int x0), (2, .int x1)]) dL_setFan_12 rfl (by decide) rfl ?_
  refine zv_sipush (n := 16) dL_setFan_13 rfl (v := (-1002)) (by decide) ?_
  refine zv_iret dL_setFan_16 rfl (by rw [Nat.zero_add]; exact h2) (by rw [Nat.zero_add]; exact h3) ?_
  exact ⟨rfl, hq⟩

set_option maxRecDepth 100000 in
set_option maxHeartbeats 4000000 in
theorem w_setCurve_r {σ : zSg} {M : zM} {o : Nat} {fs : List Value} {x0 x1 : Int32} {P : zM → Prop} {R0 R1 R2 R3 T2 T3 : Nat} {v : Int32} (hb : M o = some (.inr (10, fs))) (hC : zCon μX8_setCurvePoint (R1, R2, R3) σ [.ref o, .int x0, .int x1] M (zF (some (.int v)) P)) (hR : R1 < R0) (h2 : R2 ≤ T2) (h3 : R3 ≤ T3) : zCon μL_setCurve (R0, T2, T3) σ [.ref o, .int x0, .int x1] M (zF (some (.int v)) P) := by
  refine zCon.ofH (by decide) rfl (Nat.le_of_ble_eq_true rfl) ?_
  change zV _ _ _ _ _ 0 0 0 [(0, .ref o), (1, .int x0), (2, .int x1)] []
  refine zv_aload_n (n := 1) dL_setCurve_0 rfl rfl ?_
  refine zv_iload_n (n := 2) dL_setCurve_1 rfl rfl ?_
  refine zv_iload_n (n := 3) dL_setCurve_2 rfl rfl ?_
  refine zv_callVF (n := 6) (As := [.int x0, .int x1]) (rest := []) (kc' := (0 + R2)) (ks' := (0 + R3)) dL_setCurve_3 rfl (hC) rfl kX8_setCurvePoint lL_38 hb rfl rfl rfl ⟨hR, by decide⟩ (Nat.le_of_ble_eq_true rfl) rfl rfl (by rw [Nat.zero_add]; exact h2) (by rw [Nat.zero_add]; exact h3) (fun M1 hq => ?_)
  refine zv_iret dL_setCurve_6 rfl (by rw [Nat.zero_add]; exact h2) (by rw [Nat.zero_add]; exact h3) ?_
  exact ⟨rfl, hq⟩

set_option maxRecDepth 100000 in
set_option maxHeartbeats 4000000 in
theorem w_setCurve_x0 {σ : zSg} {M : zM} {o : Nat} {fs : List Value} {x0 x1 : Int32} {P : zM → Prop} {R0 R1 R2 R3 T2 T3 : Nat} (hb : M o = some (.inr (10, fs))) (hC : zCon μX8_setCurvePoint (R1, R2, R3) σ [.ref o, .int x0, .int x1] M (zX9 "java/lang/IndexOutOfBoundsException" P)) (hR : R1 < R0) (h2 : R2 ≤ T2) (h3 : R3 ≤ T3) : zCon μL_setCurve (R0, T2, T3) σ [.ref o, .int x0, .int x1] M (zF (some (.int (-1001))) P) := by
  refine zCon.ofH (by decide) rfl (Nat.le_of_ble_eq_true rfl) ?_
  change zV _ _ _ _ _ 0 0 0 [(0, .ref o), (1, .int x0), (2, .int x1)] []
  refine zv_aload_n (n := 1) dL_setCurve_0 rfl rfl ?_
  refine zv_iload_n (n := 2) dL_setCurve_1 rfl rfl ?_
  refine zv_iload_n (n := 3) dL_setCurve_2 rfl rfl ?_
  refine zv_callVX (n := 6) (As := [.int x0, .int x1]) (rest := []) (kc' := 0 + R2) (ks' := 0 + R3) dL_setCurve_3 rfl hC rfl kX8_setCurvePoint lL_38 hb rfl rfl rfl ⟨hR, by decide⟩ (Nat.le_of_ble_eq_true rfl) rfl rfl (by rw [Nat.zero_add]; exact h2) (by rw [Nat.zero_add]; exact h3) ?_
  intro M1 hq
  refine zvx_catch (nm := "java/lang/IndexOutOfBoundsException") [] [(0, 6, 12, 15), (0, 6, 17, 19)] rfl (fun _ h => nomatch h) (by decide) (by decide) eL_13 ca_IndexOutOfBounds_IndexOutOfBounds (by rw [Nat.zero_add]; exact h2) (by rw [Nat.zero_add]; exact h3) (fun q => ?_)
  change zV _ _ _ _ _ _ _ 7 [(0, .ref o), (1, .int x0), (2, .int x1)] [.ref q]
  refine zv_astore_n (n := 8) (lv' := [(3, .ref q), (0, .ref o), (1, .int x0), (2, .int x1)]) dL_setCurve_7 rfl (by decide) rfl ?_
  refine zv_sipush (n := 11) dL_setCurve_8 rfl (v := (-1001)) (by decide) ?_
  refine zv_iret dL_setCurve_11 rfl (by rw [Nat.zero_add]; exact h2) (by rw [Nat.zero_add]; exact h3) ?_
  exact ⟨rfl, hq⟩

set_option maxRecDepth 100000 in
set_option maxHeartbeats 4000000 in
theorem w_setCurve_x1 {σ : zSg} {M : zM} {o : Nat} {fs : List Value} {x0 x1 : Int32} {P : zM → Prop} {R0 R1 R2 R3 T2 T3 : Nat} (hb : M o = some (.inr (10, fs))) (hC : zCon μX8_setCurvePoint (R1, R2, R3) σ [.ref o, .int x0, .int x1] M (zX9 "java/lang/IllegalArgumentException" P)) (hR : R1 < R0) (h2 : R2 ≤ T2) (h3 : R3 ≤ T3) : zCon μL_setCurve (R0, T2, T3) σ [.ref o, .int x0, .int x1] M (zF (some (.int (-1002))) P) := by
  refine zCon.ofH (by decide) rfl (Nat.le_of_ble_eq_true rfl) ?_
  change zV _ _ _ _ _ 0 0 0 [(0, .ref o), (1, .int x0), (2, .int x1)] []
  refine zv_aload_n (n := 1) dL_setCurve_0 rfl rfl ?_
  refine zv_iload_n (n := 2) dL_setCurve_1 rfl rfl ?_
  refine zv_iload_n (n := 3) dL_setCurve_2 rfl rfl ?_
  refine zv_callVX (n := 6) (As := [.int x0, .int x1]) (rest := []) (kc' := 0 + R2) (ks' := 0 + R3) dL_setCurve_3 rfl hC rfl kX8_setCurvePoint lL_38 hb rfl rfl rfl ⟨hR, by decide⟩ (Nat.le_of_ble_eq_true rfl) rfl rfl (by rw [Nat.zero_add]; exact h2) (by rw [Nat.zero_add]; exact h3) ?_
  intro M1 hq
  refine zvx_catch (nm := "java/lang/IllegalArgumentException") [(0, 6, 7, 13)] [(0, 6, 17, 19)] rfl (List.forall_mem_cons.mpr ⟨⟨by decide, _, eL_13, by decide +kernel⟩, (fun _ h => nomatch h)⟩) (by decide) (by decide) eL_15 ca_IllegalArgument_IllegalArgument (by rw [Nat.zero_add]; exact h2) (by rw [Nat.zero_add]; exact h3) (fun q => ?_)
  change zV _ _ _ _ _ _ _ 12 [(0, .ref o), (1, .int x0), (2, .int x1)] [.ref q]
  refine zv_astore_n (n := 13) (lv' := [(3, .ref q), (0, .ref o), (1, .int x0), (2, .int x1)]) dL_setCurve_12 rfl (by decide) rfl ?_
  refine zv_sipush (n := 16) dL_setCurve_13 rfl (v := (-1002)) (by decide) ?_
  refine zv_iret dL_setCurve_16 rfl (by rw [Nat.zero_add]; exact h2) (by rw [Nat.zero_add]; exact h3) ?_
  exact ⟨rfl, hq⟩

set_option maxRecDepth 100000 in
set_option maxHeartbeats 4000000 in
theorem w_setCurve_x2 {σ : zSg} {M : zM} {o : Nat} {fs : List Value} {x0 x1 : Int32} {P : zM → Prop} {R0 R1 R2 R3 T2 T3 : Nat} (hb : M o = some (.inr (10, fs))) (hC : zCon μX8_setCurvePoint (R1, R2, R3) σ [.ref o, .int x0, .int x1] M (zX9 "java/lang/UnsupportedOperationException" P)) (hR : R1 < R0) (h2 : R2 ≤ T2) (h3 : R3 ≤ T3) : zCon μL_setCurve (R0, T2, T3) σ [.ref o, .int x0, .int x1] M (zF (some (.int (-1003))) P) := by
  refine zCon.ofH (by decide) rfl (Nat.le_of_ble_eq_true rfl) ?_
  change zV _ _ _ _ _ 0 0 0 [(0, .ref o), (1, .int x0), (2, .int x1)] []
  refine zv_aload_n (n := 1) dL_setCurve_0 rfl rfl ?_
  refine zv_iload_n (n := 2) dL_setCurve_1 rfl rfl ?_
  refine zv_iload_n (n := 3) dL_setCurve_2 rfl rfl ?_
  refine zv_callVX (n := 6) (As := [.int x0, .int x1]) (rest := []) (kc' := 0 + R2) (ks' := 0 + R3) dL_setCurve_3 rfl hC rfl kX8_setCurvePoint lL_38 hb rfl rfl rfl ⟨hR, by decide⟩ (Nat.le_of_ble_eq_true rfl) rfl rfl (by rw [Nat.zero_add]; exact h2) (by rw [Nat.zero_add]; exact h3) ?_
  intro M1 hq
  refine zvx_catch (nm := "java/lang/UnsupportedOperationException") [(0, 6, 7, 13), (0, 6, 12, 15)] [] rfl (List.forall_mem_cons.mpr ⟨⟨by decide, _, eL_13, by decide +kernel⟩, (List.forall_mem_cons.mpr ⟨⟨by decide, _, eL_15, by decide +kernel⟩, (fun _ h => nomatch h)⟩)⟩) (by decide) (by decide) eL_19 ca_UnsupportedOperation_UnsupportedOperation (by rw [Nat.zero_add]; exact h2) (by rw [Nat.zero_add]; exact h3) (fun q => ?_)
  change zV _ _ _ _ _ _ _ 17 [(0, .ref o), (1, .int x0), (2, .int x1)] [.ref q]
  refine zv_astore_n (n := 18) (lv' := [(3, .ref q), (0, .ref o), (1, .int x0), (2, .int x1)]) dL_setCurve_17 rfl (by decide) rfl ?_
  refine zv_sipush (n := 21) dL_setCurve_18 rfl (v := (-1003)) (by decide) ?_
  refine zv_iret dL_setCurve_21 rfl (by rw [Nat.zero_add]; exact h2) (by rw [Nat.zero_add]; exact h3) ?_
  exact ⟨rfl, hq⟩

set_option maxRecDepth 100000 in
set_option maxHeartbeats 4000000 in
theorem w_setLimit_r {σ : zSg} {M : zM} {o : Nat} {fs : List Value} {x0 : Int32} {P : zM → Prop} {R0 R1 R2 R3 T2 T3 : Nat} {v : Int32} (hb : M o = some (.inr (10, fs))) (hC : zCon μX8_setLimit (R1, R2, R3) σ [.ref o, .int x0] M (zF (some (.int v)) P)) (hR : R1 < R0) (h2 : R2 ≤ T2) (h3 : R3 ≤ T3) : zCon μL_setLimit (R0, T2, T3) σ [.ref o, .int x0] M (zF (some (.int v)) P) := by
  refine zCon.ofH (by decide) rfl (Nat.le_of_ble_eq_true rfl) ?_
  change zV _ _ _ _ _ 0 0 0 [(0, .ref o), (1, .int x0)] []
  refine zv_aload_n (n := 1) dL_setLimit_0 rfl rfl ?_
  refine zv_iload_n (n := 2) dL_setLimit_1 rfl rfl ?_
  refine zv_callVF (n := 5) (As := [.int x0]) (rest := []) (kc' := (0 + R2)) (ks' := (0 + R3)) dL_setLimit_2 rfl (hC) rfl kX8_setLimit lL_41 hb rfl rfl rfl ⟨hR, by decide⟩ (Nat.le_of_ble_eq_true rfl) rfl rfl (by rw [Nat.zero_add]; exact h2) (by rw [Nat.zero_add]; exact h3) (fun M1 hq => ?_)
  refine zv_iret dL_setLimit_5 rfl (by rw [Nat.zero_add]; exact h2) (by rw [Nat.zero_add]; exact h3) ?_
  exact ⟨rfl, hq⟩

set_option maxRecDepth 100000 in
set_option maxHeartbeats 4000000 in
theorem w_setLimit_x0 {σ : zSg} {M : zM} {o : Nat} {fs : List Value} {x0 : Int32} {P : zM → Prop} {R0 R1 R2 R3 T2 T3 : Nat} (hb : M o = some (.inr (10, fs))) (hC : zCon μX8_setLimit (R1, R2, R3) σ [.ref o, .int x0] M (zX9 "java/lang/IllegalArgumentException" P)) (hR : R1 < R0) (h2 : R2 ≤ T2) (h3 : R3 ≤ T3) : zCon μL_setLimit (R0, T2, T3) σ [.ref o, .int x0] M (zF (some (.int (-1001))) P) := by
  refine zCon.ofH (by decide) rfl (Nat.le_of_ble_eq_true rfl) ?_
  change zV _ _ _ _ _ 0 0 0 [(0, .ref o), (1, .int x0)] []
  refine zv_aload_n (n := 1) dL_setLimit_0 rfl rfl ?_
  refine zv_iload_n (n := 2) dL_setLimit_1 rfl rfl ?_
  refine zv_callVX (n := 5) (As := [.int x0]) (rest := []) (kc' := 0 + R2) (ks' := 0 + R3) dL_setLimit_2 rfl hC rfl kX8_setLimit lL_41 hb rfl rfl rfl ⟨hR, by decide⟩ (Nat.le_of_ble_eq_true rfl) rfl rfl (by rw [Nat.zero_add]; exact h2) (by rw [Nat.zero_add]; exact h3) ?_
  intro M1 hq
  refine zvx_catch (nm := "java/lang/IllegalArgumentException") [] [] rfl (fun _ h => nomatch h) (by decide) (by decide) eL_15 ca_IllegalArgument_IllegalArgument (by rw [Nat.zero_add]; exact h2) (by rw [Nat.zero_add]; exact h3) (fun q => ?_)
  change zV _ _ _ _ _ _ _ 6 [(0, .ref o), (1, .int x0)] [.ref q]
  refine zv_astore_n (n := 7) (lv' := [(2, .ref q), (0, .ref o), (1, .int x0)]) dL_setLimit_6 rfl (by decide) rfl ?_
  refine zv_sipush (n := 10) dL_setLimit_7 rfl (v := (-1001)) (by decide) ?_
  refine zv_iret dL_setLimit_10 rfl (by rw [Nat.zero_add]; exact h2) (by rw [Nat.zero_add]; exact h3) ?_
  exact ⟨rfl, hq⟩

set_option maxRecDepth 100000 in
set_option maxHeartbeats 4000000 in
theorem w_advance_r {σ : zSg} {M : zM} {o : Nat} {fs : List Value} {x0 : Int32} {P : zM → Prop} {R0 R1 R2 R3 T2 T3 : Nat} {v : Int32} (hb : M o = some (.inr (10, fs))) (hC : zCon μX8_advance (R1, R2, R3) σ [.ref o, .int x0] M (zF (some (.int v)) P)) (hR : R1 < R0) (h2 : R2 ≤ T2) (h3 : R3 ≤ T3) : zCon μL_advance (R0, T2, T3) σ [.ref o, .int x0] M (zF (some (.int v)) P) := by
  refine zCon.ofH (by decide) rfl (Nat.le_of_ble_eq_true rfl) ?_
  change zV _ _ _ _ _ 0 0 0 [(0, .ref o), (1, .int x0)] []
  refine zv_aload_n (n := 1) dL_advance_0 rfl rfl ?_
  refine zv_iload_n (n := 2) dL_advance_1 rfl rfl ?_
  refine zv_callVF (n := 5) (As := [.int x0]) (rest := []) (kc' := (0 + R2)) (ks' := (0 + R3)) dL_advance_2 rfl (hC) rfl kX8_advance lL_44 hb rfl rfl rfl ⟨hR, by decide⟩ (Nat.le_of_ble_eq_true rfl) rfl rfl (by rw [Nat.zero_add]; exact h2) (by rw [Nat.zero_add]; exact h3) (fun M1 hq => ?_)
  refine zv_iret dL_advance_5 rfl (by rw [Nat.zero_add]; exact h2) (by rw [Nat.zero_add]; exact h3) ?_
  exact ⟨rfl, hq⟩

set_option maxRecDepth 100000 in
set_option maxHeartbeats 4000000 in
theorem w_advance_x0 {σ : zSg} {M : zM} {o : Nat} {fs : List Value} {x0 : Int32} {P : zM → Prop} {R0 R1 R2 R3 T2 T3 : Nat} (hb : M o = some (.inr (10, fs))) (hC : zCon μX8_advance (R1, R2, R3) σ [.ref o, .int x0] M (zX9 "java/lang/IllegalArgumentException" P)) (hR : R1 < R0) (h2 : R2 ≤ T2) (h3 : R3 ≤ T3) : zCon μL_advance (R0, T2, T3) σ [.ref o, .int x0] M (zF (some (.int (-1001))) P) := by
  refine zCon.ofH (by decide) rfl (Nat.le_of_ble_eq_true rfl) ?_
  change zV _ _ _ _ _ 0 0 0 [(0, .ref o), (1, .int x0)] []
  refine zv_aload_n (n := 1) dL_advance_0 rfl rfl ?_
  refine zv_iload_n (n := 2) dL_advance_1 rfl rfl ?_
  refine zv_callVX (n := 5) (As := [.int x0]) (rest := []) (kc' := 0 + R2) (ks' := 0 + R3) dL_advance_2 rfl hC rfl kX8_advance lL_44 hb rfl rfl rfl ⟨hR, by decide⟩ (Nat.le_of_ble_eq_true rfl) rfl rfl (by rw [Nat.zero_add]; exact h2) (by rw [Nat.zero_add]; exact h3) ?_
  intro M1 hq
  refine zvx_catch (nm := "java/lang/IllegalArgumentException") [] [] rfl (fun _ h => nomatch h) (by decide) (by decide) eL_15 ca_IllegalArgument_IllegalArgument (by rw [Nat.zero_add]; exact h2) (by rw [Nat.zero_add]; exact h3) (fun q => ?_)
  change zV _ _ _ _ _ _ _ 6 [(0, .ref o), (1, .int x0)] [.ref q]
  refine zv_astore_n (n := 7) (lv' := [(2, .ref q), (0, .ref o), (1, .int x0)]) dL_advance_6 rfl (by decide) rfl ?_
  refine zv_sipush (n := 10) dL_advance_7 rfl (v := (-1001)) (by decide) ?_
  refine zv_iret dL_advance_10 rfl (by rw [Nat.zero_add]; exact h2) (by rw [Nat.zero_add]; exact h3) ?_
  exact ⟨rfl, hq⟩

set_option maxRecDepth 100000 in
set_option maxHeartbeats 4000000 in
theorem w_aisleOf_r {σ : zSg} {M : zM} {o : Nat} {fs : List Value} {x0 : Int32} {P : zM → Prop} {R0 R1 R2 R3 T2 T3 : Nat} {v : Int32} (hb : M o = some (.inr (10, fs))) (hC : zCon μX8_aisleOf (R1, R2, R3) σ [.ref o, .int x0] M (zF (some (.int v)) P)) (hR : R1 < R0) (h2 : R2 ≤ T2) (h3 : R3 ≤ T3) : zCon μL_aisleOf (R0, T2, T3) σ [.ref o, .int x0] M (zF (some (.int v)) P) := by
  refine zCon.ofH (by decide) rfl (Nat.le_of_ble_eq_true rfl) ?_
  change zV _ _ _ _ _ 0 0 0 [(0, .ref o), (1, .int x0)] []
  refine zv_aload_n (n := 1) dL_aisleOf_0 rfl rfl ?_
  refine zv_iload_n (n := 2) dL_aisleOf_1 rfl rfl ?_
  refine zv_callVF (n := 5) (As := [.int x0]) (rest := []) (kc' := (0 + R2)) (ks' := (0 + R3)) dL_aisleOf_2 rfl (hC) rfl kX8_aisleOf lL_47 hb rfl rfl rfl ⟨hR, by decide⟩ (Nat.le_of_ble_eq_true rfl) rfl rfl (by rw [Nat.zero_add]; exact h2) (by rw [Nat.zero_add]; exact h3) (fun M1 hq => ?_)
  refine zv_iret dL_aisleOf_5 rfl (by rw [Nat.zero_add]; exact h2) (by rw [Nat.zero_add]; exact h3) ?_
  exact ⟨rfl, hq⟩

set_option maxRecDepth 100000 in
set_option maxHeartbeats 4000000 in
theorem w_aisleOf_x0 {σ : zSg} {M : zM} {o : Nat} {fs : List Value} {x0 : Int32} {P : zM → Prop} {R0 R1 R2 R3 T2 T3 : Nat} (hb : M o = some (.inr (10, fs))) (hC : zCon μX8_aisleOf (R1, R2, R3) σ [.ref o, .int x0] M (zX9 "java/lang/IndexOutOfBoundsException" P)) (hR : R1 < R0) (h2 : R2 ≤ T2) (h3 : R3 ≤ T3) : zCon μL_aisleOf (R0, T2, T3) σ [.ref o, .int x0] M (zF (some (.int (-1001))) P) := by
  refine zCon.ofH (by decide) rfl (Nat.le_of_ble_eq_true rfl) ?_
  change zV _ _ _ _ _ 0 0 0 [(0, .ref o), (1, .int x0)] []
  refine zv_aload_n (n := 1) dL_aisleOf_0 rfl rfl ?_
  refine zv_iload_n (n := 2) dL_aisleOf_1 rfl rfl ?_
  refine zv_callVX (n := 5) (As := [.int x0]) (rest := []) (kc' := 0 + R2) (ks' := 0 + R3) dL_aisleOf_2 rfl hC rfl kX8_aisleOf lL_47 hb rfl rfl rfl ⟨hR, by decide⟩ (Nat.le_of_ble_eq_true rfl) rfl rfl (by rw [Nat.zero_add]; exact h2) (by rw [Nat.zero_add]; exact h3) ?_
  intro M1 hq
  refine zvx_catch (nm := "java/lang/IndexOutOfBoundsException") [] [] rfl (fun _ h => nomatch h) (by decide) (by decide) eL_13 ca_IndexOutOfBounds_IndexOutOfBounds (by rw [Nat.zero_add]; exact h2) (by rw [Nat.zero_add]; exact h3) (fun q => ?_)
  change zV _ _ _ _ _ _ _ 6 [(0, .ref o), (1, .int x0)] [.ref q]
  refine zv_astore_n (n := 7) (lv' := [(2, .ref q), (0, .ref o), (1, .int x0)]) dL_aisleOf_6 rfl (by decide) rfl ?_
  refine zv_sipush (n := 10) dL_aisleOf_7 rfl (v := (-1001)) (by decide) ?_
  refine zv_iret dL_aisleOf_10 rfl (by rw [Nat.zero_add]; exact h2) (by rw [Nat.zero_add]; exact h3) ?_
  exact ⟨rfl, hq⟩

set_option maxRecDepth 100000 in
set_option maxHeartbeats 4000000 in
theorem w_placeOf_r {σ : zSg} {M : zM} {o : Nat} {fs : List Value} {x0 : Int32} {P : zM → Prop} {R0 R1 R2 R3 T2 T3 : Nat} {v : Int32} (hb : M o = some (.inr (10, fs))) (hC : zCon μX8_placeOf (R1, R2, R3) σ [.ref o, .int x0] M (zF (some (.int v)) P)) (hR : R1 < R0) (h2 : R2 ≤ T2) (h3 : R3 ≤ T3) : zCon μL_placeOf (R0, T2, T3) σ [.ref o, .int x0] M (zF (some (.int v)) P) := by
  refine zCon.ofH (by decide) rfl (Nat.le_of_ble_eq_true rfl) ?_
  change zV _ _ _ _ _ 0 0 0 [(0, .ref o), (1, .int x0)] []
  refine zv_aload_n (n := 1) dL_placeOf_0 rfl rfl ?_
  refine zv_iload_n (n := 2) dL_placeOf_1 rfl rfl ?_
  refine zv_callVF (n := 5) (As := [.int x0]) (rest := []) (kc' := (0 + R2)) (ks' := (0 + R3)) dL_placeOf_2 rfl (hC) rfl kX8_placeOf lL_50 hb rfl rfl rfl ⟨hR, by decide⟩ (Nat.le_of_ble_eq_true rfl) rfl rfl (by rw [Nat.zero_add]; exact h2) (by rw [Nat.zero_add]; exact h3) (fun M1 hq => ?_)
  refine zv_iret dL_placeOf_5 rfl (by rw [Nat.zero_add]; exact h2) (by rw [Nat.zero_add]; exact h3) ?_
  exact ⟨rfl, hq⟩

set_option maxRecDepth 100000 in
set_option maxHeartbeats 4000000 in
theorem w_placeOf_x0 {σ : zSg} {M : zM} {o : Nat} {fs : List Value} {x0 : Int32} {P : zM → Prop} {R0 R1 R2 R3 T2 T3 : Nat} (hb : M o = some (.inr (10, fs))) (hC : zCon μX8_placeOf (R1, R2, R3) σ [.ref o, .int x0] M (zX9 "java/lang/IndexOutOfBoundsException" P)) (hR : R1 < R0) (h2 : R2 ≤ T2) (h3 : R3 ≤ T3) : zCon μL_placeOf (R0, T2, T3) σ [.ref o, .int x0] M (zF (some (.int (-1001))) P) := by
  refine zCon.ofH (by decide) rfl (Nat.le_of_ble_eq_true rfl) ?_
  change zV _ _ _ _ _ 0 0 0 [(0, .ref o), (1, .int x0)] []
  refine zv_aload_n (n := 1) dL_placeOf_0 rfl rfl ?_
  refine zv_iload_n (n := 2) dL_placeOf_1 rfl rfl ?_
  refine zv_callVX (n := 5) (As := [.int x0]) (rest := []) (kc' := 0 + R2) (ks' := 0 + R3) dL_placeOf_2 rfl hC rfl kX8_placeOf lL_50 hb rfl rfl rfl ⟨hR, by decide⟩ (Nat.le_of_ble_eq_true rfl) rfl rfl (by rw [Nat.zero_add]; exact h2) (by rw [Nat.zero_add]; exact h3) ?_
  intro M1 hq
  refine zvx_catch (nm := "java/lang/IndexOutOfBoundsException") [] [] rfl (fun _ h => nomatch h) (by decide) (by decide) eL_13 ca_IndexOutOfBounds_IndexOutOfBounds (by rw [Nat.zero_add]; exact h2) (by rw [Nat.zero_add]; exact h3) (fun q => ?_)
  change zV _ _ _ _ _ _ _ 6 [(0, .ref o), (1, .int x0)] [.ref q]
  refine zv_astore_n (n := 7) (lv' := [(2, .ref q), (0, .ref o), (1, .int x0)]) dL_placeOf_6 rfl (by decide) rfl ?_
  refine zv_sipush (n := 10) dL_placeOf_7 rfl (v := (-1001)) (by decide) ?_
  refine zv_iret dL_placeOf_10 rfl (by rw [Nat.zero_add]; exact h2) (by rw [Nat.zero_add]; exact h3) ?_
  exact ⟨rfl, hq⟩

set_option maxRecDepth 100000 in
set_option maxHeartbeats 4000000 in
theorem w_load_r {σ : zSg} {M : zM} {o : Nat} {fs : List Value} {x0 : Int32} {P : zM → Prop} {R0 R1 R2 R3 T2 T3 : Nat} {v : Int32} (hb : M o = some (.inr (10, fs))) (hC : zCon μX8_load (R1, R2, R3) σ [.ref o, .int x0] M (zF (some (.int v)) P)) (hR : R1 < R0) (h2 : R2 ≤ T2) (h3 : R3 ≤ T3) : zCon μL_load (R0, T2, T3) σ [.ref o, .int x0] M (zF (some (.int v)) P) := by
  refine zCon.ofH (by decide) rfl (Nat.le_of_ble_eq_true rfl) ?_
  change zV _ _ _ _ _ 0 0 0 [(0, .ref o), (1, .int x0)] []
  refine zv_aload_n (n := 1) dL_load_0 rfl rfl ?_
  refine zv_iload_n (n := 2) dL_load_1 rfl rfl ?_
  refine zv_callVF (n := 5) (As := [.int x0]) (rest := []) (kc' := (0 + R2)) (ks' := (0 + R3)) dL_load_2 rfl (hC) rfl kX8_load lL_53 hb rfl rfl rfl ⟨hR, by decide⟩ (Nat.le_of_ble_eq_true rfl) rfl rfl (by rw [Nat.zero_add]; exact h2) (by rw [Nat.zero_add]; exact h3) (fun M1 hq => ?_)
  refine zv_iret dL_load_5 rfl (by rw [Nat.zero_add]; exact h2) (by rw [Nat.zero_add]; exact h3) ?_
  exact ⟨rfl, hq⟩

set_option maxRecDepth 100000 in
set_option maxHeartbeats 4000000 in
theorem w_load_x0 {σ : zSg} {M : zM} {o : Nat} {fs : List Value} {x0 : Int32} {P : zM → Prop} {R0 R1 R2 R3 T2 T3 : Nat} (hb : M o = some (.inr (10, fs))) (hC : zCon μX8_load (R1, R2, R3) σ [.ref o, .int x0] M (zX9 "java/lang/IndexOutOfBoundsException" P)) (hR : R1 < R0) (h2 : R2 ≤ T2) (h3 : R3 ≤ T3) : zCon μL_load (R0, T2, T3) σ [.ref o, .int x0] M (zF (some (.int (-1001))) P) := by
  refine zCon.ofH (by decide) rfl (Nat.le_of_ble_eq_true rfl) ?_
  change zV _ _ _ _ _ 0 0 0 [(0, .ref o), (1, .int x0)] []
  refine zv_aload_n (n := 1) dL_load_0 rfl rfl ?_
  refine zv_iload_n (n := 2) dL_load_1 rfl rfl ?_
  refine zv_callVX (n := 5) (As := [.int x0]) (rest := []) (kc' := 0 + R2) (ks' := 0 + R3) dL_load_2 rfl hC rfl kX8_load lL_53 hb rfl rfl rfl ⟨hR, by decide⟩ (Nat.le_of_ble_eq_true rfl) rfl rfl (by rw [Nat.zero_add]; exact h2) (by rw [Nat.zero_add]; exact h3) ?_
  intro M1 hq
  refine zvx_catch (nm := "java/lang/IndexOutOfBoundsException") [] [] rfl (fun _ h => nomatch h) (by decide) (by decide) eL_13 ca_IndexOutOfBounds_IndexOutOfBounds (by rw [Nat.zero_add]; exact h2) (by rw [Nat.zero_add]; exact h3) (fun q => ?_)
  change zV _ _ _ _ _ _ _ 6 [(0, .ref o), (1, .int x0)] [.ref q]
  refine zv_astore_n (n := 7) (lv' := [(2, .ref q), (0, .ref o), (1, .int x0)]) dL_load_6 rfl (by decide) rfl ?_
  refine zv_sipush (n := 10) dL_load_7 rfl (v := (-1001)) (by decide) ?_
  refine zv_iret dL_load_10 rfl (by rw [Nat.zero_add]; exact h2) (by rw [Nat.zero_add]; exact h3) ?_
  exact ⟨rfl, hq⟩

set_option maxRecDepth 100000 in
set_option maxHeartbeats 4000000 in
theorem w_rackAt_r {σ : zSg} {M : zM} {o : Nat} {fs : List Value} {x0 x1 : Int32} {P : zM → Prop} {R0 R1 R2 R3 T2 T3 : Nat} {v : Int32} (hb : M o = some (.inr (10, fs))) (hC : zCon μX8_rackAt (R1, R2, R3) σ [.ref o, .int x0, .int x1] M (zF (some (.int v)) P)) (hR : R1 < R0) (h2 : R2 ≤ T2) (h3 : R3 ≤ T3) : zCon μL_rackAt (R0, T2, T3) σ [.ref o, .int x0, .int x1] M (zF (some (.int v)) P) := by
  refine zCon.ofH (by decide) rfl (Nat.le_of_ble_eq_true rfl) ?_
  change zV _ _ _ _ _ 0 0 0 [(0, .ref o), (1, .int x0), (2, .int x1)] []
  refine zv_aload_n (n := 1) dL_rackAt_0 rfl rfl ?_
  refine zv_iload_n (n := 2) dL_rackAt_1 rfl rfl ?_
  refine zv_iload_n (n := 3) dL_rackAt_2 rfl rfl ?_
  refine zv_callVF (n := 6) (As := [.int x0, .int x1]) (rest := []) (kc' := (0 + R2)) (ks' := (0 + R3)) dL_rackAt_3 rfl (hC) rfl kX8_rackAt lL_56 hb rfl rfl rfl ⟨hR, by decide⟩ (Nat.le_of_ble_eq_true rfl) rfl rfl (by rw [Nat.zero_add]; exact h2) (by rw [Nat.zero_add]; exact h3) (fun M1 hq => ?_)
  refine zv_iret dL_rackAt_6 rfl (by rw [Nat.zero_add]; exact h2) (by rw [Nat.zero_add]; exact h3) ?_
  exact ⟨rfl, hq⟩

set_option maxRecDepth 100000 in
set_option maxHeartbeats 4000000 in
theorem w_rackAt_x0 {σ : zSg} {M : zM} {o : Nat} {fs : List Value} {x0 x1 : Int32} {P : zM → Prop} {R0 R1 R2 R3 T2 T3 : Nat} (hb : M o = some (.inr (10, fs))) (hC : zCon μX8_rackAt (R1, R2, R3) σ [.ref o, .int x0, .int x1] M (zX9 "java/lang/IndexOutOfBoundsException" P)) (hR : R1 < R0) (h2 : R2 ≤ T2) (h3 : R3 ≤ T3) : zCon μL_rackAt (R0, T2, T3) σ [.ref o, .int x0, .int x1] M (zF (some (.int (-1001))) P) := by
  refine zCon.ofH (by decide) rfl (Nat.le_of_ble_eq_true rfl) ?_
  change zV _ _ _ _ _ 0 0 0 [(0, .ref o), (1, .int x0), (2, .int x1)] []
  refine zv_aload_n (n := 1) dL_rackAt_0 rfl rfl ?_
  refine zv_iload_n (n := 2) dL_rackAt_1 rfl rfl ?_
  refine zv_iload_n (n := 3) dL_rackAt_2 rfl rfl ?_
  refine zv_callVX (n := 6) (As := [.int x0, .int x1]) (rest := []) (kc' := 0 + R2) (ks' := 0 + R3) dL_rackAt_3 rfl hC rfl kX8_rackAt lL_56 hb rfl rfl rfl ⟨hR, by decide⟩ (Nat.le_of_ble_eq_true rfl) rfl rfl (by rw [Nat.zero_add]; exact h2) (by rw [Nat.zero_add]; exact h3) ?_
  intro M1 hq
  refine zvx_catch (nm := "java/lang/IndexOutOfBoundsException") [] [(0, 6, 12, 15), (0, 6, 17, 59)] rfl (fun _ h => nomatch h) (by decide) (by decide) eL_13 ca_IndexOutOfBounds_IndexOutOfBounds (by rw [Nat.zero_add]; exact h2) (by rw [Nat.zero_add]; exact h3) (fun q => ?_)
  change zV _ _ _ _ _ _ _ 7 [(0, .ref o), (1, .int x0), (2, .int x1)] [.ref q]
  refine zv_astore_n (n := 8) (lv' := [(3, .ref q), (0, .ref o), (1, .int x0), (2, .int x1)]) dL_rackAt_7 rfl (by decide) rfl ?_
  refine zv_sipush (n := 11) dL_rackAt_8 rfl (v := (-1001)) (by decide) ?_
  refine zv_iret dL_rackAt_11 rfl (by rw [Nat.zero_add]; exact h2) (by rw [Nat.zero_add]; exact h3) ?_
  exact ⟨rfl, hq⟩

set_option maxRecDepth 100000 in
set_option maxHeartbeats 4000000 in
theorem w_rackAt_x1 {σ : zSg} {M : zM} {o : Nat} {fs : List Value} {x0 x1 : Int32} {P : zM → Prop} {R0 R1 R2 R3 T2 T3 : Nat} (hb : M o = some (.inr (10, fs))) (hC : zCon μX8_rackAt (R1, R2, R3) σ [.ref o, .int x0, .int x1] M (zX9 "java/lang/IllegalArgumentException" P)) (hR : R1 < R0) (h2 : R2 ≤ T2) (h3 : R3 ≤ T3) : zCon μL_rackAt (R0, T2, T3) σ [.ref o, .int x0, .int x1] M (zF (some (.int (-1002))) P) := by
  refine zCon.ofH (by decide) rfl (Nat.le_of_ble_eq_true rfl) ?_
  change zV _ _ _ _ _ 0 0 0 [(0, .ref o), (1, .int x0), (2, .int x1)] []
  refine zv_aload_n (n := 1) dL_rackAt_0 rfl rfl ?_
  refine zv_iload_n (n := 2) dL_rackAt_1 rfl rfl ?_
  refine zv_iload_n (n := 3) dL_rackAt_2 rfl rfl ?_
  refine zv_callVX (n := 6) (As := [.int x0, .int x1]) (rest := []) (kc' := 0 + R2) (ks' := 0 + R3) dL_rackAt_3 rfl hC rfl kX8_rackAt lL_56 hb rfl rfl rfl ⟨hR, by decide⟩ (Nat.le_of_ble_eq_true rfl) rfl rfl (by rw [Nat.zero_add]; exact h2) (by rw [Nat.zero_add]; exact h3) ?_
  intro M1 hq
  refine zvx_catch (nm := "java/lang/IllegalArgumentException") [(0, 6, 7, 13)] [(0, 6, 17, 59)] rfl (List.forall_mem_cons.mpr ⟨⟨by decide, _, eL_13, by decide +kernel⟩, (fun _ h => nomatch h)⟩) (by decide) (by decide) eL_15 ca_IllegalArgument_IllegalArgument (by rw [Nat.zero_add]; exact h2) (by rw [Nat.zero_add]; exact h3) (fun q => ?_)
  change zV _ _ _ _ _ _ _ 12 [(0, .ref o), (1, .int x0), (2, .int x1)] [.ref q]
  refine zv_astore_n (n := 13) (lv' := [(3, .ref q), (0, .ref o), (1, .int x0), (2, .int x1)]) dL_rackAt_12 rfl (by decide) rfl ?_
  refine zv_sipush (n := 16) dL_rackAt_13 rfl (v := (-1002)) (by decide) ?_
  refine zv_iret dL_rackAt_16 rfl (by rw [Nat.zero_add]; exact h2) (by rw [Nat.zero_add]; exact h3) ?_
  exact ⟨rfl, hq⟩

set_option maxRecDepth 100000 in
set_option maxHeartbeats 4000000 in
theorem w_rackAt_x2 {σ : zSg} {M : zM} {o : Nat} {fs : List Value} {x0 x1 : Int32} {P : zM → Prop} {R0 R1 R2 R3 T2 T3 : Nat} (hb : M o = some (.inr (10, fs))) (hC : zCon μX8_rackAt (R1, R2, R3) σ [.ref o, .int x0, .int x1] M (zX9 "java/util/NoSuchElementException" P)) (hR : R1 < R0) (h2 : R2 ≤ T2) (h3 : R3 ≤ T3) : zCon μL_rackAt (R0, T2, T3) σ [.ref o, .int x0, .int x1] M (zF (some (.int (-1003))) P) := by
  refine zCon.ofH (by decide) rfl (Nat.le_of_ble_eq_true rfl) ?_
  change zV _ _ _ _ _ 0 0 0 [(0, .ref o), (1, .int x0), (2, .int x1)] []
  refine zv_aload_n (n := 1) dL_rackAt_0 rfl rfl ?_
  refine zv_iload_n (n := 2) dL_rackAt_1 rfl rfl ?_
  refine zv_iload_n (n := 3) dL_rackAt_2 rfl rfl ?_
  refine zv_callVX (n := 6) (As := [.int x0, .int x1]) (rest := []) (kc' := 0 + R2) (ks' := 0 + R3) dL_rackAt_3 rfl hC rfl kX8_rackAt lL_56 hb rfl rfl rfl ⟨hR, by decide⟩ (Nat.le_of_ble_eq_true rfl) rfl rfl (by rw [Nat.zero_add]; exact h2) (by rw [Nat.zero_add]; exact h3) ?_
  intro M1 hq
  refine zvx_catch (nm := "java/util/NoSuchElementException") [(0, 6, 7, 13), (0, 6, 12, 15)] [] rfl (List.forall_mem_cons.mpr ⟨⟨by decide, _, eL_13, by decide +kernel⟩, (List.forall_mem_cons.mpr ⟨⟨by decide, _, eL_15, by decide +kernel⟩, (fun _ h => nomatch h)⟩)⟩) (by decide) (by decide) eL_59 ca_NoSuchElement_NoSuchElement (by rw [Nat.zero_add]; exact h2) (by rw [Nat.zero_add]; exact h3) (fun q => ?_)
  change zV _ _ _ _ _ _ _ 17 [(0, .ref o), (1, .int x0), (2, .int x1)] [.ref q]
  refine zv_astore_n (n := 18) (lv' := [(3, .ref q), (0, .ref o), (1, .int x0), (2, .int x1)]) dL_rackAt_17 rfl (by decide) rfl ?_
  refine zv_sipush (n := 21) dL_rackAt_18 rfl (v := (-1003)) (by decide) ?_
  refine zv_iret dL_rackAt_21 rfl (by rw [Nat.zero_add]; exact h2) (by rw [Nat.zero_add]; exact h3) ?_
  exact ⟨rfl, hq⟩

set_option maxRecDepth 100000 in
set_option maxHeartbeats 4000000 in
theorem w_heat_r {σ : zSg} {M : zM} {o : Nat} {fs : List Value} {x0 : Int32} {P : zM → Prop} {R0 R1 R2 R3 T2 T3 : Nat} {v : Int32} (hb : M o = some (.inr (10, fs))) (hC : zCon μX8_heat (R1, R2, R3) σ [.ref o, .int x0] M (zF (some (.int v)) P)) (hR : R1 < R0) (h2 : R2 ≤ T2) (h3 : R3 ≤ T3) : zCon μL_heat (R0, T2, T3) σ [.ref o, .int x0] M (zF (some (.int v)) P) := by
  refine zCon.ofH (by decide) rfl (Nat.le_of_ble_eq_true rfl) ?_
  change zV _ _ _ _ _ 0 0 0 [(0, .ref o), (1, .int x0)] []
  refine zv_aload_n (n := 1) dL_heat_0 rfl rfl ?_
  refine zv_iload_n (n := 2) dL_heat_1 rfl rfl ?_
  refine zv_callVF (n := 5) (As := [.int x0]) (rest := []) (kc' := (0 + R2)) (ks' := (0 + R3)) dL_heat_2 rfl (hC) rfl kX8_heat lL_61 hb rfl rfl rfl ⟨hR, by decide⟩ (Nat.le_of_ble_eq_true rfl) rfl rfl (by rw [Nat.zero_add]; exact h2) (by rw [Nat.zero_add]; exact h3) (fun M1 hq => ?_)
  refine zv_iret dL_heat_5 rfl (by rw [Nat.zero_add]; exact h2) (by rw [Nat.zero_add]; exact h3) ?_
  exact ⟨rfl, hq⟩

set_option maxRecDepth 100000 in
set_option maxHeartbeats 4000000 in
theorem w_heat_x0 {σ : zSg} {M : zM} {o : Nat} {fs : List Value} {x0 : Int32} {P : zM → Prop} {R0 R1 R2 R3 T2 T3 : Nat} (hb : M o = some (.inr (10, fs))) (hC : zCon μX8_heat (R1, R2, R3) σ [.ref o, .int x0] M (zX9 "java/lang/IndexOutOfBoundsException" P)) (hR : R1 < R0) (h2 : R2 ≤ T2) (h3 : R3 ≤ T3) : zCon μL_heat (R0, T2, T3) σ [.ref o, .int x0] M (zF (some (.int (-1001))) P) := by
  refine zCon.ofH (by decide) rfl (Nat.le_of_ble_eq_true rfl) ?_
  change zV _ _ _ _ _ 0 0 0 [(0, .ref o), (1, .int x0)] []
  refine zv_aload_n (n := 1) dL_heat_0 rfl rfl ?_
  refine zv_iload_n (n := 2) dL_heat_1 rfl rfl ?_
  refine zv_callVX (n := 5) (As := [.int x0]) (rest := []) (kc' := 0 + R2) (ks' := 0 + R3) dL_heat_2 rfl hC rfl kX8_heat lL_61 hb rfl rfl rfl ⟨hR, by decide⟩ (Nat.le_of_ble_eq_true rfl) rfl rfl (by rw [Nat.zero_add]; exact h2) (by rw [Nat.zero_add]; exact h3) ?_
  intro M1 hq
  refine zvx_catch (nm := "java/lang/IndexOutOfBoundsException") [] [] rfl (fun _ h => nomatch h) (by decide) (by decide) eL_13 ca_IndexOutOfBounds_IndexOutOfBounds (by rw [Nat.zero_add]; exact h2) (by rw [Nat.zero_add]; exact h3) (fun q => ?_)
  change zV _ _ _ _ _ _ _ 6 [(0, .ref o), (1, .int x0)] [.ref q]
  refine zv_astore_n (n := 7) (lv' := [(2, .ref q), (0, .ref o), (1, .int x0)]) dL_heat_6 rfl (by decide) rfl ?_
  refine zv_sipush (n := 10) dL_heat_7 rfl (v := (-1001)) (by decide) ?_
  refine zv_iret dL_heat_10 rfl (by rw [Nat.zero_add]; exact h2) (by rw [Nat.zero_add]; exact h3) ?_
  exact ⟨rfl, hq⟩

set_option maxRecDepth 100000 in
set_option maxHeartbeats 4000000 in
theorem w_fan_r {σ : zSg} {M : zM} {o : Nat} {fs : List Value} {x0 : Int32} {P : zM → Prop} {R0 R1 R2 R3 T2 T3 : Nat} {v : Int32} (hb : M o = some (.inr (10, fs))) (hC : zCon μX8_fanSpeed (R1, R2, R3) σ [.ref o, .int x0] M (zF (some (.int v)) P)) (hR : R1 < R0) (h2 : R2 ≤ T2) (h3 : R3 ≤ T3) : zCon μL_fan (R0, T2, T3) σ [.ref o, .int x0] M (zF (some (.int v)) P) := by
  refine zCon.ofH (by decide) rfl (Nat.le_of_ble_eq_true rfl) ?_
  change zV _ _ _ _ _ 0 0 0 [(0, .ref o), (1, .int x0)] []
  refine zv_aload_n (n := 1) dL_fan_0 rfl rfl ?_
  refine zv_iload_n (n := 2) dL_fan_1 rfl rfl ?_
  refine zv_callVF (n := 5) (As := [.int x0]) (rest := []) (kc' := (0 + R2)) (ks' := (0 + R3)) dL_fan_2 rfl (hC) rfl kX8_fanSpeed lL_64 hb rfl rfl rfl ⟨hR, by decide⟩ (Nat.le_of_ble_eq_true rfl) rfl rfl (by rw [Nat.zero_add]; exact h2) (by rw [Nat.zero_add]; exact h3) (fun M1 hq => ?_)
  refine zv_iret dL_fan_5 rfl (by rw [Nat.zero_add]; exact h2) (by rw [Nat.zero_add]; exact h3) ?_
  exact ⟨rfl, hq⟩

set_option maxRecDepth 100000 in
set_option maxHeartbeats 4000000 in
theorem w_fan_x0 {σ : zSg} {M : zM} {o : Nat} {fs : List Value} {x0 : Int32} {P : zM → Prop} {R0 R1 R2 R3 T2 T3 : Nat} (hb : M o = some (.inr (10, fs))) (hC : zCon μX8_fanSpeed (R1, R2, R3) σ [.ref o, .int x0] M (zX9 "java/lang/IndexOutOfBoundsException" P)) (hR : R1 < R0) (h2 : R2 ≤ T2) (h3 : R3 ≤ T3) : zCon μL_fan (R0, T2, T3) σ [.ref o, .int x0] M (zF (some (.int (-1001))) P) := by
  refine zCon.ofH (by decide) rfl (Nat.le_of_ble_eq_true rfl) ?_
  change zV _ _ _ _ _ 0 0 0 [(0, .ref o), (1, .int x0)] []
  refine zv_aload_n (n := 1) dL_fan_0 rfl rfl ?_
  refine zv_iload_n (n := 2) dL_fan_1 rfl rfl ?_
  refine zv_callVX (n := 5) (As := [.int x0]) (rest := []) (kc' := 0 + R2) (ks' := 0 + R3) dL_fan_2 rfl hC rfl kX8_fanSpeed lL_64 hb rfl rfl rfl ⟨hR, by decide⟩ (Nat.le_of_ble_eq_true rfl) rfl rfl (by rw [Nat.zero_add]; exact h2) (by rw [Nat.zero_add]; exact h3) ?_
  intro M1 hq
  refine zvx_catch (nm := "java/lang/IndexOutOfBoundsException") [] [] rfl (fun _ h => nomatch h) (by decide) (by decide) eL_13 ca_IndexOutOfBounds_IndexOutOfBounds (by rw [Nat.zero_add]; exact h2) (by rw [Nat.zero_add]; exact h3) (fun q => ?_)
  change zV _ _ _ _ _ _ _ 6 [(0, .ref o), (1, .int x0)] [.ref q]
  refine zv_astore_n (n := 7) (lv' := [(2, .ref q), (0, .ref o), (1, .int x0)]) dL_fan_6 rfl (by decide) rfl ?_
  refine zv_sipush (n := 10) dL_fan_7 rfl (v := (-1001)) (by decide) ?_
  refine zv_iret dL_fan_10 rfl (by rw [Nat.zero_add]; exact h2) (by rw [Nat.zero_add]; exact h3) ?_
  exact ⟨rfl, hq⟩

set_option maxRecDepth 100000 in
set_option maxHeartbeats 4000000 in
theorem w_curve_r {σ : zSg} {M : zM} {o : Nat} {fs : List Value} {x0 : Int32} {P : zM → Prop} {R0 R1 R2 R3 T2 T3 : Nat} {v : Int32} (hb : M o = some (.inr (10, fs))) (hC : zCon μX8_curvePoint (R1, R2, R3) σ [.ref o, .int x0] M (zF (some (.int v)) P)) (hR : R1 < R0) (h2 : R2 ≤ T2) (h3 : R3 ≤ T3) : zCon μL_curve (R0, T2, T3) σ [.ref o, .int x0] M (zF (some (.int v)) P) := by
  refine zCon.ofH (by decide) rfl (Nat.le_of_ble_eq_true rfl) ?_
  change zV _ _ _ _ _ 0 0 0 [(0, .ref o), (1, .int x0)] []
  refine zv_aload_n (n := 1) dL_curve_0 rfl rfl ?_
  refine zv_iload_n (n := 2) dL_curve_1 rfl rfl ?_
  refine zv_callVF (n := 5) (As := [.int x0]) (rest := []) (kc' := (0 + R2)) (ks' := (0 + R3)) dL_curve_2 rfl (hC) rfl kX8_curvePoint lL_67 hb rfl rfl rfl ⟨hR, by decide⟩ (Nat.le_of_ble_eq_true rfl) rfl rfl (by rw [Nat.zero_add]; exact h2) (by rw [Nat.zero_add]; exact h3) (fun M1 hq => ?_)
  refine zv_iret dL_curve_5 rfl (by rw [Nat.zero_add]; exact h2) (by rw [Nat.zero_add]; exact h3) ?_
  exact ⟨rfl, hq⟩

set_option maxRecDepth 100000 in
set_option maxHeartbeats 4000000 in
theorem w_curve_x0 {σ : zSg} {M : zM} {o : Nat} {fs : List Value} {x0 : Int32} {P : zM → Prop} {R0 R1 R2 R3 T2 T3 : Nat} (hb : M o = some (.inr (10, fs))) (hC : zCon μX8_curvePoint (R1, R2, R3) σ [.ref o, .int x0] M (zX9 "java/lang/IndexOutOfBoundsException" P)) (hR : R1 < R0) (h2 : R2 ≤ T2) (h3 : R3 ≤ T3) : zCon μL_curve (R0, T2, T3) σ [.ref o, .int x0] M (zF (some (.int (-1001))) P) := by
  refine zCon.ofH (by decide) rfl (Nat.le_of_ble_eq_true rfl) ?_
  change zV _ _ _ _ _ 0 0 0 [(0, .ref o), (1, .int x0)] []
  refine zv_aload_n (n := 1) dL_curve_0 rfl rfl ?_
  refine zv_iload_n (n := 2) dL_curve_1 rfl rfl ?_
  refine zv_callVX (n := 5) (As := [.int x0]) (rest := []) (kc' := 0 + R2) (ks' := 0 + R3) dL_curve_2 rfl hC rfl kX8_curvePoint lL_67 hb rfl rfl rfl ⟨hR, by decide⟩ (Nat.le_of_ble_eq_true rfl) rfl rfl (by rw [Nat.zero_add]; exact h2) (by rw [Nat.zero_add]; exact h3) ?_
  intro M1 hq
  refine zvx_catch (nm := "java/lang/IndexOutOfBoundsException") [] [] rfl (fun _ h => nomatch h) (by decide) (by decide) eL_13 ca_IndexOutOfBounds_IndexOutOfBounds (by rw [Nat.zero_add]; exact h2) (by rw [Nat.zero_add]; exact h3) (fun q => ?_)
  change zV _ _ _ _ _ _ _ 6 [(0, .ref o), (1, .int x0)] [.ref q]
  refine zv_astore_n (n := 7) (lv' := [(2, .ref q), (0, .ref o), (1, .int x0)]) dL_curve_6 rfl (by decide) rfl ?_
  refine zv_sipush (n := 10) dL_curve_7 rfl (v := (-1001)) (by decide) ?_
  refine zv_iret dL_curve_10 rfl (by rw [Nat.zero_add]; exact h2) (by rw [Nat.zero_add]; exact h3) ?_
  exact ⟨rfl, hq⟩

set_option maxRecDepth 100000 in
set_option maxHeartbeats 4000000 in
theorem w_airflow_r {σ : zSg} {M : zM} {o : Nat} {fs : List Value} {x0 : Int32} {P : zM → Prop} {R0 R1 R2 R3 T2 T3 : Nat} {v : UInt32} (hb : M o = some (.inr (10, fs))) (hC : zCon μX8_airflowAt (R1, R2, R3) σ [.ref o, .int x0] M (zF (some (.float v)) P)) (hR : R1 < R0) (h2 : R2 ≤ T2) (h3 : R3 ≤ T3) : zCon μL_airflow (R0, T2, T3) σ [.ref o, .int x0] M (zF (some (.float v)) P) := by
  refine zCon.ofH (by decide) rfl (Nat.le_of_ble_eq_true rfl) ?_
  change zV _ _ _ _ _ 0 0 0 [(0, .ref o), (1, .int x0)] []
  refine zv_aload_n (n := 1) dL_airflow_0 rfl rfl ?_
  refine zv_iload_n (n := 2) dL_airflow_1 rfl rfl ?_
  refine zv_callVF (n := 5) (As := [.int x0]) (rest := []) (kc' := (0 + R2)) (ks' := (0 + R3)) dL_airflow_2 rfl (hC) rfl kX8_airflowAt lL_70 hb rfl rfl rfl ⟨hR, by decide⟩ (Nat.le_of_ble_eq_true rfl) rfl rfl (by rw [Nat.zero_add]; exact h2) (by rw [Nat.zero_add]; exact h3) (fun M1 hq => ?_)
  refine zv_fret dL_airflow_5 rfl (by rw [Nat.zero_add]; exact h2) (by rw [Nat.zero_add]; exact h3) ?_
  exact ⟨rfl, hq⟩

set_option maxRecDepth 100000 in
set_option maxHeartbeats 4000000 in
theorem w_airflow_x0 {σ : zSg} {M : zM} {o : Nat} {fs : List Value} {x0 : Int32} {P : zM → Prop} {R0 R1 R2 R3 T2 T3 : Nat} (hb : M o = some (.inr (10, fs))) (hC : zCon μX8_airflowAt (R1, R2, R3) σ [.ref o, .int x0] M (zX9 "java/lang/IllegalArgumentException" P)) (hR : R1 < R0) (h2 : R2 ≤ T2) (h3 : R3 ≤ T3) : zCon μL_airflow (R0, T2, T3) σ [.ref o, .int x0] M (zF (some (.float 3296346112)) P) := by
  refine zCon.ofH (by decide) rfl (Nat.le_of_ble_eq_true rfl) ?_
  change zV _ _ _ _ _ 0 0 0 [(0, .ref o), (1, .int x0)] []
  refine zv_aload_n (n := 1) dL_airflow_0 rfl rfl ?_
  refine zv_iload_n (n := 2) dL_airflow_1 rfl rfl ?_
  refine zv_callVX (n := 5) (As := [.int x0]) (rest := []) (kc' := 0 + R2) (ks' := 0 + R3) dL_airflow_2 rfl hC rfl kX8_airflowAt lL_70 hb rfl rfl rfl ⟨hR, by decide⟩ (Nat.le_of_ble_eq_true rfl) rfl rfl (by rw [Nat.zero_add]; exact h2) (by rw [Nat.zero_add]; exact h3) ?_
  intro M1 hq
  refine zvx_catch (nm := "java/lang/IllegalArgumentException") [] [] rfl (fun _ h => nomatch h) (by decide) (by decide) eL_15 ca_IllegalArgument_IllegalArgument (by rw [Nat.zero_add]; exact h2) (by rw [Nat.zero_add]; exact h3) (fun q => ?_)
  change zV _ _ _ _ _ _ _ 6 [(0, .ref o), (1, .int x0)] [.ref q]
  refine zv_astore_n (n := 7) (lv' := [(2, .ref q), (0, .ref o), (1, .int x0)]) dL_airflow_6 rfl (by decide) rfl ?_
  refine zv_ldcf (n := 9) dL_airflow_7 rfl qL_74 ?_
  refine zv_fret dL_airflow_9 rfl (by rw [Nat.zero_add]; exact h2) (by rw [Nat.zero_add]; exact h3) ?_
  exact ⟨rfl, hq⟩

set_option maxRecDepth 100000 in
set_option maxHeartbeats 4000000 in
theorem w_inlet_r {σ : zSg} {M : zM} {o : Nat} {fs : List Value} {x0 : Int32} {P : zM → Prop} {R0 R1 R2 R3 T2 T3 : Nat} {v : UInt32} (hb : M o = some (.inr (10, fs))) (hC : zCon μX8_inletTemperature (R1, R2, R3) σ [.ref o, .int x0] M (zF (some (.float v)) P)) (hR : R1 < R0) (h2 : R2 ≤ T2) (h3 : R3 ≤ T3) : zCon μL_inlet (R0, T2, T3) σ [.ref o, .int x0] M (zF (some (.float v)) P) := by
  refine zCon.ofH (by decide) rfl (Nat.le_of_ble_eq_true rfl) ?_
  change zV _ _ _ _ _ 0 0 0 [(0, .ref o), (1, .int x0)] []
  refine zv_aload_n (n := 1) dL_inlet_0 rfl rfl ?_
  refine zv_iload_n (n := 2) dL_inlet_1 rfl rfl ?_
  refine zv_callVF (n := 5) (As := [.int x0]) (rest := []) (kc' := (0 + R2)) (ks' := (0 + R3)) dL_inlet_2 rfl (hC) rfl kX8_inletTemperature lL_75 hb rfl rfl rfl ⟨hR, by decide⟩ (Nat.le_of_ble_eq_true rfl) rfl rfl (by rw [Nat.zero_add]; exact h2) (by rw [Nat.zero_add]; exact h3) (fun M1 hq => ?_)
  refine zv_fret dL_inlet_5 rfl (by rw [Nat.zero_add]; exact h2) (by rw [Nat.zero_add]; exact h3) ?_
  exact ⟨rfl, hq⟩

set_option maxRecDepth 100000 in
set_option maxHeartbeats 4000000 in
theorem w_inlet_x0 {σ : zSg} {M : zM} {o : Nat} {fs : List Value} {x0 : Int32} {P : zM → Prop} {R0 R1 R2 R3 T2 T3 : Nat} (hb : M o = some (.inr (10, fs))) (hC : zCon μX8_inletTemperature (R1, R2, R3) σ [.ref o, .int x0] M (zX9 "java/lang/IndexOutOfBoundsException" P)) (hR : R1 < R0) (h2 : R2 ≤ T2) (h3 : R3 ≤ T3) : zCon μL_inlet (R0, T2, T3) σ [.ref o, .int x0] M (zF (some (.float 3296346112)) P) := by
  refine zCon.ofH (by decide) rfl (Nat.le_of_ble_eq_true rfl) ?_
  change zV _ _ _ _ _ 0 0 0 [(0, .ref o), (1, .int x0)] []
  refine zv_aload_n (n := 1) dL_inlet_0 rfl rfl ?_
  refine zv_iload_n (n := 2) dL_inlet_1 rfl rfl ?_
  refine zv_callVX (n := 5) (As := [.int x0]) (rest := []) (kc' := 0 + R2) (ks' := 0 + R3) dL_inlet_2 rfl hC rfl kX8_inletTemperature lL_75 hb rfl rfl rfl ⟨hR, by decide⟩ (Nat.le_of_ble_eq_true rfl) rfl rfl (by rw [Nat.zero_add]; exact h2) (by rw [Nat.zero_add]; exact h3) ?_
  intro M1 hq
  refine zvx_catch (nm := "java/lang/IndexOutOfBoundsException") [] [] rfl (fun _ h => nomatch h) (by decide) (by decide) eL_13 ca_IndexOutOfBounds_IndexOutOfBounds (by rw [Nat.zero_add]; exact h2) (by rw [Nat.zero_add]; exact h3) (fun q => ?_)
  change zV _ _ _ _ _ _ _ 6 [(0, .ref o), (1, .int x0)] [.ref q]
  refine zv_astore_n (n := 7) (lv' := [(2, .ref q), (0, .ref o), (1, .int x0)]) dL_inlet_6 rfl (by decide) rfl ?_
  refine zv_ldcf (n := 9) dL_inlet_7 rfl qL_74 ?_
  refine zv_fret dL_inlet_9 rfl (by rw [Nat.zero_add]; exact h2) (by rw [Nat.zero_add]; exact h3) ?_
  exact ⟨rfl, hq⟩

set_option maxRecDepth 100000 in
set_option maxHeartbeats 4000000 in
theorem w_rise_r {σ : zSg} {M : zM} {o : Nat} {fs : List Value} {x0 : Int32} {P : zM → Prop} {R0 R1 R2 R3 T2 T3 : Nat} {v : UInt32} (hb : M o = some (.inr (10, fs))) (hC : zCon μX8_rise (R1, R2, R3) σ [.ref o, .int x0] M (zF (some (.float v)) P)) (hR : R1 < R0) (h2 : R2 ≤ T2) (h3 : R3 ≤ T3) : zCon μL_rise (R0, T2, T3) σ [.ref o, .int x0] M (zF (some (.float v)) P) := by
  refine zCon.ofH (by decide) rfl (Nat.le_of_ble_eq_true rfl) ?_
  change zV _ _ _ _ _ 0 0 0 [(0, .ref o), (1, .int x0)] []
  refine zv_aload_n (n := 1) dL_rise_0 rfl rfl ?_
  refine zv_iload_n (n := 2) dL_rise_1 rfl rfl ?_
  refine zv_callVF (n := 5) (As := [.int x0]) (rest := []) (kc' := (0 + R2)) (ks' := (0 + R3)) dL_rise_2 rfl (hC) rfl kX8_rise lL_78 hb rfl rfl rfl ⟨hR, by decide⟩ (Nat.le_of_ble_eq_true rfl) rfl rfl (by rw [Nat.zero_add]; exact h2) (by rw [Nat.zero_add]; exact h3) (fun M1 hq => ?_)
  refine zv_fret dL_rise_5 rfl (by rw [Nat.zero_add]; exact h2) (by rw [Nat.zero_add]; exact h3) ?_
  exact ⟨rfl, hq⟩

set_option maxRecDepth 100000 in
set_option maxHeartbeats 4000000 in
theorem w_rise_x0 {σ : zSg} {M : zM} {o : Nat} {fs : List Value} {x0 : Int32} {P : zM → Prop} {R0 R1 R2 R3 T2 T3 : Nat} (hb : M o = some (.inr (10, fs))) (hC : zCon μX8_rise (R1, R2, R3) σ [.ref o, .int x0] M (zX9 "java/lang/IndexOutOfBoundsException" P)) (hR : R1 < R0) (h2 : R2 ≤ T2) (h3 : R3 ≤ T3) : zCon μL_rise (R0, T2, T3) σ [.ref o, .int x0] M (zF (some (.float 3296346112)) P) := by
  refine zCon.ofH (by decide) rfl (Nat.le_of_ble_eq_true rfl) ?_
  change zV _ _ _ _ _ 0 0 0 [(0, .ref o), (1, .int x0)] []
  refine zv_aload_n (n := 1) dL_rise_0 rfl rfl ?_
  refine zv_iload_n (n := 2) dL_rise_1 rfl rfl ?_
  refine zv_callVX (n := 5) (As := [.int x0]) (rest := []) (kc' := 0 + R2) (ks' := 0 + R3) dL_rise_2 rfl hC rfl kX8_rise lL_78 hb rfl rfl rfl ⟨hR, by decide⟩ (Nat.le_of_ble_eq_true rfl) rfl rfl (by rw [Nat.zero_add]; exact h2) (by rw [Nat.zero_add]; exact h3) ?_
  intro M1 hq
  refine zvx_catch (nm := "java/lang/IndexOutOfBoundsException") [] [] rfl (fun _ h => nomatch h) (by decide) (by decide) eL_13 ca_IndexOutOfBounds_IndexOutOfBounds (by rw [Nat.zero_add]; exact h2) (by rw [Nat.zero_add]; exact h3) (fun q => ?_)
  change zV _ _ _ _ _ _ _ 6 [(0, .ref o), (1, .int x0)] [.ref q]
  refine zv_astore_n (n := 7) (lv' := [(2, .ref q), (0, .ref o), (1, .int x0)]) dL_rise_6 rfl (by decide) rfl ?_
  refine zv_ldcf (n := 9) dL_rise_7 rfl qL_74 ?_
  refine zv_fret dL_rise_9 rfl (by rw [Nat.zero_add]; exact h2) (by rw [Nat.zero_add]; exact h3) ?_
  exact ⟨rfl, hq⟩

set_option maxRecDepth 100000 in
set_option maxHeartbeats 4000000 in
theorem w_temperature_r {σ : zSg} {M : zM} {o : Nat} {fs : List Value} {x0 : Int32} {P : zM → Prop} {R0 R1 R2 R3 T2 T3 : Nat} {v : UInt32} (hb : M o = some (.inr (10, fs))) (hC : zCon μX8_temperature (R1, R2, R3) σ [.ref o, .int x0] M (zF (some (.float v)) P)) (hR : R1 < R0) (h2 : R2 ≤ T2) (h3 : R3 ≤ T3) : zCon μL_temperature (R0, T2, T3) σ [.ref o, .int x0] M (zF (some (.float v)) P) := by
  refine zCon.ofH (by decide) rfl (Nat.le_of_ble_eq_true rfl) ?_
  change zV _ _ _ _ _ 0 0 0 [(0, .ref o), (1, .int x0)] []
  refine zv_aload_n (n := 1) dL_temperature_0 rfl rfl ?_
  refine zv_iload_n (n := 2) dL_temperature_1 rfl rfl ?_
  refine zv_callVF (n := 5) (As := [.int x0]) (rest := []) (kc' := (0 + R2)) (ks' := (0 + R3)) dL_temperature_2 rfl (hC) rfl kX8_temperature lL_81 hb rfl rfl rfl ⟨hR, by decide⟩ (Nat.le_of_ble_eq_true rfl) rfl rfl (by rw [Nat.zero_add]; exact h2) (by rw [Nat.zero_add]; exact h3) (fun M1 hq => ?_)
  refine zv_fret dL_temperature_5 rfl (by rw [Nat.zero_add]; exact h2) (by rw [Nat.zero_add]; exact h3) ?_
  exact ⟨rfl, hq⟩

set_option maxRecDepth 100000 in
set_option maxHeartbeats 4000000 in
theorem w_temperature_x0 {σ : zSg} {M : zM} {o : Nat} {fs : List Value} {x0 : Int32} {P : zM → Prop} {R0 R1 R2 R3 T2 T3 : Nat} (hb : M o = some (.inr (10, fs))) (hC : zCon μX8_temperature (R1, R2, R3) σ [.ref o, .int x0] M (zX9 "java/lang/IndexOutOfBoundsException" P)) (hR : R1 < R0) (h2 : R2 ≤ T2) (h3 : R3 ≤ T3) : zCon μL_temperature (R0, T2, T3) σ [.ref o, .int x0] M (zF (some (.float 3296346112)) P) := by
  refine zCon.ofH (by decide) rfl (Nat.le_of_ble_eq_true rfl) ?_
  change zV _ _ _ _ _ 0 0 0 [(0, .ref o), (1, .int x0)] []
  refine zv_aload_n (n := 1) dL_temperature_0 rfl rfl ?_
  refine zv_iload_n (n := 2) dL_temperature_1 rfl rfl ?_
  refine zv_callVX (n := 5) (As := [.int x0]) (rest := []) (kc' := 0 + R2) (ks' := 0 + R3) dL_temperature_2 rfl hC rfl kX8_temperature lL_81 hb rfl rfl rfl ⟨hR, by decide⟩ (Nat.le_of_ble_eq_true rfl) rfl rfl (by rw [Nat.zero_add]; exact h2) (by rw [Nat.zero_add]; exact h3) ?_
  intro M1 hq
  refine zvx_catch (nm := "java/lang/IndexOutOfBoundsException") [] [] rfl (fun _ h => nomatch h) (by decide) (by decide) eL_13 ca_IndexOutOfBounds_IndexOutOfBounds (by rw [Nat.zero_add]; exact h2) (by rw [Nat.zero_add]; exact h3) (fun q => ?_)
  change zV _ _ _ _ _ _ _ 6 [(0, .ref o), (1, .int x0)] [.ref q]
  refine zv_astore_n (n := 7) (lv' := [(2, .ref q), (0, .ref o), (1, .int x0)]) dL_temperature_6 rfl (by decide) rfl ?_
  refine zv_ldcf (n := 9) dL_temperature_7 rfl qL_74 ?_
  refine zv_fret dL_temperature_9 rfl (by rw [Nat.zero_add]; exact h2) (by rw [Nat.zero_add]; exact h3) ?_
  exact ⟨rfl, hq⟩

set_option maxRecDepth 100000 in
set_option maxHeartbeats 4000000 in
theorem w_isHot_r1 {σ : zSg} {M : zM} {o : Nat} {fs : List Value} {x0 : Int32} {P : zM → Prop} {R0 R1 R2 R3 T2 T3 : Nat} (hb : M o = some (.inr (10, fs))) (hC : zCon μX8_isHot (R1, R2, R3) σ [.ref o, .int x0] M (zF (some (.int 1)) P)) (hR : R1 < R0) (h2 : R2 ≤ T2) (h3 : R3 ≤ T3) : zCon μL_isHot (R0, T2, T3) σ [.ref o, .int x0] M (zF (some (.int 1)) P) := by
  refine zCon.ofH (by decide) rfl (Nat.le_of_ble_eq_true rfl) ?_
  change zV _ _ _ _ _ 0 0 0 [(0, .ref o), (1, .int x0)] []
  refine zv_aload_n (n := 1) dL_isHot_0 rfl rfl ?_
  refine zv_iload_n (n := 2) dL_isHot_1 rfl rfl ?_
  refine zv_callVF (n := 5) (As := [.int x0]) (rest := []) (kc' := (0 + R2)) (ks' := (0 + R3)) dL_isHot_2 rfl (hC) rfl kX8_isHot lL_84 hb rfl rfl rfl ⟨hR, by decide⟩ (Nat.le_of_ble_eq_true rfl) rfl rfl (by rw [Nat.zero_add]; exact h2) (by rw [Nat.zero_add]; exact h3) (fun M1 hq => ?_)
  refine zv_if_eq (n := 8) (tgt := 12) dL_isHot_5 (by decide) rfl (fun h5 => False.elim (absurd h5 (by decide))) (fun h5 => ?_)
  refine zv_iconst (n := 9) dL_isHot_8 rfl (v := 1) (by decide) ?_
  refine zv_goto (tgt := 13) dL_isHot_9 (by decide) ?_
  refine zv_iret dL_isHot_13 rfl (by rw [Nat.zero_add]; exact h2) (by rw [Nat.zero_add]; exact h3) ?_
  exact ⟨rfl, hq⟩

set_option maxRecDepth 100000 in
set_option maxHeartbeats 4000000 in
theorem w_isHot_r0 {σ : zSg} {M : zM} {o : Nat} {fs : List Value} {x0 : Int32} {P : zM → Prop} {R0 R1 R2 R3 T2 T3 : Nat} (hb : M o = some (.inr (10, fs))) (hC : zCon μX8_isHot (R1, R2, R3) σ [.ref o, .int x0] M (zF (some (.int 0)) P)) (hR : R1 < R0) (h2 : R2 ≤ T2) (h3 : R3 ≤ T3) : zCon μL_isHot (R0, T2, T3) σ [.ref o, .int x0] M (zF (some (.int 0)) P) := by
  refine zCon.ofH (by decide) rfl (Nat.le_of_ble_eq_true rfl) ?_
  change zV _ _ _ _ _ 0 0 0 [(0, .ref o), (1, .int x0)] []
  refine zv_aload_n (n := 1) dL_isHot_0 rfl rfl ?_
  refine zv_iload_n (n := 2) dL_isHot_1 rfl rfl ?_
  refine zv_callVF (n := 5) (As := [.int x0]) (rest := []) (kc' := (0 + R2)) (ks' := (0 + R3)) dL_isHot_2 rfl (hC) rfl kX8_isHot lL_84 hb rfl rfl rfl ⟨hR, by decide⟩ (Nat.le_of_ble_eq_true rfl) rfl rfl (by rw [Nat.zero_add]; exact h2) (by rw [Nat.zero_add]; exact h3) (fun M1 hq => ?_)
  refine zv_if_eq (n := 8) (tgt := 12) dL_isHot_5 (by decide) rfl (fun h5 => ?_) (fun h5 => False.elim (h5 rfl))
  refine zv_iconst (n := 13) dL_isHot_12 rfl (v := 0) (by decide) ?_
  refine zv_iret dL_isHot_13 rfl (by rw [Nat.zero_add]; exact h2) (by rw [Nat.zero_add]; exact h3) ?_
  exact ⟨rfl, hq⟩

set_option maxRecDepth 100000 in
set_option maxHeartbeats 4000000 in
theorem w_isHot_x0 {σ : zSg} {M : zM} {o : Nat} {fs : List Value} {x0 : Int32} {P : zM → Prop} {R0 R1 R2 R3 T2 T3 : Nat} (hb : M o = some (.inr (10, fs))) (hC : zCon μX8_isHot (R1, R2, R3) σ [.ref o, .int x0] M (zX9 "java/lang/IndexOutOfBoundsException" P)) (hR : R1 < R0) (h2 : R2 ≤ T2) (h3 : R3 ≤ T3) : zCon μL_isHot (R0, T2, T3) σ [.ref o, .int x0] M (zF (some (.int (-1001))) P) := by
  refine zCon.ofH (by decide) rfl (Nat.le_of_ble_eq_true rfl) ?_
  change zV _ _ _ _ _ 0 0 0 [(0, .ref o), (1, .int x0)] []
  refine zv_aload_n (n := 1) dL_isHot_0 rfl rfl ?_
  refine zv_iload_n (n := 2) dL_isHot_1 rfl rfl ?_
  refine zv_callVX (n := 5) (As := [.int x0]) (rest := []) (kc' := 0 + R2) (ks' := 0 + R3) dL_isHot_2 rfl hC rfl kX8_isHot lL_84 hb rfl rfl rfl ⟨hR, by decide⟩ (Nat.le_of_ble_eq_true rfl) rfl rfl (by rw [Nat.zero_add]; exact h2) (by rw [Nat.zero_add]; exact h3) ?_
  intro M1 hq
  refine zvx_catch (nm := "java/lang/IndexOutOfBoundsException") [] [] rfl (fun _ h => nomatch h) (by decide) (by decide) eL_13 ca_IndexOutOfBounds_IndexOutOfBounds (by rw [Nat.zero_add]; exact h2) (by rw [Nat.zero_add]; exact h3) (fun q => ?_)
  change zV _ _ _ _ _ _ _ 14 [(0, .ref o), (1, .int x0)] [.ref q]
  refine zv_astore_n (n := 15) (lv' := [(2, .ref q), (0, .ref o), (1, .int x0)]) dL_isHot_14 rfl (by decide) rfl ?_
  refine zv_sipush (n := 18) dL_isHot_15 rfl (v := (-1001)) (by decide) ?_
  refine zv_iret dL_isHot_18 rfl (by rw [Nat.zero_add]; exact h2) (by rw [Nat.zero_add]; exact h3) ?_
  exact ⟨rfl, hq⟩

set_option maxRecDepth 100000 in
set_option maxHeartbeats 4000000 in
theorem w_needed_r {σ : zSg} {M : zM} {o : Nat} {fs : List Value} {x0 : Int32} {P : zM → Prop} {R0 R1 R2 R3 T2 T3 : Nat} {v : Int32} (hb : M o = some (.inr (10, fs))) (hC : zCon μX8_neededSpeed (R1, R2, R3) σ [.ref o, .int x0] M (zF (some (.int v)) P)) (hR : R1 < R0) (h2 : R2 ≤ T2) (h3 : R3 ≤ T3) : zCon μL_needed (R0, T2, T3) σ [.ref o, .int x0] M (zF (some (.int v)) P) := by
  refine zCon.ofH (by decide) rfl (Nat.le_of_ble_eq_true rfl) ?_
  change zV _ _ _ _ _ 0 0 0 [(0, .ref o), (1, .int x0)] []
  refine zv_aload_n (n := 1) dL_needed_0 rfl rfl ?_
  refine zv_iload_n (n := 2) dL_needed_1 rfl rfl ?_
  refine zv_callVF (n := 5) (As := [.int x0]) (rest := []) (kc' := (0 + R2)) (ks' := (0 + R3)) dL_needed_2 rfl (hC) rfl kX8_neededSpeed lL_88 hb rfl rfl rfl ⟨hR, by decide⟩ (Nat.le_of_ble_eq_true rfl) rfl rfl (by rw [Nat.zero_add]; exact h2) (by rw [Nat.zero_add]; exact h3) (fun M1 hq => ?_)
  refine zv_iret dL_needed_5 rfl (by rw [Nat.zero_add]; exact h2) (by rw [Nat.zero_add]; exact h3) ?_
  exact ⟨rfl, hq⟩

set_option maxRecDepth 100000 in
set_option maxHeartbeats 4000000 in
theorem w_needed_x0 {σ : zSg} {M : zM} {o : Nat} {fs : List Value} {x0 : Int32} {P : zM → Prop} {R0 R1 R2 R3 T2 T3 : Nat} (hb : M o = some (.inr (10, fs))) (hC : zCon μX8_neededSpeed (R1, R2, R3) σ [.ref o, .int x0] M (zX9 "java/lang/IndexOutOfBoundsException" P)) (hR : R1 < R0) (h2 : R2 ≤ T2) (h3 : R3 ≤ T3) : zCon μL_needed (R0, T2, T3) σ [.ref o, .int x0] M (zF (some (.int (-1001))) P) := by
  refine zCon.ofH (by decide) rfl (Nat.le_of_ble_eq_true rfl) ?_
  change zV _ _ _ _ _ 0 0 0 [(0, .ref o), (1, .int x0)] []
  refine zv_aload_n (n := 1) dL_needed_0 rfl rfl ?_
  refine zv_iload_n (n := 2) dL_needed_1 rfl rfl ?_
  refine zv_callVX (n := 5) (As := [.int x0]) (rest := []) (kc' := 0 + R2) (ks' := 0 + R3) dL_needed_2 rfl hC rfl kX8_neededSpeed lL_88 hb rfl rfl rfl ⟨hR, by decide⟩ (Nat.le_of_ble_eq_true rfl) rfl rfl (by rw [Nat.zero_add]; exact h2) (by rw [Nat.zero_add]; exact h3) ?_
  intro M1 hq
  refine zvx_catch (nm := "java/lang/IndexOutOfBoundsException") [] [(0, 5, 11, 59)] rfl (fun _ h => nomatch h) (by decide) (by decide) eL_13 ca_IndexOutOfBounds_IndexOutOfBounds (by rw [Nat.zero_add]; exact h2) (by rw [Nat.zero_add]; exact h3) (fun q => ?_)
  change zV _ _ _ _ _ _ _ 6 [(0, .ref o), (1, .int x0)] [.ref q]
  refine zv_astore_n (n := 7) (lv' := [(2, .ref q), (0, .ref o), (1, .int x0)]) dL_needed_6 rfl (by decide) rfl ?_
  refine zv_sipush (n := 10) dL_needed_7 rfl (v := (-1001)) (by decide) ?_
  refine zv_iret dL_needed_10 rfl (by rw [Nat.zero_add]; exact h2) (by rw [Nat.zero_add]; exact h3) ?_
  exact ⟨rfl, hq⟩

set_option maxRecDepth 100000 in
set_option maxHeartbeats 4000000 in
theorem w_needed_x1 {σ : zSg} {M : zM} {o : Nat} {fs : List Value} {x0 : Int32} {P : zM → Prop} {R0 R1 R2 R3 T2 T3 : Nat} (hb : M o = some (.inr (10, fs))) (hC : zCon μX8_neededSpeed (R1, R2, R3) σ [.ref o, .int x0] M (zX9 "java/util/NoSuchElementException" P)) (hR : R1 < R0) (h2 : R2 ≤ T2) (h3 : R3 ≤ T3) : zCon μL_needed (R0, T2, T3) σ [.ref o, .int x0] M (zF (some (.int (-1002))) P) := by
  refine zCon.ofH (by decide) rfl (Nat.le_of_ble_eq_true rfl) ?_
  change zV _ _ _ _ _ 0 0 0 [(0, .ref o), (1, .int x0)] []
  refine zv_aload_n (n := 1) dL_needed_0 rfl rfl ?_
  refine zv_iload_n (n := 2) dL_needed_1 rfl rfl ?_
  refine zv_callVX (n := 5) (As := [.int x0]) (rest := []) (kc' := 0 + R2) (ks' := 0 + R3) dL_needed_2 rfl hC rfl kX8_neededSpeed lL_88 hb rfl rfl rfl ⟨hR, by decide⟩ (Nat.le_of_ble_eq_true rfl) rfl rfl (by rw [Nat.zero_add]; exact h2) (by rw [Nat.zero_add]; exact h3) ?_
  intro M1 hq
  refine zvx_catch (nm := "java/util/NoSuchElementException") [(0, 5, 6, 13)] [] rfl (List.forall_mem_cons.mpr ⟨⟨by decide, _, eL_13, by decide +kernel⟩, (fun _ h => nomatch h)⟩) (by decide) (by decide) eL_59 ca_NoSuchElement_NoSuchElement (by rw [Nat.zero_add]; exact h2) (by rw [Nat.zero_add]; exact h3) (fun q => ?_)
  change zV _ _ _ _ _ _ _ 11 [(0, .ref o), (1, .int x0)] [.ref q]
  refine zv_astore_n (n := 12) (lv' := [(2, .ref q), (0, .ref o), (1, .int x0)]) dL_needed_11 rfl (by decide) rfl ?_
  refine zv_sipush (n := 15) dL_needed_12 rfl (v := (-1002)) (by decide) ?_
  refine zv_iret dL_needed_15 rfl (by rw [Nat.zero_add]; exact h2) (by rw [Nat.zero_add]; exact h3) ?_
  exact ⟨rfl, hq⟩

set_option maxRecDepth 100000 in
set_option maxHeartbeats 4000000 in
theorem w_neededBySearch_r {σ : zSg} {M : zM} {o : Nat} {fs : List Value} {x0 : Int32} {P : zM → Prop} {R0 R1 R2 R3 T2 T3 : Nat} {v : Int32} (hb : M o = some (.inr (10, fs))) (hC : zCon μX8_neededSpeedBySearch (R1, R2, R3) σ [.ref o, .int x0] M (zF (some (.int v)) P)) (hR : R1 < R0) (h2 : R2 ≤ T2) (h3 : R3 ≤ T3) : zCon μL_neededBySearch (R0, T2, T3) σ [.ref o, .int x0] M (zF (some (.int v)) P) := by
  refine zCon.ofH (by decide) rfl (Nat.le_of_ble_eq_true rfl) ?_
  change zV _ _ _ _ _ 0 0 0 [(0, .ref o), (1, .int x0)] []
  refine zv_aload_n (n := 1) dL_neededBySearch_0 rfl rfl ?_
  refine zv_iload_n (n := 2) dL_neededBySearch_1 rfl rfl ?_
  refine zv_callVF (n := 5) (As := [.int x0]) (rest := []) (kc' := (0 + R2)) (ks' := (0 + R3)) dL_neededBySearch_2 rfl (hC) rfl kX8_neededSpeedBySearch lL_91 hb rfl rfl rfl ⟨hR, by decide⟩ (Nat.le_of_ble_eq_true rfl) rfl rfl (by rw [Nat.zero_add]; exact h2) (by rw [Nat.zero_add]; exact h3) (fun M1 hq => ?_)
  refine zv_iret dL_neededBySearch_5 rfl (by rw [Nat.zero_add]; exact h2) (by rw [Nat.zero_add]; exact h3) ?_
  exact ⟨rfl, hq⟩

set_option maxRecDepth 100000 in
set_option maxHeartbeats 4000000 in
theorem w_neededBySearch_x0 {σ : zSg} {M : zM} {o : Nat} {fs : List Value} {x0 : Int32} {P : zM → Prop} {R0 R1 R2 R3 T2 T3 : Nat} (hb : M o = some (.inr (10, fs))) (hC : zCon μX8_neededSpeedBySearch (R1, R2, R3) σ [.ref o, .int x0] M (zX9 "java/lang/IndexOutOfBoundsException" P)) (hR : R1 < R0) (h2 : R2 ≤ T2) (h3 : R3 ≤ T3) : zCon μL_neededBySearch (R0, T2, T3) σ [.ref o, .int x0] M (zF (some (.int (-1001))) P) := by
  refine zCon.ofH (by decide) rfl (Nat.le_of_ble_eq_true rfl) ?_
  change zV _ _ _ _ _ 0 0 0 [(0, .ref o), (1, .int x0)] []
  refine zv_aload_n (n := 1) dL_neededBySearch_0 rfl rfl ?_
  refine zv_iload_n (n := 2) dL_neededBySearch_1 rfl rfl ?_
  refine zv_callVX (n := 5) (As := [.int x0]) (rest := []) (kc' := 0 + R2) (ks' := 0 + R3) dL_neededBySearch_2 rfl hC rfl kX8_neededSpeedBySearch lL_91 hb rfl rfl rfl ⟨hR, by decide⟩ (Nat.le_of_ble_eq_true rfl) rfl rfl (by rw [Nat.zero_add]; exact h2) (by rw [Nat.zero_add]; exact h3) ?_
  intro M1 hq
  refine zvx_catch (nm := "java/lang/IndexOutOfBoundsException") [] [(0, 5, 11, 59)] rfl (fun _ h => nomatch h) (by decide) (by decide) eL_13 ca_IndexOutOfBounds_IndexOutOfBounds (by rw [Nat.zero_add]; exact h2) (by rw [Nat.zero_add]; exact h3) (fun q => ?_)
  change zV _ _ _ _ _ _ _ 6 [(0, .ref o), (1, .int x0)] [.ref q]
  refine zv_astore_n (n := 7) (lv' := [(2, .ref q), (0, .ref o), (1, .int x0)]) dL_neededBySearch_6 rfl (by decide) rfl ?_
  refine zv_sipush (n := 10) dL_neededBySearch_7 rfl (v := (-1001)) (by decide) ?_
  refine zv_iret dL_neededBySearch_10 rfl (by rw [Nat.zero_add]; exact h2) (by rw [Nat.zero_add]; exact h3) ?_
  exact ⟨rfl, hq⟩

set_option maxRecDepth 100000 in
set_option maxHeartbeats 4000000 in
theorem w_neededBySearch_x1 {σ : zSg} {M : zM} {o : Nat} {fs : List Value} {x0 : Int32} {P : zM → Prop} {R0 R1 R2 R3 T2 T3 : Nat} (hb : M o = some (.inr (10, fs))) (hC : zCon μX8_neededSpeedBySearch (R1, R2, R3) σ [.ref o, .int x0] M (zX9 "java/util/NoSuchElementException" P)) (hR : R1 < R0) (h2 : R2 ≤ T2) (h3 : R3 ≤ T3) : zCon μL_neededBySearch (R0, T2, T3) σ [.ref o, .int x0] M (zF (some (.int (-1002))) P) := by
  refine zCon.ofH (by decide) rfl (Nat.le_of_ble_eq_true rfl) ?_
  change zV _ _ _ _ _ 0 0 0 [(0, .ref o), (1, .int x0)] []
  refine zv_aload_n (n := 1) dL_neededBySearch_0 rfl rfl ?_
  refine zv_iload_n (n := 2) dL_neededBySearch_1 rfl rfl ?_
  refine zv_callVX (n := 5) (As := [.int x0]) (rest := []) (kc' := 0 + R2) (ks' := 0 + R3) dL_neededBySearch_2 rfl hC rfl kX8_neededSpeedBySearch lL_91 hb rfl rfl rfl ⟨hR, by decide⟩ (Nat.le_of_ble_eq_true rfl) rfl rfl (by rw [Nat.zero_add]; exact h2) (by rw [Nat.zero_add]; exact h3) ?_
  intro M1 hq
  refine zvx_catch (nm := "java/util/NoSuchElementException") [(0, 5, 6, 13)] [] rfl (List.forall_mem_cons.mpr ⟨⟨by decide, _, eL_13, by decide +kernel⟩, (fun _ h => nomatch h)⟩) (by decide) (by decide) eL_59 ca_NoSuchElement_NoSuchElement (by rw [Nat.zero_add]; exact h2) (by rw [Nat.zero_add]; exact h3) (fun q => ?_)
  change zV _ _ _ _ _ _ _ 11 [(0, .ref o), (1, .int x0)] [.ref q]
  refine zv_astore_n (n := 12) (lv' := [(2, .ref q), (0, .ref o), (1, .int x0)]) dL_neededBySearch_11 rfl (by decide) rfl ?_
  refine zv_sipush (n := 15) dL_neededBySearch_12 rfl (v := (-1002)) (by decide) ?_
  refine zv_iret dL_neededBySearch_15 rfl (by rw [Nat.zero_add]; exact h2) (by rw [Nat.zero_add]; exact h3) ?_
  exact ⟨rfl, hq⟩

set_option maxRecDepth 100000 in
set_option maxHeartbeats 4000000 in
theorem w_untilHot_r {σ : zSg} {M : zM} {o : Nat} {fs : List Value} {x0 : Int32} {P : zM → Prop} {R0 R1 R2 R3 T2 T3 : Nat} {v : Int32} (hb : M o = some (.inr (10, fs))) (hC : zCon μX8_minutesUntilHot (R1, R2, R3) σ [.ref o, .int x0] M (zF (some (.int v)) P)) (hR : R1 < R0) (h2 : R2 ≤ T2) (h3 : R3 ≤ T3) : zCon μL_untilHot (R0, T2, T3) σ [.ref o, .int x0] M (zF (some (.int v)) P) := by
  refine zCon.ofH (by decide) rfl (Nat.le_of_ble_eq_true rfl) ?_
  change zV _ _ _ _ _ 0 0 0 [(0, .ref o), (1, .int x0)] []
  refine zv_aload_n (n := 1) dL_untilHot_0 rfl rfl ?_
  refine zv_iload_n (n := 2) dL_untilHot_1 rfl rfl ?_
  refine zv_callVF (n := 5) (As := [.int x0]) (rest := []) (kc' := (0 + R2)) (ks' := (0 + R3)) dL_untilHot_2 rfl (hC) rfl kX8_minutesUntilHot lL_94 hb rfl rfl rfl ⟨hR, by decide⟩ (Nat.le_of_ble_eq_true rfl) rfl rfl (by rw [Nat.zero_add]; exact h2) (by rw [Nat.zero_add]; exact h3) (fun M1 hq => ?_)
  refine zv_iret dL_untilHot_5 rfl (by rw [Nat.zero_add]; exact h2) (by rw [Nat.zero_add]; exact h3) ?_
  exact ⟨rfl, hq⟩

set_option maxRecDepth 100000 in
set_option maxHeartbeats 4000000 in
theorem w_untilHot_x0 {σ : zSg} {M : zM} {o : Nat} {fs : List Value} {x0 : Int32} {P : zM → Prop} {R0 R1 R2 R3 T2 T3 : Nat} (hb : M o = some (.inr (10, fs))) (hC : zCon μX8_minutesUntilHot (R1, R2, R3) σ [.ref o, .int x0] M (zX9 "java/lang/IndexOutOfBoundsException" P)) (hR : R1 < R0) (h2 : R2 ≤ T2) (h3 : R3 ≤ T3) : zCon μL_untilHot (R0, T2, T3) σ [.ref o, .int x0] M (zF (some (.int (-1001))) P) := by
  refine zCon.ofH (by decide) rfl (Nat.le_of_ble_eq_true rfl) ?_
  change zV _ _ _ _ _ 0 0 0 [(0, .ref o), (1, .int x0)] []
  refine zv_aload_n (n := 1) dL_untilHot_0 rfl rfl ?_
  refine zv_iload_n (n := 2) dL_untilHot_1 rfl rfl ?_
  refine zv_callVX (n := 5) (As := [.int x0]) (rest := []) (kc' := 0 + R2) (ks' := 0 + R3) dL_untilHot_2 rfl hC rfl kX8_minutesUntilHot lL_94 hb rfl rfl rfl ⟨hR, by decide⟩ (Nat.le_of_ble_eq_true rfl) rfl rfl (by rw [Nat.zero_add]; exact h2) (by rw [Nat.zero_add]; exact h3) ?_
  intro M1 hq
  refine zvx_catch (nm := "java/lang/IndexOutOfBoundsException") [] [(0, 5, 11, 59)] rfl (fun _ h => nomatch h) (by decide) (by decide) eL_13 ca_IndexOutOfBounds_IndexOutOfBounds (by rw [Nat.zero_add]; exact h2) (by rw [Nat.zero_add]; exact h3) (fun q => ?_)
  change zV _ _ _ _ _ _ _ 6 [(0, .ref o), (1, .int x0)] [.ref q]
  refine zv_astore_n (n := 7) (lv' := [(2, .ref q), (0, .ref o), (1, .int x0)]) dL_untilHot_6 rfl (by decide) rfl ?_
  refine zv_sipush (n := 10) dL_untilHot_7 rfl (v := (-1001)) (by decide) ?_
  refine zv_iret dL_untilHot_10 rfl (by rw [Nat.zero_add]; exact h2) (by rw [Nat.zero_add]; exact h3) ?_
  exact ⟨rfl, hq⟩

set_option maxRecDepth 100000 in
set_option maxHeartbeats 4000000 in
theorem w_untilHot_x1 {σ : zSg} {M : zM} {o : Nat} {fs : List Value} {x0 : Int32} {P : zM → Prop} {R0 R1 R2 R3 T2 T3 : Nat} (hb : M o = some (.inr (10, fs))) (hC : zCon μX8_minutesUntilHot (R1, R2, R3) σ [.ref o, .int x0] M (zX9 "java/util/NoSuchElementException" P)) (hR : R1 < R0) (h2 : R2 ≤ T2) (h3 : R3 ≤ T3) : zCon μL_untilHot (R0, T2, T3) σ [.ref o, .int x0] M (zF (some (.int (-1002))) P) := by
  refine zCon.ofH (by decide) rfl (Nat.le_of_ble_eq_true rfl) ?_
  change zV _ _ _ _ _ 0 0 0 [(0, .ref o), (1, .int x0)] []
  refine zv_aload_n (n := 1) dL_untilHot_0 rfl rfl ?_
  refine zv_iload_n (n := 2) dL_untilHot_1 rfl rfl ?_
  refine zv_callVX (n := 5) (As := [.int x0]) (rest := []) (kc' := 0 + R2) (ks' := 0 + R3) dL_untilHot_2 rfl hC rfl kX8_minutesUntilHot lL_94 hb rfl rfl rfl ⟨hR, by decide⟩ (Nat.le_of_ble_eq_true rfl) rfl rfl (by rw [Nat.zero_add]; exact h2) (by rw [Nat.zero_add]; exact h3) ?_
  intro M1 hq
  refine zvx_catch (nm := "java/util/NoSuchElementException") [(0, 5, 6, 13)] [] rfl (List.forall_mem_cons.mpr ⟨⟨by decide, _, eL_13, by decide +kernel⟩, (fun _ h => nomatch h)⟩) (by decide) (by decide) eL_59 ca_NoSuchElement_NoSuchElement (by rw [Nat.zero_add]; exact h2) (by rw [Nat.zero_add]; exact h3) (fun q => ?_)
  change zV _ _ _ _ _ _ _ 11 [(0, .ref o), (1, .int x0)] [.ref q]
  refine zv_astore_n (n := 12) (lv' := [(2, .ref q), (0, .ref o), (1, .int x0)]) dL_untilHot_11 rfl (by decide) rfl ?_
  refine zv_sipush (n := 15) dL_untilHot_12 rfl (v := (-1002)) (by decide) ?_
  refine zv_iret dL_untilHot_15 rfl (by rw [Nat.zero_add]; exact h2) (by rw [Nat.zero_add]; exact h3) ?_
  exact ⟨rfl, hq⟩

set_option maxRecDepth 100000 in
set_option maxHeartbeats 4000000 in
theorem w_byTemperature_r {σ : zSg} {M : zM} {o : Nat} {fs : List Value} {x0 : Int32} {P : zM → Prop} {R0 R1 R2 R3 T2 T3 : Nat} {v : Int32} (hb : M o = some (.inr (10, fs))) (hC : zCon μX8_rackByTemperature (R1, R2, R3) σ [.ref o, .int x0] M (zF (some (.int v)) P)) (hR : R1 < R0) (h2 : R2 ≤ T2) (h3 : R3 ≤ T3) : zCon μL_byTemperature (R0, T2, T3) σ [.ref o, .int x0] M (zF (some (.int v)) P) := by
  refine zCon.ofH (by decide) rfl (Nat.le_of_ble_eq_true rfl) ?_
  change zV _ _ _ _ _ 0 0 0 [(0, .ref o), (1, .int x0)] []
  refine zv_aload_n (n := 1) dL_byTemperature_0 rfl rfl ?_
  refine zv_iload_n (n := 2) dL_byTemperature_1 rfl rfl ?_
  refine zv_callVF (n := 5) (As := [.int x0]) (rest := []) (kc' := (0 + R2)) (ks' := (0 + R3)) dL_byTemperature_2 rfl (hC) rfl kX8_rackByTemperature lL_97 hb rfl rfl rfl ⟨hR, by decide⟩ (Nat.le_of_ble_eq_true rfl) rfl rfl (by rw [Nat.zero_add]; exact h2) (by rw [Nat.zero_add]; exact h3) (fun M1 hq => ?_)
  refine zv_iret dL_byTemperature_5 rfl (by rw [Nat.zero_add]; exact h2) (by rw [Nat.zero_add]; exact h3) ?_
  exact ⟨rfl, hq⟩

set_option maxRecDepth 100000 in
set_option maxHeartbeats 4000000 in
theorem w_byTemperature_x0 {σ : zSg} {M : zM} {o : Nat} {fs : List Value} {x0 : Int32} {P : zM → Prop} {R0 R1 R2 R3 T2 T3 : Nat} (hb : M o = some (.inr (10, fs))) (hC : zCon μX8_rackByTemperature (R1, R2, R3) σ [.ref o, .int x0] M (zX9 "java/util/NoSuchElementException" P)) (hR : R1 < R0) (h2 : R2 ≤ T2) (h3 : R3 ≤ T3) : zCon μL_byTemperature (R0, T2, T3) σ [.ref o, .int x0] M (zF (some (.int (-1001))) P) := by
  refine zCon.ofH (by decide) rfl (Nat.le_of_ble_eq_true rfl) ?_
  change zV _ _ _ _ _ 0 0 0 [(0, .ref o), (1, .int x0)] []
  refine zv_aload_n (n := 1) dL_byTemperature_0 rfl rfl ?_
  refine zv_iload_n (n := 2) dL_byTemperature_1 rfl rfl ?_
  refine zv_callVX (n := 5) (As := [.int x0]) (rest := []) (kc' := 0 + R2) (ks' := 0 + R3) dL_byTemperature_2 rfl hC rfl kX8_rackByTemperature lL_97 hb rfl rfl rfl ⟨hR, by decide⟩ (Nat.le_of_ble_eq_true rfl) rfl rfl (by rw [Nat.zero_add]; exact h2) (by rw [Nat.zero_add]; exact h3) ?_
  intro M1 hq
  refine zvx_catch (nm := "java/util/NoSuchElementException") [] [] rfl (fun _ h => nomatch h) (by decide) (by decide) eL_59 ca_NoSuchElement_NoSuchElement (by rw [Nat.zero_add]; exact h2) (by rw [Nat.zero_add]; exact h3) (fun q => ?_)
  change zV _ _ _ _ _ _ _ 6 [(0, .ref o), (1, .int x0)] [.ref q]
  refine zv_astore_n (n := 7) (lv' := [(2, .ref q), (0, .ref o), (1, .int x0)]) dL_byTemperature_6 rfl (by decide) rfl ?_
  refine zv_sipush (n := 10) dL_byTemperature_7 rfl (v := (-1001)) (by decide) ?_
  refine zv_iret dL_byTemperature_10 rfl (by rw [Nat.zero_add]; exact h2) (by rw [Nat.zero_add]; exact h3) ?_
  exact ⟨rfl, hq⟩

set_option maxRecDepth 100000 in
set_option maxHeartbeats 4000000 in
theorem w_byHeat_r {σ : zSg} {M : zM} {o : Nat} {fs : List Value} {x0 : Int32} {P : zM → Prop} {R0 R1 R2 R3 T2 T3 : Nat} {v : Int32} (hb : M o = some (.inr (10, fs))) (hC : zCon μX8_aisleByHeat (R1, R2, R3) σ [.ref o, .int x0] M (zF (some (.int v)) P)) (hR : R1 < R0) (h2 : R2 ≤ T2) (h3 : R3 ≤ T3) : zCon μL_byHeat (R0, T2, T3) σ [.ref o, .int x0] M (zF (some (.int v)) P) := by
  refine zCon.ofH (by decide) rfl (Nat.le_of_ble_eq_true rfl) ?_
  change zV _ _ _ _ _ 0 0 0 [(0, .ref o), (1, .int x0)] []
  refine zv_aload_n (n := 1) dL_byHeat_0 rfl rfl ?_
  refine zv_iload_n (n := 2) dL_byHeat_1 rfl rfl ?_
  refine zv_callVF (n := 5) (As := [.int x0]) (rest := []) (kc' := (0 + R2)) (ks' := (0 + R3)) dL_byHeat_2 rfl (hC) rfl kX8_aisleByHeat lL_100 hb rfl rfl rfl ⟨hR, by decide⟩ (Nat.le_of_ble_eq_true rfl) rfl rfl (by rw [Nat.zero_add]; exact h2) (by rw [Nat.zero_add]; exact h3) (fun M1 hq => ?_)
  refine zv_iret dL_byHeat_5 rfl (by rw [Nat.zero_add]; exact h2) (by rw [Nat.zero_add]; exact h3) ?_
  exact ⟨rfl, hq⟩

set_option maxRecDepth 100000 in
set_option maxHeartbeats 4000000 in
theorem w_byHeat_x0 {σ : zSg} {M : zM} {o : Nat} {fs : List Value} {x0 : Int32} {P : zM → Prop} {R0 R1 R2 R3 T2 T3 : Nat} (hb : M o = some (.inr (10, fs))) (hC : zCon μX8_aisleByHeat (R1, R2, R3) σ [.ref o, .int x0] M (zX9 "java/util/NoSuchElementException" P)) (hR : R1 < R0) (h2 : R2 ≤ T2) (h3 : R3 ≤ T3) : zCon μL_byHeat (R0, T2, T3) σ [.ref o, .int x0] M (zF (some (.int (-1001))) P) := by
  refine zCon.ofH (by decide) rfl (Nat.le_of_ble_eq_true rfl) ?_
  change zV _ _ _ _ _ 0 0 0 [(0, .ref o), (1, .int x0)] []
  refine zv_aload_n (n := 1) dL_byHeat_0 rfl rfl ?_
  refine zv_iload_n (n := 2) dL_byHeat_1 rfl rfl ?_
  refine zv_callVX (n := 5) (As := [.int x0]) (rest := []) (kc' := 0 + R2) (ks' := 0 + R3) dL_byHeat_2 rfl hC rfl kX8_aisleByHeat lL_100 hb rfl rfl rfl ⟨hR, by decide⟩ (Nat.le_of_ble_eq_true rfl) rfl rfl (by rw [Nat.zero_add]; exact h2) (by rw [Nat.zero_add]; exact h3) ?_
  intro M1 hq
  refine zvx_catch (nm := "java/util/NoSuchElementException") [] [] rfl (fun _ h => nomatch h) (by decide) (by decide) eL_59 ca_NoSuchElement_NoSuchElement (by rw [Nat.zero_add]; exact h2) (by rw [Nat.zero_add]; exact h3) (fun q => ?_)
  change zV _ _ _ _ _ _ _ 6 [(0, .ref o), (1, .int x0)] [.ref q]
  refine zv_astore_n (n := 7) (lv' := [(2, .ref q), (0, .ref o), (1, .int x0)]) dL_byHeat_6 rfl (by decide) rfl ?_
  refine zv_sipush (n := 10) dL_byHeat_7 rfl (v := (-1001)) (by decide) ?_
  refine zv_iret dL_byHeat_10 rfl (by rw [Nat.zero_add]; exact h2) (by rw [Nat.zero_add]; exact h3) ?_
  exact ⟨rfl, hq⟩

set_option maxRecDepth 100000 in
set_option maxHeartbeats 4000000 in
theorem w_stored_r {σ : zSg} {M : zM} {o : Nat} {fs : List Value} {x0 : Int32} {P : zM → Prop} {R0 R1 R2 R3 T2 T3 : Nat} {v : Int32} (hb : M o = some (.inr (10, fs))) (hC : zCon μX8_storedHeat (R1, R2, R3) σ [.ref o, .int x0] M (zF (some (.int v)) P)) (hR : R1 < R0) (h2 : R2 ≤ T2) (h3 : R3 ≤ T3) : zCon μL_stored (R0, T2, T3) σ [.ref o, .int x0] M (zF (some (.int v)) P) := by
  refine zCon.ofH (by decide) rfl (Nat.le_of_ble_eq_true rfl) ?_
  change zV _ _ _ _ _ 0 0 0 [(0, .ref o), (1, .int x0)] []
  refine zv_aload_n (n := 1) dL_stored_0 rfl rfl ?_
  refine zv_iload_n (n := 2) dL_stored_1 rfl rfl ?_
  refine zv_callVF (n := 5) (As := [.int x0]) (rest := []) (kc' := (0 + R2)) (ks' := (0 + R3)) dL_stored_2 rfl (hC) rfl kX8_storedHeat lL_103 hb rfl rfl rfl ⟨hR, by decide⟩ (Nat.le_of_ble_eq_true rfl) rfl rfl (by rw [Nat.zero_add]; exact h2) (by rw [Nat.zero_add]; exact h3) (fun M1 hq => ?_)
  refine zv_iret dL_stored_5 rfl (by rw [Nat.zero_add]; exact h2) (by rw [Nat.zero_add]; exact h3) ?_
  exact ⟨rfl, hq⟩

set_option maxRecDepth 100000 in
set_option maxHeartbeats 4000000 in
theorem w_stored_x0 {σ : zSg} {M : zM} {o : Nat} {fs : List Value} {x0 : Int32} {P : zM → Prop} {R0 R1 R2 R3 T2 T3 : Nat} (hb : M o = some (.inr (10, fs))) (hC : zCon μX8_storedHeat (R1, R2, R3) σ [.ref o, .int x0] M (zX9 "java/lang/IndexOutOfBoundsException" P)) (hR : R1 < R0) (h2 : R2 ≤ T2) (h3 : R3 ≤ T3) : zCon μL_stored (R0, T2, T3) σ [.ref o, .int x0] M (zF (some (.int (-1001))) P) := by
  refine zCon.ofH (by decide) rfl (Nat.le_of_ble_eq_true rfl) ?_
  change zV _ _ _ _ _ 0 0 0 [(0, .ref o), (1, .int x0)] []
  refine zv_aload_n (n := 1) dL_stored_0 rfl rfl ?_
  refine zv_iload_n (n := 2) dL_stored_1 rfl rfl ?_
  refine zv_callVX (n := 5) (As := [.int x0]) (rest := []) (kc' := 0 + R2) (ks' := 0 + R3) dL_stored_2 rfl hC rfl kX8_storedHeat lL_103 hb rfl rfl rfl ⟨hR, by decide⟩ (Nat.le_of_ble_eq_true rfl) rfl rfl (by rw [Nat.zero_add]; exact h2) (by rw [Nat.zero_add]; exact h3) ?_
  intro M1 hq
  refine zvx_catch (nm := "java/lang/IndexOutOfBoundsException") [] [] rfl (fun _ h => nomatch h) (by decide) (by decide) eL_13 ca_IndexOutOfBounds_IndexOutOfBounds (by rw [Nat.zero_add]; exact h2) (by rw [Nat.zero_add]; exact h3) (fun q => ?_)
  change zV _ _ _ _ _ _ _ 6 [(0, .ref o), (1, .int x0)] [.ref q]
  refine zv_astore_n (n := 7) (lv' := [(2, .ref q), (0, .ref o), (1, .int x0)]) dL_stored_6 rfl (by decide) rfl ?_
  refine zv_sipush (n := 10) dL_stored_7 rfl (v := (-1001)) (by decide) ?_
  refine zv_iret dL_stored_10 rfl (by rw [Nat.zero_add]; exact h2) (by rw [Nat.zero_add]; exact h3) ?_
  exact ⟨rfl, hq⟩

set_option maxRecDepth 100000 in
set_option maxHeartbeats 4000000 in
theorem w_mean_r {σ : zSg} {M : zM} {o : Nat} {fs : List Value} {P : zM → Prop} {R0 R1 R2 R3 T2 T3 : Nat} {v : UInt64} (hb : M o = some (.inr (10, fs))) (hC : zCon μX8_meanTemperature (R1, R2, R3) σ [.ref o] M (zF (some (.double v)) P)) (hR : R1 < R0) (h2 : R2 ≤ T2) (h3 : R3 ≤ T3) : zCon μL_mean (R0, T2, T3) σ [.ref o] M (zF (some (.double v)) P) := by
  refine zCon.ofH (by decide) rfl (Nat.le_of_ble_eq_true rfl) ?_
  change zV _ _ _ _ _ 0 0 0 [(0, .ref o)] []
  refine zv_aload_n (n := 1) dL_mean_0 rfl rfl ?_
  refine zv_callVF (n := 4) (As := []) (rest := []) (kc' := (0 + R2)) (ks' := (0 + R3)) dL_mean_1 rfl (hC) rfl kX8_meanTemperature lL_106 hb rfl rfl rfl ⟨hR, by decide⟩ (Nat.le_of_ble_eq_true rfl) rfl rfl (by rw [Nat.zero_add]; exact h2) (by rw [Nat.zero_add]; exact h3) (fun M1 hq => ?_)
  refine zv_dret dL_mean_4 rfl (by rw [Nat.zero_add]; exact h2) (by rw [Nat.zero_add]; exact h3) ?_
  exact ⟨rfl, hq⟩

set_option maxRecDepth 100000 in
set_option maxHeartbeats 4000000 in
theorem w_mean_x0 {σ : zSg} {M : zM} {o : Nat} {fs : List Value} {P : zM → Prop} {R0 R1 R2 R3 T2 T3 : Nat} (hb : M o = some (.inr (10, fs))) (hC : zCon μX8_meanTemperature (R1, R2, R3) σ [.ref o] M (zX9 "java/lang/ArithmeticException" P)) (hR : R1 < R0) (h2 : R2 ≤ T2) (h3 : R3 ≤ T3) : zCon μL_mean (R0, T2, T3) σ [.ref o] M (zF (some (.double 13875388141788987392)) P) := by
  refine zCon.ofH (by decide) rfl (Nat.le_of_ble_eq_true rfl) ?_
  change zV _ _ _ _ _ 0 0 0 [(0, .ref o)] []
  refine zv_aload_n (n := 1) dL_mean_0 rfl rfl ?_
  refine zv_callVX (n := 4) (As := []) (rest := []) (kc' := 0 + R2) (ks' := 0 + R3) dL_mean_1 rfl hC rfl kX8_meanTemperature lL_106 hb rfl rfl rfl ⟨hR, by decide⟩ (Nat.le_of_ble_eq_true rfl) rfl rfl (by rw [Nat.zero_add]; exact h2) (by rw [Nat.zero_add]; exact h3) ?_
  intro M1 hq
  refine zvx_catch (nm := "java/lang/ArithmeticException") [] [] rfl (fun _ h => nomatch h) (by decide) (by decide) eL_110 ca_Arithmetic_Arithmetic (by rw [Nat.zero_add]; exact h2) (by rw [Nat.zero_add]; exact h3) (fun q => ?_)
  change zV _ _ _ _ _ _ _ 5 [(0, .ref o)] [.ref q]
  refine zv_astore_n (n := 6) (lv' := [(1, .ref q), (0, .ref o)]) dL_mean_5 rfl (by decide) rfl ?_
  refine zv_ldc2d (n := 9) dL_mean_6 rfl qL_112 ?_
  refine zv_dret dL_mean_9 rfl (by rw [Nat.zero_add]; exact h2) (by rw [Nat.zero_add]; exact h3) ?_
  exact ⟨rfl, hq⟩

set_option maxRecDepth 100000 in
set_option maxHeartbeats 4000000 in
theorem w_hotShare_r {σ : zSg} {M : zM} {o : Nat} {fs : List Value} {P : zM → Prop} {R0 R1 R2 R3 T2 T3 : Nat} {v : UInt32} (hb : M o = some (.inr (10, fs))) (hC : zCon μX8_hotShare (R1, R2, R3) σ [.ref o] M (zF (some (.float v)) P)) (hR : R1 < R0) (h2 : R2 ≤ T2) (h3 : R3 ≤ T3) : zCon μL_hotShare (R0, T2, T3) σ [.ref o] M (zF (some (.float v)) P) := by
  refine zCon.ofH (by decide) rfl (Nat.le_of_ble_eq_true rfl) ?_
  change zV _ _ _ _ _ 0 0 0 [(0, .ref o)] []
  refine zv_aload_n (n := 1) dL_hotShare_0 rfl rfl ?_
  refine zv_callVF (n := 4) (As := []) (rest := []) (kc' := (0 + R2)) (ks' := (0 + R3)) dL_hotShare_1 rfl (hC) rfl kX8_hotShare lL_114 hb rfl rfl rfl ⟨hR, by decide⟩ (Nat.le_of_ble_eq_true rfl) rfl rfl (by rw [Nat.zero_add]; exact h2) (by rw [Nat.zero_add]; exact h3) (fun M1 hq => ?_)
  refine zv_fret dL_hotShare_4 rfl (by rw [Nat.zero_add]; exact h2) (by rw [Nat.zero_add]; exact h3) ?_
  exact ⟨rfl, hq⟩

set_option maxRecDepth 100000 in
set_option maxHeartbeats 4000000 in
theorem w_hotShare_x0 {σ : zSg} {M : zM} {o : Nat} {fs : List Value} {P : zM → Prop} {R0 R1 R2 R3 T2 T3 : Nat} (hb : M o = some (.inr (10, fs))) (hC : zCon μX8_hotShare (R1, R2, R3) σ [.ref o] M (zX9 "java/lang/ArithmeticException" P)) (hR : R1 < R0) (h2 : R2 ≤ T2) (h3 : R3 ≤ T3) : zCon μL_hotShare (R0, T2, T3) σ [.ref o] M (zF (some (.float 3296346112)) P) := by
  refine zCon.ofH (by decide) rfl (Nat.le_of_ble_eq_true rfl) ?_
  change zV _ _ _ _ _ 0 0 0 [(0, .ref o)] []
  refine zv_aload_n (n := 1) dL_hotShare_0 rfl rfl ?_
  refine zv_callVX (n := 4) (As := []) (rest := []) (kc' := 0 + R2) (ks' := 0 + R3) dL_hotShare_1 rfl hC rfl kX8_hotShare lL_114 hb rfl rfl rfl ⟨hR, by decide⟩ (Nat.le_of_ble_eq_true rfl) rfl rfl (by rw [Nat.zero_add]; exact h2) (by rw [Nat.zero_add]; exact h3) ?_
  intro M1 hq
  refine zvx_catch (nm := "java/lang/ArithmeticException") [] [] rfl (fun _ h => nomatch h) (by decide) (by decide) eL_110 ca_Arithmetic_Arithmetic (by rw [Nat.zero_add]; exact h2) (by rw [Nat.zero_add]; exact h3) (fun q => ?_)
  change zV _ _ _ _ _ _ _ 5 [(0, .ref o)] [.ref q]
  refine zv_astore_n (n := 6) (lv' := [(1, .ref q), (0, .ref o)]) dL_hotShare_5 rfl (by decide) rfl ?_
  refine zv_ldcf (n := 8) dL_hotShare_6 rfl qL_74 ?_
  refine zv_fret dL_hotShare_8 rfl (by rw [Nat.zero_add]; exact h2) (by rw [Nat.zero_add]; exact h3) ?_
  exact ⟨rfl, hq⟩

set_option maxRecDepth 100000 in
set_option maxHeartbeats 4000000 in
theorem w_renderRack_r {σ : zSg} {M : zM} {o : Nat} {fs : List Value} {x0 : Int32} {P : zM → Prop} {R0 R1 R2 R3 T2 T3 : Nat} {v : Int32} (hb : M o = some (.inr (10, fs))) (hC : zCon μX8_renderRack (R1, R2, R3) σ [.ref o, .int x0] M (zF (some (.int v)) P)) (hR : R1 < R0) (h2 : R2 ≤ T2) (h3 : R3 ≤ T3) : zCon μL_renderRack (R0, T2, T3) σ [.ref o, .int x0] M (zF (some (.int v)) P) := by
  refine zCon.ofH (by decide) rfl (Nat.le_of_ble_eq_true rfl) ?_
  change zV _ _ _ _ _ 0 0 0 [(0, .ref o), (1, .int x0)] []
  refine zv_aload_n (n := 1) dL_renderRack_0 rfl rfl ?_
  refine zv_iload_n (n := 2) dL_renderRack_1 rfl rfl ?_
  refine zv_callVF (n := 5) (As := [.int x0]) (rest := []) (kc' := (0 + R2)) (ks' := (0 + R3)) dL_renderRack_2 rfl (hC) rfl kX8_renderRack lL_118 hb rfl rfl rfl ⟨hR, by decide⟩ (Nat.le_of_ble_eq_true rfl) rfl rfl (by rw [Nat.zero_add]; exact h2) (by rw [Nat.zero_add]; exact h3) (fun M1 hq => ?_)
  refine zv_iret dL_renderRack_5 rfl (by rw [Nat.zero_add]; exact h2) (by rw [Nat.zero_add]; exact h3) ?_
  exact ⟨rfl, hq⟩

set_option maxRecDepth 100000 in
set_option maxHeartbeats 4000000 in
theorem w_renderRack_x0 {σ : zSg} {M : zM} {o : Nat} {fs : List Value} {x0 : Int32} {P : zM → Prop} {R0 R1 R2 R3 T2 T3 : Nat} (hb : M o = some (.inr (10, fs))) (hC : zCon μX8_renderRack (R1, R2, R3) σ [.ref o, .int x0] M (zX9 "java/lang/IndexOutOfBoundsException" P)) (hR : R1 < R0) (h2 : R2 ≤ T2) (h3 : R3 ≤ T3) : zCon μL_renderRack (R0, T2, T3) σ [.ref o, .int x0] M (zF (some (.int (-1001))) P) := by
  refine zCon.ofH (by decide) rfl (Nat.le_of_ble_eq_true rfl) ?_
  change zV _ _ _ _ _ 0 0 0 [(0, .ref o), (1, .int x0)] []
  refine zv_aload_n (n := 1) dL_renderRack_0 rfl rfl ?_
  refine zv_iload_n (n := 2) dL_renderRack_1 rfl rfl ?_
  refine zv_callVX (n := 5) (As := [.int x0]) (rest := []) (kc' := 0 + R2) (ks' := 0 + R3) dL_renderRack_2 rfl hC rfl kX8_renderRack lL_118 hb rfl rfl rfl ⟨hR, by decide⟩ (Nat.le_of_ble_eq_true rfl) rfl rfl (by rw [Nat.zero_add]; exact h2) (by rw [Nat.zero_add]; exact h3) ?_
  intro M1 hq
  refine zvx_catch (nm := "java/lang/IndexOutOfBoundsException") [] [] rfl (fun _ h => nomatch h) (by decide) (by decide) eL_13 ca_IndexOutOfBounds_IndexOutOfBounds (by rw [Nat.zero_add]; exact h2) (by rw [Nat.zero_add]; exact h3) (fun q => ?_)
  change zV _ _ _ _ _ _ _ 6 [(0, .ref o), (1, .int x0)] [.ref q]
  refine zv_astore_n (n := 7) (lv' := [(2, .ref q), (0, .ref o), (1, .int x0)]) dL_renderRack_6 rfl (by decide) rfl ?_
  refine zv_sipush (n := 10) dL_renderRack_7 rfl (v := (-1001)) (by decide) ?_
  refine zv_iret dL_renderRack_10 rfl (by rw [Nat.zero_add]; exact h2) (by rw [Nat.zero_add]; exact h3) ?_
  exact ⟨rfl, hq⟩

set_option maxRecDepth 100000 in
set_option maxHeartbeats 4000000 in
theorem w_renderAisle_r {σ : zSg} {M : zM} {o : Nat} {fs : List Value} {x0 : Int32} {P : zM → Prop} {R0 R1 R2 R3 T2 T3 : Nat} {v : Int32} (hb : M o = some (.inr (10, fs))) (hC : zCon μX8_renderAisle (R1, R2, R3) σ [.ref o, .int x0] M (zF (some (.int v)) P)) (hR : R1 < R0) (h2 : R2 ≤ T2) (h3 : R3 ≤ T3) : zCon μL_renderAisle (R0, T2, T3) σ [.ref o, .int x0] M (zF (some (.int v)) P) := by
  refine zCon.ofH (by decide) rfl (Nat.le_of_ble_eq_true rfl) ?_
  change zV _ _ _ _ _ 0 0 0 [(0, .ref o), (1, .int x0)] []
  refine zv_aload_n (n := 1) dL_renderAisle_0 rfl rfl ?_
  refine zv_iload_n (n := 2) dL_renderAisle_1 rfl rfl ?_
  refine zv_callVF (n := 5) (As := [.int x0]) (rest := []) (kc' := (0 + R2)) (ks' := (0 + R3)) dL_renderAisle_2 rfl (hC) rfl kX8_renderAisle lL_121 hb rfl rfl rfl ⟨hR, by decide⟩ (Nat.le_of_ble_eq_true rfl) rfl rfl (by rw [Nat.zero_add]; exact h2) (by rw [Nat.zero_add]; exact h3) (fun M1 hq => ?_)
  refine zv_iret dL_renderAisle_5 rfl (by rw [Nat.zero_add]; exact h2) (by rw [Nat.zero_add]; exact h3) ?_
  exact ⟨rfl, hq⟩

set_option maxRecDepth 100000 in
set_option maxHeartbeats 4000000 in
theorem w_renderAisle_x0 {σ : zSg} {M : zM} {o : Nat} {fs : List Value} {x0 : Int32} {P : zM → Prop} {R0 R1 R2 R3 T2 T3 : Nat} (hb : M o = some (.inr (10, fs))) (hC : zCon μX8_renderAisle (R1, R2, R3) σ [.ref o, .int x0] M (zX9 "java/lang/IndexOutOfBoundsException" P)) (hR : R1 < R0) (h2 : R2 ≤ T2) (h3 : R3 ≤ T3) : zCon μL_renderAisle (R0, T2, T3) σ [.ref o, .int x0] M (zF (some (.int (-1001))) P) := by
  refine zCon.ofH (by decide) rfl (Nat.le_of_ble_eq_true rfl) ?_
  change zV _ _ _ _ _ 0 0 0 [(0, .ref o), (1, .int x0)] []
  refine zv_aload_n (n := 1) dL_renderAisle_0 rfl rfl ?_
  refine zv_iload_n (n := 2) dL_renderAisle_1 rfl rfl ?_
  refine zv_callVX (n := 5) (As := [.int x0]) (rest := []) (kc' := 0 + R2) (ks' := 0 + R3) dL_renderAisle_2 rfl hC rfl kX8_renderAisle lL_121 hb rfl rfl rfl ⟨hR, by decide⟩ (Nat.le_of_ble_eq_true rfl) rfl rfl (by rw [Nat.zero_add]; exact h2) (by rw [Nat.zero_add]; exact h3) ?_
  intro M1 hq
  refine zvx_catch (nm := "java/lang/IndexOutOfBoundsException") [] [] rfl (fun _ h => nomatch h) (by decide) (by decide) eL_13 ca_IndexOutOfBounds_IndexOutOfBounds (by rw [Nat.zero_add]; exact h2) (by rw [Nat.zero_add]; exact h3) (fun q => ?_)
  change zV _ _ _ _ _ _ _ 6 [(0, .ref o), (1, .int x0)] [.ref q]
  refine zv_astore_n (n := 7) (lv' := [(2, .ref q), (0, .ref o), (1, .int x0)]) dL_renderAisle_6 rfl (by decide) rfl ?_
  refine zv_sipush (n := 10) dL_renderAisle_7 rfl (v := (-1001)) (by decide) ?_
  refine zv_iret dL_renderAisle_10 rfl (by rw [Nat.zero_add]; exact h2) (by rw [Nat.zero_add]; exact h3) ?_
  exact ⟨rfl, hq⟩

set_option maxRecDepth 100000 in
set_option maxHeartbeats 4000000 in
theorem w_outputAt_r {σ : zSg} {M : zM} {o : Nat} {fs : List Value} {x0 : Int32} {P : zM → Prop} {R0 R1 R2 R3 T2 T3 : Nat} {v : Int32} (hb : M o = some (.inr (10, fs))) (hC : zCon μX8_outputAt (R1, R2, R3) σ [.ref o, .int x0] M (zF (some (.int v)) P)) (hR : R1 < R0) (h2 : R2 ≤ T2) (h3 : R3 ≤ T3) : zCon μL_outputAt (R0, T2, T3) σ [.ref o, .int x0] M (zF (some (.int v)) P) := by
  refine zCon.ofH (by decide) rfl (Nat.le_of_ble_eq_true rfl) ?_
  change zV _ _ _ _ _ 0 0 0 [(0, .ref o), (1, .int x0)] []
  refine zv_aload_n (n := 1) dL_outputAt_0 rfl rfl ?_
  refine zv_iload_n (n := 2) dL_outputAt_1 rfl rfl ?_
  refine zv_callVF (n := 5) (As := [.int x0]) (rest := []) (kc' := (0 + R2)) (ks' := (0 + R3)) dL_outputAt_2 rfl (hC) rfl kX8_outputAt lL_124 hb rfl rfl rfl ⟨hR, by decide⟩ (Nat.le_of_ble_eq_true rfl) rfl rfl (by rw [Nat.zero_add]; exact h2) (by rw [Nat.zero_add]; exact h3) (fun M1 hq => ?_)
  refine zv_iret dL_outputAt_5 rfl (by rw [Nat.zero_add]; exact h2) (by rw [Nat.zero_add]; exact h3) ?_
  exact ⟨rfl, hq⟩

set_option maxRecDepth 100000 in
set_option maxHeartbeats 4000000 in
theorem w_outputAt_x0 {σ : zSg} {M : zM} {o : Nat} {fs : List Value} {x0 : Int32} {P : zM → Prop} {R0 R1 R2 R3 T2 T3 : Nat} (hb : M o = some (.inr (10, fs))) (hC : zCon μX8_outputAt (R1, R2, R3) σ [.ref o, .int x0] M (zX9 "java/lang/IndexOutOfBoundsException" P)) (hR : R1 < R0) (h2 : R2 ≤ T2) (h3 : R3 ≤ T3) : zCon μL_outputAt (R0, T2, T3) σ [.ref o, .int x0] M (zF (some (.int (-1001))) P) := by
  refine zCon.ofH (by decide) rfl (Nat.le_of_ble_eq_true rfl) ?_
  change zV _ _ _ _ _ 0 0 0 [(0, .ref o), (1, .int x0)] []
  refine zv_aload_n (n := 1) dL_outputAt_0 rfl rfl ?_
  refine zv_iload_n (n := 2) dL_outputAt_1 rfl rfl ?_
  refine zv_callVX (n := 5) (As := [.int x0]) (rest := []) (kc' := 0 + R2) (ks' := 0 + R3) dL_outputAt_2 rfl hC rfl kX8_outputAt lL_124 hb rfl rfl rfl ⟨hR, by decide⟩ (Nat.le_of_ble_eq_true rfl) rfl rfl (by rw [Nat.zero_add]; exact h2) (by rw [Nat.zero_add]; exact h3) ?_
  intro M1 hq
  refine zvx_catch (nm := "java/lang/IndexOutOfBoundsException") [] [] rfl (fun _ h => nomatch h) (by decide) (by decide) eL_13 ca_IndexOutOfBounds_IndexOutOfBounds (by rw [Nat.zero_add]; exact h2) (by rw [Nat.zero_add]; exact h3) (fun q => ?_)
  change zV _ _ _ _ _ _ _ 6 [(0, .ref o), (1, .int x0)] [.ref q]
  refine zv_astore_n (n := 7) (lv' := [(2, .ref q), (0, .ref o), (1, .int x0)]) dL_outputAt_6 rfl (by decide) rfl ?_
  refine zv_sipush (n := 10) dL_outputAt_7 rfl (v := (-1001)) (by decide) ?_
  refine zv_iret dL_outputAt_10 rfl (by rw [Nat.zero_add]; exact h2) (by rw [Nat.zero_add]; exact h3) ?_
  exact ⟨rfl, hq⟩

set_option maxRecDepth 100000 in
set_option maxHeartbeats 4000000 in
theorem w_type_r {σ : zSg} {M : zM} {o : Nat} {fs : List Value} {x0 : Int32} {P : zM → Prop} {R0 R1 R2 R3 T2 T3 : Nat} {v : Int32} (hb : M o = some (.inr (10, fs))) (hC : zCon μX8_type (R1, R2, R3) σ [.ref o, .int x0] M (zF (some (.int v)) P)) (hR : R1 < R0) (h2 : R2 ≤ T2) (h3 : R3 ≤ T3) : zCon μL_type (R0, T2, T3) σ [.ref o, .int x0] M (zF (some (.int v)) P) := by
  refine zCon.ofH (by decide) rfl (Nat.le_of_ble_eq_true rfl) ?_
  change zV _ _ _ _ _ 0 0 0 [(0, .ref o), (1, .int x0)] []
  refine zv_aload_n (n := 1) dL_type_0 rfl rfl ?_
  refine zv_iload_n (n := 2) dL_type_1 rfl rfl ?_
  refine zv_callVF (n := 5) (As := [.int x0]) (rest := []) (kc' := (0 + R2)) (ks' := (0 + R3)) dL_type_2 rfl (hC) rfl kX8_type lL_128 hb rfl rfl rfl ⟨hR, by decide⟩ (Nat.le_of_ble_eq_true rfl) rfl rfl (by rw [Nat.zero_add]; exact h2) (by rw [Nat.zero_add]; exact h3) (fun M1 hq => ?_)
  refine zv_iret dL_type_5 rfl (by rw [Nat.zero_add]; exact h2) (by rw [Nat.zero_add]; exact h3) ?_
  exact ⟨rfl, hq⟩

set_option maxRecDepth 100000 in
set_option maxHeartbeats 4000000 in
theorem w_type_x0 {σ : zSg} {M : zM} {o : Nat} {fs : List Value} {x0 : Int32} {P : zM → Prop} {R0 R1 R2 R3 T2 T3 : Nat} (hb : M o = some (.inr (10, fs))) (hC : zCon μX8_type (R1, R2, R3) σ [.ref o, .int x0] M (zX9 "java/lang/IllegalArgumentException" P)) (hR : R1 < R0) (h2 : R2 ≤ T2) (h3 : R3 ≤ T3) : zCon μL_type (R0, T2, T3) σ [.ref o, .int x0] M (zF (some (.int (-1001))) P) := by
  refine zCon.ofH (by decide) rfl (Nat.le_of_ble_eq_true rfl) ?_
  change zV _ _ _ _ _ 0 0 0 [(0, .ref o), (1, .int x0)] []
  refine zv_aload_n (n := 1) dL_type_0 rfl rfl ?_
  refine zv_iload_n (n := 2) dL_type_1 rfl rfl ?_
  refine zv_callVX (n := 5) (As := [.int x0]) (rest := []) (kc' := 0 + R2) (ks' := 0 + R3) dL_type_2 rfl hC rfl kX8_type lL_128 hb rfl rfl rfl ⟨hR, by decide⟩ (Nat.le_of_ble_eq_true rfl) rfl rfl (by rw [Nat.zero_add]; exact h2) (by rw [Nat.zero_add]; exact h3) ?_
  intro M1 hq
  refine zvx_catch (nm := "java/lang/IllegalArgumentException") [] [(0, 5, 11, 17)] rfl (fun _ h => nomatch h) (by decide) (by decide) eL_15 ca_IllegalArgument_IllegalArgument (by rw [Nat.zero_add]; exact h2) (by rw [Nat.zero_add]; exact h3) (fun q => ?_)
  change zV _ _ _ _ _ _ _ 6 [(0, .ref o), (1, .int x0)] [.ref q]
  refine zv_astore_n (n := 7) (lv' := [(2, .ref q), (0, .ref o), (1, .int x0)]) dL_type_6 rfl (by decide) rfl ?_
  refine zv_sipush (n := 10) dL_type_7 rfl (v := (-1001)) (by decide) ?_
  refine zv_iret dL_type_10 rfl (by rw [Nat.zero_add]; exact h2) (by rw [Nat.zero_add]; exact h3) ?_
  exact ⟨rfl, hq⟩

set_option maxRecDepth 100000 in
set_option maxHeartbeats 4000000 in
theorem w_type_x1 {σ : zSg} {M : zM} {o : Nat} {fs : List Value} {x0 : Int32} {P : zM → Prop} {R0 R1 R2 R3 T2 T3 : Nat} (hb : M o = some (.inr (10, fs))) (hC : zCon μX8_type (R1, R2, R3) σ [.ref o, .int x0] M (zX9 "java/lang/IllegalStateException" P)) (hR : R1 < R0) (h2 : R2 ≤ T2) (h3 : R3 ≤ T3) : zCon μL_type (R0, T2, T3) σ [.ref o, .int x0] M (zF (some (.int (-1002))) P) := by
  refine zCon.ofH (by decide) rfl (Nat.le_of_ble_eq_true rfl) ?_
  change zV _ _ _ _ _ 0 0 0 [(0, .ref o), (1, .int x0)] []
  refine zv_aload_n (n := 1) dL_type_0 rfl rfl ?_
  refine zv_iload_n (n := 2) dL_type_1 rfl rfl ?_
  refine zv_callVX (n := 5) (As := [.int x0]) (rest := []) (kc' := 0 + R2) (ks' := 0 + R3) dL_type_2 rfl hC rfl kX8_type lL_128 hb rfl rfl rfl ⟨hR, by decide⟩ (Nat.le_of_ble_eq_true rfl) rfl rfl (by rw [Nat.zero_add]; exact h2) (by rw [Nat.zero_add]; exact h3) ?_
  intro M1 hq
  refine zvx_catch (nm := "java/lang/IllegalStateException") [(0, 5, 6, 15)] [] rfl (List.forall_mem_cons.mpr ⟨⟨by decide, _, eL_15, by decide +kernel⟩, (fun _ h => nomatch h)⟩) (by decide) (by decide) eL_17 ca_IllegalState_IllegalState (by rw [Nat.zero_add]; exact h2) (by rw [Nat.zero_add]; exact h3) (fun q => ?_)
  change zV _ _ _ _ _ _ _ 11 [(0, .ref o), (1, .int x0)] [.ref q]
  refine zv_astore_n (n := 12) (lv' := [(2, .ref q), (0, .ref o), (1, .int x0)]) dL_type_11 rfl (by decide) rfl ?_
  refine zv_sipush (n := 15) dL_type_12 rfl (v := (-1002)) (by decide) ?_
  refine zv_iret dL_type_15 rfl (by rw [Nat.zero_add]; exact h2) (by rw [Nat.zero_add]; exact h3) ?_
  exact ⟨rfl, hq⟩

set_option maxRecDepth 100000 in
set_option maxHeartbeats 4000000 in
theorem w_run_r {σ : zSg} {M : zM} {o : Nat} {fs : List Value} {P : zM → Prop} {R0 R1 R2 R3 T2 T3 : Nat} {v : Int32} (hb : M o = some (.inr (10, fs))) (hC : zCon μX8_runScript (R1, R2, R3) σ [.ref o] M (zF (some (.int v)) P)) (hR : R1 < R0) (h2 : R2 ≤ T2) (h3 : R3 ≤ T3) : zCon μL_run (R0, T2, T3) σ [.ref o] M (zF (some (.int v)) P) := by
  refine zCon.ofH (by decide) rfl (Nat.le_of_ble_eq_true rfl) ?_
  change zV _ _ _ _ _ 0 0 0 [(0, .ref o)] []
  refine zv_aload_n (n := 1) dL_run_0 rfl rfl ?_
  refine zv_callVF (n := 4) (As := []) (rest := []) (kc' := (0 + R2)) (ks' := (0 + R3)) dL_run_1 rfl (hC) rfl kX8_runScript lL_132 hb rfl rfl rfl ⟨hR, by decide⟩ (Nat.le_of_ble_eq_true rfl) rfl rfl (by rw [Nat.zero_add]; exact h2) (by rw [Nat.zero_add]; exact h3) (fun M1 hq => ?_)
  refine zv_iret dL_run_4 rfl (by rw [Nat.zero_add]; exact h2) (by rw [Nat.zero_add]; exact h3) ?_
  exact ⟨rfl, hq⟩

set_option maxRecDepth 100000 in
set_option maxHeartbeats 4000000 in
theorem w_run_x0 {σ : zSg} {M : zM} {o : Nat} {fs : List Value} {P : zM → Prop} {R0 R1 R2 R3 T2 T3 : Nat} (hb : M o = some (.inr (10, fs))) (hC : zCon μX8_runScript (R1, R2, R3) σ [.ref o] M (zX9 "java/lang/IllegalArgumentException" P)) (hR : R1 < R0) (h2 : R2 ≤ T2) (h3 : R3 ≤ T3) : zCon μL_run (R0, T2, T3) σ [.ref o] M (zF (some (.int (-1001))) P) := by
  refine zCon.ofH (by decide) rfl (Nat.le_of_ble_eq_true rfl) ?_
  change zV _ _ _ _ _ 0 0 0 [(0, .ref o)] []
  refine zv_aload_n (n := 1) dL_run_0 rfl rfl ?_
  refine zv_callVX (n := 4) (As := []) (rest := []) (kc' := 0 + R2) (ks' := 0 + R3) dL_run_1 rfl hC rfl kX8_runScript lL_132 hb rfl rfl rfl ⟨hR, by decide⟩ (Nat.le_of_ble_eq_true rfl) rfl rfl (by rw [Nat.zero_add]; exact h2) (by rw [Nat.zero_add]; exact h3) ?_
  intro M1 hq
  refine zvx_catch (nm := "java/lang/IllegalArgumentException") [] [(0, 4, 10, 17)] rfl (fun _ h => nomatch h) (by decide) (by decide) eL_15 ca_IllegalArgument_IllegalArgument (by rw [Nat.zero_add]; exact h2) (by rw [Nat.zero_add]; exact h3) (fun q => ?_)
  change zV _ _ _ _ _ _ _ 5 [(0, .ref o)] [.ref q]
  refine zv_astore_n (n := 6) (lv' := [(1, .ref q), (0, .ref o)]) dL_run_5 rfl (by decide) rfl ?_
  refine zv_sipush (n := 9) dL_run_6 rfl (v := (-1001)) (by decide) ?_
  refine zv_iret dL_run_9 rfl (by rw [Nat.zero_add]; exact h2) (by rw [Nat.zero_add]; exact h3) ?_
  exact ⟨rfl, hq⟩

set_option maxRecDepth 100000 in
set_option maxHeartbeats 4000000 in
theorem w_run_x1 {σ : zSg} {M : zM} {o : Nat} {fs : List Value} {P : zM → Prop} {R0 R1 R2 R3 T2 T3 : Nat} (hb : M o = some (.inr (10, fs))) (hC : zCon μX8_runScript (R1, R2, R3) σ [.ref o] M (zX9 "java/lang/IllegalStateException" P)) (hR : R1 < R0) (h2 : R2 ≤ T2) (h3 : R3 ≤ T3) : zCon μL_run (R0, T2, T3) σ [.ref o] M (zF (some (.int (-1002))) P) := by
  refine zCon.ofH (by decide) rfl (Nat.le_of_ble_eq_true rfl) ?_
  change zV _ _ _ _ _ 0 0 0 [(0, .ref o)] []
  refine zv_aload_n (n := 1) dL_run_0 rfl rfl ?_
  refine zv_callVX (n := 4) (As := []) (rest := []) (kc' := 0 + R2) (ks' := 0 + R3) dL_run_1 rfl hC rfl kX8_runScript lL_132 hb rfl rfl rfl ⟨hR, by decide⟩ (Nat.le_of_ble_eq_true rfl) rfl rfl (by rw [Nat.zero_add]; exact h2) (by rw [Nat.zero_add]; exact h3) ?_
  intro M1 hq
  refine zvx_catch (nm := "java/lang/IllegalStateException") [(0, 4, 5, 15)] [] rfl (List.forall_mem_cons.mpr ⟨⟨by decide, _, eL_15, by decide +kernel⟩, (fun _ h => nomatch h)⟩) (by decide) (by decide) eL_17 ca_IllegalState_IllegalState (by rw [Nat.zero_add]; exact h2) (by rw [Nat.zero_add]; exact h3) (fun q => ?_)
  change zV _ _ _ _ _ _ _ 10 [(0, .ref o)] [.ref q]
  refine zv_astore_n (n := 11) (lv' := [(1, .ref q), (0, .ref o)]) dL_run_10 rfl (by decide) rfl ?_
  refine zv_sipush (n := 14) dL_run_11 rfl (v := (-1002)) (by decide) ?_
  refine zv_iret dL_run_14 rfl (by rw [Nat.zero_add]; exact h2) (by rw [Nat.zero_add]; exact h3) ?_
  exact ⟨rfl, hq⟩

set_option maxRecDepth 100000 in
set_option maxHeartbeats 4000000 in
theorem w_errorPosition_r {σ : zSg} {M : zM} {o : Nat} {fs : List Value} {P : zM → Prop} {R0 R1 R2 R3 T2 T3 : Nat} {v : Int32} (hb : M o = some (.inr (10, fs))) (hC : zCon μX8_errorPosition (R1, R2, R3) σ [.ref o] M (zF (some (.int v)) P)) (hR : R1 < R0) (h2 : R2 ≤ T2) (h3 : R3 ≤ T3) : zCon μL_errorPosition (R0, T2, T3) σ [.ref o] M (zF (some (.int v)) P) := by
  refine zCon.ofH (by decide) rfl (Nat.le_of_ble_eq_true rfl) ?_
  change zV _ _ _ _ _ 0 0 0 [(0, .ref o)] []
  refine zv_aload_n (n := 1) dL_errorPosition_0 rfl rfl ?_
  refine zv_callVF (n := 4) (As := []) (rest := []) (kc' := (0 + R2)) (ks' := (0 + R3)) dL_errorPosition_1 rfl (hC) rfl kX8_errorPosition lL_136 hb rfl rfl rfl ⟨hR, by decide⟩ (Nat.le_of_ble_eq_true rfl) rfl rfl (by rw [Nat.zero_add]; exact h2) (by rw [Nat.zero_add]; exact h3) (fun M1 hq => ?_)
  refine zv_iret dL_errorPosition_4 rfl (by rw [Nat.zero_add]; exact h2) (by rw [Nat.zero_add]; exact h3) ?_
  exact ⟨rfl, hq⟩

set_option maxRecDepth 100000 in
set_option maxHeartbeats 4000000 in
theorem w_errorPosition_x0 {σ : zSg} {M : zM} {o : Nat} {fs : List Value} {P : zM → Prop} {R0 R1 R2 R3 T2 T3 : Nat} (hb : M o = some (.inr (10, fs))) (hC : zCon μX8_errorPosition (R1, R2, R3) σ [.ref o] M (zX9 "java/util/NoSuchElementException" P)) (hR : R1 < R0) (h2 : R2 ≤ T2) (h3 : R3 ≤ T3) : zCon μL_errorPosition (R0, T2, T3) σ [.ref o] M (zF (some (.int (-1001))) P) := by
  refine zCon.ofH (by decide) rfl (Nat.le_of_ble_eq_true rfl) ?_
  change zV _ _ _ _ _ 0 0 0 [(0, .ref o)] []
  refine zv_aload_n (n := 1) dL_errorPosition_0 rfl rfl ?_
  refine zv_callVX (n := 4) (As := []) (rest := []) (kc' := 0 + R2) (ks' := 0 + R3) dL_errorPosition_1 rfl hC rfl kX8_errorPosition lL_136 hb rfl rfl rfl ⟨hR, by decide⟩ (Nat.le_of_ble_eq_true rfl) rfl rfl (by rw [Nat.zero_add]; exact h2) (by rw [Nat.zero_add]; exact h3) ?_
  intro M1 hq
  refine zvx_catch (nm := "java/util/NoSuchElementException") [] [] rfl (fun _ h => nomatch h) (by decide) (by decide) eL_59 ca_NoSuchElement_NoSuchElement (by rw [Nat.zero_add]; exact h2) (by rw [Nat.zero_add]; exact h3) (fun q => ?_)
  change zV _ _ _ _ _ _ _ 5 [(0, .ref o)] [.ref q]
  refine zv_astore_n (n := 6) (lv' := [(1, .ref q), (0, .ref o)]) dL_errorPosition_5 rfl (by decide) rfl ?_
  refine zv_sipush (n := 9) dL_errorPosition_6 rfl (v := (-1001)) (by decide) ?_
  refine zv_iret dL_errorPosition_9 rfl (by rw [Nat.zero_add]; exact h2) (by rw [Nat.zero_add]; exact h3) ?_
  exact ⟨rfl, hq⟩

set_option maxRecDepth 100000 in
set_option maxHeartbeats 4000000 in
theorem w_failedCommand_r {σ : zSg} {M : zM} {o : Nat} {fs : List Value} {P : zM → Prop} {R0 R1 R2 R3 T2 T3 : Nat} {v : Int32} (hb : M o = some (.inr (10, fs))) (hC : zCon μX8_failedCommand (R1, R2, R3) σ [.ref o] M (zF (some (.int v)) P)) (hR : R1 < R0) (h2 : R2 ≤ T2) (h3 : R3 ≤ T3) : zCon μL_failedCommand (R0, T2, T3) σ [.ref o] M (zF (some (.int v)) P) := by
  refine zCon.ofH (by decide) rfl (Nat.le_of_ble_eq_true rfl) ?_
  change zV _ _ _ _ _ 0 0 0 [(0, .ref o)] []
  refine zv_aload_n (n := 1) dL_failedCommand_0 rfl rfl ?_
  refine zv_callVF (n := 4) (As := []) (rest := []) (kc' := (0 + R2)) (ks' := (0 + R3)) dL_failedCommand_1 rfl (hC) rfl kX8_failedCommand lL_139 hb rfl rfl rfl ⟨hR, by decide⟩ (Nat.le_of_ble_eq_true rfl) rfl rfl (by rw [Nat.zero_add]; exact h2) (by rw [Nat.zero_add]; exact h3) (fun M1 hq => ?_)
  refine zv_iret dL_failedCommand_4 rfl (by rw [Nat.zero_add]; exact h2) (by rw [Nat.zero_add]; exact h3) ?_
  exact ⟨rfl, hq⟩

set_option maxRecDepth 100000 in
set_option maxHeartbeats 4000000 in
theorem w_failedCommand_x0 {σ : zSg} {M : zM} {o : Nat} {fs : List Value} {P : zM → Prop} {R0 R1 R2 R3 T2 T3 : Nat} (hb : M o = some (.inr (10, fs))) (hC : zCon μX8_failedCommand (R1, R2, R3) σ [.ref o] M (zX9 "java/util/NoSuchElementException" P)) (hR : R1 < R0) (h2 : R2 ≤ T2) (h3 : R3 ≤ T3) : zCon μL_failedCommand (R0, T2, T3) σ [.ref o] M (zF (some (.int (-1001))) P) := by
  refine zCon.ofH (by decide) rfl (Nat.le_of_ble_eq_true rfl) ?_
  change zV _ _ _ _ _ 0 0 0 [(0, .ref o)] []
  refine zv_aload_n (n := 1) dL_failedCommand_0 rfl rfl ?_
  refine zv_callVX (n := 4) (As := []) (rest := []) (kc' := 0 + R2) (ks' := 0 + R3) dL_failedCommand_1 rfl hC rfl kX8_failedCommand lL_139 hb rfl rfl rfl ⟨hR, by decide⟩ (Nat.le_of_ble_eq_true rfl) rfl rfl (by rw [Nat.zero_add]; exact h2) (by rw [Nat.zero_add]; exact h3) ?_
  intro M1 hq
  refine zvx_catch (nm := "java/util/NoSuchElementException") [] [] rfl (fun _ h => nomatch h) (by decide) (by decide) eL_59 ca_NoSuchElement_NoSuchElement (by rw [Nat.zero_add]; exact h2) (by rw [Nat.zero_add]; exact h3) (fun q => ?_)
  change zV _ _ _ _ _ _ _ 5 [(0, .ref o)] [.ref q]
  refine zv_astore_n (n := 6) (lv' := [(1, .ref q), (0, .ref o)]) dL_failedCommand_5 rfl (by decide) rfl ?_
  refine zv_sipush (n := 9) dL_failedCommand_6 rfl (v := (-1001)) (by decide) ?_
  refine zv_iret dL_failedCommand_9 rfl (by rw [Nat.zero_add]; exact h2) (by rw [Nat.zero_add]; exact h3) ?_
  exact ⟨rfl, hq⟩

set_option maxRecDepth 100000 in
set_option maxHeartbeats 4000000 in
theorem w_undo_r {σ : zSg} {M : zM} {o : Nat} {fs : List Value} {P : zM → Prop} {R0 R1 R2 R3 T2 T3 : Nat} {v : Int32} (hb : M o = some (.inr (10, fs))) (hC : zCon μX8_undo (R1, R2, R3) σ [.ref o] M (zF (some (.int v)) P)) (hR : R1 < R0) (h2 : R2 ≤ T2) (h3 : R3 ≤ T3) : zCon μL_undo (R0, T2, T3) σ [.ref o] M (zF (some (.int v)) P) := by
  refine zCon.ofH (by decide) rfl (Nat.le_of_ble_eq_true rfl) ?_
  change zV _ _ _ _ _ 0 0 0 [(0, .ref o)] []
  refine zv_aload_n (n := 1) dL_undo_0 rfl rfl ?_
  refine zv_callVF (n := 4) (As := []) (rest := []) (kc' := (0 + R2)) (ks' := (0 + R3)) dL_undo_1 rfl (hC) rfl kX8_undo lL_142 hb rfl rfl rfl ⟨hR, by decide⟩ (Nat.le_of_ble_eq_true rfl) rfl rfl (by rw [Nat.zero_add]; exact h2) (by rw [Nat.zero_add]; exact h3) (fun M1 hq => ?_)
  refine zv_iret dL_undo_4 rfl (by rw [Nat.zero_add]; exact h2) (by rw [Nat.zero_add]; exact h3) ?_
  exact ⟨rfl, hq⟩

set_option maxRecDepth 100000 in
set_option maxHeartbeats 4000000 in
theorem w_undo_x0 {σ : zSg} {M : zM} {o : Nat} {fs : List Value} {P : zM → Prop} {R0 R1 R2 R3 T2 T3 : Nat} (hb : M o = some (.inr (10, fs))) (hC : zCon μX8_undo (R1, R2, R3) σ [.ref o] M (zX9 "java/util/NoSuchElementException" P)) (hR : R1 < R0) (h2 : R2 ≤ T2) (h3 : R3 ≤ T3) : zCon μL_undo (R0, T2, T3) σ [.ref o] M (zF (some (.int (-1001))) P) := by
  refine zCon.ofH (by decide) rfl (Nat.le_of_ble_eq_true rfl) ?_
  change zV _ _ _ _ _ 0 0 0 [(0, .ref o)] []
  refine zv_aload_n (n := 1) dL_undo_0 rfl rfl ?_
  refine zv_callVX (n := 4) (As := []) (rest := []) (kc' := 0 + R2) (ks' := 0 + R3) dL_undo_1 rfl hC rfl kX8_undo lL_142 hb rfl rfl rfl ⟨hR, by decide⟩ (Nat.le_of_ble_eq_true rfl) rfl rfl (by rw [Nat.zero_add]; exact h2) (by rw [Nat.zero_add]; exact h3) ?_
  intro M1 hq
  refine zvx_catch (nm := "java/util/NoSuchElementException") [] [] rfl (fun _ h => nomatch h) (by decide) (by decide) eL_59 ca_NoSuchElement_NoSuchElement (by rw [Nat.zero_add]; exact h2) (by rw [Nat.zero_add]; exact h3) (fun q => ?_)
  change zV _ _ _ _ _ _ _ 5 [(0, .ref o)] [.ref q]
  refine zv_astore_n (n := 6) (lv' := [(1, .ref q), (0, .ref o)]) dL_undo_5 rfl (by decide) rfl ?_
  refine zv_sipush (n := 9) dL_undo_6 rfl (v := (-1001)) (by decide) ?_
  refine zv_iret dL_undo_9 rfl (by rw [Nat.zero_add]; exact h2) (by rw [Nat.zero_add]; exact h3) ?_
  exact ⟨rfl, hq⟩

set_option maxRecDepth 100000 in
set_option maxHeartbeats 4000000 in
theorem w_restore_r {σ : zSg} {M : zM} {o : Nat} {fs : List Value} {P : zM → Prop} {R0 R1 R2 R3 T2 T3 : Nat} {v : Int32} (hb : M o = some (.inr (10, fs))) (hC : zCon μX8_restore (R1, R2, R3) σ [.ref o] M (zF (some (.int v)) P)) (hR : R1 < R0) (h2 : R2 ≤ T2) (h3 : R3 ≤ T3) : zCon μL_restore (R0, T2, T3) σ [.ref o] M (zF (some (.int v)) P) := by
  refine zCon.ofH (by decide) rfl (Nat.le_of_ble_eq_true rfl) ?_
  change zV _ _ _ _ _ 0 0 0 [(0, .ref o)] []
  refine zv_aload_n (n := 1) dL_restore_0 rfl rfl ?_
  refine zv_callVF (n := 4) (As := []) (rest := []) (kc' := (0 + R2)) (ks' := (0 + R3)) dL_restore_1 rfl (hC) rfl kX8_restore lL_145 hb rfl rfl rfl ⟨hR, by decide⟩ (Nat.le_of_ble_eq_true rfl) rfl rfl (by rw [Nat.zero_add]; exact h2) (by rw [Nat.zero_add]; exact h3) (fun M1 hq => ?_)
  refine zv_iret dL_restore_4 rfl (by rw [Nat.zero_add]; exact h2) (by rw [Nat.zero_add]; exact h3) ?_
  exact ⟨rfl, hq⟩

set_option maxRecDepth 100000 in
set_option maxHeartbeats 4000000 in
theorem w_restore_x0 {σ : zSg} {M : zM} {o : Nat} {fs : List Value} {P : zM → Prop} {R0 R1 R2 R3 T2 T3 : Nat} (hb : M o = some (.inr (10, fs))) (hC : zCon μX8_restore (R1, R2, R3) σ [.ref o] M (zX9 "java/lang/IllegalStateException" P)) (hR : R1 < R0) (h2 : R2 ≤ T2) (h3 : R3 ≤ T3) : zCon μL_restore (R0, T2, T3) σ [.ref o] M (zF (some (.int (-1001))) P) := by
  refine zCon.ofH (by decide) rfl (Nat.le_of_ble_eq_true rfl) ?_
  change zV _ _ _ _ _ 0 0 0 [(0, .ref o)] []
  refine zv_aload_n (n := 1) dL_restore_0 rfl rfl ?_
  refine zv_callVX (n := 4) (As := []) (rest := []) (kc' := 0 + R2) (ks' := 0 + R3) dL_restore_1 rfl hC rfl kX8_restore lL_145 hb rfl rfl rfl ⟨hR, by decide⟩ (Nat.le_of_ble_eq_true rfl) rfl rfl (by rw [Nat.zero_add]; exact h2) (by rw [Nat.zero_add]; exact h3) ?_
  intro M1 hq
  refine zvx_catch (nm := "java/lang/IllegalStateException") [] [] rfl (fun _ h => nomatch h) (by decide) (by decide) eL_17 ca_IllegalState_IllegalState (by rw [Nat.zero_add]; exact h2) (by rw [Nat.zero_add]; exact h3) (fun q => ?_)
  change zV _ _ _ _ _ _ _ 5 [(0, .ref o)] [.ref q]
  refine zv_astore_n (n := 6) (lv' := [(1, .ref q), (0, .ref o)]) dL_restore_5 rfl (by decide) rfl ?_
  refine zv_sipush (n := 9) dL_restore_6 rfl (v := (-1001)) (by decide) ?_
  refine zv_iret dL_restore_9 rfl (by rw [Nat.zero_add]; exact h2) (by rw [Nat.zero_add]; exact h3) ?_
  exact ⟨rfl, hq⟩

/-! Small helpers: bounds, rows of ints. Laid by wip/p53/m10.py. -/
def fB (b : Bool) : Int32 := if b then 1 else 0
def fBt (v lo hi : Int32) : Bool := decide (lo ≤ v) && decide (v ≤ hi)
theorem fB_t {b : Bool} (h : b = true) : fB b = 1 := by rw [h]; rfl
theorem fB_f {b : Bool} (h : b = false) : fB b = 0 := by rw [h]; rfl
theorem fB_ne {b : Bool} (h : ¬ fB b = 0) : b = true := by cases b with
  | true => rfl
  | false => exact absurd rfl h
theorem fB_eq {b : Bool} (h : fB b = 0) : b = false := by cases b with
  | true => exact absurd h (by decide)
  | false => rfl
theorem fB_nar (b : Bool) : narrow .boolean (.int (fB b)) = .int (fB b) := by cases b <;> rfl
def fAt (n : Nat) (f : Nat → Int32) (i : Int32) : Int32 := if i < 0 then 0 else if nI n ≤ i then 0 else f i.toNatClampNeg
theorem vp_of {i : Int32} {n : Nat} (h1 : ¬ i < 0) (h2 : ¬ nI n ≤ i) (hn : n < 2 ^ 31) : vp_in i n := by
  obtain ⟨j, hj, rfl⟩ := nI_of h1
  rw [nI_leI hn hj] at h2
  exact vp_in_nI (by omega) hn
theorem fAt_cong {n : Nat} {f g : Nat → Int32} (hn : n < 2 ^ 31) (h : ∀ j, j < n → f j = g j) (i : Int32) : fAt n f i = fAt n g i := by
  unfold fAt
  by_cases h1 : i < 0
  · rw [if_pos h1, if_pos h1]
  · by_cases h2 : nI n ≤ i
    · rw [if_neg h1, if_pos h2, if_neg h1, if_pos h2]
    · rw [if_neg h1, if_neg h2, if_neg h1, if_neg h2]
      obtain ⟨j, hj, rfl⟩ := nI_of h1
      rw [nI_leI hn hj] at h2
      rw [nI_clamp hj]
      exact h j (by omega)

set_option maxRecDepth 100000 in
set_option maxHeartbeats 4000000 in
theorem c_X8_isBetween {σ : zSg} {M : zM} (v lo hi : Int32) : zCon μX8_isBetween (1, 0, 0) σ [.int v, .int lo, .int hi] M (zP (some (.int (fB (fBt v lo hi)))) M) := by
  refine zCon.of (plainFor_of_name (by decide)) rfl (Nat.le_of_ble_eq_true rfl) ?_
  change zV _ _ _ _ _ 0 0 0 [(0, .int v), (1, .int lo), (2, .int hi)] []
  refine zv_iload_n (n := 1) dX8_isBetween_0 rfl rfl ?_
  refine zv_iload_n (n := 2) dX8_isBetween_1 rfl rfl ?_
  refine zv_icmp_lt (n := 5) (tgt := 14) dX8_isBetween_2 (by decide) rfl (fun h2 => ?_) (fun h2 => ?_)
  · skip
    refine zv_iconst (n := 15) dX8_isBetween_14 rfl (v := 0) (by decide) ?_
    refine zv_zret dX8_isBetween_15 rfl rfl (by decide) (by decide) ?_
    refine ⟨?_, rfl⟩
    rw [fB_f (by
      unfold fBt
      first
        | (rw [decide_eq_false (Int32.not_le.mpr h2)]; rfl)
        | (rw [decide_eq_false (Int32.not_le.mpr h7), Bool.and_false]))]
  · skip
    refine zv_iload_n (n := 6) dX8_isBetween_5 rfl rfl ?_
    refine zv_iload_n (n := 7) dX8_isBetween_6 rfl rfl ?_
    refine zv_icmp_gt (n := 10) (tgt := 14) dX8_isBetween_7 (by decide) rfl (fun h7 => ?_) (fun h7 => ?_)
    · skip
      refine zv_iconst (n := 15) dX8_isBetween_14 rfl (v := 0) (by decide) ?_
      refine zv_zret dX8_isBetween_15 rfl rfl (by decide) (by decide) ?_
      refine ⟨?_, rfl⟩
      rw [fB_f (by
        unfold fBt
        first
          | (rw [decide_eq_false (Int32.not_le.mpr h2)]; rfl)
          | (rw [decide_eq_false (Int32.not_le.mpr h7), Bool.and_false]))]
    · skip
      refine zv_iconst (n := 11) dX8_isBetween_10 rfl (v := 1) (by decide) ?_
      refine zv_goto (tgt := 15) dX8_isBetween_11 (by decide) ?_
      refine zv_zret dX8_isBetween_15 rfl rfl (by decide) (by decide) ?_
      rw [fB_t (by unfold fBt; rw [decide_eq_true (Int32.not_lt.mp h2), decide_eq_true (Int32.not_lt.mp h7)]; rfl)]
      exact zPi

set_option maxRecDepth 100000 in
set_option maxHeartbeats 4000000 in
theorem c_X8_isAisle {σ : zSg} {M : zM} (v : Int32) : zCon μX8_isAisle (2, 0, 0) σ [.int v] M (zP (some (.int (fB (fBt v 0 3)))) M) := by
  refine zCon.of (plainFor_of_name (by decide)) rfl (Nat.le_of_ble_eq_true rfl) ?_
  change zV _ _ _ _ _ 0 0 0 [(0, .int v)] []
  refine zv_iload_n (n := 1) dX8_isAisle_0 rfl rfl ?_
  refine zv_iconst (n := 2) dX8_isAisle_1 rfl (v := 0) (by decide) ?_
  refine zv_iconst (n := 3) dX8_isAisle_2 rfl (v := 3) (by decide) ?_
  refine zv_callSP (n := 6) (As := [.int v, .int 0, .int 3]) (rest := []) (kc' := 0) (ks' := 0) dX8_isAisle_3 rfl (c_X8_isBetween v 0 3) rfl kX8_isBetween lX8_342 rfl rfl ⟨by decide, by decide⟩ (Nat.le_of_ble_eq_true rfl) rfl rfl (by decide) (by decide) ?_
  refine zv_zret dX8_isAisle_6 rfl (fB_nar _) (by decide) (by decide) ?_
  exact zPi

set_option maxRecDepth 100000 in
set_option maxHeartbeats 4000000 in
theorem c_X8_isPlace {σ : zSg} {M : zM} (v : Int32) : zCon μX8_isPlace (2, 0, 0) σ [.int v] M (zP (some (.int (fB (fBt v 0 5)))) M) := by
  refine zCon.of (plainFor_of_name (by decide)) rfl (Nat.le_of_ble_eq_true rfl) ?_
  change zV _ _ _ _ _ 0 0 0 [(0, .int v)] []
  refine zv_iload_n (n := 1) dX8_isPlace_0 rfl rfl ?_
  refine zv_iconst (n := 2) dX8_isPlace_1 rfl (v := 0) (by decide) ?_
  refine zv_iconst (n := 3) dX8_isPlace_2 rfl (v := 5) (by decide) ?_
  refine zv_callSP (n := 6) (As := [.int v, .int 0, .int 5]) (rest := []) (kc' := 0) (ks' := 0) dX8_isPlace_3 rfl (c_X8_isBetween v 0 5) rfl kX8_isBetween lX8_342 rfl rfl ⟨by decide, by decide⟩ (Nat.le_of_ble_eq_true rfl) rfl rfl (by decide) (by decide) ?_
  refine zv_zret dX8_isPlace_6 rfl (fB_nar _) (by decide) (by decide) ?_
  exact zPi

set_option maxRecDepth 100000 in
set_option maxHeartbeats 4000000 in
theorem c_X8_isLoad {σ : zSg} {M : zM} (v : Int32) : zCon μX8_isLoad (2, 0, 0) σ [.int v] M (zP (some (.int (fB (fBt v 0 20)))) M) := by
  refine zCon.of (plainFor_of_name (by decide)) rfl (Nat.le_of_ble_eq_true rfl) ?_
  change zV _ _ _ _ _ 0 0 0 [(0, .int v)] []
  refine zv_iload_n (n := 1) dX8_isLoad_0 rfl rfl ?_
  refine zv_iconst (n := 2) dX8_isLoad_1 rfl (v := 0) (by decide) ?_
  refine zv_bipush (n := 4) dX8_isLoad_2 rfl (v := 20) (by decide) ?_
  refine zv_callSP (n := 7) (As := [.int v, .int 0, .int 20]) (rest := []) (kc' := 0) (ks' := 0) dX8_isLoad_4 rfl (c_X8_isBetween v 0 20) rfl kX8_isBetween lX8_342 rfl rfl ⟨by decide, by decide⟩ (Nat.le_of_ble_eq_true rfl) rfl rfl (by decide) (by decide) ?_
  refine zv_zret dX8_isLoad_7 rfl (fB_nar _) (by decide) (by decide) ?_
  exact zPi

set_option maxRecDepth 100000 in
set_option maxHeartbeats 4000000 in
theorem c_X8_isSpeed {σ : zSg} {M : zM} (v : Int32) : zCon μX8_isSpeed (2, 0, 0) σ [.int v] M (zP (some (.int (fB (fBt v 0 10)))) M) := by
  refine zCon.of (plainFor_of_name (by decide)) rfl (Nat.le_of_ble_eq_true rfl) ?_
  change zV _ _ _ _ _ 0 0 0 [(0, .int v)] []
  refine zv_iload_n (n := 1) dX8_isSpeed_0 rfl rfl ?_
  refine zv_iconst (n := 2) dX8_isSpeed_1 rfl (v := 0) (by decide) ?_
  refine zv_bipush (n := 4) dX8_isSpeed_2 rfl (v := 10) (by decide) ?_
  refine zv_callSP (n := 7) (As := [.int v, .int 0, .int 10]) (rest := []) (kc' := 0) (ks' := 0) dX8_isSpeed_4 rfl (c_X8_isBetween v 0 10) rfl kX8_isBetween lX8_342 rfl rfl ⟨by decide, by decide⟩ (Nat.le_of_ble_eq_true rfl) rfl rfl (by decide) (by decide) ?_
  refine zv_zret dX8_isSpeed_7 rfl (fB_nar _) (by decide) (by decide) ?_
  exact zPi

set_option maxRecDepth 100000 in
set_option maxHeartbeats 4000000 in
theorem c_X8_isCurvePoint {σ : zSg} {M : zM} (v : Int32) : zCon μX8_isCurvePoint (2, 0, 0) σ [.int v] M (zP (some (.int (fB (fBt v 0 2)))) M) := by
  refine zCon.of (plainFor_of_name (by decide)) rfl (Nat.le_of_ble_eq_true rfl) ?_
  change zV _ _ _ _ _ 0 0 0 [(0, .int v)] []
  refine zv_iload_n (n := 1) dX8_isCurvePoint_0 rfl rfl ?_
  refine zv_iconst (n := 2) dX8_isCurvePoint_1 rfl (v := 0) (by decide) ?_
  refine zv_iconst (n := 3) dX8_isCurvePoint_2 rfl (v := 2) (by decide) ?_
  refine zv_callSP (n := 6) (As := [.int v, .int 0, .int 2]) (rest := []) (kc' := 0) (ks' := 0) dX8_isCurvePoint_3 rfl (c_X8_isBetween v 0 2) rfl kX8_isBetween lX8_342 rfl rfl ⟨by decide, by decide⟩ (Nat.le_of_ble_eq_true rfl) rfl rfl (by decide) (by decide) ?_
  refine zv_zret dX8_isCurvePoint_6 rfl (fB_nar _) (by decide) (by decide) ?_
  exact zPi

set_option maxRecDepth 100000 in
set_option maxHeartbeats 4000000 in
theorem c_X8_at {σ : zSg} {M : zM} {a n : Nat} {f : Nat → Int32} (ha : M a = some (zAI n f)) (hn : n < 2 ^ 31) (i : Int32) : zCon μX8_at (1, 0, 0) σ [.ref a, .int i] M (zP (some (.int (fAt n f i))) M) := by
  refine zCon.of (plainFor_of_name (by decide)) rfl (Nat.le_of_ble_eq_true rfl) ?_
  change zV _ _ _ _ _ 0 0 0 [(0, .ref a), (1, .int i)] []
  refine zv_iload_n (n := 1) dX8_at_0 rfl rfl ?_
  refine zv_if_lt (n := 4) (tgt := 16) dX8_at_1 (by decide) rfl (fun h1 => ?_) (fun h1 => ?_)
  · skip
    refine zv_iconst (n := 17) dX8_at_16 rfl (v := 0) (by decide) ?_
    refine zv_iret dX8_at_17 rfl (by decide) (by decide) ?_
    refine ⟨?_, rfl⟩
    unfold fAt
    first
      | rw [if_pos h1]
      | rw [if_neg h1, if_pos h7]
  · skip
    refine zv_iload_n (n := 5) dX8_at_4 rfl rfl ?_
    refine zv_aload_n (n := 6) dX8_at_5 rfl rfl ?_
    refine zv_alen (n := 7) dX8_at_6 rfl ha (by decide) (v := (nI n)) rfl ?_
    refine zv_icmp_ge (n := 10) (tgt := 16) dX8_at_7 (by decide) rfl (fun h7 => ?_) (fun h7 => ?_)
    · skip
      refine zv_iconst (n := 17) dX8_at_16 rfl (v := 0) (by decide) ?_
      refine zv_iret dX8_at_17 rfl (by decide) (by decide) ?_
      refine ⟨?_, rfl⟩
      unfold fAt
      first
        | rw [if_pos h1]
        | rw [if_neg h1, if_pos h7]
    · skip
      refine zv_aload_n (n := 11) dX8_at_10 rfl rfl ?_
      refine zv_iload_n (n := 12) dX8_at_11 rfl rfl ?_
      refine zv_iald' (n := 13) dX8_at_12 rfl ha (vp_of h1 h7 hn) rfl ?_
      refine zv_goto (tgt := 17) dX8_at_13 (by decide) ?_
      refine zv_iret dX8_at_17 rfl (by decide) (by decide) ?_
      refine ⟨?_, rfl⟩
      unfold fAt
      rw [if_neg h1, if_neg h7]

set_option maxRecDepth 100000 in
set_option maxHeartbeats 4000000 in
theorem c_X8_put {σ : zSg} {M : zM} {a n : Nat} {f : Nat → Int32} (ha : M a = some (zAI n f)) (hn : n < 2 ^ 31) (i x : Int32) : zCon μX8_put (1, 0, 0) σ [.ref a, .int i, .int x] M (zF none (fun M' => M' = if i < 0 then M else if nI n ≤ i then M else zup M a (zAI n (upd f i.toNatClampNeg x)))) := by
  refine zCon.of (plainFor_of_name (by decide)) rfl (Nat.le_of_ble_eq_true rfl) ?_
  change zV _ _ _ _ _ 0 0 0 [(0, .ref a), (1, .int i), (2, .int x)] []
  refine zv_iload_n (n := 1) dX8_put_0 rfl rfl ?_
  refine zv_if_lt (n := 4) (tgt := 14) dX8_put_1 (by decide) rfl (fun h1 => ?_) (fun h1 => ?_)
  · skip
    refine zv_vret dX8_put_14 rfl (by decide) (by decide) ?_
    refine zFi ?_
    first
      | (rw [if_pos h1]; done)
      | (rw [if_neg h1, if_pos h7]; done)
      | (rw [if_neg h1, if_neg h7]; done)
  · skip
    refine zv_iload_n (n := 5) dX8_put_4 rfl rfl ?_
    refine zv_aload_n (n := 6) dX8_put_5 rfl rfl ?_
    refine zv_alen (n := 7) dX8_put_6 rfl ha (by decide) (v := (nI n)) rfl ?_
    refine zv_icmp_ge (n := 10) (tgt := 14) dX8_put_7 (by decide) rfl (fun h7 => ?_) (fun h7 => ?_)
    · skip
      refine zv_vret dX8_put_14 rfl (by decide) (by decide) ?_
      refine zFi ?_
      first
        | (rw [if_pos h1]; done)
        | (rw [if_neg h1, if_pos h7]; done)
        | (rw [if_neg h1, if_neg h7]; done)
    · skip
      refine zv_aload_n (n := 11) dX8_put_10 rfl rfl ?_
      refine zv_iload_n (n := 12) dX8_put_11 rfl rfl ?_
      refine zv_iload_n (n := 13) dX8_put_12 rfl rfl ?_
      refine zv_iast (n := 14) dX8_put_13 rfl ha (vp_of h1 h7 hn) ?_
      refine zv_vret dX8_put_14 rfl (by decide) (by decide) ?_
      refine zFi ?_
      first
        | (rw [if_pos h1]; done)
        | (rw [if_neg h1, if_pos h7]; done)
        | (rw [if_neg h1, if_neg h7]; done)

/-! Racks: laid by wip/p53/m11.py, with the functions that say what they answer. -/
def fMin (a b : Int32) : Int32 := if b < a then b else a
def fMax (a b : Int32) : Int32 := if a < b then b else a
def fFM (x y : Int32) : Int32 := if 0 ≤ x ^^^ y then x - x / y * y else if x - x / y * y = 0 then x - x / y * y else x - x / y * y + y
def fCnt (S : zS) : Nat := (S 0).toNatClampNeg
def zNn (S : zS) : Prop := S 0 = nI (fCnt S) ∧ fCnt S ≤ 12
theorem zNn.le {S : zS} (h : zNn S) {i : Nat} (hi : i < 2 ^ 31) : S 0 ≤ nI i ↔ fCnt S ≤ i := by
  have := h.2
  rw [h.1, nI_leI (by omega) hi]
theorem nI12 {i : Nat} (hi : i < 2 ^ 31) : nI 12 ≤ nI i ↔ 12 ≤ i := nI_leI (by decide) hi
def fFindF (S : zS) (a p : Int32) : Nat → Nat → Int32
  | 0, _ => -1
  | k + 1, i => if S (1 + 3 * i) = a then (if S (2 + 3 * i) = p then nI i else fFindF S a p k (i + 1)) else fFindF S a p k (i + 1)
def fFind (S : zS) (a p : Int32) : Int32 := fFindF S a p (fCnt S) 0
def fHeatF (S : zS) (a : Int32) : Nat → Int32
  | 0 => 0
  | i + 1 => fHeatF S a i + (if S (1 + 3 * i) = a then S (3 + 3 * i) else 0)
def fHeat (S : zS) (a : Int32) : Int32 := fHeatF S a (fCnt S)
def fSumF (S : zS) : Nat → Int32
  | 0 => 0
  | i + 1 => fSumF S i + S (3 + 3 * i)
def fSum (S : zS) : Int32 := fSumF S (fCnt S)
def fCpR (S : zS) (i j : Nat) : zS := upd (upd (upd S (1 + 3 * i) (S (1 + 3 * j))) (2 + 3 * i) (S (2 + 3 * j))) (3 + 3 * i) (S (3 + 3 * j))
def fDelF (S : zS) : Nat → Nat → zS
  | 0, _ => S
  | k + 1, i => fDelF (fCpR S i (i + 1)) k (i + 1)
def fDel (S : zS) (j : Nat) : zS := upd (fDelF S (fCnt S - 1 - j) j) 0 (S 0 - 1)
def fApp (S : zS) (a p l : Int32) : zS := upd (upd (upd (upd S (1 + 3 * fCnt S) a) (2 + 3 * fCnt S) p) (3 + 3 * fCnt S) l) 0 (S 0 + 1)
theorem zup_zup {M : zM} {a : Nat} {e e' : zE} : zup (zup M a e) a e' = zup M a e' := by
  funext x
  by_cases h : x = a
  · subst h; rw [zup_s, zup_s]
  · rw [zup_n h, zup_n h, zup_n h]
theorem zCen.putR3 {M : zM} {c : Nat → Nat} {S : zS} (h : zCen M c S) {i : Nat} (hi : i < 12) (a p l : Int32) : zCen (zup M (c (8 + i)) (.inr (6, [.int a, .int p, .int l]))) c (upd (upd (upd S (1 + 3 * i) a) (2 + 3 * i) p) (3 + 3 * i) l) := by
  have h1 := h.putR hi (j := 0) (by decide) a
  rw [show 1 + 3 * i + 0 = 1 + 3 * i from rfl] at h1
  have h2 := h1.putR hi (j := 1) (by decide) p
  rw [show 1 + 3 * i + 1 = 2 + 3 * i by omega] at h2
  have h3 := h2.putR hi (j := 2) (by decide) l
  rw [show 1 + 3 * i + 2 = 3 + 3 * i by omega] at h3
  rw [zup_zup, zup_zup] at h3
  have e : (.inr (6, ([.int (upd (upd S (1 + 3 * i) a) (2 + 3 * i) p (1 + 3 * i)), .int (upd (upd S (1 + 3 * i) a) (2 + 3 * i) p (2 + 3 * i)), .int (upd (upd S (1 + 3 * i) a) (2 + 3 * i) p (3 + 3 * i))] : List Value).set 2 (.int l)) : zE) = .inr (6, [.int a, .int p, .int l]) := by
    rw [u_n (show 1 + 3 * i ≠ 2 + 3 * i by omega), u_s, u_s]
    rfl
  rw [e] at h3
  exact h3
theorem zCen.set6 {M : zM} {c : Nat → Nat} {S : zS} (h : zCen M c S) {f : Nat → Int32} {T : zS} (hf : ∀ j, j < 4 → f j = T (37 + j)) : zCen (zup M (c 6) (zAI 4 f)) c (fun k => if 37 ≤ k ∧ k < 41 then T k else S k) := by
  have hn : ∀ j, j ≠ 6 → j < 20 → c j ≠ c 6 := fun j h1 h2 => h.ne h2 (by decide) h1
  obtain ⟨h0, h1, h2, h3, ⟨f4, h4, g4⟩, ⟨f5, h5⟩, ⟨f6, h6, g6⟩, ⟨f7, h7, g7⟩, ⟨f8, h8, g8⟩, h9⟩ := h
  refine ⟨h0, by rw [zup_n (hn 0 (by decide) (by decide))]; exact h1, by rw [zup_n (hn 1 (by decide) (by decide))]; exact h2, by rw [zup_n (hn 2 (by decide) (by decide))]; exact h3, ⟨f4, by rw [zup_n (hn 3 (by decide) (by decide))]; exact h4, fun j hj => by dsimp only; rw [if_neg (by omega)]; exact g4 j hj⟩, ⟨f5, by rw [zup_n (hn 4 (by decide) (by decide))]; exact h5⟩, ⟨f6, by rw [zup_n (hn 5 (by decide) (by decide))]; exact h6, g6⟩, ⟨f, zup_s, fun j hj => by dsimp only; rw [if_pos (by omega)]; exact hf j hj⟩, ⟨f8, by rw [zup_n (hn 7 (by decide) (by decide))]; exact h8, fun j hj => by dsimp only; rw [if_neg (by omega)]; exact g8 j hj⟩, fun i hi => ?_⟩
  dsimp only
  rw [zup_n (hn (8 + i) (by omega) (by omega)), if_neg (by omega), if_neg (by omega), if_neg (by omega)]
  exact h9 i hi
theorem zCen.set7 {M : zM} {c : Nat → Nat} {S : zS} (h : zCen M c S) {f : Nat → Int32} {T : zS} (hf : ∀ j, j < 3 → f j = T (41 + j)) : zCen (zup M (c 7) (zAI 3 f)) c (fun k => if 41 ≤ k ∧ k < 44 then T k else S k) := by
  have hn : ∀ j, j ≠ 7 → j < 20 → c j ≠ c 7 := fun j h1 h2 => h.ne h2 (by decide) h1
  obtain ⟨h0, h1, h2, h3, ⟨f4, h4, g4⟩, ⟨f5, h5⟩, ⟨f6, h6, g6⟩, ⟨f7, h7, g7⟩, ⟨f8, h8, g8⟩, h9⟩ := h
  refine ⟨h0, by rw [zup_n (hn 0 (by decide) (by decide))]; exact h1, by rw [zup_n (hn 1 (by decide) (by decide))]; exact h2, by rw [zup_n (hn 2 (by decide) (by decide))]; exact h3, ⟨f4, by rw [zup_n (hn 3 (by decide) (by decide))]; exact h4, fun j hj => by dsimp only; rw [if_neg (by omega)]; exact g4 j hj⟩, ⟨f5, by rw [zup_n (hn 4 (by decide) (by decide))]; exact h5⟩, ⟨f6, by rw [zup_n (hn 5 (by decide) (by decide))]; exact h6, g6⟩, ⟨f7, by rw [zup_n (hn 6 (by decide) (by decide))]; exact h7, fun j hj => by dsimp only; rw [if_neg (by omega)]; exact g7 j hj⟩, ⟨f, zup_s, fun j hj => by dsimp only; rw [if_pos (by omega)]; exact hf j hj⟩, fun i hi => ?_⟩
  dsimp only
  rw [zup_n (hn (8 + i) (by omega) (by omega)), if_neg (by omega), if_neg (by omega), if_neg (by omega)]
  exact h9 i hi
theorem zCen.set3 {M : zM} {c : Nat → Nat} {S : zS} (h : zCen M c S) {f : Nat → Int32} {T : zS} (hf : ∀ j, j < 4 → f j = T (44 + j)) : zCen (zup M (c 3) (zAI 4 f)) c (fun k => if 44 ≤ k ∧ k < 48 then T k else S k) := by
  have hn : ∀ j, j ≠ 3 → j < 20 → c j ≠ c 3 := fun j h1 h2 => h.ne h2 (by decide) h1
  obtain ⟨h0, h1, h2, h3, ⟨f4, h4, g4⟩, ⟨f5, h5⟩, ⟨f6, h6, g6⟩, ⟨f7, h7, g7⟩, ⟨f8, h8, g8⟩, h9⟩ := h
  refine ⟨h0, by rw [zup_n (hn 0 (by decide) (by decide))]; exact h1, by rw [zup_n (hn 1 (by decide) (by decide))]; exact h2, by rw [zup_n (hn 2 (by decide) (by decide))]; exact h3, ⟨f, zup_s, fun j hj => by dsimp only; rw [if_pos (by omega)]; exact hf j hj⟩, ⟨f5, by rw [zup_n (hn 4 (by decide) (by decide))]; exact h5⟩, ⟨f6, by rw [zup_n (hn 5 (by decide) (by decide))]; exact h6, g6⟩, ⟨f7, by rw [zup_n (hn 6 (by decide) (by decide))]; exact h7, fun j hj => by dsimp only; rw [if_neg (by omega)]; exact g7 j hj⟩, ⟨f8, by rw [zup_n (hn 7 (by decide) (by decide))]; exact h8, fun j hj => by dsimp only; rw [if_neg (by omega)]; exact g8 j hj⟩, fun i hi => ?_⟩
  dsimp only
  rw [zup_n (hn (8 + i) (by omega) (by omega)), if_neg (by omega), if_neg (by omega), if_neg (by omega)]
  exact h9 i hi

theorem zpl_of {x : MethodName} (h : (NativeRow.find? Jvm.natives x.cls x.name x.desc).isNone = true) : plainFor x = true := by
  unfold plainFor
  rw [h, Bool.or_true]
theorem zpl_J9_min_7cf53 : plainFor yJ9_min_7cf53 = true := zpl_of (by decide +kernel)
theorem zpl_J9_max_7cf53 : plainFor yJ9_max_7cf53 = true := zpl_of (by decide +kernel)
theorem zpl_J9_floorMod_7cf53 : plainFor yJ9_floorMod_7cf53 = true := zpl_of (by decide +kernel)

set_option maxRecDepth 100000 in
set_option maxHeartbeats 4000000 in
theorem c_min {σ : zSg} {M : zM} (a b : Int32) : zCon μJ9_min_7cf53 (1, 0, 0) σ [.int a, .int b] M (zP (some (.int (fMin a b))) M) := by
  refine zCon.of zpl_J9_min_7cf53 rfl (Nat.le_of_ble_eq_true rfl) ?_
  change zV _ _ _ _ _ 0 0 0 [(0, .int a), (1, .int b)] []
  refine zv_iload_n (n := 1) dJ9_min_7cf53_0 rfl rfl ?_
  refine zv_iload_n (n := 2) dJ9_min_7cf53_1 rfl rfl ?_
  refine zv_icmp_gt (n := 5) (tgt := 9) dJ9_min_7cf53_2 (by decide) rfl (fun h2 => ?_) (fun h2 => ?_)
  · skip
    refine zv_iload_n (n := 10) dJ9_min_7cf53_9 rfl rfl ?_
    refine zv_iret dJ9_min_7cf53_10 rfl (by decide) (by decide) ?_
    refine ⟨?_, rfl⟩
    unfold fMin
    first
      | (rw [if_pos h2]; done)
      | (rw [if_neg h2]; done)
  · skip
    refine zv_iload_n (n := 6) dJ9_min_7cf53_5 rfl rfl ?_
    refine zv_goto (tgt := 10) dJ9_min_7cf53_6 (by decide) ?_
    refine zv_iret dJ9_min_7cf53_10 rfl (by decide) (by decide) ?_
    refine ⟨?_, rfl⟩
    unfold fMin
    first
      | (rw [if_pos h2]; done)
      | (rw [if_neg h2]; done)

set_option maxRecDepth 100000 in
set_option maxHeartbeats 4000000 in
theorem c_max {σ : zSg} {M : zM} (a b : Int32) : zCon μJ9_max_7cf53 (1, 0, 0) σ [.int a, .int b] M (zP (some (.int (fMax a b))) M) := by
  refine zCon.of zpl_J9_max_7cf53 rfl (Nat.le_of_ble_eq_true rfl) ?_
  change zV _ _ _ _ _ 0 0 0 [(0, .int a), (1, .int b)] []
  refine zv_iload_n (n := 1) dJ9_max_7cf53_0 rfl rfl ?_
  refine zv_iload_n (n := 2) dJ9_max_7cf53_1 rfl rfl ?_
  refine zv_icmp_lt (n := 5) (tgt := 9) dJ9_max_7cf53_2 (by decide) rfl (fun h2 => ?_) (fun h2 => ?_)
  · skip
    refine zv_iload_n (n := 10) dJ9_max_7cf53_9 rfl rfl ?_
    refine zv_iret dJ9_max_7cf53_10 rfl (by decide) (by decide) ?_
    refine ⟨?_, rfl⟩
    unfold fMax
    first
      | (rw [if_pos h2]; done)
      | (rw [if_neg h2]; done)
  · skip
    refine zv_iload_n (n := 6) dJ9_max_7cf53_5 rfl rfl ?_
    refine zv_goto (tgt := 10) dJ9_max_7cf53_6 (by decide) ?_
    refine zv_iret dJ9_max_7cf53_10 rfl (by decide) (by decide) ?_
    refine ⟨?_, rfl⟩
    unfold fMax
    first
      | (rw [if_pos h2]; done)
      | (rw [if_neg h2]; done)

set_option maxRecDepth 100000 in
set_option maxHeartbeats 4000000 in
theorem c_floorMod {σ : zSg} {M : zM} (a b : Int32) (hb : ¬ b = 0) : zCon μJ9_floorMod_7cf53 (1, 0, 0) σ [.int a, .int b] M (zP (some (.int (fFM a b))) M) := by
  refine zCon.of zpl_J9_floorMod_7cf53 rfl (Nat.le_of_ble_eq_true rfl) ?_
  change zV _ _ _ _ _ 0 0 0 [(0, .int a), (1, .int b)] []
  refine zv_iload_n (n := 1) dJ9_floorMod_7cf53_0 rfl rfl ?_
  refine zv_iload_n (n := 2) dJ9_floorMod_7cf53_1 rfl rfl ?_
  refine zv_irem (n := 3) dJ9_floorMod_7cf53_2 rfl hb ?_
  refine zv_istore_n (n := 4) (lv' := [(2, .int (a - a / b * b)), (0, .int a), (1, .int b)]) dJ9_floorMod_7cf53_3 rfl (by decide) rfl ?_
  refine zv_iload_n (n := 5) dJ9_floorMod_7cf53_4 rfl rfl ?_
  refine zv_iload_n (n := 6) dJ9_floorMod_7cf53_5 rfl rfl ?_
  refine zv_ixor (n := 7) dJ9_floorMod_7cf53_6 rfl ?_
  refine zv_if_ge (n := 10) (tgt := 18) dJ9_floorMod_7cf53_7 (by decide) rfl (fun h7 => ?_) (fun h7 => ?_)
  · skip
    refine zv_iload_n (n := 19) dJ9_floorMod_7cf53_18 rfl rfl ?_
    refine zv_iret dJ9_floorMod_7cf53_19 rfl (by decide) (by decide) ?_
    refine ⟨?_, rfl⟩
    unfold fFM
    first
      | (rw [if_pos h7]; done)
      | (rw [if_neg h7, if_pos h11]; done)
      | (rw [if_neg h7, if_neg h11]; done)
  · skip
    refine zv_iload_n (n := 11) dJ9_floorMod_7cf53_10 rfl rfl ?_
    refine zv_if_eq (n := 14) (tgt := 18) dJ9_floorMod_7cf53_11 (by decide) rfl (fun h11 => ?_) (fun h11 => ?_)
    · skip
      refine zv_iload_n (n := 19) dJ9_floorMod_7cf53_18 rfl rfl ?_
      refine zv_iret dJ9_floorMod_7cf53_19 rfl (by decide) (by decide) ?_
      refine ⟨?_, rfl⟩
      unfold fFM
      first
        | (rw [if_pos h7]; done)
        | (rw [if_neg h7, if_pos h11]; done)
        | (rw [if_neg h7, if_neg h11]; done)
    · skip
      refine zv_iload_n (n := 15) dJ9_floorMod_7cf53_14 rfl rfl ?_
      refine zv_iload_n (n := 16) dJ9_floorMod_7cf53_15 rfl rfl ?_
      refine zv_iadd (n := 17) dJ9_floorMod_7cf53_16 rfl ?_
      refine zv_iret dJ9_floorMod_7cf53_17 rfl (by decide) (by decide) ?_
      refine ⟨?_, rfl⟩
      unfold fFM
      first
        | (rw [if_pos h7]; done)
        | (rw [if_neg h7, if_pos h11]; done)
        | (rw [if_neg h7, if_neg h11]; done)

set_option maxRecDepth 100000 in
set_option maxHeartbeats 4000000 in
theorem c_X4_copyFrom {σ : zSg} {M : zM} {h o : Nat} {x y z : Value} {a p l : Int32} (hh : M h = some (.inr (6, [x, y, z]))) (ho : M o = some (.inr (6, [.int a, .int p, .int l]))) (hn : o ≠ h) : zCon μX4_copyFrom (1, 0, 0) σ [.ref h, .ref o] M (zF none (fun M' => M' = zup M h (.inr (6, [.int a, .int p, .int l])))) := by
  refine zCon.of (plainFor_of_name (by decide)) rfl (Nat.le_of_ble_eq_true rfl) ?_
  change zV _ _ _ _ _ 0 0 0 [(0, .ref h), (1, .ref o)] []
  refine zv_aload_n (n := 1) dX4_copyFrom_0 rfl rfl ?_
  refine zv_aload_n (n := 2) dX4_copyFrom_1 rfl rfl ?_
  refine zv_get (n := 5) dX4_copyFrom_2 rfl ho FX4_7 rfl ?_
  refine zv_put (n := 8) dX4_copyFrom_5 rfl hh FX4_7 zcl_X4 zty_X4_0 rfl rfl (Nat.le_of_ble_eq_true rfl) ?_
  refine zv_aload_n (n := 9) dX4_copyFrom_8 rfl rfl ?_
  refine zv_aload_n (n := 10) dX4_copyFrom_9 rfl rfl ?_
  refine zv_get (n := 13) dX4_copyFrom_10 rfl ((zup_n hn).trans ho) FX4_13 rfl ?_
  refine zv_put (n := 16) dX4_copyFrom_13 rfl zup_s FX4_13 zcl_X4 zty_X4_1 rfl rfl (Nat.le_of_ble_eq_true rfl) ?_
  refine zv_aload_n (n := 17) dX4_copyFrom_16 rfl rfl ?_
  refine zv_aload_n (n := 18) dX4_copyFrom_17 rfl rfl ?_
  refine zv_get (n := 21) dX4_copyFrom_18 rfl ((zup_n hn).trans ((zup_n hn).trans ho)) FX4_16 rfl ?_
  refine zv_put (n := 24) dX4_copyFrom_21 rfl zup_s FX4_16 zcl_X4 zty_X4_2 rfl rfl (Nat.le_of_ble_eq_true rfl) ?_
  refine zv_vret dX4_copyFrom_24 rfl (by decide) (by decide) ?_
  refine zFi ?_
  rw [zup_zup, zup_zup]
  rfl

set_option maxRecDepth 100000 in
set_option maxHeartbeats 4000000 in
theorem c_X5_get {σ : zSg} {M : zM} {c : Nat → Nat} {S : zS} (hC : zCen M c S) (hN : zNn S) {i : Nat} (hi : i < fCnt S) : zCon μX5_get (1, 0, 0) σ [.ref (c 1), .int (nI i)] M (zP (some (.ref (c (8 + i)))) M) := by
  obtain ⟨f5, hf5, gf5⟩ := hC.c5
  refine zCon.of (plainFor_of_name (by decide)) rfl (Nat.le_of_ble_eq_true rfl) ?_
  change zV _ _ _ _ _ 0 0 0 [(0, .ref (c 1)), (1, .int (nI i))] []
  refine zv_iload_n (n := 1) dX5_get_0 rfl rfl ?_
  refine zv_if_lt (n := 4) (tgt := 30) dX5_get_1 (by decide) rfl (fun h1 => False.elim (absurd h1 (nI_pos (by have := hN.2; omega)))) (fun h1 => ?_)
  refine zv_iload_n (n := 5) dX5_get_4 rfl rfl ?_
  refine zv_aload_n (n := 6) dX5_get_5 rfl rfl ?_
  refine zv_get (n := 9) dX5_get_6 rfl hC.c1 FX5_18 rfl ?_
  refine zv_icmp_ge (n := 12) (tgt := 30) dX5_get_9 (by decide) rfl (fun h9 => False.elim (absurd ((hN.le (by have := hN.2; omega)).mp h9) (by omega))) (fun h9 => ?_)
  refine zv_iload_n (n := 13) dX5_get_12 rfl rfl ?_
  refine zv_aload_n (n := 14) dX5_get_13 rfl rfl ?_
  refine zv_get (n := 17) dX5_get_14 rfl hC.c1 FX5_11 rfl ?_
  refine zv_alen (n := 18) dX5_get_17 rfl hf5 (by decide) (v := (nI 12)) rfl ?_
  refine zv_icmp_ge (n := 21) (tgt := 30) dX5_get_18 (by decide) rfl (fun h18 => False.elim (absurd ((nI12 (by have := hN.2; omega)).mp h18) (by have := hN.2; omega))) (fun h18 => ?_)
  refine zv_aload_n (n := 22) dX5_get_21 rfl rfl ?_
  refine zv_get (n := 25) dX5_get_22 rfl hC.c1 FX5_11 rfl ?_
  refine zv_iload_n (n := 26) dX5_get_25 rfl rfl ?_
  refine zv_aldR' (n := 27) dX5_get_26 rfl hf5 (vp_in_nI (by have := hN.2; omega) (by decide)) (by rw [nI_clamp (by have := hN.2; omega)]; exact gf5 i (by have := hN.2; omega)) ?_
  refine zv_goto (tgt := 31) dX5_get_27 (by decide) ?_
  refine zv_aret dX5_get_31 rfl (Or.inl ⟨_, rfl⟩) (by decide) (by decide) ?_
  exact zPi

set_option maxRecDepth 100000 in
set_option maxHeartbeats 4000000 in
theorem c_X5_getN {σ : zSg} {M : zM} {c : Nat → Nat} {S : zS} (hC : zCen M c S) (hN : zNn S) {x : Int32} (hx : x < 0 ∨ S 0 ≤ x) : zCon μX5_get (1, 0, 0) σ [.ref (c 1), .int x] M (zP (some .null) M) := by
  obtain ⟨f5, hf5, gf5⟩ := hC.c5
  refine zCon.of (plainFor_of_name (by decide)) rfl (Nat.le_of_ble_eq_true rfl) ?_
  change zV _ _ _ _ _ 0 0 0 [(0, .ref (c 1)), (1, .int x)] []
  refine zv_iload_n (n := 1) dX5_get_0 rfl rfl ?_
  refine zv_if_lt (n := 4) (tgt := 30) dX5_get_1 (by decide) rfl (fun h1 => ?_) (fun h1 => ?_)
  · skip
    refine zv_null (n := 31) dX5_get_30 rfl ?_
    refine zv_aretN dX5_get_31 rfl (Or.inl ⟨_, rfl⟩) (by decide) (by decide) ?_
    exact zPi
  · skip
    refine zv_iload_n (n := 5) dX5_get_4 rfl rfl ?_
    refine zv_aload_n (n := 6) dX5_get_5 rfl rfl ?_
    refine zv_get (n := 9) dX5_get_6 rfl hC.c1 FX5_18 rfl ?_
    refine zv_icmp_ge (n := 12) (tgt := 30) dX5_get_9 (by decide) rfl (fun h9 => ?_) (fun h9 => False.elim (hx.elim h1 h9))
    refine zv_null (n := 31) dX5_get_30 rfl ?_
    refine zv_aretN dX5_get_31 rfl (Or.inl ⟨_, rfl⟩) (by decide) (by decide) ?_
    exact zPi

set_option maxRecDepth 100000 in
set_option maxHeartbeats 4000000 in
theorem l_X5_find {σ : zSg} {M : zM} {c : Nat → Nat} {S : zS} (hC : zCen M c S) (hN : zNn S) {Q : zO → zM → Prop} (a p : Int32) : ∀ k i, i + k = fCnt S → Q (.inl (some (.int (fFindF S a p k i)))) M → zV μX5_find (1, 0, 0) σ Q M 0 0 2 [(3, .int (nI i)), (0, .ref (c 1)), (1, .int a), (2, .int p)] [] := by
  obtain ⟨f5, hf5, gf5⟩ := hC.c5
  have h12 := hN.2
  intro k
  induction k with
  | zero =>
    intro i hi hQ
    refine zv_iload_n (n := 3) dX5_find_2 rfl rfl ?_
    refine zv_aload_n (n := 4) dX5_find_3 rfl rfl ?_
    refine zv_get (n := 7) dX5_find_4 rfl hC.c1 FX5_18 rfl ?_
    refine zv_icmp_ge (n := 10) (tgt := 53) dX5_find_7 (by decide) rfl (fun h7 => ?_) (fun h7 => False.elim (absurd ((hN.le (by omega)).mpr (by omega)) h7))
    refine zv_iconst (n := 54) dX5_find_53 rfl (v := (-1)) (by decide) ?_
    refine zv_iret dX5_find_54 rfl (by decide) (by decide) ?_
    exact hQ
  | succ k ih =>
    intro i hi hQ
    rw [fFindF] at hQ
    refine zv_iload_n (n := 3) dX5_find_2 rfl rfl ?_
    refine zv_aload_n (n := 4) dX5_find_3 rfl rfl ?_
    refine zv_get (n := 7) dX5_find_4 rfl hC.c1 FX5_18 rfl ?_
    refine zv_icmp_ge (n := 10) (tgt := 53) dX5_find_7 (by decide) rfl (fun h7 => False.elim (absurd ((hN.le (by omega)).mp h7) (by omega))) (fun h7 => ?_)
    refine zv_iload_n (n := 11) dX5_find_10 rfl rfl ?_
    refine zv_aload_n (n := 12) dX5_find_11 rfl rfl ?_
    refine zv_get (n := 15) dX5_find_12 rfl hC.c1 FX5_11 rfl ?_
    refine zv_alen (n := 16) dX5_find_15 rfl hf5 (by decide) (v := (nI 12)) rfl ?_
    refine zv_icmp_ge (n := 19) (tgt := 53) dX5_find_16 (by decide) rfl (fun h16 => False.elim (absurd ((nI12 (by omega)).mp h16) (by omega))) (fun h16 => ?_)
    refine zv_aload_n (n := 20) dX5_find_19 rfl rfl ?_
    refine zv_get (n := 23) dX5_find_20 rfl hC.c1 FX5_11 rfl ?_
    refine zv_iload_n (n := 24) dX5_find_23 rfl rfl ?_
    refine zv_aldR' (n := 25) dX5_find_24 rfl hf5 (vp_in_nI (by omega) (by decide)) (by rw [nI_clamp (by omega)]; exact gf5 i (by omega)) ?_
    refine zv_getN (n := 28) dX5_find_25 rfl (hC.rk (by omega)) FX5_22 rfl ?_
    refine zv_iload_n (n := 29) dX5_find_28 rfl rfl ?_
    refine zv_icmp_ne (n := 32) (tgt := 47) dX5_find_29 (by decide) rfl (fun h29 => ?_) (fun h29 => ?_)
    · skip
      rw [if_neg h29] at hQ
      refine zv_iinc (n := 50) (v := nI (i + 1)) (lv' := [(3, .int (nI (i + 1))), (0, .ref (c 1)), (1, .int a), (2, .int p)]) dX5_find_47 rfl rfl (nI_1 i) (by decide) rfl ?_
      refine zv_goto (tgt := 2) dX5_find_50 (by decide) ?_
      exact ih (i + 1) (by omega) hQ
    · skip
      rw [if_pos h29] at hQ
      refine zv_aload_n (n := 33) dX5_find_32 rfl rfl ?_
      refine zv_get (n := 36) dX5_find_33 rfl hC.c1 FX5_11 rfl ?_
      refine zv_iload_n (n := 37) dX5_find_36 rfl rfl ?_
      refine zv_aldR' (n := 38) dX5_find_37 rfl hf5 (vp_in_nI (by omega) (by decide)) (by rw [nI_clamp (by omega)]; exact gf5 i (by omega)) ?_
      refine zv_getN (n := 41) dX5_find_38 rfl (hC.rk (by omega)) FX5_25 rfl ?_
      refine zv_iload_n (n := 42) dX5_find_41 rfl rfl ?_
      refine zv_icmp_ne (n := 45) (tgt := 47) dX5_find_42 (by decide) rfl (fun h42 => ?_) (fun h42 => ?_)
      · skip
        rw [if_neg h42] at hQ
        refine zv_iinc (n := 50) (v := nI (i + 1)) (lv' := [(3, .int (nI (i + 1))), (0, .ref (c 1)), (1, .int a), (2, .int p)]) dX5_find_47 rfl rfl (nI_1 i) (by decide) rfl ?_
        refine zv_goto (tgt := 2) dX5_find_50 (by decide) ?_
        exact ih (i + 1) (by omega) hQ
      · skip
        rw [if_pos h42] at hQ
        refine zv_iload_n (n := 46) dX5_find_45 rfl rfl ?_
        refine zv_iret dX5_find_46 rfl (by decide) (by decide) ?_
        exact hQ

set_option maxRecDepth 100000 in
set_option maxHeartbeats 4000000 in
theorem c_X5_find {σ : zSg} {M : zM} {c : Nat → Nat} {S : zS} (hC : zCen M c S) (hN : zNn S) (a p : Int32) : zCon μX5_find (1, 0, 0) σ [.ref (c 1), .int a, .int p] M (zP (some (.int (fFind S a p))) M) := by
  refine zCon.of (plainFor_of_name (by decide)) rfl (Nat.le_of_ble_eq_true rfl) ?_
  change zV _ _ _ _ _ 0 0 0 [(0, .ref (c 1)), (1, .int a), (2, .int p)] []
  refine zv_iconst (n := 1) dX5_find_0 rfl (v := 0) (by decide) ?_
  refine zv_istore_n (n := 2) (lv' := [(3, .int 0), (0, .ref (c 1)), (1, .int a), (2, .int p)]) dX5_find_1 rfl (by decide) rfl ?_
  exact l_X5_find hC hN a p (fCnt S) 0 (by omega) zPi

set_option maxRecDepth 100000 in
set_option maxHeartbeats 4000000 in
theorem l_X5_heatIn {σ : zSg} {M : zM} {c : Nat → Nat} {S : zS} (hC : zCen M c S) (hN : zNn S) {Q : zO → zM → Prop} (a : Int32) (hQ : Q (.inl (some (.int (fHeat S a)))) M) : ∀ k i, i + k = fCnt S → ∀ x, x = fHeatF S a i → zV μX5_heatIn (1, 0, 0) σ Q M 0 0 4 [(3, .int (nI i)), (2, .int x), (0, .ref (c 1)), (1, .int a)] [] := by
  obtain ⟨f5, hf5, gf5⟩ := hC.c5
  have h12 := hN.2
  intro k
  induction k with
  | zero =>
    intro i hi x hx
    refine zv_iload_n (n := 5) dX5_heatIn_4 rfl rfl ?_
    refine zv_aload_n (n := 6) dX5_heatIn_5 rfl rfl ?_
    refine zv_get (n := 9) dX5_heatIn_6 rfl hC.c1 FX5_18 rfl ?_
    refine zv_icmp_ge (n := 12) (tgt := 56) dX5_heatIn_9 (by decide) rfl (fun h9 => ?_) (fun h9 => False.elim (absurd ((hN.le (by omega)).mpr (by omega)) h9))
    refine zv_iload_n (n := 57) dX5_heatIn_56 rfl rfl ?_
    refine zv_iret dX5_heatIn_57 rfl (by decide) (by decide) ?_
    rw [hx, show i = fCnt S by omega]
    exact hQ
  | succ k ih =>
    intro i hi x hx
    refine zv_iload_n (n := 5) dX5_heatIn_4 rfl rfl ?_
    refine zv_aload_n (n := 6) dX5_heatIn_5 rfl rfl ?_
    refine zv_get (n := 9) dX5_heatIn_6 rfl hC.c1 FX5_18 rfl ?_
    refine zv_icmp_ge (n := 12) (tgt := 56) dX5_heatIn_9 (by decide) rfl (fun h9 => False.elim (absurd ((hN.le (by omega)).mp h9) (by omega))) (fun h9 => ?_)
    refine zv_iload_n (n := 13) dX5_heatIn_12 rfl rfl ?_
    refine zv_aload_n (n := 14) dX5_heatIn_13 rfl rfl ?_
    refine zv_get (n := 17) dX5_heatIn_14 rfl hC.c1 FX5_11 rfl ?_
    refine zv_alen (n := 18) dX5_heatIn_17 rfl hf5 (by decide) (v := (nI 12)) rfl ?_
    refine zv_icmp_ge (n := 21) (tgt := 56) dX5_heatIn_18 (by decide) rfl (fun h18 => False.elim (absurd ((nI12 (by omega)).mp h18) (by omega))) (fun h18 => ?_)
    refine zv_iload_n (n := 22) dX5_heatIn_21 rfl rfl ?_
    refine zv_aload_n (n := 23) dX5_heatIn_22 rfl rfl ?_
    refine zv_get (n := 26) dX5_heatIn_23 rfl hC.c1 FX5_11 rfl ?_
    refine zv_iload_n (n := 27) dX5_heatIn_26 rfl rfl ?_
    refine zv_aldR' (n := 28) dX5_heatIn_27 rfl hf5 (vp_in_nI (by omega) (by decide)) (by rw [nI_clamp (by omega)]; exact gf5 i (by omega)) ?_
    refine zv_getN (n := 31) dX5_heatIn_28 rfl (hC.rk (by omega)) FX5_22 rfl ?_
    refine zv_iload_n (n := 32) dX5_heatIn_31 rfl rfl ?_
    refine zv_icmp_ne (n := 35) (tgt := 47) dX5_heatIn_32 (by decide) rfl (fun h32 => ?_) (fun h32 => ?_)
    · skip
      refine zv_iconst (n := 48) dX5_heatIn_47 rfl (v := 0) (by decide) ?_
      refine zv_iadd (n := 49) dX5_heatIn_48 rfl ?_
      refine zv_istore_n (n := 50) (lv' := [(2, .int (x + 0)), (3, .int (nI i)), (0, .ref (c 1)), (1, .int a)]) dX5_heatIn_49 rfl (by decide) rfl ?_
      refine zv_iinc (n := 53) (v := nI (i + 1)) (lv' := [(3, .int (nI (i + 1))), (2, .int (x + 0)), (0, .ref (c 1)), (1, .int a)]) dX5_heatIn_50 rfl rfl (nI_1 i) (by decide) rfl ?_
      refine zv_goto (tgt := 4) dX5_heatIn_53 (by decide) ?_
      exact ih (i + 1) (by omega) _ (by rw [fHeatF, hx, if_neg h32])
    · skip
      refine zv_aload_n (n := 36) dX5_heatIn_35 rfl rfl ?_
      refine zv_get (n := 39) dX5_heatIn_36 rfl hC.c1 FX5_11 rfl ?_
      refine zv_iload_n (n := 40) dX5_heatIn_39 rfl rfl ?_
      refine zv_aldR' (n := 41) dX5_heatIn_40 rfl hf5 (vp_in_nI (by omega) (by decide)) (by rw [nI_clamp (by omega)]; exact gf5 i (by omega)) ?_
      refine zv_getN (n := 44) dX5_heatIn_41 rfl (hC.rk (by omega)) FX5_28 rfl ?_
      refine zv_goto (tgt := 48) dX5_heatIn_44 (by decide) ?_
      refine zv_iadd (n := 49) dX5_heatIn_48 rfl ?_
      refine zv_istore_n (n := 50) (lv' := [(2, .int (x + (S (3 + 3 * i)))), (3, .int (nI i)), (0, .ref (c 1)), (1, .int a)]) dX5_heatIn_49 rfl (by decide) rfl ?_
      refine zv_iinc (n := 53) (v := nI (i + 1)) (lv' := [(3, .int (nI (i + 1))), (2, .int (x + (S (3 + 3 * i)))), (0, .ref (c 1)), (1, .int a)]) dX5_heatIn_50 rfl rfl (nI_1 i) (by decide) rfl ?_
      refine zv_goto (tgt := 4) dX5_heatIn_53 (by decide) ?_
      exact ih (i + 1) (by omega) _ (by rw [fHeatF, hx, if_pos h32])

set_option maxRecDepth 100000 in
set_option maxHeartbeats 4000000 in
theorem c_X5_heatIn {σ : zSg} {M : zM} {c : Nat → Nat} {S : zS} (hC : zCen M c S) (hN : zNn S) (a : Int32) : zCon μX5_heatIn (1, 0, 0) σ [.ref (c 1), .int a] M (zP (some (.int (fHeat S a))) M) := by
  refine zCon.of (plainFor_of_name (by decide)) rfl (Nat.le_of_ble_eq_true rfl) ?_
  change zV _ _ _ _ _ 0 0 0 [(0, .ref (c 1)), (1, .int a)] []
  refine zv_iconst (n := 1) dX5_heatIn_0 rfl (v := 0) (by decide) ?_
  refine zv_istore_n (n := 2) (lv' := [(2, .int 0), (0, .ref (c 1)), (1, .int a)]) dX5_heatIn_1 rfl (by decide) rfl ?_
  refine zv_iconst (n := 3) dX5_heatIn_2 rfl (v := 0) (by decide) ?_
  refine zv_istore_n (n := 4) (lv' := [(3, .int 0), (2, .int 0), (0, .ref (c 1)), (1, .int a)]) dX5_heatIn_3 rfl (by decide) rfl ?_
  exact l_X5_heatIn hC hN a zPi (fCnt S) 0 (by omega) 0 rfl

set_option maxRecDepth 100000 in
set_option maxHeartbeats 4000000 in
theorem l_X5_sum {σ : zSg} {M : zM} {c : Nat → Nat} {S : zS} (hC : zCen M c S) (hN : zNn S) {Q : zO → zM → Prop} (hQ : Q (.inl (some (.int (fSum S)))) M) : ∀ k i, i + k = fCnt S → ∀ x, x = fSumF S i → zV μX5_sumByRacks (1, 0, 0) σ Q M 0 0 4 [(2, .int (nI i)), (1, .int x), (0, .ref (c 1))] [] := by
  obtain ⟨f5, hf5, gf5⟩ := hC.c5
  have h12 := hN.2
  intro k
  induction k with
  | zero =>
    intro i hi x hx
    refine zv_iload_n (n := 5) dX5_sumByRacks_4 rfl rfl ?_
    refine zv_aload_n (n := 6) dX5_sumByRacks_5 rfl rfl ?_
    refine zv_get (n := 9) dX5_sumByRacks_6 rfl hC.c1 FX5_18 rfl ?_
    refine zv_icmp_ge (n := 12) (tgt := 39) dX5_sumByRacks_9 (by decide) rfl (fun h9 => ?_) (fun h9 => False.elim (absurd ((hN.le (by omega)).mpr (by omega)) h9))
    refine zv_iload_n (n := 40) dX5_sumByRacks_39 rfl rfl ?_
    refine zv_iret dX5_sumByRacks_40 rfl (by decide) (by decide) ?_
    rw [hx, show i = fCnt S by omega]
    exact hQ
  | succ k ih =>
    intro i hi x hx
    refine zv_iload_n (n := 5) dX5_sumByRacks_4 rfl rfl ?_
    refine zv_aload_n (n := 6) dX5_sumByRacks_5 rfl rfl ?_
    refine zv_get (n := 9) dX5_sumByRacks_6 rfl hC.c1 FX5_18 rfl ?_
    refine zv_icmp_ge (n := 12) (tgt := 39) dX5_sumByRacks_9 (by decide) rfl (fun h9 => False.elim (absurd ((hN.le (by omega)).mp h9) (by omega))) (fun h9 => ?_)
    refine zv_iload_n (n := 13) dX5_sumByRacks_12 rfl rfl ?_
    refine zv_aload_n (n := 14) dX5_sumByRacks_13 rfl rfl ?_
    refine zv_get (n := 17) dX5_sumByRacks_14 rfl hC.c1 FX5_11 rfl ?_
    refine zv_alen (n := 18) dX5_sumByRacks_17 rfl hf5 (by decide) (v := (nI 12)) rfl ?_
    refine zv_icmp_ge (n := 21) (tgt := 39) dX5_sumByRacks_18 (by decide) rfl (fun h18 => False.elim (absurd ((nI12 (by omega)).mp h18) (by omega))) (fun h18 => ?_)
    refine zv_iload_n (n := 22) dX5_sumByRacks_21 rfl rfl ?_
    refine zv_aload_n (n := 23) dX5_sumByRacks_22 rfl rfl ?_
    refine zv_get (n := 26) dX5_sumByRacks_23 rfl hC.c1 FX5_11 rfl ?_
    refine zv_iload_n (n := 27) dX5_sumByRacks_26 rfl rfl ?_
    refine zv_aldR' (n := 28) dX5_sumByRacks_27 rfl hf5 (vp_in_nI (by omega) (by decide)) (by rw [nI_clamp (by omega)]; exact gf5 i (by omega)) ?_
    refine zv_getN (n := 31) dX5_sumByRacks_28 rfl (hC.rk (by omega)) FX5_28 rfl ?_
    refine zv_iadd (n := 32) dX5_sumByRacks_31 rfl ?_
    refine zv_istore_n (n := 33) (lv' := [(1, .int (x + (S (3 + 3 * i)))), (2, .int (nI i)), (0, .ref (c 1))]) dX5_sumByRacks_32 rfl (by decide) rfl ?_
    refine zv_iinc (n := 36) (v := nI (i + 1)) (lv' := [(2, .int (nI (i + 1))), (1, .int (x + (S (3 + 3 * i)))), (0, .ref (c 1))]) dX5_sumByRacks_33 rfl rfl (nI_1 i) (by decide) rfl ?_
    refine zv_goto (tgt := 4) dX5_sumByRacks_36 (by decide) ?_
    exact ih (i + 1) (by omega) _ (by rw [fSumF, hx])

set_option maxRecDepth 100000 in
set_option maxHeartbeats 4000000 in
theorem c_X5_sumByRacks {σ : zSg} {M : zM} {c : Nat → Nat} {S : zS} (hC : zCen M c S) (hN : zNn S)  : zCon μX5_sumByRacks (1, 0, 0) σ [.ref (c 1)] M (zP (some (.int (fSum S))) M) := by
  refine zCon.of (plainFor_of_name (by decide)) rfl (Nat.le_of_ble_eq_true rfl) ?_
  change zV _ _ _ _ _ 0 0 0 [(0, .ref (c 1))] []
  refine zv_iconst (n := 1) dX5_sumByRacks_0 rfl (v := 0) (by decide) ?_
  refine zv_istore_n (n := 2) (lv' := [(1, .int 0), (0, .ref (c 1))]) dX5_sumByRacks_1 rfl (by decide) rfl ?_
  refine zv_iconst (n := 3) dX5_sumByRacks_2 rfl (v := 0) (by decide) ?_
  refine zv_istore_n (n := 4) (lv' := [(2, .int 0), (1, .int 0), (0, .ref (c 1))]) dX5_sumByRacks_3 rfl (by decide) rfl ?_
  exact l_X5_sum hC hN zPi (fCnt S) 0 (by omega) 0 rfl

set_option maxRecDepth 100000 in
set_option maxHeartbeats 4000000 in
theorem c_X5_isFull {σ : zSg} {M : zM} {c : Nat → Nat} {S : zS} (hC : zCen M c S) (hN : zNn S)  : zCon μX5_isFull (1, 0, 0) σ [.ref (c 1)] M (zP (some (.int (fB (decide (12 ≤ fCnt S))))) M) := by
  obtain ⟨f5, hf5, gf5⟩ := hC.c5
  have h12 := hN.2
  have hlt : S 0 < nI 12 ↔ fCnt S < 12 := by rw [hN.1, nI_ltI (by omega) (by decide)]
  refine zCon.of (plainFor_of_name (by decide)) rfl (Nat.le_of_ble_eq_true rfl) ?_
  change zV _ _ _ _ _ 0 0 0 [(0, .ref (c 1))] []
  refine zv_aload_n (n := 1) dX5_isFull_0 rfl rfl ?_
  refine zv_get (n := 4) dX5_isFull_1 rfl hC.c1 FX5_18 rfl ?_
  refine zv_aload_n (n := 5) dX5_isFull_4 rfl rfl ?_
  refine zv_get (n := 8) dX5_isFull_5 rfl hC.c1 FX5_11 rfl ?_
  refine zv_alen (n := 9) dX5_isFull_8 rfl hf5 (by decide) (v := (nI 12)) rfl ?_
  refine zv_icmp_lt (n := 12) (tgt := 16) dX5_isFull_9 (by decide) rfl (fun h9 => ?_) (fun h9 => ?_)
  · skip
    refine zv_iconst (n := 17) dX5_isFull_16 rfl (v := 0) (by decide) ?_
    refine zv_zret dX5_isFull_17 rfl rfl (by decide) (by decide) ?_
    rw [fB_f (decide_eq_false (by rw [hlt] at h9; omega))]
    exact zPi
  · skip
    refine zv_iconst (n := 13) dX5_isFull_12 rfl (v := 1) (by decide) ?_
    refine zv_goto (tgt := 17) dX5_isFull_13 (by decide) ?_
    refine zv_zret dX5_isFull_17 rfl rfl (by decide) (by decide) ?_
    rw [fB_t (decide_eq_true (by rw [hlt] at h9; omega))]
    exact zPi

/-! Changes of a centre: laid by wip/p53/m13.py. -/
abbrev fBad (S : zS) (x : Int32) : Prop := x < 0 ∨ S 0 ≤ x
theorem fBad_n {S : zS} (hN : zNn S) {x : Int32} (h : ¬ fBad S x) : ∃ j, j < fCnt S ∧ x = nI j := by
  have h12 := hN.2
  obtain ⟨j, hj, rfl⟩ := nI_of (fun q => h (Or.inl q))
  refine ⟨j, ?_, rfl⟩
  rcases Nat.lt_or_ge j (fCnt S) with q | q
  · exact q
  · exact absurd (Or.inr ((hN.le hj).mpr q)) h
theorem fBad_j {S : zS} (hN : zNn S) {j : Nat} (hj : j < fCnt S) : ¬ fBad S (nI j) := by
  have h12 := hN.2
  intro h
  rcases h with h | h
  · exact nI_pos (by omega) h
  · exact absurd ((hN.le (by omega)).mp h) (by omega)
theorem fBt_n {x : Int32} {n : Nat} (hn : n < 2 ^ 31) (h : fBt x 0 (nI n) = true) : ∃ j, j ≤ n ∧ x = nI j := by
  unfold fBt at h
  rw [Bool.and_eq_true, decide_eq_true_eq, decide_eq_true_eq] at h
  obtain ⟨j, hj, rfl⟩ := nI_of (Int32.not_lt.mpr h.1)
  exact ⟨j, (nI_leI hj hn).mp h.2, rfl⟩
theorem fAt_in {n j : Nat} {f : Nat → Int32} (hj : j < n) (hn : n < 2 ^ 31) : fAt n f (nI j) = f j := by
  unfold fAt
  rw [if_neg (nI_pos (by omega)), if_neg (by rw [nI_leI hn (by omega)]; omega), nI_clamp (by omega)]
def fAdd (S : zS) (a p l : Int32) : Int32 × zS := if fBt a 0 3 = false then (-1, S) else if fBt p 0 5 = false then (-2, S) else if fBt l 0 20 = false then (-2, S) else if 12 ≤ fCnt S then (-3, S) else if fFind S a p = -1 then (S 0, fApp S a p l) else (-4, S)
def fRem (S : zS) (x : Int32) : Int32 × zS := if fBad S x then (-1, S) else (S 0 - 1, fDel S x.toNatClampNeg)
def fMov (S : zS) (x a p : Int32) : Int32 × zS := if fBad S x then (-1, S) else if fBt a 0 3 = false then (-1, S) else if fBt p 0 5 = false then (-2, S) else if fFind S a p = -1 then (S (1 + 3 * x.toNatClampNeg), upd (upd S (1 + 3 * x.toNatClampNeg) a) (2 + 3 * x.toNatClampNeg) p) else (-4, S)
def fLod (S : zS) (x l : Int32) : Int32 × zS := if fBad S x then (-1, S) else if fBt l 0 20 = false then (-2, S) else (S (3 + 3 * x.toNatClampNeg), upd S (3 + 3 * x.toNatClampNeg) l)
def fSnd (S : zS) (x y l : Int32) : Int32 × zS := if fBad S x then (-1, S) else if fBad S y then (-1, S) else if x = y then (-2, S) else if fBt l 1 20 = false then (-2, S) else if S (3 + 3 * x.toNatClampNeg) < l then (-4, S) else if 20 < S (3 + 3 * y.toNatClampNeg) + l then (-4, S) else (S (3 + 3 * y.toNatClampNeg) + l, upd (upd S (3 + 3 * x.toNatClampNeg) (S (3 + 3 * x.toNatClampNeg) - l)) (3 + 3 * y.toNatClampNeg) (S (3 + 3 * y.toNatClampNeg) + l))
def fLim (S : zS) (v : Int32) : Int32 × zS := if fBt v 20 60 = false then (-2, S) else (S 48, upd S 48 v)
def fFan (S : zS) (a v : Int32) : Int32 × zS := if fBt a 0 3 = false then (-1, S) else if fBt v 0 10 = false then (-2, S) else (fSpd S a, upd S (37 + a.toNatClampNeg) v)
def fLow (S : zS) (p : Int32) : Int32 := if p = 0 then 0 else fPt S (p - 1)
def fHigh (S : zS) (p : Int32) : Int32 := if p = 2 then 200 else fPt S (p + 1)
def fCrv (S : zS) (p v : Int32) : Int32 × zS := if fBt p 0 2 = false then (-1, S) else if fBt v 0 200 = false then (-2, S) else if fBt v (fLow S p) (fHigh S p) = false then (-4, S) else (fPt S p, upd S (41 + p.toNatClampNeg) v)
/-- a change's end: its answer, and the centre behind -/
def zCh (c : Nat → Nat) (M : zM) (r : Int32 × zS) : zO → zM → Prop := zF (some (.int r.1)) (fun M' => zCen M' c r.2 ∧ zOff M M' c)
theorem zCh_same {M : zM} {c : Nat → Nat} {S : zS} {v : Int32} {r : Int32 × zS} (hr : r = (v, S)) (hC : zCen M c S) : zCh c M r (.inl (some (.int v))) M := by
  subst hr
  exact zFi ⟨hC, zOff.rf⟩
theorem zCh_new {M M' : zM} {c : Nat → Nat} {S : zS} {v : Int32} {r : Int32 × zS} (hr : r = (v, S)) (hC : zCen M' c S) (ho : zOff M M' c) : zCh c M r (.inl (some (.int v))) M' := by
  subst hr
  exact zFi ⟨hC, ho⟩

set_option maxRecDepth 100000 in
set_option maxHeartbeats 4000000 in
theorem c_X1_add {σ : zSg} {M : zM} {c : Nat → Nat} {S : zS} (hC : zCen M c S) (hN : zNn S) (a p l : Int32) : zCon μX1_add (3, 0, 0) σ [.ref (c 0), .int a, .int p, .int l] M (zCh c M (fAdd S a p l)) := by
  refine zCon.of (plainFor_of_name (by decide)) rfl (Nat.le_of_ble_eq_true rfl) ?_
  change zV _ _ _ _ _ 0 0 0 [(0, .ref (c 0)), (1, .int a), (2, .int p), (3, .int l)] []
  refine zv_iload_n (n := 1) dX1_add_0 rfl rfl ?_
  refine zv_callSNP (n := 4) (As := [.int a]) (rest := []) (kc' := 0) (ks' := 0) dX1_add_1 rfl (c_X8_isAisle a) rfl kX8_isAisle lX1_60 rfl rfl ⟨by decide, by decide⟩ (Nat.le_of_ble_eq_true rfl) rfl rfl (by decide) (by decide) ?_
  refine zv_if_ne (n := 7) (tgt := 9) dX1_add_4 (by decide) rfl (fun h4 => ?_) (fun h4 => ?_)
  · skip
    have e4 := fB_ne h4
    refine zv_iload_n (n := 10) dX1_add_9 rfl rfl ?_
    refine zv_callSNP (n := 13) (As := [.int p]) (rest := []) (kc' := 0) (ks' := 0) dX1_add_10 rfl (c_X8_isPlace p) rfl kX8_isPlace lX1_64 rfl rfl ⟨by decide, by decide⟩ (Nat.le_of_ble_eq_true rfl) rfl rfl (by decide) (by decide) ?_
    refine zv_if_eq (n := 16) (tgt := 23) dX1_add_13 (by decide) rfl (fun h13 => ?_) (fun h13 => ?_)
    · skip
      have e13 := fB_eq h13
      refine zv_bipush (n := 25) dX1_add_23 rfl (v := (-2)) (by decide) ?_
      refine zv_iret dX1_add_25 rfl (by decide) (by decide) ?_
      first
        | exact zCh_same (by unfold fAdd; rw [if_neg (by rw [e4]; decide), if_pos e13]) hC
        | exact zCh_same (by unfold fAdd; rw [if_neg (by rw [e4]; decide), if_neg (by rw [e13]; decide), if_pos e20]) hC
    · skip
      have e13 := fB_ne h13
      refine zv_iload_n (n := 17) dX1_add_16 rfl rfl ?_
      refine zv_callSNP (n := 20) (As := [.int l]) (rest := []) (kc' := 0) (ks' := 0) dX1_add_17 rfl (c_X8_isLoad l) rfl kX8_isLoad lX1_67 rfl rfl ⟨by decide, by decide⟩ (Nat.le_of_ble_eq_true rfl) rfl rfl (by decide) (by decide) ?_
      refine zv_if_ne (n := 23) (tgt := 26) dX1_add_20 (by decide) rfl (fun h20 => ?_) (fun h20 => ?_)
      · skip
        have e20 := fB_ne h20
        refine zv_aload_n (n := 27) dX1_add_26 rfl rfl ?_
        refine zv_get (n := 30) dX1_add_27 rfl hC.c0 FX1_12 rfl ?_
        refine zv_callVP (n := 33) (As := []) (rest := []) (kc' := 0) (ks' := 0) dX1_add_30 rfl (c_X5_isFull hC hN) rfl kX5_isFull lX1_70 hC.c1 rfl rfl rfl ⟨by decide, by decide⟩ (Nat.le_of_ble_eq_true rfl) rfl rfl (by decide) (by decide) ?_
        refine zv_if_eq (n := 36) (tgt := 39) dX1_add_33 (by decide) rfl (fun h33 => ?_) (fun h33 => ?_)
        · skip
          have e33 := of_decide_eq_false (fB_eq h33)
          refine zv_aload_n (n := 40) dX1_add_39 rfl rfl ?_
          refine zv_get (n := 43) dX1_add_40 rfl hC.c0 FX1_12 rfl ?_
          refine zv_iload_n (n := 44) dX1_add_43 rfl rfl ?_
          refine zv_iload_n (n := 45) dX1_add_44 rfl rfl ?_
          refine zv_callVP (n := 48) (As := [.int a, .int p]) (rest := []) (kc' := 0) (ks' := 0) dX1_add_45 rfl (c_X5_find hC hN a p) rfl kX5_find lX1_74 hC.c1 rfl rfl rfl ⟨by decide, by decide⟩ (Nat.le_of_ble_eq_true rfl) rfl rfl (by decide) (by decide) ?_
          refine zv_iconst (n := 49) dX1_add_48 rfl (v := (-1)) (by decide) ?_
          refine zv_icmp_eq (n := 52) (tgt := 55) dX1_add_49 (by decide) rfl (fun h49 => ?_) (fun h49 => ?_)
          · skip
            refine zv_aload_n (n := 56) dX1_add_55 rfl rfl ?_
            refine zv_get (n := 59) dX1_add_56 rfl hC.c0 FX1_12 rfl ?_
            refine zv_iload_n (n := 60) dX1_add_59 rfl rfl ?_
            refine zv_iload_n (n := 61) dX1_add_60 rfl rfl ?_
            refine zv_iload_n (n := 62) dX1_add_61 rfl rfl ?_
            refine zv_callVF (n := 65) (As := [.int a, .int p, .int l]) (rest := []) (kc' := 0) (ks' := 0) dX1_add_62 rfl (c_X5_append hC hN (by omega) a p l) rfl kX5_append lX1_78 hC.c1 rfl rfl rfl ⟨by decide, by decide⟩ (Nat.le_of_ble_eq_true rfl) rfl rfl (by decide) (by decide) (fun M1 hq => ?_)
            refine zv_iret dX1_add_65 rfl (by decide) (by decide) ?_
            exact zCh_new (by unfold fAdd; rw [if_neg (by rw [e4]; decide), if_neg (by rw [e13]; decide), if_neg (by rw [e20]; decide), if_neg e33, if_pos h49]) hq.1 hq.2
          · skip
            refine zv_bipush (n := 54) dX1_add_52 rfl (v := (-4)) (by decide) ?_
            refine zv_iret dX1_add_54 rfl (by decide) (by decide) ?_
            exact zCh_same (by unfold fAdd; rw [if_neg (by rw [e4]; decide), if_neg (by rw [e13]; decide), if_neg (by rw [e20]; decide), if_neg e33, if_neg h49]) hC
        · skip
          have e33 := of_decide_eq_true (fB_ne h33)
          refine zv_bipush (n := 38) dX1_add_36 rfl (v := (-3)) (by decide) ?_
          refine zv_iret dX1_add_38 rfl (by decide) (by decide) ?_
          exact zCh_same (by unfold fAdd; rw [if_neg (by rw [e4]; decide), if_neg (by rw [e13]; decide), if_neg (by rw [e20]; decide), if_pos e33]) hC
      · skip
        have e20 := fB_eq h20
        refine zv_bipush (n := 25) dX1_add_23 rfl (v := (-2)) (by decide) ?_
        refine zv_iret dX1_add_25 rfl (by decide) (by decide) ?_
        first
          | exact zCh_same (by unfold fAdd; rw [if_neg (by rw [e4]; decide), if_pos e13]) hC
          | exact zCh_same (by unfold fAdd; rw [if_neg (by rw [e4]; decide), if_neg (by rw [e13]; decide), if_pos e20]) hC
  · skip
    have e4 := fB_eq h4
    refine zv_iconst (n := 8) dX1_add_7 rfl (v := (-1)) (by decide) ?_
    refine zv_iret dX1_add_8 rfl (by decide) (by decide) ?_
    exact zCh_same (by unfold fAdd; rw [if_pos e4]) hC

set_option maxRecDepth 100000 in
set_option maxHeartbeats 4000000 in
theorem c_X1_remove_0 {σ : zSg} {M : zM} {c : Nat → Nat} {S : zS} (hC : zCen M c S) (hN : zNn S) {x : Int32} (hx : fBad S x) : zCon μX1_remove (3, 0, 0) σ [.ref (c 0), .int x] M (zCh c M (fRem S x)) := by
  refine zCon.of (plainFor_of_name (by decide)) rfl (Nat.le_of_ble_eq_true rfl) ?_
  change zV _ _ _ _ _ 0 0 0 [(0, .ref (c 0)), (1, .int x)] []
  refine zv_aload_n (n := 1) dX1_remove_0 rfl rfl ?_
  refine zv_get (n := 4) dX1_remove_1 rfl hC.c0 FX1_12 rfl ?_
  refine zv_iload_n (n := 5) dX1_remove_4 rfl rfl ?_
  refine zv_callVP (n := 8) (As := [.int x]) (rest := []) (kc' := 0) (ks' := 0) dX1_remove_5 rfl (c_X5_getN hC hN hx) rfl kX5_get lX1_82 hC.c1 rfl rfl rfl ⟨by decide, by decide⟩ (Nat.le_of_ble_eq_true rfl) rfl rfl (by decide) (by decide) ?_
  refine zv_ifnonnullN (n := 11) dX1_remove_8 rfl ?_
  refine zv_iconst (n := 12) dX1_remove_11 rfl (v := (-1)) (by decide) ?_
  refine zv_iret dX1_remove_12 rfl (by decide) (by decide) ?_
  exact zCh_same (if_pos hx) hC

set_option maxRecDepth 100000 in
set_option maxHeartbeats 4000000 in
theorem c_X1_remove_1 {σ : zSg} {M : zM} {c : Nat → Nat} {S : zS} (hC : zCen M c S) (hN : zNn S) {j : Nat} (hj : j < fCnt S) : zCon μX1_remove (3, 0, 0) σ [.ref (c 0), .int (nI j)] M (zCh c M (fRem S (nI j))) := by
  refine zCon.of (plainFor_of_name (by decide)) rfl (Nat.le_of_ble_eq_true rfl) ?_
  change zV _ _ _ _ _ 0 0 0 [(0, .ref (c 0)), (1, .int (nI j))] []
  refine zv_aload_n (n := 1) dX1_remove_0 rfl rfl ?_
  refine zv_get (n := 4) dX1_remove_1 rfl hC.c0 FX1_12 rfl ?_
  refine zv_iload_n (n := 5) dX1_remove_4 rfl rfl ?_
  refine zv_callVP (n := 8) (As := [.int (nI j)]) (rest := []) (kc' := 0) (ks' := 0) dX1_remove_5 rfl (c_X5_get hC hN hj) rfl kX5_get lX1_82 hC.c1 rfl rfl rfl ⟨by decide, by decide⟩ (Nat.le_of_ble_eq_true rfl) rfl rfl (by decide) (by decide) ?_
  refine zv_ifnonnull (tgt := 13) dX1_remove_8 (by decide) ?_
  refine zv_aload_n (n := 14) dX1_remove_13 rfl rfl ?_
  refine zv_get (n := 17) dX1_remove_14 rfl hC.c0 FX1_12 rfl ?_
  refine zv_iload_n (n := 18) dX1_remove_17 rfl rfl ?_
  refine zv_callVF0 (n := 21) (As := [.int (nI j)]) (rest := []) (kc' := 0) (ks' := 0) dX1_remove_18 rfl (c_X5_delete hC hN hj) rfl kX5_delete lX1_86 hC.c1 rfl rfl rfl ⟨by decide, by decide⟩ (Nat.le_of_ble_eq_true rfl) rfl rfl (by decide) (by decide) (fun M1 hq => ?_)
  refine zv_aload_n (n := 22) dX1_remove_21 rfl rfl ?_
  refine zv_get (n := 25) dX1_remove_22 rfl hq.1.c0 FX1_12 rfl ?_
  refine zv_getN (n := 28) dX1_remove_25 rfl hq.1.c1 FX1_90 rfl ?_
  refine zv_iret dX1_remove_28 rfl (by decide) (by decide) ?_
  have h12 := hN.2
  rw [show fDel S j 0 = S 0 - 1 from u_s]
  exact zCh_new (by unfold fRem; rw [if_neg (fBad_j hN hj), nI_clamp (by omega)]) hq.1 hq.2

theorem c_X1_remove {σ : zSg} {M : zM} {c : Nat → Nat} {S : zS} (hC : zCen M c S) (hN : zNn S) (x : Int32) : zCon μX1_remove (3, 0, 0) σ [.ref (c 0), .int x] M (zCh c M (fRem S x)) := by
  by_cases hx : fBad S x
  · exact c_X1_remove_0 hC hN hx
  · obtain ⟨j, hj, rfl⟩ := fBad_n hN hx
    exact c_X1_remove_1 hC hN hj

set_option maxRecDepth 100000 in
set_option maxHeartbeats 4000000 in
theorem c_X1_move_0 {σ : zSg} {M : zM} {c : Nat → Nat} {S : zS} (hC : zCen M c S) (hN : zNn S) {x : Int32} (hx : fBad S x) (a p : Int32) : zCon μX1_move (3, 0, 0) σ [.ref (c 0), .int x, .int a, .int p] M (zCh c M (fMov S x a p)) := by
  refine zCon.of (plainFor_of_name (by decide)) rfl (Nat.le_of_ble_eq_true rfl) ?_
  change zV _ _ _ _ _ 0 0 0 [(0, .ref (c 0)), (1, .int x), (2, .int a), (3, .int p)] []
  refine zv_aload_n (n := 1) dX1_move_0 rfl rfl ?_
  refine zv_get (n := 4) dX1_move_1 rfl hC.c0 FX1_12 rfl ?_
  refine zv_iload_n (n := 5) dX1_move_4 rfl rfl ?_
  refine zv_callVP (n := 8) (As := [.int x]) (rest := []) (kc' := 0) (ks' := 0) dX1_move_5 rfl (c_X5_getN hC hN hx) rfl kX5_get lX1_82 hC.c1 rfl rfl rfl ⟨by decide, by decide⟩ (Nat.le_of_ble_eq_true rfl) rfl rfl (by decide) (by decide) ?_
  refine zv_astoreN (n := 10) (lv' := [(4, .null), (0, .ref (c 0)), (1, .int x), (2, .int a), (3, .int p)]) dX1_move_8 rfl (by decide) rfl ?_
  refine zv_aloadN (n := 12) dX1_move_10 rfl rfl ?_
  refine zv_ifnullN (tgt := 22) dX1_move_12 (by decide) ?_
  refine zv_iconst (n := 23) dX1_move_22 rfl (v := (-1)) (by decide) ?_
  refine zv_iret dX1_move_23 rfl (by decide) (by decide) ?_
  exact zCh_same (if_pos hx) hC

set_option maxRecDepth 100000 in
set_option maxHeartbeats 4000000 in
theorem c_X1_move_1 {σ : zSg} {M : zM} {c : Nat → Nat} {S : zS} (hC : zCen M c S) (hN : zNn S) {j : Nat} (hj : j < fCnt S) (a p : Int32) : zCon μX1_move (3, 0, 0) σ [.ref (c 0), .int (nI j), .int a, .int p] M (zCh c M (fMov S (nI j) a p)) := by
  refine zCon.of (plainFor_of_name (by decide)) rfl (Nat.le_of_ble_eq_true rfl) ?_
  change zV _ _ _ _ _ 0 0 0 [(0, .ref (c 0)), (1, .int (nI j)), (2, .int a), (3, .int p)] []
  refine zv_aload_n (n := 1) dX1_move_0 rfl rfl ?_
  refine zv_get (n := 4) dX1_move_1 rfl hC.c0 FX1_12 rfl ?_
  refine zv_iload_n (n := 5) dX1_move_4 rfl rfl ?_
  refine zv_callVP (n := 8) (As := [.int (nI j)]) (rest := []) (kc' := 0) (ks' := 0) dX1_move_5 rfl (c_X5_get hC hN hj) rfl kX5_get lX1_82 hC.c1 rfl rfl rfl ⟨by decide, by decide⟩ (Nat.le_of_ble_eq_true rfl) rfl rfl (by decide) (by decide) ?_
  refine zv_astore (n := 10) (lv' := [(4, .ref (c (8 + j))), (0, .ref (c 0)), (1, .int (nI j)), (2, .int a), (3, .int p)]) dX1_move_8 rfl (by decide) rfl ?_
  refine zv_aload (n := 12) dX1_move_10 rfl rfl ?_
  refine zv_ifnull (n := 15) dX1_move_12 rfl ?_
  refine zv_iload_n (n := 16) dX1_move_15 rfl rfl ?_
  refine zv_callSNP (n := 19) (As := [.int a]) (rest := []) (kc' := 0) (ks' := 0) dX1_move_16 rfl (c_X8_isAisle a) rfl kX8_isAisle lX1_60 rfl rfl ⟨by decide, by decide⟩ (Nat.le_of_ble_eq_true rfl) rfl rfl (by decide) (by decide) ?_
  refine zv_if_ne (n := 22) (tgt := 24) dX1_move_19 (by decide) rfl (fun h19 => ?_) (fun h19 => ?_)
  · skip
    have e19 := fB_ne h19
    refine zv_iload_n (n := 25) dX1_move_24 rfl rfl ?_
    refine zv_callSNP (n := 28) (As := [.int p]) (rest := []) (kc' := 0) (ks' := 0) dX1_move_25 rfl (c_X8_isPlace p) rfl kX8_isPlace lX1_64 rfl rfl ⟨by decide, by decide⟩ (Nat.le_of_ble_eq_true rfl) rfl rfl (by decide) (by decide) ?_
    refine zv_if_ne (n := 31) (tgt := 34) dX1_move_28 (by decide) rfl (fun h28 => ?_) (fun h28 => ?_)
    · skip
      have e28 := fB_ne h28
      refine zv_aload_n (n := 35) dX1_move_34 rfl rfl ?_
      refine zv_get (n := 38) dX1_move_35 rfl hC.c0 FX1_12 rfl ?_
      refine zv_iload_n (n := 39) dX1_move_38 rfl rfl ?_
      refine zv_iload_n (n := 40) dX1_move_39 rfl rfl ?_
      refine zv_callVP (n := 43) (As := [.int a, .int p]) (rest := []) (kc' := 0) (ks' := 0) dX1_move_40 rfl (c_X5_find hC hN a p) rfl kX5_find lX1_74 hC.c1 rfl rfl rfl ⟨by decide, by decide⟩ (Nat.le_of_ble_eq_true rfl) rfl rfl (by decide) (by decide) ?_
      refine zv_iconst (n := 44) dX1_move_43 rfl (v := (-1)) (by decide) ?_
      refine zv_icmp_eq (n := 47) (tgt := 50) dX1_move_44 (by decide) rfl (fun h44 => ?_) (fun h44 => ?_)
      · skip
        refine zv_aload (n := 52) dX1_move_50 rfl rfl ?_
        refine zv_getN (n := 55) dX1_move_52 rfl (hC.rk (by have := hN.2; omega)) FX1_93 rfl ?_
        refine zv_istore (n := 57) (lv' := [(5, .int (S (1 + 3 * j))), (4, .ref (c (8 + j))), (0, .ref (c 0)), (1, .int (nI j)), (2, .int a), (3, .int p)]) dX1_move_55 rfl (by decide) rfl ?_
        refine zv_aload (n := 59) dX1_move_57 rfl rfl ?_
        refine zv_iload_n (n := 60) dX1_move_59 rfl rfl ?_
        refine zv_putN (n := 63) dX1_move_60 rfl (hC.rk (by have := hN.2; omega)) FX1_93 zcl_X4 zty_X4_0 rfl rfl (Nat.le_of_ble_eq_true rfl) ?_
        refine zv_aload (n := 65) dX1_move_63 rfl rfl ?_
        refine zv_iload_n (n := 66) dX1_move_65 rfl rfl ?_
        refine zv_putN (n := 69) dX1_move_66 rfl zup_s FX1_98 zcl_X4 zty_X4_1 rfl rfl (Nat.le_of_ble_eq_true rfl) ?_
        refine zv_iload (n := 71) dX1_move_69 rfl rfl ?_
        refine zv_iret dX1_move_71 rfl (by decide) (by decide) ?_
        have h12 := hN.2
        have h1 := hC.putR (i := j) (by omega) (j := 0) (by decide) a
        rw [show 1 + 3 * j + 0 = 1 + 3 * j from rfl] at h1
        have h2 := h1.putR (i := j) (by omega) (j := 1) (by decide) p
        rw [show 1 + 3 * j + 1 = 2 + 3 * j by omega, u_s, u_n (by omega), u_n (by omega)] at h2
        refine zCh_new (by unfold fMov; rw [if_neg (fBad_j hN hj), if_neg (by rw [e19]; decide), if_neg (by rw [e28]; decide), if_pos h44, nI_clamp (by have := hN.2; omega)]) h2 ((zOff.up (by omega)).tr (zOff.up (by omega)))
      · skip
        refine zv_bipush (n := 49) dX1_move_47 rfl (v := (-4)) (by decide) ?_
        refine zv_iret dX1_move_49 rfl (by decide) (by decide) ?_
        exact zCh_same (by unfold fMov; rw [if_neg (fBad_j hN hj), if_neg (by rw [e19]; decide), if_neg (by rw [e28]; decide), if_neg h44]) hC
    · skip
      have e28 := fB_eq h28
      refine zv_bipush (n := 33) dX1_move_31 rfl (v := (-2)) (by decide) ?_
      refine zv_iret dX1_move_33 rfl (by decide) (by decide) ?_
      exact zCh_same (by unfold fMov; rw [if_neg (fBad_j hN hj), if_neg (by rw [e19]; decide), if_pos e28]) hC
  · skip
    have e19 := fB_eq h19
    refine zv_iconst (n := 23) dX1_move_22 rfl (v := (-1)) (by decide) ?_
    refine zv_iret dX1_move_23 rfl (by decide) (by decide) ?_
    exact zCh_same (by unfold fMov; rw [if_neg (fBad_j hN hj), if_pos e19]) hC

theorem c_X1_move {σ : zSg} {M : zM} {c : Nat → Nat} {S : zS} (hC : zCen M c S) (hN : zNn S) (x a p : Int32) : zCon μX1_move (3, 0, 0) σ [.ref (c 0), .int x, .int a, .int p] M (zCh c M (fMov S x a p)) := by
  by_cases hx : fBad S x
  · exact c_X1_move_0 hC hN hx a p
  · obtain ⟨j, hj, rfl⟩ := fBad_n hN hx
    exact c_X1_move_1 hC hN hj a p

set_option maxRecDepth 100000 in
set_option maxHeartbeats 4000000 in
theorem c_X1_changeLoad_0 {σ : zSg} {M : zM} {c : Nat → Nat} {S : zS} (hC : zCen M c S) (hN : zNn S) {x : Int32} (hx : fBad S x) (l : Int32) : zCon μX1_changeLoad (3, 0, 0) σ [.ref (c 0), .int x, .int l] M (zCh c M (fLod S x l)) := by
  refine zCon.of (plainFor_of_name (by decide)) rfl (Nat.le_of_ble_eq_true rfl) ?_
  change zV _ _ _ _ _ 0 0 0 [(0, .ref (c 0)), (1, .int x), (2, .int l)] []
  refine zv_aload_n (n := 1) dX1_changeLoad_0 rfl rfl ?_
  refine zv_get (n := 4) dX1_changeLoad_1 rfl hC.c0 FX1_12 rfl ?_
  refine zv_iload_n (n := 5) dX1_changeLoad_4 rfl rfl ?_
  refine zv_callVP (n := 8) (As := [.int x]) (rest := []) (kc' := 0) (ks' := 0) dX1_changeLoad_5 rfl (c_X5_getN hC hN hx) rfl kX5_get lX1_82 hC.c1 rfl rfl rfl ⟨by decide, by decide⟩ (Nat.le_of_ble_eq_true rfl) rfl rfl (by decide) (by decide) ?_
  refine zv_astore_nN (n := 9) (lv' := [(3, .null), (0, .ref (c 0)), (1, .int x), (2, .int l)]) dX1_changeLoad_8 rfl (by decide) rfl ?_
  refine zv_aload_nN (n := 10) dX1_changeLoad_9 rfl rfl ?_
  refine zv_ifnonnullN (n := 13) dX1_changeLoad_10 rfl ?_
  refine zv_iconst (n := 14) dX1_changeLoad_13 rfl (v := (-1)) (by decide) ?_
  refine zv_iret dX1_changeLoad_14 rfl (by decide) (by decide) ?_
  exact zCh_same (if_pos hx) hC

set_option maxRecDepth 100000 in
set_option maxHeartbeats 4000000 in
theorem c_X1_changeLoad_1 {σ : zSg} {M : zM} {c : Nat → Nat} {S : zS} (hC : zCen M c S) (hN : zNn S) {j : Nat} (hj : j < fCnt S) (l : Int32) : zCon μX1_changeLoad (3, 0, 0) σ [.ref (c 0), .int (nI j), .int l] M (zCh c M (fLod S (nI j) l)) := by
  refine zCon.of (plainFor_of_name (by decide)) rfl (Nat.le_of_ble_eq_true rfl) ?_
  change zV _ _ _ _ _ 0 0 0 [(0, .ref (c 0)), (1, .int (nI j)), (2, .int l)] []
  refine zv_aload_n (n := 1) dX1_changeLoad_0 rfl rfl ?_
  refine zv_get (n := 4) dX1_changeLoad_1 rfl hC.c0 FX1_12 rfl ?_
  refine zv_iload_n (n := 5) dX1_changeLoad_4 rfl rfl ?_
  refine zv_callVP (n := 8) (As := [.int (nI j)]) (rest := []) (kc' := 0) (ks' := 0) dX1_changeLoad_5 rfl (c_X5_get hC hN hj) rfl kX5_get lX1_82 hC.c1 rfl rfl rfl ⟨by decide, by decide⟩ (Nat.le_of_ble_eq_true rfl) rfl rfl (by decide) (by decide) ?_
  refine zv_astore_n (n := 9) (lv' := [(3, .ref (c (8 + j))), (0, .ref (c 0)), (1, .int (nI j)), (2, .int l)]) dX1_changeLoad_8 rfl (by decide) rfl ?_
  refine zv_aload_n (n := 10) dX1_changeLoad_9 rfl rfl ?_
  refine zv_ifnonnull (tgt := 15) dX1_changeLoad_10 (by decide) ?_
  refine zv_iload_n (n := 16) dX1_changeLoad_15 rfl rfl ?_
  refine zv_callSNP (n := 19) (As := [.int l]) (rest := []) (kc' := 0) (ks' := 0) dX1_changeLoad_16 rfl (c_X8_isLoad l) rfl kX8_isLoad lX1_67 rfl rfl ⟨by decide, by decide⟩ (Nat.le_of_ble_eq_true rfl) rfl rfl (by decide) (by decide) ?_
  refine zv_if_ne (n := 22) (tgt := 25) dX1_changeLoad_19 (by decide) rfl (fun h19 => ?_) (fun h19 => ?_)
  · skip
    have e19 := fB_ne h19
    refine zv_aload_n (n := 26) dX1_changeLoad_25 rfl rfl ?_
    refine zv_getN (n := 29) dX1_changeLoad_26 rfl (hC.rk (by have := hN.2; omega)) FX1_101 rfl ?_
    refine zv_istore (n := 31) (lv' := [(4, .int (S (3 + 3 * j))), (3, .ref (c (8 + j))), (0, .ref (c 0)), (1, .int (nI j)), (2, .int l)]) dX1_changeLoad_29 rfl (by decide) rfl ?_
    refine zv_aload_n (n := 32) dX1_changeLoad_31 rfl rfl ?_
    refine zv_iload_n (n := 33) dX1_changeLoad_32 rfl rfl ?_
    refine zv_putN (n := 36) dX1_changeLoad_33 rfl (hC.rk (by have := hN.2; omega)) FX1_101 zcl_X4 zty_X4_2 rfl rfl (Nat.le_of_ble_eq_true rfl) ?_
    refine zv_iload (n := 38) dX1_changeLoad_36 rfl rfl ?_
    refine zv_iret dX1_changeLoad_38 rfl (by decide) (by decide) ?_
    have h12 := hN.2
    have h1 := hC.putR (i := j) (by omega) (j := 2) (by decide) l
    rw [show 1 + 3 * j + 2 = 3 + 3 * j by omega] at h1
    exact zCh_new (by unfold fLod; rw [if_neg (fBad_j hN hj), if_neg (by rw [e19]; decide), nI_clamp (by have := hN.2; omega)]) h1 (zOff.up (by omega))
  · skip
    have e19 := fB_eq h19
    refine zv_bipush (n := 24) dX1_changeLoad_22 rfl (v := (-2)) (by decide) ?_
    refine zv_iret dX1_changeLoad_24 rfl (by decide) (by decide) ?_
    exact zCh_same (by unfold fLod; rw [if_neg (fBad_j hN hj), if_pos e19]) hC

theorem c_X1_changeLoad {σ : zSg} {M : zM} {c : Nat → Nat} {S : zS} (hC : zCen M c S) (hN : zNn S) (x l : Int32) : zCon μX1_changeLoad (3, 0, 0) σ [.ref (c 0), .int x, .int l] M (zCh c M (fLod S x l)) := by
  by_cases hx : fBad S x
  · exact c_X1_changeLoad_0 hC hN hx l
  · obtain ⟨j, hj, rfl⟩ := fBad_n hN hx
    exact c_X1_changeLoad_1 hC hN hj l

theorem k_X1_send_0 {σ : zSg} {M : zM} {c : Nat → Nat} {S : zS} (hC : zCen M c S) {x y l : Int32} (hx : fBad S x) (v : Value) : zV μX1_send (3, 0, 0) σ (zCh c M (fSnd S x y l)) M 0 0 20 [(5, v), (4, .null), (0, .ref (c 0)), (1, .int x), (2, .int y), (3, .int l)] [] := by
  refine zv_aloadN (n := 22) dX1_send_20 rfl rfl ?_
  refine zv_ifnullN (tgt := 30) dX1_send_22 (by decide) ?_
  refine zv_iconst (n := 31) dX1_send_30 rfl (v := (-1)) (by decide) ?_
  refine zv_iret dX1_send_31 rfl (by decide) (by decide) ?_
  exact zCh_same (if_pos hx) hC

set_option maxRecDepth 100000 in
set_option maxHeartbeats 4000000 in
theorem c_X1_send_0 {σ : zSg} {M : zM} {c : Nat → Nat} {S : zS} (hC : zCen M c S) (hN : zNn S) {x : Int32} (hx : fBad S x) (y l : Int32) : zCon μX1_send (3, 0, 0) σ [.ref (c 0), .int x, .int y, .int l] M (zCh c M (fSnd S x y l)) := by
  refine zCon.of (plainFor_of_name (by decide)) rfl (Nat.le_of_ble_eq_true rfl) ?_
  change zV _ _ _ _ _ 0 0 0 [(0, .ref (c 0)), (1, .int x), (2, .int y), (3, .int l)] []
  refine zv_aload_n (n := 1) dX1_send_0 rfl rfl ?_
  refine zv_get (n := 4) dX1_send_1 rfl hC.c0 FX1_12 rfl ?_
  refine zv_iload_n (n := 5) dX1_send_4 rfl rfl ?_
  refine zv_callVP (n := 8) (As := [.int x]) (rest := []) (kc' := 0) (ks' := 0) dX1_send_5 rfl (c_X5_getN hC hN hx) rfl kX5_get lX1_82 hC.c1 rfl rfl rfl ⟨by decide, by decide⟩ (Nat.le_of_ble_eq_true rfl) rfl rfl (by decide) (by decide) ?_
  refine zv_astoreN (n := 10) (lv' := [(4, .null), (0, .ref (c 0)), (1, .int x), (2, .int y), (3, .int l)]) dX1_send_8 rfl (by decide) rfl ?_
  refine zv_aload_n (n := 11) dX1_send_10 rfl rfl ?_
  refine zv_get (n := 14) dX1_send_11 rfl hC.c0 FX1_12 rfl ?_
  refine zv_iload_n (n := 15) dX1_send_14 rfl rfl ?_
  by_cases hy : fBad S y
  · refine zv_callVP (n := 18) (As := [.int y]) (rest := []) (kc' := 0) (ks' := 0) dX1_send_15 rfl (c_X5_getN hC hN hy) rfl kX5_get lX1_82 hC.c1 rfl rfl rfl ⟨by decide, by decide⟩ (Nat.le_of_ble_eq_true rfl) rfl rfl (by decide) (by decide) ?_
    refine zv_astoreN (n := 20) (lv' := [(5, .null), (4, .null), (0, .ref (c 0)), (1, .int x), (2, .int y), (3, .int l)]) dX1_send_18 rfl (by decide) rfl ?_
    exact k_X1_send_0 hC hx .null
  · obtain ⟨j, hj, rfl⟩ := fBad_n hN hy
    refine zv_callVP (n := 18) (As := [.int (nI j)]) (rest := []) (kc' := 0) (ks' := 0) dX1_send_15 rfl (c_X5_get hC hN hj) rfl kX5_get lX1_82 hC.c1 rfl rfl rfl ⟨by decide, by decide⟩ (Nat.le_of_ble_eq_true rfl) rfl rfl (by decide) (by decide) ?_
    refine zv_astore (n := 20) (lv' := [(5, .ref (c (8 + j))), (4, .null), (0, .ref (c 0)), (1, .int x), (2, .int (nI j)), (3, .int l)]) dX1_send_18 rfl (by decide) rfl ?_
    exact k_X1_send_0 hC hx _

set_option maxRecDepth 100000 in
set_option maxHeartbeats 4000000 in
theorem c_X1_send_10 {σ : zSg} {M : zM} {c : Nat → Nat} {S : zS} (hC : zCen M c S) (hN : zNn S) {i : Nat} (hi : i < fCnt S) {y : Int32} (hy : fBad S y) (l : Int32) : zCon μX1_send (3, 0, 0) σ [.ref (c 0), .int (nI i), .int y, .int l] M (zCh c M (fSnd S (nI i) y l)) := by
  refine zCon.of (plainFor_of_name (by decide)) rfl (Nat.le_of_ble_eq_true rfl) ?_
  change zV _ _ _ _ _ 0 0 0 [(0, .ref (c 0)), (1, .int (nI i)), (2, .int y), (3, .int l)] []
  refine zv_aload_n (n := 1) dX1_send_0 rfl rfl ?_
  refine zv_get (n := 4) dX1_send_1 rfl hC.c0 FX1_12 rfl ?_
  refine zv_iload_n (n := 5) dX1_send_4 rfl rfl ?_
  refine zv_callVP (n := 8) (As := [.int (nI i)]) (rest := []) (kc' := 0) (ks' := 0) dX1_send_5 rfl (c_X5_get hC hN hi) rfl kX5_get lX1_82 hC.c1 rfl rfl rfl ⟨by decide, by decide⟩ (Nat.le_of_ble_eq_true rfl) rfl rfl (by decide) (by decide) ?_
  refine zv_astore (n := 10) (lv' := [(4, .ref (c (8 + i))), (0, .ref (c 0)), (1, .int (nI i)), (2, .int y), (3, .int l)]) dX1_send_8 rfl (by decide) rfl ?_
  refine zv_aload_n (n := 11) dX1_send_10 rfl rfl ?_
  refine zv_get (n := 14) dX1_send_11 rfl hC.c0 FX1_12 rfl ?_
  refine zv_iload_n (n := 15) dX1_send_14 rfl rfl ?_
  refine zv_callVP (n := 18) (As := [.int y]) (rest := []) (kc' := 0) (ks' := 0) dX1_send_15 rfl (c_X5_getN hC hN hy) rfl kX5_get lX1_82 hC.c1 rfl rfl rfl ⟨by decide, by decide⟩ (Nat.le_of_ble_eq_true rfl) rfl rfl (by decide) (by decide) ?_
  refine zv_astoreN (n := 20) (lv' := [(5, .null), (4, .ref (c (8 + i))), (0, .ref (c 0)), (1, .int (nI i)), (2, .int y), (3, .int l)]) dX1_send_18 rfl (by decide) rfl ?_
  refine zv_aload (n := 22) dX1_send_20 rfl rfl ?_
  refine zv_ifnull (n := 25) dX1_send_22 rfl ?_
  refine zv_aloadN (n := 27) dX1_send_25 rfl rfl ?_
  refine zv_ifnonnullN (n := 30) dX1_send_27 rfl ?_
  refine zv_iconst (n := 31) dX1_send_30 rfl (v := (-1)) (by decide) ?_
  refine zv_iret dX1_send_31 rfl (by decide) (by decide) ?_
  exact zCh_same (by unfold fSnd; rw [if_neg (fBad_j hN hi), if_pos hy]) hC

set_option maxRecDepth 100000 in
set_option maxHeartbeats 4000000 in
theorem c_X1_send_11 {σ : zSg} {M : zM} {c : Nat → Nat} {S : zS} (hC : zCen M c S) (hN : zNn S) {i j : Nat} (hi : i < fCnt S) (hj : j < fCnt S) (l : Int32) : zCon μX1_send (3, 0, 0) σ [.ref (c 0), .int (nI i), .int (nI j), .int l] M (zCh c M (fSnd S (nI i) (nI j) l)) := by
  refine zCon.of (plainFor_of_name (by decide)) rfl (Nat.le_of_ble_eq_true rfl) ?_
  change zV _ _ _ _ _ 0 0 0 [(0, .ref (c 0)), (1, .int (nI i)), (2, .int (nI j)), (3, .int l)] []
  refine zv_aload_n (n := 1) dX1_send_0 rfl rfl ?_
  refine zv_get (n := 4) dX1_send_1 rfl hC.c0 FX1_12 rfl ?_
  refine zv_iload_n (n := 5) dX1_send_4 rfl rfl ?_
  refine zv_callVP (n := 8) (As := [.int (nI i)]) (rest := []) (kc' := 0) (ks' := 0) dX1_send_5 rfl (c_X5_get hC hN hi) rfl kX5_get lX1_82 hC.c1 rfl rfl rfl ⟨by decide, by decide⟩ (Nat.le_of_ble_eq_true rfl) rfl rfl (by decide) (by decide) ?_
  refine zv_astore (n := 10) (lv' := [(4, .ref (c (8 + i))), (0, .ref (c 0)), (1, .int (nI i)), (2, .int (nI j)), (3, .int l)]) dX1_send_8 rfl (by decide) rfl ?_
  refine zv_aload_n (n := 11) dX1_send_10 rfl rfl ?_
  refine zv_get (n := 14) dX1_send_11 rfl hC.c0 FX1_12 rfl ?_
  refine zv_iload_n (n := 15) dX1_send_14 rfl rfl ?_
  refine zv_callVP (n := 18) (As := [.int (nI j)]) (rest := []) (kc' := 0) (ks' := 0) dX1_send_15 rfl (c_X5_get hC hN hj) rfl kX5_get lX1_82 hC.c1 rfl rfl rfl ⟨by decide, by decide⟩ (Nat.le_of_ble_eq_true rfl) rfl rfl (by decide) (by decide) ?_
  refine zv_astore (n := 20) (lv' := [(5, .ref (c (8 + j))), (4, .ref (c (8 + i))), (0, .ref (c 0)), (1, .int (nI i)), (2, .int (nI j)), (3, .int l)]) dX1_send_18 rfl (by decide) rfl ?_
  refine zv_aload (n := 22) dX1_send_20 rfl rfl ?_
  refine zv_ifnull (n := 25) dX1_send_22 rfl ?_
  refine zv_aload (n := 27) dX1_send_25 rfl rfl ?_
  refine zv_ifnonnull (tgt := 32) dX1_send_27 (by decide) ?_
  refine zv_iload_n (n := 33) dX1_send_32 rfl rfl ?_
  refine zv_iload_n (n := 34) dX1_send_33 rfl rfl ?_
  refine zv_icmp_eq (n := 37) (tgt := 47) dX1_send_34 (by decide) rfl (fun h34 => ?_) (fun h34 => ?_)
  · skip
    refine zv_bipush (n := 49) dX1_send_47 rfl (v := (-2)) (by decide) ?_
    refine zv_iret dX1_send_49 rfl (by decide) (by decide) ?_
    first
      | exact zCh_same (by unfold fSnd; rw [if_neg (fBad_j hN hi), if_neg (fBad_j hN hj), if_pos h34]) hC
      | exact zCh_same (by unfold fSnd; rw [if_neg (fBad_j hN hi), if_neg (fBad_j hN hj), if_neg h34, if_pos e44]) hC
  · skip
    refine zv_iload_n (n := 38) dX1_send_37 rfl rfl ?_
    refine zv_iconst (n := 39) dX1_send_38 rfl (v := 1) (by decide) ?_
    refine zv_bipush (n := 41) dX1_send_39 rfl (v := 20) (by decide) ?_
    refine zv_callSNP (n := 44) (As := [.int l, .int 1, .int 20]) (rest := []) (kc' := 0) (ks' := 0) dX1_send_41 rfl (c_X8_isBetween l 1 20) rfl kX8_isBetween lX1_104 rfl rfl ⟨by decide, by decide⟩ (Nat.le_of_ble_eq_true rfl) rfl rfl (by decide) (by decide) ?_
    refine zv_if_ne (n := 47) (tgt := 50) dX1_send_44 (by decide) rfl (fun h44 => ?_) (fun h44 => ?_)
    · skip
      have e44 := fB_ne h44
      refine zv_aload (n := 52) dX1_send_50 rfl rfl ?_
      refine zv_getN (n := 55) dX1_send_52 rfl (hC.rk (by have := hN.2; omega)) FX1_101 rfl ?_
      refine zv_iload_n (n := 56) dX1_send_55 rfl rfl ?_
      refine zv_icmp_lt (n := 59) (tgt := 71) dX1_send_56 (by decide) rfl (fun h56 => ?_) (fun h56 => ?_)
      · skip
        refine zv_bipush (n := 73) dX1_send_71 rfl (v := (-4)) (by decide) ?_
        refine zv_iret dX1_send_73 rfl (by decide) (by decide) ?_
        have h12 := hN.2
        first
          | exact zCh_same (by unfold fSnd; rw [if_neg (fBad_j hN hi), if_neg (fBad_j hN hj), if_neg h34, if_neg (by rw [e44]; decide), nI_clamp (by have := hN.2; omega), nI_clamp (by have := hN.2; omega), if_pos h56]) hC
          | exact zCh_same (by unfold fSnd; rw [if_neg (fBad_j hN hi), if_neg (fBad_j hN hj), if_neg h34, if_neg (by rw [e44]; decide), nI_clamp (by have := hN.2; omega), nI_clamp (by have := hN.2; omega), if_neg h56, if_pos (Int32.not_le.mp h68)]) hC
      · skip
        refine zv_aload (n := 61) dX1_send_59 rfl rfl ?_
        refine zv_getN (n := 64) dX1_send_61 rfl (hC.rk (by have := hN.2; omega)) FX1_101 rfl ?_
        refine zv_iload_n (n := 65) dX1_send_64 rfl rfl ?_
        refine zv_iadd (n := 66) dX1_send_65 rfl ?_
        refine zv_bipush (n := 68) dX1_send_66 rfl (v := 20) (by decide) ?_
        refine zv_icmp_le (n := 71) (tgt := 74) dX1_send_68 (by decide) rfl (fun h68 => ?_) (fun h68 => ?_)
        · skip
          have h12 := hN.2
          have hij : i ≠ j := fun e => h34 (by rw [e])
          have hne : c (8 + j) ≠ c (8 + i) := hC.ne (by omega) (by omega) (by omega)
          refine zv_aload (n := 76) dX1_send_74 rfl rfl ?_
          refine zv_dup (n := 77) dX1_send_76 rfl rfl ?_
          refine zv_getN (n := 80) dX1_send_77 rfl (hC.rk (by have := hN.2; omega)) FX1_101 rfl ?_
          refine zv_iload_n (n := 81) dX1_send_80 rfl rfl ?_
          refine zv_isub (n := 82) dX1_send_81 rfl ?_
          refine zv_putN (n := 85) dX1_send_82 rfl (hC.rk (by have := hN.2; omega)) FX1_101 zcl_X4 zty_X4_2 rfl rfl (Nat.le_of_ble_eq_true rfl) ?_
          refine zv_aload (n := 87) dX1_send_85 rfl rfl ?_
          refine zv_dup (n := 88) dX1_send_87 rfl rfl ?_
          refine zv_getN (n := 91) dX1_send_88 rfl ((zup_n hne).trans (hC.rk (by omega))) FX1_101 rfl ?_
          refine zv_iload_n (n := 92) dX1_send_91 rfl rfl ?_
          refine zv_iadd (n := 93) dX1_send_92 rfl ?_
          refine zv_putN (n := 96) dX1_send_93 rfl ((zup_n hne).trans (hC.rk (by omega))) FX1_101 zcl_X4 zty_X4_2 rfl rfl (Nat.le_of_ble_eq_true rfl) ?_
          refine zv_aload (n := 98) dX1_send_96 rfl rfl ?_
          refine zv_getN (n := 101) dX1_send_98 rfl zup_s FX1_101 rfl ?_
          refine zv_iret dX1_send_101 rfl (by decide) (by decide) ?_
          have h1 := hC.putR (i := i) (by omega) (j := 2) (by decide) (S (3 + 3 * i) - l)
          rw [show 1 + 3 * i + 2 = 3 + 3 * i by omega] at h1
          have h2 := h1.putR (i := j) (by omega) (j := 2) (by decide) (S (3 + 3 * j) + l)
          rw [show 1 + 3 * j + 2 = 3 + 3 * j by omega, u_n (by omega), u_n (by omega), u_n (by omega)] at h2
          refine zCh_new (by unfold fSnd; rw [if_neg (fBad_j hN hi), if_neg (fBad_j hN hj), if_neg h34, if_neg (by rw [e44]; decide), nI_clamp (by have := hN.2; omega), nI_clamp (by have := hN.2; omega), if_neg h56, if_neg (Int32.not_lt.mpr h68)]) h2 ((zOff.up (by omega)).tr (zOff.up (by omega)))
        · skip
          refine zv_bipush (n := 73) dX1_send_71 rfl (v := (-4)) (by decide) ?_
          refine zv_iret dX1_send_73 rfl (by decide) (by decide) ?_
          have h12 := hN.2
          first
            | exact zCh_same (by unfold fSnd; rw [if_neg (fBad_j hN hi), if_neg (fBad_j hN hj), if_neg h34, if_neg (by rw [e44]; decide), nI_clamp (by have := hN.2; omega), nI_clamp (by have := hN.2; omega), if_pos h56]) hC
            | exact zCh_same (by unfold fSnd; rw [if_neg (fBad_j hN hi), if_neg (fBad_j hN hj), if_neg h34, if_neg (by rw [e44]; decide), nI_clamp (by have := hN.2; omega), nI_clamp (by have := hN.2; omega), if_neg h56, if_pos (Int32.not_le.mp h68)]) hC
    · skip
      have e44 := fB_eq h44
      refine zv_bipush (n := 49) dX1_send_47 rfl (v := (-2)) (by decide) ?_
      refine zv_iret dX1_send_49 rfl (by decide) (by decide) ?_
      first
        | exact zCh_same (by unfold fSnd; rw [if_neg (fBad_j hN hi), if_neg (fBad_j hN hj), if_pos h34]) hC
        | exact zCh_same (by unfold fSnd; rw [if_neg (fBad_j hN hi), if_neg (fBad_j hN hj), if_neg h34, if_pos e44]) hC

theorem c_X1_send {σ : zSg} {M : zM} {c : Nat → Nat} {S : zS} (hC : zCen M c S) (hN : zNn S) (x y l : Int32) : zCon μX1_send (3, 0, 0) σ [.ref (c 0), .int x, .int y, .int l] M (zCh c M (fSnd S x y l)) := by
  by_cases hx : fBad S x
  · exact c_X1_send_0 hC hN hx y l
  · obtain ⟨i, hi, rfl⟩ := fBad_n hN hx
    by_cases hy : fBad S y
    · exact c_X1_send_10 hC hN hi hy l
    · obtain ⟨j, hj, rfl⟩ := fBad_n hN hy
      exact c_X1_send_11 hC hN hi hj l

set_option maxRecDepth 100000 in
set_option maxHeartbeats 4000000 in
theorem c_X1_changeLimit {σ : zSg} {M : zM} {c : Nat → Nat} {S : zS} (hC : zCen M c S) (v : Int32) : zCon μX1_changeLimit (3, 0, 0) σ [.ref (c 0), .int v] M (zCh c M (fLim S v)) := by
  refine zCon.of (plainFor_of_name (by decide)) rfl (Nat.le_of_ble_eq_true rfl) ?_
  change zV _ _ _ _ _ 0 0 0 [(0, .ref (c 0)), (1, .int v)] []
  refine zv_iload_n (n := 1) dX1_changeLimit_0 rfl rfl ?_
  refine zv_bipush (n := 3) dX1_changeLimit_1 rfl (v := 20) (by decide) ?_
  refine zv_bipush (n := 5) dX1_changeLimit_3 rfl (v := 60) (by decide) ?_
  refine zv_callSNP (n := 8) (As := [.int v, .int 20, .int 60]) (rest := []) (kc' := 0) (ks' := 0) dX1_changeLimit_5 rfl (c_X8_isBetween v 20 60) rfl kX8_isBetween lX1_104 rfl rfl ⟨by decide, by decide⟩ (Nat.le_of_ble_eq_true rfl) rfl rfl (by decide) (by decide) ?_
  refine zv_if_ne (n := 11) (tgt := 14) dX1_changeLimit_8 (by decide) rfl (fun h8 => ?_) (fun h8 => ?_)
  · skip
    have e1 := fB_ne h8
    refine zv_aload_n (n := 15) dX1_changeLimit_14 rfl rfl ?_
    refine zv_get (n := 18) dX1_changeLimit_15 rfl hC.c0 FX1_29 rfl ?_
    refine zv_istore_n (n := 19) (lv' := [(2, .int (S 48)), (0, .ref (c 0)), (1, .int v)]) dX1_changeLimit_18 rfl (by decide) rfl ?_
    refine zv_aload_n (n := 20) dX1_changeLimit_19 rfl rfl ?_
    refine zv_iload_n (n := 21) dX1_changeLimit_20 rfl rfl ?_
    refine zv_put (n := 24) dX1_changeLimit_21 rfl hC.c0 FX1_29 zcl_X1 zty_X1_3 rfl rfl (Nat.le_of_ble_eq_true rfl) ?_
    refine zv_iload_n (n := 25) dX1_changeLimit_24 rfl rfl ?_
    refine zv_iret dX1_changeLimit_25 rfl (by decide) (by decide) ?_
    first
      | exact zCh_same (by unfold fLim; rw [if_pos e1]) hC
      | exact zCh_new (by unfold fLim; rw [if_neg (by rw [e1]; decide)]) (hC.put0 (k := 3) (by decide) (by decide) v) (zOff.up (by decide))
  · skip
    have e1 := fB_eq h8
    refine zv_bipush (n := 13) dX1_changeLimit_11 rfl (v := (-2)) (by decide) ?_
    refine zv_iret dX1_changeLimit_13 rfl (by decide) (by decide) ?_
    first
      | exact zCh_same (by unfold fLim; rw [if_pos e1]) hC
      | exact zCh_new (by unfold fLim; rw [if_neg (by rw [e1]; decide)]) (hC.put0 (k := 3) (by decide) (by decide) v) (zOff.up (by decide))

set_option maxRecDepth 100000 in
set_option maxHeartbeats 4000000 in
theorem c_X3_changeSpeed {σ : zSg} {M : zM} {c : Nat → Nat} {S : zS} (hC : zCen M c S) (a v : Int32) : zCon μX3_changeSpeed (3, 0, 0) σ [.ref (c 2), .int a, .int v] M (zCh c M (fFan S a v)) := by
  obtain ⟨f6, hf6, gf6⟩ := hC.c6
  refine zCon.of (plainFor_of_name (by decide)) rfl (Nat.le_of_ble_eq_true rfl) ?_
  change zV _ _ _ _ _ 0 0 0 [(0, .ref (c 2)), (1, .int a), (2, .int v)] []
  refine zv_iload_n (n := 1) dX3_changeSpeed_0 rfl rfl ?_
  refine zv_callSNP (n := 4) (As := [.int a]) (rest := []) (kc' := 0) (ks' := 0) dX3_changeSpeed_1 rfl (c_X8_isAisle a) rfl kX8_isAisle lX3_23 rfl rfl ⟨by decide, by decide⟩ (Nat.le_of_ble_eq_true rfl) rfl rfl (by decide) (by decide) ?_
  refine zv_if_ne (n := 7) (tgt := 9) dX3_changeSpeed_4 (by decide) rfl (fun h4 => ?_) (fun h4 => ?_)
  · skip
    have e4 := fB_ne h4
    refine zv_iload_n (n := 10) dX3_changeSpeed_9 rfl rfl ?_
    refine zv_callSNP (n := 13) (As := [.int v]) (rest := []) (kc' := 0) (ks' := 0) dX3_changeSpeed_10 rfl (c_X8_isSpeed v) rfl kX8_isSpeed lX3_27 rfl rfl ⟨by decide, by decide⟩ (Nat.le_of_ble_eq_true rfl) rfl rfl (by decide) (by decide) ?_
    refine zv_if_ne (n := 16) (tgt := 19) dX3_changeSpeed_13 (by decide) rfl (fun h13 => ?_) (fun h13 => ?_)
    · skip
      have e13 := fB_ne h13
      refine zv_aload_n (n := 20) dX3_changeSpeed_19 rfl rfl ?_
      refine zv_get (n := 23) dX3_changeSpeed_20 rfl hC.c2 FX3_9 rfl ?_
      refine zv_iload_n (n := 24) dX3_changeSpeed_23 rfl rfl ?_
      refine zv_callSNP (n := 27) (As := [.ref (c 6), .int a]) (rest := []) (kc' := 0) (ks' := 0) dX3_changeSpeed_24 rfl (c_X8_at hf6 (by decide) a) rfl kX8_at lX3_18 rfl rfl ⟨by decide, by decide⟩ (Nat.le_of_ble_eq_true rfl) rfl rfl (by decide) (by decide) ?_
      rw [show fAt 4 f6 a = fSpd S a from fAt_cong (by decide) gf6 _]
      refine zv_istore_n (n := 28) (lv' := [(3, .int (fSpd S a)), (0, .ref (c 2)), (1, .int a), (2, .int v)]) dX3_changeSpeed_27 rfl (by decide) rfl ?_
      refine zv_aload_n (n := 29) dX3_changeSpeed_28 rfl rfl ?_
      refine zv_get (n := 32) dX3_changeSpeed_29 rfl hC.c2 FX3_9 rfl ?_
      refine zv_iload_n (n := 33) dX3_changeSpeed_32 rfl rfl ?_
      refine zv_iload_n (n := 34) dX3_changeSpeed_33 rfl rfl ?_
      refine zv_callSNF0 (n := 37) (As := [.ref (c 6), .int a, .int v]) (rest := []) (kc' := 0) (ks' := 0) dX3_changeSpeed_34 rfl (c_X8_put hf6 (by decide) a v) rfl kX8_put lX3_30 rfl rfl ⟨by decide, by decide⟩ (Nat.le_of_ble_eq_true rfl) rfl rfl (by decide) (by decide) (fun M1 hq => ?_)
      subst hq
      refine zv_iload_n (n := 38) dX3_changeSpeed_37 rfl rfl ?_
      refine zv_iret dX3_changeSpeed_38 rfl (by decide) (by decide) ?_
      obtain ⟨j, hj, rfl⟩ := fBt_n (n := 3) (by decide) e4
      rw [if_neg (nI_pos (by omega)), if_neg (by rw [nI_leI (by decide) (by omega)]; omega), nI_clamp (by omega)]
      exact zCh_new (by unfold fFan; rw [if_neg (by rw [e4]; decide), if_neg (by rw [e13]; decide), nI_clamp (by omega)]) (hC.put6 (by omega) gf6 v) (zOff.up (by decide))
    · skip
      have e13 := fB_eq h13
      refine zv_bipush (n := 18) dX3_changeSpeed_16 rfl (v := (-2)) (by decide) ?_
      refine zv_iret dX3_changeSpeed_18 rfl (by decide) (by decide) ?_
      exact zCh_same (by unfold fFan; rw [if_neg (by rw [e4]; decide), if_pos e13]) hC
  · skip
    have e4 := fB_eq h4
    refine zv_iconst (n := 8) dX3_changeSpeed_7 rfl (v := (-1)) (by decide) ?_
    refine zv_iret dX3_changeSpeed_8 rfl (by decide) (by decide) ?_
    exact zCh_same (by unfold fFan; rw [if_pos e4]) hC

set_option maxRecDepth 100000 in
set_option maxHeartbeats 4000000 in
theorem c_X3_changePoint {σ : zSg} {M : zM} {c : Nat → Nat} {S : zS} (hC : zCen M c S) (p v : Int32) : zCon μX3_changePoint (3, 0, 0) σ [.ref (c 2), .int p, .int v] M (zCh c M (fCrv S p v)) := by
  obtain ⟨f7, hf7, gf7⟩ := hC.c7
  refine zCon.of (plainFor_of_name (by decide)) rfl (Nat.le_of_ble_eq_true rfl) ?_
  change zV _ _ _ _ _ 0 0 0 [(0, .ref (c 2)), (1, .int p), (2, .int v)] []
  refine zv_iload_n (n := 1) dX3_changePoint_0 rfl rfl ?_
  refine zv_callSNP (n := 4) (As := [.int p]) (rest := []) (kc' := 0) (ks' := 0) dX3_changePoint_1 rfl (c_X8_isCurvePoint p) rfl kX8_isCurvePoint lX3_34 rfl rfl ⟨by decide, by decide⟩ (Nat.le_of_ble_eq_true rfl) rfl rfl (by decide) (by decide) ?_
  refine zv_if_ne (n := 7) (tgt := 9) dX3_changePoint_4 (by decide) rfl (fun h4 => ?_) (fun h4 => ?_)
  · skip
    have e4 := fB_ne h4
    refine zv_iload_n (n := 10) dX3_changePoint_9 rfl rfl ?_
    refine zv_iconst (n := 11) dX3_changePoint_10 rfl (v := 0) (by decide) ?_
    refine zv_sipush (n := 14) dX3_changePoint_11 rfl (v := 200) (by decide) ?_
    refine zv_callSNP (n := 17) (As := [.int v, .int 0, .int 200]) (rest := []) (kc' := 0) (ks' := 0) dX3_changePoint_14 rfl (c_X8_isBetween v 0 200) rfl kX8_isBetween lX3_37 rfl rfl ⟨by decide, by decide⟩ (Nat.le_of_ble_eq_true rfl) rfl rfl (by decide) (by decide) ?_
    refine zv_if_ne (n := 20) (tgt := 23) dX3_changePoint_17 (by decide) rfl (fun h17 => ?_) (fun h17 => ?_)
    · skip
      have e17 := fB_ne h17
      refine zv_iload_n (n := 24) dX3_changePoint_23 rfl rfl ?_
      refine zv_if_ne (n := 27) (tgt := 31) dX3_changePoint_24 (by decide) rfl (fun h24 => ?_) (fun h24 => ?_)
      · skip
        refine zv_aload_n (n := 32) dX3_changePoint_31 rfl rfl ?_
        refine zv_get (n := 35) dX3_changePoint_32 rfl hC.c2 FX3_15 rfl ?_
        refine zv_iload_n (n := 36) dX3_changePoint_35 rfl rfl ?_
        refine zv_iconst (n := 37) dX3_changePoint_36 rfl (v := 1) (by decide) ?_
        refine zv_isub (n := 38) dX3_changePoint_37 rfl ?_
        refine zv_callSNP (n := 41) (As := [.ref (c 7), .int (p - 1)]) (rest := []) (kc' := 0) (ks' := 0) dX3_changePoint_38 rfl (c_X8_at hf7 (by decide) (p - 1)) rfl kX8_at lX3_18 rfl rfl ⟨by decide, by decide⟩ (Nat.le_of_ble_eq_true rfl) rfl rfl (by decide) (by decide) ?_
        rw [show fAt 3 f7 (p - 1) = fPt S (p - 1) from fAt_cong (by decide) gf7 _]
        refine zv_istore_n (n := 42) (lv' := [(3, .int (fPt S (p - 1))), (0, .ref (c 2)), (1, .int p), (2, .int v)]) dX3_changePoint_41 rfl (by decide) rfl ?_
        refine zv_iload_n (n := 43) dX3_changePoint_42 rfl rfl ?_
        refine zv_iconst (n := 44) dX3_changePoint_43 rfl (v := 2) (by decide) ?_
        refine zv_icmp_ne (n := 47) (tgt := 53) dX3_changePoint_44 (by decide) rfl (fun h44 => ?_) (fun h44 => ?_)
        · skip
          refine zv_aload_n (n := 54) dX3_changePoint_53 rfl rfl ?_
          refine zv_get (n := 57) dX3_changePoint_54 rfl hC.c2 FX3_15 rfl ?_
          refine zv_iload_n (n := 58) dX3_changePoint_57 rfl rfl ?_
          refine zv_iconst (n := 59) dX3_changePoint_58 rfl (v := 1) (by decide) ?_
          refine zv_iadd (n := 60) dX3_changePoint_59 rfl ?_
          refine zv_callSNP (n := 63) (As := [.ref (c 7), .int (p + 1)]) (rest := []) (kc' := 0) (ks' := 0) dX3_changePoint_60 rfl (c_X8_at hf7 (by decide) (p + 1)) rfl kX8_at lX3_18 rfl rfl ⟨by decide, by decide⟩ (Nat.le_of_ble_eq_true rfl) rfl rfl (by decide) (by decide) ?_
          rw [show fAt 3 f7 (p + 1) = fPt S (p + 1) from fAt_cong (by decide) gf7 _]
          refine zv_istore (n := 65) (lv' := [(4, .int (fPt S (p + 1))), (3, .int (fPt S (p - 1))), (0, .ref (c 2)), (1, .int p), (2, .int v)]) dX3_changePoint_63 rfl (by decide) rfl ?_
          refine zv_iload_n (n := 66) dX3_changePoint_65 rfl rfl ?_
          refine zv_iload_n (n := 67) dX3_changePoint_66 rfl rfl ?_
          refine zv_iload (n := 69) dX3_changePoint_67 rfl rfl ?_
          refine zv_callSNP (n := 72) (As := [.int v, .int (fPt S (p - 1)), .int (fPt S (p + 1))]) (rest := []) (kc' := 0) (ks' := 0) dX3_changePoint_69 rfl (c_X8_isBetween v (fPt S (p - 1)) (fPt S (p + 1))) rfl kX8_isBetween lX3_37 rfl rfl ⟨by decide, by decide⟩ (Nat.le_of_ble_eq_true rfl) rfl rfl (by decide) (by decide) ?_
          refine zv_if_ne (n := 75) (tgt := 78) dX3_changePoint_72 (by decide) rfl (fun h72 => ?_) (fun h72 => ?_)
          · skip
            have e72 := fB_ne h72
            refine zv_aload_n (n := 79) dX3_changePoint_78 rfl rfl ?_
            refine zv_get (n := 82) dX3_changePoint_79 rfl hC.c2 FX3_15 rfl ?_
            refine zv_iload_n (n := 83) dX3_changePoint_82 rfl rfl ?_
            refine zv_callSNP (n := 86) (As := [.ref (c 7), .int p]) (rest := []) (kc' := 0) (ks' := 0) dX3_changePoint_83 rfl (c_X8_at hf7 (by decide) (p)) rfl kX8_at lX3_18 rfl rfl ⟨by decide, by decide⟩ (Nat.le_of_ble_eq_true rfl) rfl rfl (by decide) (by decide) ?_
            rw [show fAt 3 f7 (p) = fPt S (p) from fAt_cong (by decide) gf7 _]
            refine zv_istore (n := 88) (lv' := [(5, .int (fPt S (p))), (4, .int (fPt S (p + 1))), (3, .int (fPt S (p - 1))), (0, .ref (c 2)), (1, .int p), (2, .int v)]) dX3_changePoint_86 rfl (by decide) rfl ?_
            refine zv_aload_n (n := 89) dX3_changePoint_88 rfl rfl ?_
            refine zv_get (n := 92) dX3_changePoint_89 rfl hC.c2 FX3_15 rfl ?_
            refine zv_iload_n (n := 93) dX3_changePoint_92 rfl rfl ?_
            refine zv_iload_n (n := 94) dX3_changePoint_93 rfl rfl ?_
            refine zv_callSNF0 (n := 97) (As := [.ref (c 7), .int p, .int v]) (rest := []) (kc' := 0) (ks' := 0) dX3_changePoint_94 rfl (c_X8_put hf7 (by decide) p v) rfl kX8_put lX3_30 rfl rfl ⟨by decide, by decide⟩ (Nat.le_of_ble_eq_true rfl) rfl rfl (by decide) (by decide) (fun M1 hq => ?_)
            subst hq
            refine zv_iload (n := 99) dX3_changePoint_97 rfl rfl ?_
            refine zv_iret dX3_changePoint_99 rfl (by decide) (by decide) ?_
            have elo : fLow S p = (fPt S (p - 1)) := if_neg h24
            have ehi : fHigh S p = (fPt S (p + 1)) := if_neg h44
            obtain ⟨j, hj, rfl⟩ := fBt_n (n := 2) (by decide) e4
            rw [if_neg (nI_pos (by omega)), if_neg (by rw [nI_leI (by decide) (by omega)]; omega), nI_clamp (by omega)]
            exact zCh_new (by unfold fCrv; rw [if_neg (by rw [e4]; decide), if_neg (by rw [e17]; decide), elo, ehi, if_neg (by rw [e72]; decide), nI_clamp (by omega)]) (hC.put7 (by omega) gf7 v) (zOff.up (by decide))
          · skip
            have e72 := fB_eq h72
            refine zv_bipush (n := 77) dX3_changePoint_75 rfl (v := (-4)) (by decide) ?_
            refine zv_iret dX3_changePoint_77 rfl (by decide) (by decide) ?_
            have elo : fLow S p = (fPt S (p - 1)) := if_neg h24
            have ehi : fHigh S p = (fPt S (p + 1)) := if_neg h44
            exact zCh_same (by unfold fCrv; rw [if_neg (by rw [e4]; decide), if_neg (by rw [e17]; decide), elo, ehi, if_pos e72]) hC
        · skip
          refine zv_sipush (n := 50) dX3_changePoint_47 rfl (v := 200) (by decide) ?_
          refine zv_goto (tgt := 63) dX3_changePoint_50 (by decide) ?_
          refine zv_istore (n := 65) (lv' := [(4, .int 200), (3, .int (fPt S (p - 1))), (0, .ref (c 2)), (1, .int p), (2, .int v)]) dX3_changePoint_63 rfl (by decide) rfl ?_
          refine zv_iload_n (n := 66) dX3_changePoint_65 rfl rfl ?_
          refine zv_iload_n (n := 67) dX3_changePoint_66 rfl rfl ?_
          refine zv_iload (n := 69) dX3_changePoint_67 rfl rfl ?_
          refine zv_callSNP (n := 72) (As := [.int v, .int (fPt S (p - 1)), .int 200]) (rest := []) (kc' := 0) (ks' := 0) dX3_changePoint_69 rfl (c_X8_isBetween v (fPt S (p - 1)) 200) rfl kX8_isBetween lX3_37 rfl rfl ⟨by decide, by decide⟩ (Nat.le_of_ble_eq_true rfl) rfl rfl (by decide) (by decide) ?_
          refine zv_if_ne (n := 75) (tgt := 78) dX3_changePoint_72 (by decide) rfl (fun h72 => ?_) (fun h72 => ?_)
          · skip
            have e72 := fB_ne h72
            refine zv_aload_n (n := 79) dX3_changePoint_78 rfl rfl ?_
            refine zv_get (n := 82) dX3_changePoint_79 rfl hC.c2 FX3_15 rfl ?_
            refine zv_iload_n (n := 83) dX3_changePoint_82 rfl rfl ?_
            refine zv_callSNP (n := 86) (As := [.ref (c 7), .int p]) (rest := []) (kc' := 0) (ks' := 0) dX3_changePoint_83 rfl (c_X8_at hf7 (by decide) (p)) rfl kX8_at lX3_18 rfl rfl ⟨by decide, by decide⟩ (Nat.le_of_ble_eq_true rfl) rfl rfl (by decide) (by decide) ?_
            rw [show fAt 3 f7 (p) = fPt S (p) from fAt_cong (by decide) gf7 _]
            refine zv_istore (n := 88) (lv' := [(5, .int (fPt S (p))), (4, .int 200), (3, .int (fPt S (p - 1))), (0, .ref (c 2)), (1, .int p), (2, .int v)]) dX3_changePoint_86 rfl (by decide) rfl ?_
            refine zv_aload_n (n := 89) dX3_changePoint_88 rfl rfl ?_
            refine zv_get (n := 92) dX3_changePoint_89 rfl hC.c2 FX3_15 rfl ?_
            refine zv_iload_n (n := 93) dX3_changePoint_92 rfl rfl ?_
            refine zv_iload_n (n := 94) dX3_changePoint_93 rfl rfl ?_
            refine zv_callSNF0 (n := 97) (As := [.ref (c 7), .int p, .int v]) (rest := []) (kc' := 0) (ks' := 0) dX3_changePoint_94 rfl (c_X8_put hf7 (by decide) p v) rfl kX8_put lX3_30 rfl rfl ⟨by decide, by decide⟩ (Nat.le_of_ble_eq_true rfl) rfl rfl (by decide) (by decide) (fun M1 hq => ?_)
            subst hq
            refine zv_iload (n := 99) dX3_changePoint_97 rfl rfl ?_
            refine zv_iret dX3_changePoint_99 rfl (by decide) (by decide) ?_
            have elo : fLow S p = (fPt S (p - 1)) := if_neg h24
            have ehi : fHigh S p = 200 := if_pos h44
            obtain ⟨j, hj, rfl⟩ := fBt_n (n := 2) (by decide) e4
            rw [if_neg (nI_pos (by omega)), if_neg (by rw [nI_leI (by decide) (by omega)]; omega), nI_clamp (by omega)]
            exact zCh_new (by unfold fCrv; rw [if_neg (by rw [e4]; decide), if_neg (by rw [e17]; decide), elo, ehi, if_neg (by rw [e72]; decide), nI_clamp (by omega)]) (hC.put7 (by omega) gf7 v) (zOff.up (by decide))
          · skip
            have e72 := fB_eq h72
            refine zv_bipush (n := 77) dX3_changePoint_75 rfl (v := (-4)) (by decide) ?_
            refine zv_iret dX3_changePoint_77 rfl (by decide) (by decide) ?_
            have elo : fLow S p = (fPt S (p - 1)) := if_neg h24
            have ehi : fHigh S p = 200 := if_pos h44
            exact zCh_same (by unfold fCrv; rw [if_neg (by rw [e4]; decide), if_neg (by rw [e17]; decide), elo, ehi, if_pos e72]) hC
      · skip
        refine zv_iconst (n := 28) dX3_changePoint_27 rfl (v := 0) (by decide) ?_
        refine zv_goto (tgt := 41) dX3_changePoint_28 (by decide) ?_
        refine zv_istore_n (n := 42) (lv' := [(3, .int 0), (0, .ref (c 2)), (1, .int p), (2, .int v)]) dX3_changePoint_41 rfl (by decide) rfl ?_
        refine zv_iload_n (n := 43) dX3_changePoint_42 rfl rfl ?_
        refine zv_iconst (n := 44) dX3_changePoint_43 rfl (v := 2) (by decide) ?_
        refine zv_icmp_ne (n := 47) (tgt := 53) dX3_changePoint_44 (by decide) rfl (fun h44 => ?_) (fun h44 => ?_)
        · skip
          refine zv_aload_n (n := 54) dX3_changePoint_53 rfl rfl ?_
          refine zv_get (n := 57) dX3_changePoint_54 rfl hC.c2 FX3_15 rfl ?_
          refine zv_iload_n (n := 58) dX3_changePoint_57 rfl rfl ?_
          refine zv_iconst (n := 59) dX3_changePoint_58 rfl (v := 1) (by decide) ?_
          refine zv_iadd (n := 60) dX3_changePoint_59 rfl ?_
          refine zv_callSNP (n := 63) (As := [.ref (c 7), .int (p + 1)]) (rest := []) (kc' := 0) (ks' := 0) dX3_changePoint_60 rfl (c_X8_at hf7 (by decide) (p + 1)) rfl kX8_at lX3_18 rfl rfl ⟨by decide, by decide⟩ (Nat.le_of_ble_eq_true rfl) rfl rfl (by decide) (by decide) ?_
          rw [show fAt 3 f7 (p + 1) = fPt S (p + 1) from fAt_cong (by decide) gf7 _]
          refine zv_istore (n := 65) (lv' := [(4, .int (fPt S (p + 1))), (3, .int 0), (0, .ref (c 2)), (1, .int p), (2, .int v)]) dX3_changePoint_63 rfl (by decide) rfl ?_
          refine zv_iload_n (n := 66) dX3_changePoint_65 rfl rfl ?_
          refine zv_iload_n (n := 67) dX3_changePoint_66 rfl rfl ?_
          refine zv_iload (n := 69) dX3_changePoint_67 rfl rfl ?_
          refine zv_callSNP (n := 72) (As := [.int v, .int 0, .int (fPt S (p + 1))]) (rest := []) (kc' := 0) (ks' := 0) dX3_changePoint_69 rfl (c_X8_isBetween v 0 (fPt S (p + 1))) rfl kX8_isBetween lX3_37 rfl rfl ⟨by decide, by decide⟩ (Nat.le_of_ble_eq_true rfl) rfl rfl (by decide) (by decide) ?_
          refine zv_if_ne (n := 75) (tgt := 78) dX3_changePoint_72 (by decide) rfl (fun h72 => ?_) (fun h72 => ?_)
          · skip
            have e72 := fB_ne h72
            refine zv_aload_n (n := 79) dX3_changePoint_78 rfl rfl ?_
            refine zv_get (n := 82) dX3_changePoint_79 rfl hC.c2 FX3_15 rfl ?_
            refine zv_iload_n (n := 83) dX3_changePoint_82 rfl rfl ?_
            refine zv_callSNP (n := 86) (As := [.ref (c 7), .int p]) (rest := []) (kc' := 0) (ks' := 0) dX3_changePoint_83 rfl (c_X8_at hf7 (by decide) (p)) rfl kX8_at lX3_18 rfl rfl ⟨by decide, by decide⟩ (Nat.le_of_ble_eq_true rfl) rfl rfl (by decide) (by decide) ?_
            rw [show fAt 3 f7 (p) = fPt S (p) from fAt_cong (by decide) gf7 _]
            refine zv_istore (n := 88) (lv' := [(5, .int (fPt S (p))), (4, .int (fPt S (p + 1))), (3, .int 0), (0, .ref (c 2)), (1, .int p), (2, .int v)]) dX3_changePoint_86 rfl (by decide) rfl ?_
            refine zv_aload_n (n := 89) dX3_changePoint_88 rfl rfl ?_
            refine zv_get (n := 92) dX3_changePoint_89 rfl hC.c2 FX3_15 rfl ?_
            refine zv_iload_n (n := 93) dX3_changePoint_92 rfl rfl ?_
            refine zv_iload_n (n := 94) dX3_changePoint_93 rfl rfl ?_
            refine zv_callSNF0 (n := 97) (As := [.ref (c 7), .int p, .int v]) (rest := []) (kc' := 0) (ks' := 0) dX3_changePoint_94 rfl (c_X8_put hf7 (by decide) p v) rfl kX8_put lX3_30 rfl rfl ⟨by decide, by decide⟩ (Nat.le_of_ble_eq_true rfl) rfl rfl (by decide) (by decide) (fun M1 hq => ?_)
            subst hq
            refine zv_iload (n := 99) dX3_changePoint_97 rfl rfl ?_
            refine zv_iret dX3_changePoint_99 rfl (by decide) (by decide) ?_
            have elo : fLow S p = 0 := if_pos h24
            have ehi : fHigh S p = (fPt S (p + 1)) := if_neg h44
            obtain ⟨j, hj, rfl⟩ := fBt_n (n := 2) (by decide) e4
            rw [if_neg (nI_pos (by omega)), if_neg (by rw [nI_leI (by decide) (by omega)]; omega), nI_clamp (by omega)]
            exact zCh_new (by unfold fCrv; rw [if_neg (by rw [e4]; decide), if_neg (by rw [e17]; decide), elo, ehi, if_neg (by rw [e72]; decide), nI_clamp (by omega)]) (hC.put7 (by omega) gf7 v) (zOff.up (by decide))
          · skip
            have e72 := fB_eq h72
            refine zv_bipush (n := 77) dX3_changePoint_75 rfl (v := (-4)) (by decide) ?_
            refine zv_iret dX3_changePoint_77 rfl (by decide) (by decide) ?_
            have elo : fLow S p = 0 := if_pos h24
            have ehi : fHigh S p = (fPt S (p + 1)) := if_neg h44
            exact zCh_same (by unfold fCrv; rw [if_neg (by rw [e4]; decide), if_neg (by rw [e17]; decide), elo, ehi, if_pos e72]) hC
        · skip
          refine zv_sipush (n := 50) dX3_changePoint_47 rfl (v := 200) (by decide) ?_
          refine zv_goto (tgt := 63) dX3_changePoint_50 (by decide) ?_
          refine zv_istore (n := 65) (lv' := [(4, .int 200), (3, .int 0), (0, .ref (c 2)), (1, .int p), (2, .int v)]) dX3_changePoint_63 rfl (by decide) rfl ?_
          refine zv_iload_n (n := 66) dX3_changePoint_65 rfl rfl ?_
          refine zv_iload_n (n := 67) dX3_changePoint_66 rfl rfl ?_
          refine zv_iload (n := 69) dX3_changePoint_67 rfl rfl ?_
          refine zv_callSNP (n := 72) (As := [.int v, .int 0, .int 200]) (rest := []) (kc' := 0) (ks' := 0) dX3_changePoint_69 rfl (c_X8_isBetween v 0 200) rfl kX8_isBetween lX3_37 rfl rfl ⟨by decide, by decide⟩ (Nat.le_of_ble_eq_true rfl) rfl rfl (by decide) (by decide) ?_
          refine zv_if_ne (n := 75) (tgt := 78) dX3_changePoint_72 (by decide) rfl (fun h72 => ?_) (fun h72 => ?_)
          · skip
            have e72 := fB_ne h72
            refine zv_aload_n (n := 79) dX3_changePoint_78 rfl rfl ?_
            refine zv_get (n := 82) dX3_changePoint_79 rfl hC.c2 FX3_15 rfl ?_
            refine zv_iload_n (n := 83) dX3_changePoint_82 rfl rfl ?_
            refine zv_callSNP (n := 86) (As := [.ref (c 7), .int p]) (rest := []) (kc' := 0) (ks' := 0) dX3_changePoint_83 rfl (c_X8_at hf7 (by decide) (p)) rfl kX8_at lX3_18 rfl rfl ⟨by decide, by decide⟩ (Nat.le_of_ble_eq_true rfl) rfl rfl (by decide) (by decide) ?_
            rw [show fAt 3 f7 (p) = fPt S (p) from fAt_cong (by decide) gf7 _]
            refine zv_istore (n := 88) (lv' := [(5, .int (fPt S (p))), (4, .int 200), (3, .int 0), (0, .ref (c 2)), (1, .int p), (2, .int v)]) dX3_changePoint_86 rfl (by decide) rfl ?_
            refine zv_aload_n (n := 89) dX3_changePoint_88 rfl rfl ?_
            refine zv_get (n := 92) dX3_changePoint_89 rfl hC.c2 FX3_15 rfl ?_
            refine zv_iload_n (n := 93) dX3_changePoint_92 rfl rfl ?_
            refine zv_iload_n (n := 94) dX3_changePoint_93 rfl rfl ?_
            refine zv_callSNF0 (n := 97) (As := [.ref (c 7), .int p, .int v]) (rest := []) (kc' := 0) (ks' := 0) dX3_changePoint_94 rfl (c_X8_put hf7 (by decide) p v) rfl kX8_put lX3_30 rfl rfl ⟨by decide, by decide⟩ (Nat.le_of_ble_eq_true rfl) rfl rfl (by decide) (by decide) (fun M1 hq => ?_)
            subst hq
            refine zv_iload (n := 99) dX3_changePoint_97 rfl rfl ?_
            refine zv_iret dX3_changePoint_99 rfl (by decide) (by decide) ?_
            have elo : fLow S p = 0 := if_pos h24
            have ehi : fHigh S p = 200 := if_pos h44
            obtain ⟨j, hj, rfl⟩ := fBt_n (n := 2) (by decide) e4
            rw [if_neg (nI_pos (by omega)), if_neg (by rw [nI_leI (by decide) (by omega)]; omega), nI_clamp (by omega)]
            exact zCh_new (by unfold fCrv; rw [if_neg (by rw [e4]; decide), if_neg (by rw [e17]; decide), elo, ehi, if_neg (by rw [e72]; decide), nI_clamp (by omega)]) (hC.put7 (by omega) gf7 v) (zOff.up (by decide))
          · skip
            have e72 := fB_eq h72
            refine zv_bipush (n := 77) dX3_changePoint_75 rfl (v := (-4)) (by decide) ?_
            refine zv_iret dX3_changePoint_77 rfl (by decide) (by decide) ?_
            have elo : fLow S p = 0 := if_pos h24
            have ehi : fHigh S p = 200 := if_pos h44
            exact zCh_same (by unfold fCrv; rw [if_neg (by rw [e4]; decide), if_neg (by rw [e17]; decide), elo, ehi, if_pos e72]) hC
    · skip
      have e17 := fB_eq h17
      refine zv_bipush (n := 22) dX3_changePoint_20 rfl (v := (-2)) (by decide) ?_
      refine zv_iret dX3_changePoint_22 rfl (by decide) (by decide) ?_
      exact zCh_same (by unfold fCrv; rw [if_neg (by rw [e4]; decide), if_pos e17]) hC
  · skip
    have e4 := fB_eq h4
    refine zv_iconst (n := 8) dX3_changePoint_7 rfl (v := (-1)) (by decide) ?_
    refine zv_iret dX3_changePoint_8 rfl (by decide) (by decide) ?_
    exact zCh_same (by unfold fCrv; rw [if_pos e4]) hC

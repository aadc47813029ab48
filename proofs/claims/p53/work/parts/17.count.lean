/-! What a centre counts and searches: laid by wip/p53/m17.py. -/
def fSmT (S : zS) : Nat → UInt64
  | 0 => FP.dconst0
  | i + 1 => FP.dadd (fSmT S i) (FP.f2d (fTmp S i))
theorem fSmT_n {S : zS} (hO : zOk S) : ∀ i, Jvm.FP.Core.dIsNaN (fSmT S i) = false
  | 0 => (by decide +kernel : Jvm.FP.Core.dIsNaN FP.dconst0 = false)
  | i + 1 => Jvm.FP.Core.dadd_out (fSmT_n hO i) (zf_d ((hO.tmp i).fin (by decide)))
def fWldF (S : zS) (a v : Int32) : Nat → Nat → Bool
  | 0, _ => false
  | k + 1, i => if fFind S a (nI i) = -1 then fWldF S a v k (i + 1) else if fOver S (fTmpW (fInl S a) (fRis S a v) (nI i)) = true then true else fWldF S a v k (i + 1)
def fWld (S : zS) (a v : Int32) : Bool := fWldF S a v 6 0
def fLst (S : zS) (a : Int32) : Int32 := fFst (fun s => !fWld S a (nI s)) 11 0
def fMs (S : zS) (i : Nat) : UInt32 := if i < fCnt S then fTmp S i else FP.fconst0
def fCmR (S : zS) (i j : Nat) : Bool := if Op.cmpValue (FP.fcmp (fMs S i) (fMs S j)) .l = 0 then (if S (3 + 3 * i) = S (3 + 3 * j) then decide (i < j) else decide (S (3 + 3 * j) < S (3 + 3 * i))) else !decide (Op.cmpValue (FP.fcmp (fMs S i) (fMs S j)) .l ≤ 0)
def fRkB (S : zS) (j : Nat) : Nat := fCb (fun i => fCmR S i j) (fCnt S)
def fRkR (S : zS) (r : Int32) : Int32 := fFst (fun i => decide (nI (fRkB S i) = r)) (fCnt S) 0
def fCmA (S : zS) (i j : Nat) : Bool := if fHeat S (nI i) = fHeat S (nI j) then (if fSto S (nI i) = fSto S (nI j) then decide (i < j) else decide (fSto S (nI j) < fSto S (nI i))) else decide (fHeat S (nI j) < fHeat S (nI i))
def fAiB (S : zS) (j : Nat) : Nat := fCb (fun i => fCmA S i j) 4
def fAiR (S : zS) (r : Int32) : Int32 := fFst (fun i => decide (nI (fAiB S i) = r)) 4 0
def fHts (S : zS) : Nat := fCb (fHot S) (fCnt S)

set_option maxRecDepth 100000 in
set_option maxHeartbeats 4000000 in
theorem l_X1_countHot {σ : zSg} {M : zM} {c : Nat → Nat} {S : zS} (hC : zCen M c S) (hO : zOk S) {Q : zO → zM → Prop} (hQ : Q (.inl (some (.int (nI (fHts S))))) M) : ∀ k i, i + k = fCnt S → ∀ x, x = nI (fCb (fHot S) i) → zV μX1_countHotRacks (6, 0, 0) σ Q M 0 0 4 [(2, .int (nI i)), (1, .int x), (0, .ref (c 0))] [] := by
  have hN := hO.1
  have h12 := hN.2
  intro k
  induction k with
  | zero =>
    intro i hi x hx
    refine zv_iload_n (n := 5) dX1_countHotRacks_4 rfl rfl ?_
    refine zv_aload_n (n := 6) dX1_countHotRacks_5 rfl rfl ?_
    refine zv_get (n := 9) dX1_countHotRacks_6 rfl hC.c0 FX1_12 rfl ?_
    refine zv_getN (n := 12) dX1_countHotRacks_9 rfl hC.c1 FX1_90 rfl ?_
    refine zv_icmp_ge (n := 15) (tgt := 45) dX1_countHotRacks_12 (by decide) rfl (fun h12_ => ?_) (fun h12_ => False.elim (absurd ((hN.le (by omega)).mpr (by omega)) h12_))
    refine zv_iload_n (n := 46) dX1_countHotRacks_45 rfl rfl ?_
    refine zv_iret dX1_countHotRacks_46 rfl (by decide) (by decide) ?_
    rw [hx, show i = fCnt S by omega]
    exact hQ
  | succ k ih =>
    intro i hi x hx
    have hb := fCb_le (fHot S) i
    refine zv_iload_n (n := 5) dX1_countHotRacks_4 rfl rfl ?_
    refine zv_aload_n (n := 6) dX1_countHotRacks_5 rfl rfl ?_
    refine zv_get (n := 9) dX1_countHotRacks_6 rfl hC.c0 FX1_12 rfl ?_
    refine zv_getN (n := 12) dX1_countHotRacks_9 rfl hC.c1 FX1_90 rfl ?_
    refine zv_icmp_ge (n := 15) (tgt := 45) dX1_countHotRacks_12 (by decide) rfl (fun h12_ => False.elim (absurd ((hN.le (by omega)).mp h12_) (by omega))) (fun h12_ => ?_)
    refine zv_aload_n (n := 16) dX1_countHotRacks_15 rfl rfl ?_
    refine zv_get (n := 19) dX1_countHotRacks_16 rfl hC.c0 FX1_12 rfl ?_
    refine zv_iload_n (n := 20) dX1_countHotRacks_19 rfl rfl ?_
    refine zv_callVP (n := 23) (As := [.int (nI i)]) (rest := []) (kc' := 0) (ks' := 0) dX1_countHotRacks_20 rfl (c_X5_get hC hN (i := i) (by omega)) rfl kX5_get lX1_82 hC.c1 rfl rfl rfl ⟨by decide, by decide⟩ (Nat.le_of_ble_eq_true rfl) rfl rfl (by decide) (by decide) ?_
    refine zv_astore_n (n := 24) (lv' := [(3, .ref (c (8 + i))), (2, .int (nI i)), (1, .int x), (0, .ref (c 0))]) dX1_countHotRacks_23 rfl (by decide) rfl ?_
    refine zv_aload_n (n := 25) dX1_countHotRacks_24 rfl rfl ?_
    refine zv_ifnull (n := 28) dX1_countHotRacks_25 rfl ?_
    refine zv_aload_n (n := 29) dX1_countHotRacks_28 rfl rfl ?_
    refine zv_aload_n (n := 30) dX1_countHotRacks_29 rfl rfl ?_
    refine zv_callVP (n := 33) (As := [.ref (c (8 + i))]) (rest := []) (kc' := 0) (ks' := 0) dX1_countHotRacks_30 rfl (c_X1_isRackHot hC hO (i := i) (by omega)) rfl kX1_isRackHot lX1_170 hC.c0 rfl rfl rfl ⟨by decide, by decide⟩ (Nat.le_of_ble_eq_true rfl) rfl rfl (by decide) (by decide) ?_
    refine zv_if_eq (n := 36) (tgt := 39) dX1_countHotRacks_33 (by decide) rfl (fun h33 => ?_) (fun h33 => ?_)
    · skip
      have e33 := fB_eq h33
      refine zv_iinc (n := 42) (v := nI (i + 1)) (lv' := [(2, .int (nI (i + 1))), (3, .ref (c (8 + i))), (1, .int x), (0, .ref (c 0))]) dX1_countHotRacks_39 rfl rfl (nI_1 i) (by decide) rfl ?_
      refine zv_goto (tgt := 4) dX1_countHotRacks_42 (by decide) ?_
      refine zv_lvs (lv' := [(2, .int (nI (i + 1))), (1, .int x), (0, .ref (c 0))]) ⟨rfl, rfl, rfl, trivial⟩ ?_
      exact ih (i + 1) (by omega) _ (by rw [fCb, e33, if_neg (by decide)]; exact hx)
    · skip
      have e33 := fB_ne h33
      refine zv_iinc (n := 39) (v := nI (fCb (fHot S) i + 1)) (lv' := [(1, .int (nI (fCb (fHot S) i + 1))), (3, .ref (c (8 + i))), (2, .int (nI i)), (0, .ref (c 0))]) dX1_countHotRacks_36 rfl rfl (by rw [hx]; exact nI_1 _) (by decide) rfl ?_
      refine zv_iinc (n := 42) (v := nI (i + 1)) (lv' := [(2, .int (nI (i + 1))), (1, .int (nI (fCb (fHot S) i + 1))), (3, .ref (c (8 + i))), (0, .ref (c 0))]) dX1_countHotRacks_39 rfl rfl (nI_1 i) (by decide) rfl ?_
      refine zv_goto (tgt := 4) dX1_countHotRacks_42 (by decide) ?_
      refine zv_lvs (lv' := [(2, .int (nI (i + 1))), (1, .int (nI (fCb (fHot S) i + 1))), (0, .ref (c 0))]) ⟨rfl, rfl, rfl, trivial⟩ ?_
      exact ih (i + 1) (by omega) _ (by rw [fCb, e33, if_pos rfl])

set_option maxRecDepth 100000 in
set_option maxHeartbeats 4000000 in
theorem c_X1_countHotRacks {σ : zSg} {M : zM} {c : Nat → Nat} {S : zS} (hC : zCen M c S) (hO : zOk S)  : zCon μX1_countHotRacks (6, 0, 0) σ [.ref (c 0)] M (zP (some (.int (nI (fHts S)))) M) := by
  refine zCon.of (plainFor_of_name (by decide)) rfl (Nat.le_of_ble_eq_true rfl) ?_
  change zV _ _ _ _ _ 0 0 0 [(0, .ref (c 0))] []
  refine zv_iconst (n := 1) dX1_countHotRacks_0 rfl (v := 0) (by decide) ?_
  refine zv_istore_n (n := 2) (lv' := [(1, .int 0), (0, .ref (c 0))]) dX1_countHotRacks_1 rfl (by decide) rfl ?_
  refine zv_iconst (n := 3) dX1_countHotRacks_2 rfl (v := 0) (by decide) ?_
  refine zv_istore_n (n := 4) (lv' := [(2, .int 0), (1, .int 0), (0, .ref (c 0))]) dX1_countHotRacks_3 rfl (by decide) rfl ?_
  refine zv_lvs (lv' := [(2, .int 0), (1, .int 0), (0, .ref (c 0))]) ⟨rfl, rfl, rfl, trivial⟩ ?_
  exact l_X1_countHot hC hO zPi (fCnt S) 0 (by omega) 0 rfl

set_option maxRecDepth 100000 in
set_option maxHeartbeats 4000000 in
theorem l_X1_sumT {σ : zSg} {M : zM} {c : Nat → Nat} {S : zS} (hC : zCen M c S) (hO : zOk S) {Q : zO → zM → Prop} (hQ : Q (.inl (some (.double (fSmT S (fCnt S))))) M) : ∀ k i, i + k = fCnt S → ∀ x, x = fSmT S i → zV μX1_sumOfTemperatures (5, 0, 0) σ Q M 0 0 4 [(3, .int (nI i)), (1, .double x), (0, .ref (c 0))] [] := by
  have hN := hO.1
  have h12 := hN.2
  intro k
  induction k with
  | zero =>
    intro i hi x hx
    refine zv_iload_n (n := 5) dX1_sumOfTemperatures_4 rfl rfl ?_
    refine zv_aload_n (n := 6) dX1_sumOfTemperatures_5 rfl rfl ?_
    refine zv_get (n := 9) dX1_sumOfTemperatures_6 rfl hC.c0 FX1_12 rfl ?_
    refine zv_getN (n := 12) dX1_sumOfTemperatures_9 rfl hC.c1 FX1_90 rfl ?_
    refine zv_icmp_ge (n := 15) (tgt := 46) dX1_sumOfTemperatures_12 (by decide) rfl (fun h12_ => ?_) (fun h12_ => False.elim (absurd ((hN.le (by omega)).mpr (by omega)) h12_))
    refine zv_dload_n (n := 47) dX1_sumOfTemperatures_46 rfl rfl ?_
    refine zv_dret dX1_sumOfTemperatures_47 rfl (by decide) (by decide) ?_
    rw [hx, show i = fCnt S by omega]
    exact hQ
  | succ k ih =>
    intro i hi x hx
    subst hx
    refine zv_iload_n (n := 5) dX1_sumOfTemperatures_4 rfl rfl ?_
    refine zv_aload_n (n := 6) dX1_sumOfTemperatures_5 rfl rfl ?_
    refine zv_get (n := 9) dX1_sumOfTemperatures_6 rfl hC.c0 FX1_12 rfl ?_
    refine zv_getN (n := 12) dX1_sumOfTemperatures_9 rfl hC.c1 FX1_90 rfl ?_
    refine zv_icmp_ge (n := 15) (tgt := 46) dX1_sumOfTemperatures_12 (by decide) rfl (fun h12_ => False.elim (absurd ((hN.le (by omega)).mp h12_) (by omega))) (fun h12_ => ?_)
    refine zv_aload_n (n := 16) dX1_sumOfTemperatures_15 rfl rfl ?_
    refine zv_get (n := 19) dX1_sumOfTemperatures_16 rfl hC.c0 FX1_12 rfl ?_
    refine zv_iload_n (n := 20) dX1_sumOfTemperatures_19 rfl rfl ?_
    refine zv_callVP (n := 23) (As := [.int (nI i)]) (rest := []) (kc' := 0) (ks' := 0) dX1_sumOfTemperatures_20 rfl (c_X5_get hC hN (i := i) (by omega)) rfl kX5_get lX1_82 hC.c1 rfl rfl rfl ⟨by decide, by decide⟩ (Nat.le_of_ble_eq_true rfl) rfl rfl (by decide) (by decide) ?_
    refine zv_astore (n := 25) (lv' := [(4, .ref (c (8 + i))), (3, .int (nI i)), (1, .double (fSmT S i)), (0, .ref (c 0))]) dX1_sumOfTemperatures_23 rfl (by decide) rfl ?_
    refine zv_aload (n := 27) dX1_sumOfTemperatures_25 rfl rfl ?_
    refine zv_ifnull (n := 30) dX1_sumOfTemperatures_27 rfl ?_
    refine zv_dload_n (n := 31) dX1_sumOfTemperatures_30 rfl rfl ?_
    refine zv_aload_n (n := 32) dX1_sumOfTemperatures_31 rfl rfl ?_
    refine zv_aload (n := 34) dX1_sumOfTemperatures_32 rfl rfl ?_
    refine zv_callVP (n := 37) (As := [.ref (c (8 + i))]) (rest := [.double (fSmT S i)]) (kc' := 0) (ks' := 0) dX1_sumOfTemperatures_34 rfl (c_X1_temperatureOf hC hO (i := i) (by omega)) rfl kX1_temperatureOf lX1_162 hC.c0 rfl rfl rfl ⟨by decide, by decide⟩ (Nat.le_of_ble_eq_true rfl) rfl rfl (by decide) (by decide) ?_
    refine zv_f2d (n := 38) dX1_sumOfTemperatures_37 rfl (zf_n64 (zf_d ((hO.tmp i).fin (by decide))).notNaN) ?_
    refine zv_dadd (n := 39) dX1_sumOfTemperatures_38 rfl (zf_n64 (fSmT_n hO (i + 1))) ?_
    refine zv_dstore_n (n := 40) (lv' := [(1, .double (FP.dadd (fSmT S i) (FP.f2d (fTmp S i)))), (4, .ref (c (8 + i))), (3, .int (nI i)), (0, .ref (c 0))]) dX1_sumOfTemperatures_39 rfl (by decide) rfl ?_
    refine zv_iinc (n := 43) (v := nI (i + 1)) (lv' := [(3, .int (nI (i + 1))), (1, .double (FP.dadd (fSmT S i) (FP.f2d (fTmp S i)))), (4, .ref (c (8 + i))), (0, .ref (c 0))]) dX1_sumOfTemperatures_40 rfl rfl (nI_1 i) (by decide) rfl ?_
    refine zv_goto (tgt := 4) dX1_sumOfTemperatures_43 (by decide) ?_
    refine zv_lvs (lv' := [(3, .int (nI (i + 1))), (1, .double (FP.dadd (fSmT S i) (FP.f2d (fTmp S i)))), (0, .ref (c 0))]) ⟨rfl, rfl, rfl, trivial⟩ ?_
    exact ih (i + 1) (by omega) _ rfl

set_option maxRecDepth 100000 in
set_option maxHeartbeats 4000000 in
theorem c_X1_sumOfTemperatures {σ : zSg} {M : zM} {c : Nat → Nat} {S : zS} (hC : zCen M c S) (hO : zOk S)  : zCon μX1_sumOfTemperatures (5, 0, 0) σ [.ref (c 0)] M (zP (some (.double (fSmT S (fCnt S)))) M) := by
  refine zCon.of (plainFor_of_name (by decide)) rfl (Nat.le_of_ble_eq_true rfl) ?_
  change zV _ _ _ _ _ 0 0 0 [(0, .ref (c 0))] []
  refine zv_dconst0 (n := 1) dX1_sumOfTemperatures_0 rfl ?_
  refine zv_dstore_n (n := 2) (lv' := [(1, .double FP.dconst0), (0, .ref (c 0))]) dX1_sumOfTemperatures_1 rfl (by decide) rfl ?_
  refine zv_iconst (n := 3) dX1_sumOfTemperatures_2 rfl (v := 0) (by decide) ?_
  refine zv_istore_n (n := 4) (lv' := [(3, .int 0), (1, .double FP.dconst0), (0, .ref (c 0))]) dX1_sumOfTemperatures_3 rfl (by decide) rfl ?_
  refine zv_lvs (lv' := [(3, .int 0), (1, .double FP.dconst0), (0, .ref (c 0))]) ⟨rfl, rfl, rfl, trivial⟩ ?_
  exact l_X1_sumT hC hO zPi (fCnt S) 0 (by omega) _ rfl

set_option maxRecDepth 100000 in
set_option maxHeartbeats 4000000 in
theorem l_X1_wouldBeHot {σ : zSg} {M : zM} {c : Nat → Nat} {S : zS} (hC : zCen M c S) (hO : zOk S) {Q : zO → zM → Prop} (a : Int32) {v : Int32} (hv : 0 ≤ v.toInt) : ∀ k i, i + k = 6 → Q (.inl (some (.int (fB (fWldF S a v k i))))) M → zV μX1_wouldBeHot (4, 0, 0) σ Q M 0 0 17 [(5, .int (nI i)), (4, .float (fRis S a v)), (3, .float (fInl S a)), (0, .ref (c 0)), (1, .int a)] [] := by
  have hN := hO.1
  intro k
  induction k with
  | zero =>
    intro i hi hQ
    refine zv_iload (n := 19) dX1_wouldBeHot_17 rfl rfl ?_
    refine zv_bipush (n := 21) dX1_wouldBeHot_19 rfl (v := 6) (by decide) ?_
    refine zv_icmp_ge (n := 24) (tgt := 61) dX1_wouldBeHot_21 (by decide) rfl (fun h21 => ?_) (fun h21 => False.elim (absurd (nI_le (a := 6) (by omega) (by omega)) h21))
    refine zv_iconst (n := 62) dX1_wouldBeHot_61 rfl (v := 0) (by decide) ?_
    refine zv_zret dX1_wouldBeHot_62 rfl rfl (by decide) (by decide) ?_
    exact hQ
  | succ k ih =>
    intro i hi hQ
    rw [fWldF] at hQ
    refine zv_iload (n := 19) dX1_wouldBeHot_17 rfl rfl ?_
    refine zv_bipush (n := 21) dX1_wouldBeHot_19 rfl (v := 6) (by decide) ?_
    refine zv_icmp_ge (n := 24) (tgt := 61) dX1_wouldBeHot_21 (by decide) rfl (fun h21 => False.elim (absurd h21 (nI_ge (b := 6) (by omega) (by omega)))) (fun h21 => ?_)
    refine zv_aload_n (n := 25) dX1_wouldBeHot_24 rfl rfl ?_
    refine zv_get (n := 28) dX1_wouldBeHot_25 rfl hC.c0 FX1_12 rfl ?_
    refine zv_iload_n (n := 29) dX1_wouldBeHot_28 rfl rfl ?_
    refine zv_iload (n := 31) dX1_wouldBeHot_29 rfl rfl ?_
    refine zv_callVP (n := 34) (As := [.int a, .int (nI i)]) (rest := []) (kc' := 0) (ks' := 0) dX1_wouldBeHot_31 rfl (c_X5_find hC hN a (nI i)) rfl kX5_find lX1_74 hC.c1 rfl rfl rfl ⟨by decide, by decide⟩ (Nat.le_of_ble_eq_true rfl) rfl rfl (by decide) (by decide) ?_
    refine zv_iconst (n := 35) dX1_wouldBeHot_34 rfl (v := (-1)) (by decide) ?_
    refine zv_icmp_eq (n := 38) (tgt := 55) dX1_wouldBeHot_35 (by decide) rfl (fun h35 => ?_) (fun h35 => ?_)
    · skip
      rw [if_pos h35] at hQ
      refine zv_iinc (n := 58) (v := nI (i + 1)) (lv' := [(5, .int (nI (i + 1))), (4, .float (fRis S a v)), (3, .float (fInl S a)), (0, .ref (c 0)), (1, .int a)]) dX1_wouldBeHot_55 rfl rfl (nI_1 i) (by decide) rfl ?_
      refine zv_goto (tgt := 17) dX1_wouldBeHot_58 (by decide) ?_
      refine zv_lvs (lv' := [(5, .int (nI (i + 1))), (4, .float (fRis S a v)), (3, .float (fInl S a)), (0, .ref (c 0)), (1, .int a)]) ⟨rfl, rfl, rfl, rfl, rfl, trivial⟩ ?_
      exact ih (i + 1) (by omega) hQ
    · skip
      rw [if_neg h35] at hQ
      refine zv_aload_n (n := 39) dX1_wouldBeHot_38 rfl rfl ?_
      refine zv_fload_n (n := 40) dX1_wouldBeHot_39 rfl rfl ?_
      refine zv_fload (n := 42) dX1_wouldBeHot_40 rfl rfl ?_
      refine zv_iload (n := 44) dX1_wouldBeHot_42 rfl rfl ?_
      refine zv_callSP (n := 47) (As := [.float (fInl S a), .float (fRis S a v), .int (nI i)]) (rest := [.ref (c 0)]) (kc' := 0) (ks' := 0) dX1_wouldBeHot_44 rfl (c_X1_temperatureFor fInlW_4 (hO.ris _ hv) (nI i)) rfl kX1_temperatureFor lX1_158 rfl rfl ⟨by decide, by decide⟩ (Nat.le_of_ble_eq_true rfl) rfl rfl (by decide) (by decide) ?_
      refine zv_callVP (n := 50) (As := [.float (fTmpW (fInl S a) (fRis S a v) (nI i))]) (rest := []) (kc' := 0) (ks' := 0) dX1_wouldBeHot_47 rfl (c_X1_isOverLimit hC (fTmpW (fInl S a) (fRis S a v) (nI i))) rfl kX1_isOverLimit lX1_166 hC.c0 rfl rfl rfl ⟨by decide, by decide⟩ (Nat.le_of_ble_eq_true rfl) rfl rfl (by decide) (by decide) ?_
      refine zv_if_eq (n := 53) (tgt := 55) dX1_wouldBeHot_50 (by decide) rfl (fun h50 => ?_) (fun h50 => ?_)
      · skip
        rw [if_neg (by rw [fB_eq h50]; decide)] at hQ
        refine zv_iinc (n := 58) (v := nI (i + 1)) (lv' := [(5, .int (nI (i + 1))), (4, .float (fRis S a v)), (3, .float (fInl S a)), (0, .ref (c 0)), (1, .int a)]) dX1_wouldBeHot_55 rfl rfl (nI_1 i) (by decide) rfl ?_
        refine zv_goto (tgt := 17) dX1_wouldBeHot_58 (by decide) ?_
        refine zv_lvs (lv' := [(5, .int (nI (i + 1))), (4, .float (fRis S a v)), (3, .float (fInl S a)), (0, .ref (c 0)), (1, .int a)]) ⟨rfl, rfl, rfl, rfl, rfl, trivial⟩ ?_
        exact ih (i + 1) (by omega) hQ
      · skip
        rw [if_pos (fB_ne h50)] at hQ
        refine zv_iconst (n := 54) dX1_wouldBeHot_53 rfl (v := 1) (by decide) ?_
        refine zv_zret dX1_wouldBeHot_54 rfl rfl (by decide) (by decide) ?_
        exact hQ

set_option maxRecDepth 100000 in
set_option maxHeartbeats 4000000 in
theorem c_X1_wouldBeHot {σ : zSg} {M : zM} {c : Nat → Nat} {S : zS} (hC : zCen M c S) (hO : zOk S) (a : Int32) {v : Int32} (hv : 0 ≤ v.toInt) : zCon μX1_wouldBeHot (4, 0, 0) σ [.ref (c 0), .int a, .int v] M (zP (some (.int (fB (fWld S a v)))) M) := by
  refine zCon.of (plainFor_of_name (by decide)) rfl (Nat.le_of_ble_eq_true rfl) ?_
  change zV _ _ _ _ _ 0 0 0 [(0, .ref (c 0)), (1, .int a), (2, .int v)] []
  refine zv_aload_n (n := 1) dX1_wouldBeHot_0 rfl rfl ?_
  refine zv_iload_n (n := 2) dX1_wouldBeHot_1 rfl rfl ?_
  refine zv_callVP (n := 5) (As := [.int a]) (rest := []) (kc' := 0) (ks' := 0) dX1_wouldBeHot_2 rfl (c_X1_inletOf hC hO.1 a) rfl kX1_inletOf lX1_155 hC.c0 rfl rfl rfl ⟨by decide, by decide⟩ (Nat.le_of_ble_eq_true rfl) rfl rfl (by decide) (by decide) ?_
  refine zv_fstore_n (n := 6) (lv' := [(3, .float (fInl S a)), (0, .ref (c 0)), (1, .int a), (2, .int v)]) dX1_wouldBeHot_5 rfl (by decide) rfl ?_
  refine zv_aload_n (n := 7) dX1_wouldBeHot_6 rfl rfl ?_
  refine zv_iload_n (n := 8) dX1_wouldBeHot_7 rfl rfl ?_
  refine zv_iload_n (n := 9) dX1_wouldBeHot_8 rfl rfl ?_
  refine zv_callVP (n := 12) (As := [.int a, .int v]) (rest := []) (kc' := 0) (ks' := 0) dX1_wouldBeHot_9 rfl (c_X1_riseAt hC hO a hv) rfl kX1_riseAt lX1_152 hC.c0 rfl rfl rfl ⟨by decide, by decide⟩ (Nat.le_of_ble_eq_true rfl) rfl rfl (by decide) (by decide) ?_
  refine zv_fstore (n := 14) (lv' := [(4, .float (fRis S a v)), (3, .float (fInl S a)), (0, .ref (c 0)), (1, .int a), (2, .int v)]) dX1_wouldBeHot_12 rfl (by decide) rfl ?_
  refine zv_iconst (n := 15) dX1_wouldBeHot_14 rfl (v := 0) (by decide) ?_
  refine zv_istore (n := 17) (lv' := [(5, .int 0), (4, .float (fRis S a v)), (3, .float (fInl S a)), (0, .ref (c 0)), (1, .int a), (2, .int v)]) dX1_wouldBeHot_15 rfl (by decide) rfl ?_
  refine zv_lvs (lv' := [(5, .int 0), (4, .float (fRis S a v)), (3, .float (fInl S a)), (0, .ref (c 0)), (1, .int a)]) ⟨rfl, rfl, rfl, rfl, rfl, trivial⟩ ?_
  exact l_X1_wouldBeHot hC hO a hv 6 0 (by omega) zPi

set_option maxRecDepth 100000 in
set_option maxHeartbeats 4000000 in
theorem l_X1_lowest {σ : zSg} {M : zM} {c : Nat → Nat} {S : zS} (hC : zCen M c S) (hO : zOk S) {Q : zO → zM → Prop} (a : Int32) : ∀ k i, i + k = 11 → Q (.inl (some (.int (fFst (fun s => !fWld S a (nI s)) k i)))) M → zV μX1_lowestSpeedByTrying (5, 0, 0) σ Q M 0 0 2 [(2, .int (nI i)), (0, .ref (c 0)), (1, .int a)] [] := by
  intro k
  induction k with
  | zero =>
    intro i hi hQ
    refine zv_iload_n (n := 3) dX1_lowestSpeedByTrying_2 rfl rfl ?_
    refine zv_bipush (n := 5) dX1_lowestSpeedByTrying_3 rfl (v := 10) (by decide) ?_
    refine zv_icmp_gt (n := 8) (tgt := 25) dX1_lowestSpeedByTrying_5 (by decide) rfl (fun h5 => ?_) (fun h5 => False.elim (h5 (nI_lt (a := 10) (by omega) (by omega))))
    refine zv_iconst (n := 26) dX1_lowestSpeedByTrying_25 rfl (v := (-1)) (by decide) ?_
    refine zv_iret dX1_lowestSpeedByTrying_26 rfl (by decide) (by decide) ?_
    exact hQ
  | succ k ih =>
    intro i hi hQ
    rw [fFst] at hQ
    refine zv_iload_n (n := 3) dX1_lowestSpeedByTrying_2 rfl rfl ?_
    refine zv_bipush (n := 5) dX1_lowestSpeedByTrying_3 rfl (v := 10) (by decide) ?_
    refine zv_icmp_gt (n := 8) (tgt := 25) dX1_lowestSpeedByTrying_5 (by decide) rfl (fun h5 => False.elim (absurd h5 (nI_nlt (a := 10) (b := i) (by omega) (by omega)))) (fun h5 => ?_)
    refine zv_aload_n (n := 9) dX1_lowestSpeedByTrying_8 rfl rfl ?_
    refine zv_iload_n (n := 10) dX1_lowestSpeedByTrying_9 rfl rfl ?_
    refine zv_iload_n (n := 11) dX1_lowestSpeedByTrying_10 rfl rfl ?_
    refine zv_callVP (n := 14) (As := [.int a, .int (nI i)]) (rest := []) (kc' := 0) (ks' := 0) dX1_lowestSpeedByTrying_11 rfl (c_X1_wouldBeHot hC hO a (v := nI i) (by rw [nI_toInt (by omega)]; omega)) rfl kX1_wouldBeHot lX1_174 hC.c0 rfl rfl rfl ⟨by decide, by decide⟩ (Nat.le_of_ble_eq_true rfl) rfl rfl (by decide) (by decide) ?_
    refine zv_if_ne (n := 17) (tgt := 19) dX1_lowestSpeedByTrying_14 (by decide) rfl (fun h14 => ?_) (fun h14 => ?_)
    · skip
      rw [if_neg (by rw [fB_ne h14]; decide)] at hQ
      refine zv_iinc (n := 22) (v := nI (i + 1)) (lv' := [(2, .int (nI (i + 1))), (0, .ref (c 0)), (1, .int a)]) dX1_lowestSpeedByTrying_19 rfl rfl (nI_1 i) (by decide) rfl ?_
      refine zv_goto (tgt := 2) dX1_lowestSpeedByTrying_22 (by decide) ?_
      refine zv_lvs (lv' := [(2, .int (nI (i + 1))), (0, .ref (c 0)), (1, .int a)]) ⟨rfl, rfl, rfl, trivial⟩ ?_
      exact ih (i + 1) (by omega) hQ
    · skip
      rw [if_pos (by rw [fB_eq h14]; rfl)] at hQ
      refine zv_iload_n (n := 18) dX1_lowestSpeedByTrying_17 rfl rfl ?_
      refine zv_iret dX1_lowestSpeedByTrying_18 rfl (by decide) (by decide) ?_
      exact hQ

set_option maxRecDepth 100000 in
set_option maxHeartbeats 4000000 in
theorem c_X1_lowestSpeedByTrying {σ : zSg} {M : zM} {c : Nat → Nat} {S : zS} (hC : zCen M c S) (hO : zOk S) (a : Int32) : zCon μX1_lowestSpeedByTrying (5, 0, 0) σ [.ref (c 0), .int a] M (zP (some (.int (fLst S a))) M) := by
  refine zCon.of (plainFor_of_name (by decide)) rfl (Nat.le_of_ble_eq_true rfl) ?_
  change zV _ _ _ _ _ 0 0 0 [(0, .ref (c 0)), (1, .int a)] []
  refine zv_iconst (n := 1) dX1_lowestSpeedByTrying_0 rfl (v := 0) (by decide) ?_
  refine zv_istore_n (n := 2) (lv' := [(2, .int 0), (0, .ref (c 0)), (1, .int a)]) dX1_lowestSpeedByTrying_1 rfl (by decide) rfl ?_
  exact l_X1_lowest hC hO a 11 0 (by omega) zPi

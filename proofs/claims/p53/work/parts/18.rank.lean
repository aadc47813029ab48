/-! The order of racks and of aisles: laid by wip/p53/m18.py. -/

set_option maxRecDepth 100000 in
set_option maxHeartbeats 4000000 in
theorem l_X1_measure {σ : zSg} {c : Nat → Nat} {S : zS} (hO : zOk S) : ∀ (k i : Nat) (M : zM) (g : Nat → UInt32) (Q : zO → zM → Prop), zCen M c S → M (c 4) = some (zAF 12 g) → i + k = 12 → (∀ j, j < i → g j = fMs S j) → (∀ M' g', zCen M' c S → M' (c 4) = some (zAF 12 g') → (∀ j, j < 12 → g' j = fMs S j) → zOff M M' c → Q (.inl none) M') → zV μX1_measureRacks (5, 0, 0) σ Q M 0 0 2 [(1, .int (nI i)), (0, .ref (c 0))] [] := by
  have hN := hO.1
  have h12 := hN.2
  intro k
  induction k with
  | zero =>
    intro i M g Q hC hg hi hm hQ
    refine zv_iload_n (n := 3) dX1_measureRacks_2 rfl rfl ?_
    refine zv_aload_n (n := 4) dX1_measureRacks_3 rfl rfl ?_
    refine zv_get (n := 7) dX1_measureRacks_4 rfl hC.c0 FX1_33 rfl ?_
    refine zv_alen (n := 8) dX1_measureRacks_7 rfl hg (by decide) (v := (nI 12)) rfl ?_
    refine zv_icmp_ge (n := 11) (tgt := 45) dX1_measureRacks_8 (by decide) rfl (fun h8 => ?_) (fun h8 => False.elim (absurd ((nI12 (by omega)).mpr (by omega)) h8))
    refine zv_vret dX1_measureRacks_45 rfl (by decide) (by decide) ?_
    exact hQ M g hC hg (fun j hj => hm j (by omega)) zOff.rf
  | succ k ih =>
    intro i M g Q hC hg hi hm hQ
    refine zv_iload_n (n := 3) dX1_measureRacks_2 rfl rfl ?_
    refine zv_aload_n (n := 4) dX1_measureRacks_3 rfl rfl ?_
    refine zv_get (n := 7) dX1_measureRacks_4 rfl hC.c0 FX1_33 rfl ?_
    refine zv_alen (n := 8) dX1_measureRacks_7 rfl hg (by decide) (v := (nI 12)) rfl ?_
    refine zv_icmp_ge (n := 11) (tgt := 45) dX1_measureRacks_8 (by decide) rfl (fun h8 => False.elim (absurd ((nI12 (by omega)).mp h8) (by omega))) (fun h8 => ?_)
    refine zv_aload_n (n := 12) dX1_measureRacks_11 rfl rfl ?_
    refine zv_get (n := 15) dX1_measureRacks_12 rfl hC.c0 FX1_12 rfl ?_
    refine zv_iload_n (n := 16) dX1_measureRacks_15 rfl rfl ?_
    have hup : ∀ j, j < i + 1 → ∀ x, x = fMs S i → vf_upd g (nI i).toNatClampNeg x j = fMs S j := by
      intro j hj x hx
      rw [nI_clamp (by omega)]
      unfold vf_upd
      by_cases e : j = i
      · rw [if_pos e, e]; exact hx
      · rw [if_neg e]; exact hm j (by omega)
    rcases Nat.lt_or_ge i (fCnt S) with hlt | hge
    · refine zv_callVP (n := 19) (As := [.int (nI i)]) (rest := []) (kc' := 0) (ks' := 0) dX1_measureRacks_16 rfl (c_X5_get hC hN hlt) rfl kX5_get lX1_82 hC.c1 rfl rfl rfl ⟨by decide, by decide⟩ (Nat.le_of_ble_eq_true rfl) rfl rfl (by decide) (by decide) ?_
      refine zv_astore_n (n := 20) (lv' := [(2, .ref (c (8 + i))), (1, .int (nI i)), (0, .ref (c 0))]) dX1_measureRacks_19 rfl (by decide) rfl ?_
      refine zv_aload_n (n := 21) dX1_measureRacks_20 rfl rfl ?_
      refine zv_get (n := 24) dX1_measureRacks_21 rfl hC.c0 FX1_33 rfl ?_
      refine zv_iload_n (n := 25) dX1_measureRacks_24 rfl rfl ?_
      refine zv_aload_n (n := 26) dX1_measureRacks_25 rfl rfl ?_
      refine zv_ifnonnull (tgt := 33) dX1_measureRacks_26 (by decide) ?_
      refine zv_aload_n (n := 34) dX1_measureRacks_33 rfl rfl ?_
      refine zv_aload_n (n := 35) dX1_measureRacks_34 rfl rfl ?_
      refine zv_callVP (n := 38) (As := [.ref (c (8 + i))]) (rest := [.int (nI i), .ref (c 4)]) (kc' := 0) (ks' := 0) dX1_measureRacks_35 rfl (c_X1_temperatureOf hC hO (i := i) (by omega)) rfl kX1_temperatureOf lX1_162 hC.c0 rfl rfl rfl ⟨by decide, by decide⟩ (Nat.le_of_ble_eq_true rfl) rfl rfl (by decide) (by decide) ?_
      refine zv_fast (n := 39) dX1_measureRacks_38 rfl hg (vp_in_nI (by omega) (by decide)) ?_
      refine zv_iinc (n := 42) (v := nI (i + 1)) (lv' := [(1, .int (nI (i + 1))), (2, .ref (c (8 + i))), (0, .ref (c 0))]) dX1_measureRacks_39 rfl rfl (nI_1 i) (by decide) rfl ?_
      refine zv_goto (tgt := 2) dX1_measureRacks_42 (by decide) ?_
      refine zv_lvs (lv' := [(1, .int (nI (i + 1))), (0, .ref (c 0))]) ⟨rfl, rfl, trivial⟩ ?_
      exact ih (i + 1) _ _ Q (hC.put4 _) zup_s (by omega) (fun j hj => hup j hj _ (by unfold fMs; rw [if_pos hlt])) (fun M' g' h1 h2 h3 h4 => hQ M' g' h1 h2 h3 ((zOff.up (by decide)).tr h4))
    · refine zv_callVP (n := 19) (As := [.int (nI i)]) (rest := []) (kc' := 0) (ks' := 0) dX1_measureRacks_16 rfl (c_X5_getN hC hN (Or.inr (by rw [hN.le (by omega)]; exact hge))) rfl kX5_get lX1_82 hC.c1 rfl rfl rfl ⟨by decide, by decide⟩ (Nat.le_of_ble_eq_true rfl) rfl rfl (by decide) (by decide) ?_
      refine zv_astore_nN (n := 20) (lv' := [(2, .null), (1, .int (nI i)), (0, .ref (c 0))]) dX1_measureRacks_19 rfl (by decide) rfl ?_
      refine zv_aload_n (n := 21) dX1_measureRacks_20 rfl rfl ?_
      refine zv_get (n := 24) dX1_measureRacks_21 rfl hC.c0 FX1_33 rfl ?_
      refine zv_iload_n (n := 25) dX1_measureRacks_24 rfl rfl ?_
      refine zv_aload_nN (n := 26) dX1_measureRacks_25 rfl rfl ?_
      refine zv_ifnonnullN (n := 29) dX1_measureRacks_26 rfl ?_
      refine zv_fconst0 (n := 30) dX1_measureRacks_29 rfl ?_
      refine zv_goto (tgt := 38) dX1_measureRacks_30 (by decide) ?_
      refine zv_fast (n := 39) dX1_measureRacks_38 rfl hg (vp_in_nI (by omega) (by decide)) ?_
      refine zv_iinc (n := 42) (v := nI (i + 1)) (lv' := [(1, .int (nI (i + 1))), (2, .null), (0, .ref (c 0))]) dX1_measureRacks_39 rfl rfl (nI_1 i) (by decide) rfl ?_
      refine zv_goto (tgt := 2) dX1_measureRacks_42 (by decide) ?_
      refine zv_lvs (lv' := [(1, .int (nI (i + 1))), (0, .ref (c 0))]) ⟨rfl, rfl, trivial⟩ ?_
      exact ih (i + 1) _ _ Q (hC.put4 _) zup_s (by omega) (fun j hj => hup j hj _ (by unfold fMs; rw [if_neg (by omega)])) (fun M' g' h1 h2 h3 h4 => hQ M' g' h1 h2 h3 ((zOff.up (by decide)).tr h4))

set_option maxRecDepth 100000 in
set_option maxHeartbeats 4000000 in
theorem c_X1_measureRacks {σ : zSg} {M : zM} {c : Nat → Nat} {S : zS} (hC : zCen M c S) (hO : zOk S)  : zCon μX1_measureRacks (5, 0, 0) σ [.ref (c 0)] M (zF none (fun M' => zCen M' c S ∧ zOff M M' c ∧ ∃ g, M' (c 4) = some (zAF 12 g) ∧ ∀ i, i < 12 → g i = fMs S i)) := by
  obtain ⟨g, hg⟩ := hC.c4
  refine zCon.of (plainFor_of_name (by decide)) rfl (Nat.le_of_ble_eq_true rfl) ?_
  change zV _ _ _ _ _ 0 0 0 [(0, .ref (c 0))] []
  refine zv_iconst (n := 1) dX1_measureRacks_0 rfl (v := 0) (by decide) ?_
  refine zv_istore_n (n := 2) (lv' := [(1, .int 0), (0, .ref (c 0))]) dX1_measureRacks_1 rfl (by decide) rfl ?_
  refine zv_lvs (lv' := [(1, .int 0), (0, .ref (c 0))]) ⟨rfl, rfl, trivial⟩ ?_
  exact l_X1_measure hO 12 0 M g _ hC hg (by omega) (fun j hj => absurd hj (Nat.not_lt_zero _)) (fun M' g' h1 h2 h3 h4 => zFi ⟨h1, h4, g', h2, h3⟩)

set_option maxRecDepth 100000 in
set_option maxHeartbeats 4000000 in
theorem c_X1_measuredAt {σ : zSg} {M : zM} {c : Nat → Nat} {S : zS} (hC : zCen M c S) (hN : zNn S) {g : Nat → UInt32} (hg : M (c 4) = some (zAF 12 g)) (hm : ∀ i, i < 12 → g i = fMs S i) {i : Nat} (hi : i < 12) : zCon μX1_measuredAt (1, 0, 0) σ [.ref (c 0), .int (nI i)] M (zP (some (.float (fMs S i))) M) := by
  refine zCon.of (plainFor_of_name (by decide)) rfl (Nat.le_of_ble_eq_true rfl) ?_
  change zV _ _ _ _ _ 0 0 0 [(0, .ref (c 0)), (1, .int (nI i))] []
  refine zv_iload_n (n := 1) dX1_measuredAt_0 rfl rfl ?_
  refine zv_if_lt (n := 4) (tgt := 22) dX1_measuredAt_1 (by decide) rfl (fun h1 => False.elim (nI_pos (by omega) h1)) (fun h1 => ?_)
  refine zv_iload_n (n := 5) dX1_measuredAt_4 rfl rfl ?_
  refine zv_aload_n (n := 6) dX1_measuredAt_5 rfl rfl ?_
  refine zv_get (n := 9) dX1_measuredAt_6 rfl hC.c0 FX1_33 rfl ?_
  refine zv_alen (n := 10) dX1_measuredAt_9 rfl hg (by decide) (v := (nI 12)) rfl ?_
  refine zv_icmp_ge (n := 13) (tgt := 22) dX1_measuredAt_10 (by decide) rfl (fun h10 => False.elim (absurd ((nI12 (by omega)).mp h10) (by omega))) (fun h10 => ?_)
  refine zv_aload_n (n := 14) dX1_measuredAt_13 rfl rfl ?_
  refine zv_get (n := 17) dX1_measuredAt_14 rfl hC.c0 FX1_33 rfl ?_
  refine zv_iload_n (n := 18) dX1_measuredAt_17 rfl rfl ?_
  refine zv_fald' (n := 19) dX1_measuredAt_18 rfl hg (vp_in_nI (by omega) (by decide)) (show g (nI i).toNatClampNeg = fMs S i by rw [nI_clamp (by omega)]; exact hm i hi) ?_
  refine zv_goto (tgt := 23) dX1_measuredAt_19 (by decide) ?_
  refine zv_fret dX1_measuredAt_23 rfl (by decide) (by decide) ?_
  exact zPi

set_option maxRecDepth 100000 in
set_option maxHeartbeats 4000000 in
theorem c_X1_loadOf {σ : zSg} {M : zM} {c : Nat → Nat} {S : zS} (hC : zCen M c S) (hN : zNn S) {i : Nat} (hi : i < fCnt S) : zCon μX1_loadOf (2, 0, 0) σ [.ref (c 0), .int (nI i)] M (zP (some (.int (S (3 + 3 * i)))) M) := by
  refine zCon.of (plainFor_of_name (by decide)) rfl (Nat.le_of_ble_eq_true rfl) ?_
  change zV _ _ _ _ _ 0 0 0 [(0, .ref (c 0)), (1, .int (nI i))] []
  refine zv_aload_n (n := 1) dX1_loadOf_0 rfl rfl ?_
  refine zv_get (n := 4) dX1_loadOf_1 rfl hC.c0 FX1_12 rfl ?_
  refine zv_iload_n (n := 5) dX1_loadOf_4 rfl rfl ?_
  refine zv_callVP (n := 8) (As := [.int (nI i)]) (rest := []) (kc' := 0) (ks' := 0) dX1_loadOf_5 rfl (c_X5_get hC hN hi) rfl kX5_get lX1_82 hC.c1 rfl rfl rfl ⟨by decide, by decide⟩ (Nat.le_of_ble_eq_true rfl) rfl rfl (by decide) (by decide) ?_
  refine zv_astore_n (n := 9) (lv' := [(2, .ref (c (8 + i))), (0, .ref (c 0)), (1, .int (nI i))]) dX1_loadOf_8 rfl (by decide) rfl ?_
  refine zv_aload_n (n := 10) dX1_loadOf_9 rfl rfl ?_
  refine zv_ifnonnull (tgt := 17) dX1_loadOf_10 (by decide) ?_
  refine zv_aload_n (n := 18) dX1_loadOf_17 rfl rfl ?_
  refine zv_getN (n := 21) dX1_loadOf_18 rfl (hC.rk (by have := hN.2; omega)) FX1_101 rfl ?_
  refine zv_iret dX1_loadOf_21 rfl (by decide) (by decide) ?_
  exact zPi

set_option maxRecDepth 100000 in
set_option maxHeartbeats 4000000 in
theorem c_X1_comesRackBefore {σ : zSg} {M : zM} {c : Nat → Nat} {S : zS} (hC : zCen M c S) (hN : zNn S) {g : Nat → UInt32} (hg : M (c 4) = some (zAF 12 g)) (hm : ∀ i, i < 12 → g i = fMs S i) {i j : Nat} (hi : i < fCnt S) (hj : j < fCnt S) : zCon μX1_comesRackBefore (3, 0, 0) σ [.ref (c 0), .int (nI i), .int (nI j)] M (zP (some (.int (fB (fCmR S i j)))) M) := by
  refine zCon.of (plainFor_of_name (by decide)) rfl (Nat.le_of_ble_eq_true rfl) ?_
  change zV _ _ _ _ _ 0 0 0 [(0, .ref (c 0)), (1, .int (nI i)), (2, .int (nI j))] []
  refine zv_aload_n (n := 1) dX1_comesRackBefore_0 rfl rfl ?_
  refine zv_iload_n (n := 2) dX1_comesRackBefore_1 rfl rfl ?_
  refine zv_callVP (n := 5) (As := [.int (nI i)]) (rest := []) (kc' := 0) (ks' := 0) dX1_comesRackBefore_2 rfl (c_X1_measuredAt hC hN hg hm (i := i) (by have := hN.2; omega)) rfl kX1_measuredAt lX1_187 hC.c0 rfl rfl rfl ⟨by decide, by decide⟩ (Nat.le_of_ble_eq_true rfl) rfl rfl (by decide) (by decide) ?_
  refine zv_fstore_n (n := 6) (lv' := [(3, .float (fMs S i)), (0, .ref (c 0)), (1, .int (nI i)), (2, .int (nI j))]) dX1_comesRackBefore_5 rfl (by decide) rfl ?_
  refine zv_aload_n (n := 7) dX1_comesRackBefore_6 rfl rfl ?_
  refine zv_iload_n (n := 8) dX1_comesRackBefore_7 rfl rfl ?_
  refine zv_callVP (n := 11) (As := [.int (nI j)]) (rest := []) (kc' := 0) (ks' := 0) dX1_comesRackBefore_8 rfl (c_X1_measuredAt hC hN hg hm (i := j) (by have := hN.2; omega)) rfl kX1_measuredAt lX1_187 hC.c0 rfl rfl rfl ⟨by decide, by decide⟩ (Nat.le_of_ble_eq_true rfl) rfl rfl (by decide) (by decide) ?_
  refine zv_fstore (n := 13) (lv' := [(4, .float (fMs S j)), (3, .float (fMs S i)), (0, .ref (c 0)), (1, .int (nI i)), (2, .int (nI j))]) dX1_comesRackBefore_11 rfl (by decide) rfl ?_
  refine zv_fload_n (n := 14) dX1_comesRackBefore_13 rfl rfl ?_
  refine zv_fload (n := 16) dX1_comesRackBefore_14 rfl rfl ?_
  refine zv_fcmp (n := 17) dX1_comesRackBefore_16 rfl ?_
  refine zv_if_eq (n := 20) (tgt := 33) dX1_comesRackBefore_17 (by decide) rfl (fun h17 => ?_) (fun h17 => ?_)
  · skip
    refine zv_aload_n (n := 34) dX1_comesRackBefore_33 rfl rfl ?_
    refine zv_iload_n (n := 35) dX1_comesRackBefore_34 rfl rfl ?_
    refine zv_callVP (n := 38) (As := [.int (nI i)]) (rest := []) (kc' := 0) (ks' := 0) dX1_comesRackBefore_35 rfl (c_X1_loadOf hC hN hi) rfl kX1_loadOf lX1_190 hC.c0 rfl rfl rfl ⟨by decide, by decide⟩ (Nat.le_of_ble_eq_true rfl) rfl rfl (by decide) (by decide) ?_
    refine zv_istore (n := 40) (lv' := [(5, .int (S (3 + 3 * i))), (4, .float (fMs S j)), (3, .float (fMs S i)), (0, .ref (c 0)), (1, .int (nI i)), (2, .int (nI j))]) dX1_comesRackBefore_38 rfl (by decide) rfl ?_
    refine zv_aload_n (n := 41) dX1_comesRackBefore_40 rfl rfl ?_
    refine zv_iload_n (n := 42) dX1_comesRackBefore_41 rfl rfl ?_
    refine zv_callVP (n := 45) (As := [.int (nI j)]) (rest := []) (kc' := 0) (ks' := 0) dX1_comesRackBefore_42 rfl (c_X1_loadOf hC hN hj) rfl kX1_loadOf lX1_190 hC.c0 rfl rfl rfl ⟨by decide, by decide⟩ (Nat.le_of_ble_eq_true rfl) rfl rfl (by decide) (by decide) ?_
    refine zv_istore (n := 47) (lv' := [(6, .int (S (3 + 3 * j))), (5, .int (S (3 + 3 * i))), (4, .float (fMs S j)), (3, .float (fMs S i)), (0, .ref (c 0)), (1, .int (nI i)), (2, .int (nI j))]) dX1_comesRackBefore_45 rfl (by decide) rfl ?_
    refine zv_iload (n := 49) dX1_comesRackBefore_47 rfl rfl ?_
    refine zv_iload (n := 51) dX1_comesRackBefore_49 rfl rfl ?_
    refine zv_icmp_eq (n := 54) (tgt := 67) dX1_comesRackBefore_51 (by decide) rfl (fun h51 => ?_) (fun h51 => ?_)
    · skip
      refine zv_iload_n (n := 68) dX1_comesRackBefore_67 rfl rfl ?_
      refine zv_iload_n (n := 69) dX1_comesRackBefore_68 rfl rfl ?_
      refine zv_icmp_ge (n := 72) (tgt := 76) dX1_comesRackBefore_69 (by decide) rfl (fun h69 => ?_) (fun h69 => ?_)
      · skip
        refine zv_iconst (n := 77) dX1_comesRackBefore_76 rfl (v := 0) (by decide) ?_
        refine zv_zret dX1_comesRackBefore_77 rfl rfl (by decide) (by decide) ?_
        have h12 := hN.2
        rw [fB_f (by unfold fCmR; rw [if_pos h17, if_pos h51]; exact decide_eq_false (fun q => nI_ge q (by omega) h69))]
        exact zPi
      · skip
        refine zv_iconst (n := 73) dX1_comesRackBefore_72 rfl (v := 1) (by decide) ?_
        refine zv_goto (tgt := 77) dX1_comesRackBefore_73 (by decide) ?_
        refine zv_zret dX1_comesRackBefore_77 rfl rfl (by decide) (by decide) ?_
        have h12 := hN.2
        rw [fB_t (by unfold fCmR; rw [if_pos h17, if_pos h51]; exact decide_eq_true (Nat.lt_of_not_le (fun q => h69 (nI_le q (by omega)))))]
        exact zPi
    · skip
      refine zv_iload (n := 56) dX1_comesRackBefore_54 rfl rfl ?_
      refine zv_iload (n := 58) dX1_comesRackBefore_56 rfl rfl ?_
      refine zv_icmp_le (n := 61) (tgt := 65) dX1_comesRackBefore_58 (by decide) rfl (fun h58 => ?_) (fun h58 => ?_)
      · skip
        refine zv_iconst (n := 66) dX1_comesRackBefore_65 rfl (v := 0) (by decide) ?_
        refine zv_zret dX1_comesRackBefore_66 rfl rfl (by decide) (by decide) ?_
        have h12 := hN.2
        rw [fB_f (by unfold fCmR; rw [if_pos h17, if_neg h51]; exact decide_eq_false (Int32.not_lt.mpr h58))]
        exact zPi
      · skip
        refine zv_iconst (n := 62) dX1_comesRackBefore_61 rfl (v := 1) (by decide) ?_
        refine zv_goto (tgt := 66) dX1_comesRackBefore_62 (by decide) ?_
        refine zv_zret dX1_comesRackBefore_66 rfl rfl (by decide) (by decide) ?_
        have h12 := hN.2
        rw [fB_t (by unfold fCmR; rw [if_pos h17, if_neg h51]; exact decide_eq_true (Int32.not_le.mp h58))]
        exact zPi
  · skip
    refine zv_fload_n (n := 21) dX1_comesRackBefore_20 rfl rfl ?_
    refine zv_fload (n := 23) dX1_comesRackBefore_21 rfl rfl ?_
    refine zv_fcmp (n := 24) dX1_comesRackBefore_23 rfl ?_
    refine zv_if_le (n := 27) (tgt := 31) dX1_comesRackBefore_24 (by decide) rfl (fun h24 => ?_) (fun h24 => ?_)
    · skip
      refine zv_iconst (n := 32) dX1_comesRackBefore_31 rfl (v := 0) (by decide) ?_
      refine zv_zret dX1_comesRackBefore_32 rfl rfl (by decide) (by decide) ?_
      have h12 := hN.2
      rw [fB_f (by unfold fCmR; rw [if_neg h17]; rw [decide_eq_true h24]; rfl)]
      exact zPi
    · skip
      refine zv_iconst (n := 28) dX1_comesRackBefore_27 rfl (v := 1) (by decide) ?_
      refine zv_goto (tgt := 32) dX1_comesRackBefore_28 (by decide) ?_
      refine zv_zret dX1_comesRackBefore_32 rfl rfl (by decide) (by decide) ?_
      have h12 := hN.2
      rw [fB_t (by unfold fCmR; rw [if_neg h17]; rw [decide_eq_false h24]; rfl)]
      exact zPi

set_option maxRecDepth 100000 in
set_option maxHeartbeats 4000000 in
theorem l_X1_countRB {σ : zSg} {M : zM} {c : Nat → Nat} {S : zS} (hC : zCen M c S) (hN : zNn S) {g : Nat → UInt32} (hg : M (c 4) = some (zAF 12 g)) (hm : ∀ i, i < 12 → g i = fMs S i) {j : Nat} (hj : j < fCnt S) {Q : zO → zM → Prop} (hQ : Q (.inl (some (.int (nI (fRkB S j))))) M) : ∀ k i, i + k = fCnt S → ∀ x, x = nI (fCb (fun i => fCmR S i j) i) → zV μX1_countRacksBefore (4, 0, 0) σ Q M 0 0 4 [(3, .int (nI i)), (2, .int x), (0, .ref (c 0)), (1, .int (nI j))] [] := by
  have h12 := hN.2
  intro k
  induction k with
  | zero =>
    intro i hi x hx
    refine zv_iload_n (n := 5) dX1_countRacksBefore_4 rfl rfl ?_
    refine zv_aload_n (n := 6) dX1_countRacksBefore_5 rfl rfl ?_
    refine zv_get (n := 9) dX1_countRacksBefore_6 rfl hC.c0 FX1_12 rfl ?_
    refine zv_getN (n := 12) dX1_countRacksBefore_9 rfl hC.c1 FX1_90 rfl ?_
    refine zv_icmp_ge (n := 15) (tgt := 33) dX1_countRacksBefore_12 (by decide) rfl (fun h12_ => ?_) (fun h12_ => False.elim (absurd ((hN.le (by omega)).mpr (by omega)) h12_))
    refine zv_iload_n (n := 34) dX1_countRacksBefore_33 rfl rfl ?_
    refine zv_iret dX1_countRacksBefore_34 rfl (by decide) (by decide) ?_
    rw [hx, show i = fCnt S by omega]
    exact hQ
  | succ k ih =>
    intro i hi x hx
    have hb := fCb_le (fun i => fCmR S i j) i
    refine zv_iload_n (n := 5) dX1_countRacksBefore_4 rfl rfl ?_
    refine zv_aload_n (n := 6) dX1_countRacksBefore_5 rfl rfl ?_
    refine zv_get (n := 9) dX1_countRacksBefore_6 rfl hC.c0 FX1_12 rfl ?_
    refine zv_getN (n := 12) dX1_countRacksBefore_9 rfl hC.c1 FX1_90 rfl ?_
    refine zv_icmp_ge (n := 15) (tgt := 33) dX1_countRacksBefore_12 (by decide) rfl (fun h12_ => False.elim (absurd ((hN.le (by omega)).mp h12_) (by omega))) (fun h12_ => ?_)
    refine zv_aload_n (n := 16) dX1_countRacksBefore_15 rfl rfl ?_
    refine zv_iload_n (n := 17) dX1_countRacksBefore_16 rfl rfl ?_
    refine zv_iload_n (n := 18) dX1_countRacksBefore_17 rfl rfl ?_
    refine zv_callVP (n := 21) (As := [.int (nI i), .int (nI j)]) (rest := []) (kc' := 0) (ks' := 0) dX1_countRacksBefore_18 rfl (c_X1_comesRackBefore hC hN hg hm (i := i) (j := j) (by omega) hj) rfl kX1_comesRackBefore lX1_184 hC.c0 rfl rfl rfl ⟨by decide, by decide⟩ (Nat.le_of_ble_eq_true rfl) rfl rfl (by decide) (by decide) ?_
    refine zv_if_eq (n := 24) (tgt := 27) dX1_countRacksBefore_21 (by decide) rfl (fun h21 => ?_) (fun h21 => ?_)
    · skip
      have e33 := fB_eq h21
      refine zv_iinc (n := 30) (v := nI (i + 1)) (lv' := [(3, .int (nI (i + 1))), (2, .int x), (0, .ref (c 0)), (1, .int (nI j))]) dX1_countRacksBefore_27 rfl rfl (nI_1 i) (by decide) rfl ?_
      refine zv_goto (tgt := 4) dX1_countRacksBefore_30 (by decide) ?_
      refine zv_lvs (lv' := [(3, .int (nI (i + 1))), (2, .int x), (0, .ref (c 0)), (1, .int (nI j))]) ⟨rfl, rfl, rfl, rfl, trivial⟩ ?_
      exact ih (i + 1) (by omega) _ (by rw [fCb, e33, if_neg (by decide)]; exact hx)
    · skip
      have e33 := fB_ne h21
      refine zv_iinc (n := 27) (v := nI (fCb (fun i => fCmR S i j) i + 1)) (lv' := [(2, .int (nI (fCb (fun i => fCmR S i j) i + 1))), (3, .int (nI i)), (0, .ref (c 0)), (1, .int (nI j))]) dX1_countRacksBefore_24 rfl rfl (by rw [hx]; exact nI_1 _) (by decide) rfl ?_
      refine zv_iinc (n := 30) (v := nI (i + 1)) (lv' := [(3, .int (nI (i + 1))), (2, .int (nI (fCb (fun i => fCmR S i j) i + 1))), (0, .ref (c 0)), (1, .int (nI j))]) dX1_countRacksBefore_27 rfl rfl (nI_1 i) (by decide) rfl ?_
      refine zv_goto (tgt := 4) dX1_countRacksBefore_30 (by decide) ?_
      refine zv_lvs (lv' := [(3, .int (nI (i + 1))), (2, .int (nI (fCb (fun i => fCmR S i j) i + 1))), (0, .ref (c 0)), (1, .int (nI j))]) ⟨rfl, rfl, rfl, rfl, trivial⟩ ?_
      exact ih (i + 1) (by omega) _ (by rw [fCb, e33, if_pos rfl])

set_option maxRecDepth 100000 in
set_option maxHeartbeats 4000000 in
theorem c_X1_countRacksBefore {σ : zSg} {M : zM} {c : Nat → Nat} {S : zS} (hC : zCen M c S) (hN : zNn S) {g : Nat → UInt32} (hg : M (c 4) = some (zAF 12 g)) (hm : ∀ i, i < 12 → g i = fMs S i) {j : Nat} (hj : j < fCnt S) : zCon μX1_countRacksBefore (4, 0, 0) σ [.ref (c 0), .int (nI j)] M (zP (some (.int (nI (fRkB S j)))) M) := by
  refine zCon.of (plainFor_of_name (by decide)) rfl (Nat.le_of_ble_eq_true rfl) ?_
  change zV _ _ _ _ _ 0 0 0 [(0, .ref (c 0)), (1, .int (nI j))] []
  refine zv_iconst (n := 1) dX1_countRacksBefore_0 rfl (v := 0) (by decide) ?_
  refine zv_istore_n (n := 2) (lv' := [(2, .int 0), (0, .ref (c 0)), (1, .int (nI j))]) dX1_countRacksBefore_1 rfl (by decide) rfl ?_
  refine zv_iconst (n := 3) dX1_countRacksBefore_2 rfl (v := 0) (by decide) ?_
  refine zv_istore_n (n := 4) (lv' := [(3, .int 0), (2, .int 0), (0, .ref (c 0)), (1, .int (nI j))]) dX1_countRacksBefore_3 rfl (by decide) rfl ?_
  refine zv_lvs (lv' := [(3, .int 0), (2, .int 0), (0, .ref (c 0)), (1, .int (nI j))]) ⟨rfl, rfl, rfl, rfl, trivial⟩ ?_
  exact l_X1_countRB hC hN hg hm hj zPi (fCnt S) 0 (by omega) 0 rfl

set_option maxRecDepth 100000 in
set_option maxHeartbeats 4000000 in
theorem l_X1_rackAtRank {σ : zSg} {M : zM} {c : Nat → Nat} {S : zS} (hC : zCen M c S) (hN : zNn S) {g : Nat → UInt32} (hg : M (c 4) = some (zAF 12 g)) (hm : ∀ i, i < 12 → g i = fMs S i) {Q : zO → zM → Prop} (r : Int32) : ∀ k i, i + k = fCnt S → Q (.inl (some (.int (fFst (fun i => decide (nI (fRkB S i) = r)) k i)))) M → zV μX1_rackAtRank (6, 0, 0) σ Q M 0 0 6 [(2, .int (nI i)), (0, .ref (c 0)), (1, .int r)] [] := by
  have h12 := hN.2
  intro k
  induction k with
  | zero =>
    intro i hi hQ
    refine zv_iload_n (n := 7) dX1_rackAtRank_6 rfl rfl ?_
    refine zv_aload_n (n := 8) dX1_rackAtRank_7 rfl rfl ?_
    refine zv_get (n := 11) dX1_rackAtRank_8 rfl hC.c0 FX1_12 rfl ?_
    refine zv_getN (n := 14) dX1_rackAtRank_11 rfl hC.c1 FX1_90 rfl ?_
    refine zv_icmp_ge (n := 17) (tgt := 34) dX1_rackAtRank_14 (by decide) rfl (fun h14 => ?_) (fun h14 => False.elim (absurd ((hN.le (by omega)).mpr (by omega)) h14))
    refine zv_iconst (n := 35) dX1_rackAtRank_34 rfl (v := (-1)) (by decide) ?_
    refine zv_iret dX1_rackAtRank_35 rfl (by decide) (by decide) ?_
    exact hQ
  | succ k ih =>
    intro i hi hQ
    rw [fFst] at hQ
    refine zv_iload_n (n := 7) dX1_rackAtRank_6 rfl rfl ?_
    refine zv_aload_n (n := 8) dX1_rackAtRank_7 rfl rfl ?_
    refine zv_get (n := 11) dX1_rackAtRank_8 rfl hC.c0 FX1_12 rfl ?_
    refine zv_getN (n := 14) dX1_rackAtRank_11 rfl hC.c1 FX1_90 rfl ?_
    refine zv_icmp_ge (n := 17) (tgt := 34) dX1_rackAtRank_14 (by decide) rfl (fun h14 => False.elim (absurd ((hN.le (by omega)).mp h14) (by omega))) (fun h14 => ?_)
    refine zv_aload_n (n := 18) dX1_rackAtRank_17 rfl rfl ?_
    refine zv_iload_n (n := 19) dX1_rackAtRank_18 rfl rfl ?_
    refine zv_callVP (n := 22) (As := [.int (nI i)]) (rest := []) (kc' := 0) (ks' := 0) dX1_rackAtRank_19 rfl (c_X1_countRacksBefore hC hN hg hm (j := i) (by omega)) rfl kX1_countRacksBefore lX1_181 hC.c0 rfl rfl rfl ⟨by decide, by decide⟩ (Nat.le_of_ble_eq_true rfl) rfl rfl (by decide) (by decide) ?_
    refine zv_iload_n (n := 23) dX1_rackAtRank_22 rfl rfl ?_
    refine zv_icmp_ne (n := 26) (tgt := 28) dX1_rackAtRank_23 (by decide) rfl (fun h23 => ?_) (fun h23 => ?_)
    · skip
      rw [if_neg (fun q => h23 (of_decide_eq_true q))] at hQ
      refine zv_iinc (n := 31) (v := nI (i + 1)) (lv' := [(2, .int (nI (i + 1))), (0, .ref (c 0)), (1, .int r)]) dX1_rackAtRank_28 rfl rfl (nI_1 i) (by decide) rfl ?_
      refine zv_goto (tgt := 6) dX1_rackAtRank_31 (by decide) ?_
      refine zv_lvs (lv' := [(2, .int (nI (i + 1))), (0, .ref (c 0)), (1, .int r)]) ⟨rfl, rfl, rfl, trivial⟩ ?_
      exact ih (i + 1) (by omega) hQ
    · skip
      rw [if_pos (decide_eq_true h23)] at hQ
      refine zv_iload_n (n := 27) dX1_rackAtRank_26 rfl rfl ?_
      refine zv_iret dX1_rackAtRank_27 rfl (by decide) (by decide) ?_
      exact hQ

set_option maxRecDepth 100000 in
set_option maxHeartbeats 4000000 in
theorem c_X1_rackAtRank {σ : zSg} {M : zM} {c : Nat → Nat} {S : zS} (hC : zCen M c S) (hO : zOk S) (r : Int32) : zCon μX1_rackAtRank (6, 0, 0) σ [.ref (c 0), .int r] M (zF (some (.int (fRkR S r))) (fun M' => zCen M' c S ∧ zOff M M' c)) := by
  refine zCon.of (plainFor_of_name (by decide)) rfl (Nat.le_of_ble_eq_true rfl) ?_
  change zV _ _ _ _ _ 0 0 0 [(0, .ref (c 0)), (1, .int r)] []
  refine zv_aload_n (n := 1) dX1_rackAtRank_0 rfl rfl ?_
  refine zv_callVF0 (n := 4) (As := []) (rest := []) (kc' := 0) (ks' := 0) dX1_rackAtRank_1 rfl (c_X1_measureRacks hC hO) rfl kX1_measureRacks lX1_178 hC.c0 rfl rfl rfl ⟨by decide, by decide⟩ (Nat.le_of_ble_eq_true rfl) rfl rfl (by decide) (by decide) (fun M1 hq => ?_)
  obtain ⟨hC1, ho1, g, hg, hm⟩ := hq
  refine zv_iconst (n := 5) dX1_rackAtRank_4 rfl (v := 0) (by decide) ?_
  refine zv_istore_n (n := 6) (lv' := [(2, .int 0), (0, .ref (c 0)), (1, .int r)]) dX1_rackAtRank_5 rfl (by decide) rfl ?_
  exact l_X1_rackAtRank hC1 hO.1 hg hm r (fCnt S) 0 (by omega) (zFi ⟨hC1, ho1⟩)

set_option maxRecDepth 100000 in
set_option maxHeartbeats 4000000 in
theorem c_X1_comesAisleBefore {σ : zSg} {M : zM} {c : Nat → Nat} {S : zS} (hC : zCen M c S) (hN : zNn S) {i j : Nat} (hi : i < 4) (hj : j < 4) : zCon μX1_comesAisleBefore (2, 0, 0) σ [.ref (c 0), .int (nI i), .int (nI j)] M (zP (some (.int (fB (fCmA S i j)))) M) := by
  obtain ⟨f3, hf3, gf3⟩ := hC.c3
  refine zCon.of (plainFor_of_name (by decide)) rfl (Nat.le_of_ble_eq_true rfl) ?_
  change zV _ _ _ _ _ 0 0 0 [(0, .ref (c 0)), (1, .int (nI i)), (2, .int (nI j))] []
  refine zv_aload_n (n := 1) dX1_comesAisleBefore_0 rfl rfl ?_
  refine zv_get (n := 4) dX1_comesAisleBefore_1 rfl hC.c0 FX1_12 rfl ?_
  refine zv_iload_n (n := 5) dX1_comesAisleBefore_4 rfl rfl ?_
  refine zv_callVP (n := 8) (As := [.int (nI i)]) (rest := []) (kc' := 0) (ks' := 0) dX1_comesAisleBefore_5 rfl (c_X5_heatIn hC hN (nI i)) rfl kX5_heatIn lX1_112 hC.c1 rfl rfl rfl ⟨by decide, by decide⟩ (Nat.le_of_ble_eq_true rfl) rfl rfl (by decide) (by decide) ?_
  refine zv_istore_n (n := 9) (lv' := [(3, .int (fHeat S (nI i))), (0, .ref (c 0)), (1, .int (nI i)), (2, .int (nI j))]) dX1_comesAisleBefore_8 rfl (by decide) rfl ?_
  refine zv_aload_n (n := 10) dX1_comesAisleBefore_9 rfl rfl ?_
  refine zv_get (n := 13) dX1_comesAisleBefore_10 rfl hC.c0 FX1_12 rfl ?_
  refine zv_iload_n (n := 14) dX1_comesAisleBefore_13 rfl rfl ?_
  refine zv_callVP (n := 17) (As := [.int (nI j)]) (rest := []) (kc' := 0) (ks' := 0) dX1_comesAisleBefore_14 rfl (c_X5_heatIn hC hN (nI j)) rfl kX5_heatIn lX1_112 hC.c1 rfl rfl rfl ⟨by decide, by decide⟩ (Nat.le_of_ble_eq_true rfl) rfl rfl (by decide) (by decide) ?_
  refine zv_istore (n := 19) (lv' := [(4, .int (fHeat S (nI j))), (3, .int (fHeat S (nI i))), (0, .ref (c 0)), (1, .int (nI i)), (2, .int (nI j))]) dX1_comesAisleBefore_17 rfl (by decide) rfl ?_
  refine zv_iload_n (n := 20) dX1_comesAisleBefore_19 rfl rfl ?_
  refine zv_iload (n := 22) dX1_comesAisleBefore_20 rfl rfl ?_
  refine zv_icmp_eq (n := 25) (tgt := 37) dX1_comesAisleBefore_22 (by decide) rfl (fun h22 => ?_) (fun h22 => ?_)
  · skip
    refine zv_aload_n (n := 38) dX1_comesAisleBefore_37 rfl rfl ?_
    refine zv_get (n := 41) dX1_comesAisleBefore_38 rfl hC.c0 FX1_25 rfl ?_
    refine zv_iload_n (n := 42) dX1_comesAisleBefore_41 rfl rfl ?_
    refine zv_callSNP (n := 45) (As := [.ref (c 3), .int (nI i)]) (rest := []) (kc' := 0) (ks' := 0) dX1_comesAisleBefore_42 rfl (c_X8_at hf3 (by decide) (nI i)) rfl kX8_at lX1_123 rfl rfl ⟨by decide, by decide⟩ (Nat.le_of_ble_eq_true rfl) rfl rfl (by decide) (by decide) ?_
    rw [show fAt 4 f3 (nI i) = fSto S (nI i) from fAt_cong (by decide) gf3 _]
    refine zv_istore (n := 47) (lv' := [(5, .int (fSto S (nI i))), (4, .int (fHeat S (nI j))), (3, .int (fHeat S (nI i))), (0, .ref (c 0)), (1, .int (nI i)), (2, .int (nI j))]) dX1_comesAisleBefore_45 rfl (by decide) rfl ?_
    refine zv_aload_n (n := 48) dX1_comesAisleBefore_47 rfl rfl ?_
    refine zv_get (n := 51) dX1_comesAisleBefore_48 rfl hC.c0 FX1_25 rfl ?_
    refine zv_iload_n (n := 52) dX1_comesAisleBefore_51 rfl rfl ?_
    refine zv_callSNP (n := 55) (As := [.ref (c 3), .int (nI j)]) (rest := []) (kc' := 0) (ks' := 0) dX1_comesAisleBefore_52 rfl (c_X8_at hf3 (by decide) (nI j)) rfl kX8_at lX1_123 rfl rfl ⟨by decide, by decide⟩ (Nat.le_of_ble_eq_true rfl) rfl rfl (by decide) (by decide) ?_
    rw [show fAt 4 f3 (nI j) = fSto S (nI j) from fAt_cong (by decide) gf3 _]
    refine zv_istore (n := 57) (lv' := [(6, .int (fSto S (nI j))), (5, .int (fSto S (nI i))), (4, .int (fHeat S (nI j))), (3, .int (fHeat S (nI i))), (0, .ref (c 0)), (1, .int (nI i)), (2, .int (nI j))]) dX1_comesAisleBefore_55 rfl (by decide) rfl ?_
    refine zv_iload (n := 59) dX1_comesAisleBefore_57 rfl rfl ?_
    refine zv_iload (n := 61) dX1_comesAisleBefore_59 rfl rfl ?_
    refine zv_icmp_eq (n := 64) (tgt := 77) dX1_comesAisleBefore_61 (by decide) rfl (fun h61 => ?_) (fun h61 => ?_)
    · skip
      refine zv_iload_n (n := 78) dX1_comesAisleBefore_77 rfl rfl ?_
      refine zv_iload_n (n := 79) dX1_comesAisleBefore_78 rfl rfl ?_
      refine zv_icmp_ge (n := 82) (tgt := 86) dX1_comesAisleBefore_79 (by decide) rfl (fun h79 => ?_) (fun h79 => ?_)
      · skip
        refine zv_iconst (n := 87) dX1_comesAisleBefore_86 rfl (v := 0) (by decide) ?_
        refine zv_zret dX1_comesAisleBefore_87 rfl rfl (by decide) (by decide) ?_
        rw [fB_f (by unfold fCmA; rw [if_pos h22, if_pos h61]; exact decide_eq_false (fun q => nI_ge q (by omega) h79))]
        exact zPi
      · skip
        refine zv_iconst (n := 83) dX1_comesAisleBefore_82 rfl (v := 1) (by decide) ?_
        refine zv_goto (tgt := 87) dX1_comesAisleBefore_83 (by decide) ?_
        refine zv_zret dX1_comesAisleBefore_87 rfl rfl (by decide) (by decide) ?_
        rw [fB_t (by unfold fCmA; rw [if_pos h22, if_pos h61]; exact decide_eq_true (Nat.lt_of_not_le (fun q => h79 (nI_le q (by omega)))))]
        exact zPi
    · skip
      refine zv_iload (n := 66) dX1_comesAisleBefore_64 rfl rfl ?_
      refine zv_iload (n := 68) dX1_comesAisleBefore_66 rfl rfl ?_
      refine zv_icmp_le (n := 71) (tgt := 75) dX1_comesAisleBefore_68 (by decide) rfl (fun h68 => ?_) (fun h68 => ?_)
      · skip
        refine zv_iconst (n := 76) dX1_comesAisleBefore_75 rfl (v := 0) (by decide) ?_
        refine zv_zret dX1_comesAisleBefore_76 rfl rfl (by decide) (by decide) ?_
        rw [fB_f (by unfold fCmA; rw [if_pos h22, if_neg h61]; exact decide_eq_false (Int32.not_lt.mpr h68))]
        exact zPi
      · skip
        refine zv_iconst (n := 72) dX1_comesAisleBefore_71 rfl (v := 1) (by decide) ?_
        refine zv_goto (tgt := 76) dX1_comesAisleBefore_72 (by decide) ?_
        refine zv_zret dX1_comesAisleBefore_76 rfl rfl (by decide) (by decide) ?_
        rw [fB_t (by unfold fCmA; rw [if_pos h22, if_neg h61]; exact decide_eq_true (Int32.not_le.mp h68))]
        exact zPi
  · skip
    refine zv_iload_n (n := 26) dX1_comesAisleBefore_25 rfl rfl ?_
    refine zv_iload (n := 28) dX1_comesAisleBefore_26 rfl rfl ?_
    refine zv_icmp_le (n := 31) (tgt := 35) dX1_comesAisleBefore_28 (by decide) rfl (fun h28 => ?_) (fun h28 => ?_)
    · skip
      refine zv_iconst (n := 36) dX1_comesAisleBefore_35 rfl (v := 0) (by decide) ?_
      refine zv_zret dX1_comesAisleBefore_36 rfl rfl (by decide) (by decide) ?_
      rw [fB_f (by unfold fCmA; rw [if_neg h22]; exact decide_eq_false (Int32.not_lt.mpr h28))]
      exact zPi
    · skip
      refine zv_iconst (n := 32) dX1_comesAisleBefore_31 rfl (v := 1) (by decide) ?_
      refine zv_goto (tgt := 36) dX1_comesAisleBefore_32 (by decide) ?_
      refine zv_zret dX1_comesAisleBefore_36 rfl rfl (by decide) (by decide) ?_
      rw [fB_t (by unfold fCmA; rw [if_neg h22]; exact decide_eq_true (Int32.not_le.mp h28))]
      exact zPi

set_option maxRecDepth 100000 in
set_option maxHeartbeats 4000000 in
theorem l_X1_countAB {σ : zSg} {M : zM} {c : Nat → Nat} {S : zS} (hC : zCen M c S) (hN : zNn S) {j : Nat} (hj : j < 4) {Q : zO → zM → Prop} (hQ : Q (.inl (some (.int (nI (fAiB S j))))) M) : ∀ k i, i + k = 4 → ∀ x, x = nI (fCb (fun i => fCmA S i j) i) → zV μX1_countAislesBefore (3, 0, 0) σ Q M 0 0 4 [(3, .int (nI i)), (2, .int x), (0, .ref (c 0)), (1, .int (nI j))] [] := by
  intro k
  induction k with
  | zero =>
    intro i hi x hx
    refine zv_iload_n (n := 5) dX1_countAislesBefore_4 rfl rfl ?_
    refine zv_iconst (n := 6) dX1_countAislesBefore_5 rfl (v := 4) (by decide) ?_
    refine zv_icmp_ge (n := 9) (tgt := 27) dX1_countAislesBefore_6 (by decide) rfl (fun h6 => ?_) (fun h6 => False.elim (absurd (nI_le (a := 4) (by omega) (by omega)) h6))
    refine zv_iload_n (n := 28) dX1_countAislesBefore_27 rfl rfl ?_
    refine zv_iret dX1_countAislesBefore_28 rfl (by decide) (by decide) ?_
    rw [hx, show i = 4 by omega]
    exact hQ
  | succ k ih =>
    intro i hi x hx
    have hb := fCb_le (fun i => fCmA S i j) i
    refine zv_iload_n (n := 5) dX1_countAislesBefore_4 rfl rfl ?_
    refine zv_iconst (n := 6) dX1_countAislesBefore_5 rfl (v := 4) (by decide) ?_
    refine zv_icmp_ge (n := 9) (tgt := 27) dX1_countAislesBefore_6 (by decide) rfl (fun h6 => False.elim (absurd h6 (nI_ge (b := 4) (by omega) (by omega)))) (fun h6 => ?_)
    refine zv_aload_n (n := 10) dX1_countAislesBefore_9 rfl rfl ?_
    refine zv_iload_n (n := 11) dX1_countAislesBefore_10 rfl rfl ?_
    refine zv_iload_n (n := 12) dX1_countAislesBefore_11 rfl rfl ?_
    refine zv_callVP (n := 15) (As := [.int (nI i), .int (nI j)]) (rest := []) (kc' := 0) (ks' := 0) dX1_countAislesBefore_12 rfl (c_X1_comesAisleBefore hC hN (i := i) (j := j) (by omega) hj) rfl kX1_comesAisleBefore lX1_196 hC.c0 rfl rfl rfl ⟨by decide, by decide⟩ (Nat.le_of_ble_eq_true rfl) rfl rfl (by decide) (by decide) ?_
    refine zv_if_eq (n := 18) (tgt := 21) dX1_countAislesBefore_15 (by decide) rfl (fun h15 => ?_) (fun h15 => ?_)
    · skip
      have e33 := fB_eq h15
      refine zv_iinc (n := 24) (v := nI (i + 1)) (lv' := [(3, .int (nI (i + 1))), (2, .int x), (0, .ref (c 0)), (1, .int (nI j))]) dX1_countAislesBefore_21 rfl rfl (nI_1 i) (by decide) rfl ?_
      refine zv_goto (tgt := 4) dX1_countAislesBefore_24 (by decide) ?_
      refine zv_lvs (lv' := [(3, .int (nI (i + 1))), (2, .int x), (0, .ref (c 0)), (1, .int (nI j))]) ⟨rfl, rfl, rfl, rfl, trivial⟩ ?_
      exact ih (i + 1) (by omega) _ (by rw [fCb, e33, if_neg (by decide)]; exact hx)
    · skip
      have e33 := fB_ne h15
      refine zv_iinc (n := 21) (v := nI (fCb (fun i => fCmA S i j) i + 1)) (lv' := [(2, .int (nI (fCb (fun i => fCmA S i j) i + 1))), (3, .int (nI i)), (0, .ref (c 0)), (1, .int (nI j))]) dX1_countAislesBefore_18 rfl rfl (by rw [hx]; exact nI_1 _) (by decide) rfl ?_
      refine zv_iinc (n := 24) (v := nI (i + 1)) (lv' := [(3, .int (nI (i + 1))), (2, .int (nI (fCb (fun i => fCmA S i j) i + 1))), (0, .ref (c 0)), (1, .int (nI j))]) dX1_countAislesBefore_21 rfl rfl (nI_1 i) (by decide) rfl ?_
      refine zv_goto (tgt := 4) dX1_countAislesBefore_24 (by decide) ?_
      refine zv_lvs (lv' := [(3, .int (nI (i + 1))), (2, .int (nI (fCb (fun i => fCmA S i j) i + 1))), (0, .ref (c 0)), (1, .int (nI j))]) ⟨rfl, rfl, rfl, rfl, trivial⟩ ?_
      exact ih (i + 1) (by omega) _ (by rw [fCb, e33, if_pos rfl])

set_option maxRecDepth 100000 in
set_option maxHeartbeats 4000000 in
theorem c_X1_countAislesBefore {σ : zSg} {M : zM} {c : Nat → Nat} {S : zS} (hC : zCen M c S) (hN : zNn S) {j : Nat} (hj : j < 4) : zCon μX1_countAislesBefore (3, 0, 0) σ [.ref (c 0), .int (nI j)] M (zP (some (.int (nI (fAiB S j)))) M) := by
  refine zCon.of (plainFor_of_name (by decide)) rfl (Nat.le_of_ble_eq_true rfl) ?_
  change zV _ _ _ _ _ 0 0 0 [(0, .ref (c 0)), (1, .int (nI j))] []
  refine zv_iconst (n := 1) dX1_countAislesBefore_0 rfl (v := 0) (by decide) ?_
  refine zv_istore_n (n := 2) (lv' := [(2, .int 0), (0, .ref (c 0)), (1, .int (nI j))]) dX1_countAislesBefore_1 rfl (by decide) rfl ?_
  refine zv_iconst (n := 3) dX1_countAislesBefore_2 rfl (v := 0) (by decide) ?_
  refine zv_istore_n (n := 4) (lv' := [(3, .int 0), (2, .int 0), (0, .ref (c 0)), (1, .int (nI j))]) dX1_countAislesBefore_3 rfl (by decide) rfl ?_
  refine zv_lvs (lv' := [(3, .int 0), (2, .int 0), (0, .ref (c 0)), (1, .int (nI j))]) ⟨rfl, rfl, rfl, rfl, trivial⟩ ?_
  exact l_X1_countAB hC hN hj zPi 4 0 (by omega) 0 rfl

set_option maxRecDepth 100000 in
set_option maxHeartbeats 4000000 in
theorem l_X1_aisleAtRank {σ : zSg} {M : zM} {c : Nat → Nat} {S : zS} (hC : zCen M c S) (hN : zNn S) {Q : zO → zM → Prop} (r : Int32) : ∀ k i, i + k = 4 → Q (.inl (some (.int (fFst (fun i => decide (nI (fAiB S i) = r)) k i)))) M → zV μX1_aisleAtRank (4, 0, 0) σ Q M 0 0 2 [(2, .int (nI i)), (0, .ref (c 0)), (1, .int r)] [] := by
  intro k
  induction k with
  | zero =>
    intro i hi hQ
    refine zv_iload_n (n := 3) dX1_aisleAtRank_2 rfl rfl ?_
    refine zv_iconst (n := 4) dX1_aisleAtRank_3 rfl (v := 4) (by decide) ?_
    refine zv_icmp_ge (n := 7) (tgt := 24) dX1_aisleAtRank_4 (by decide) rfl (fun h4 => ?_) (fun h4 => False.elim (absurd (nI_le (a := 4) (by omega) (by omega)) h4))
    refine zv_iconst (n := 25) dX1_aisleAtRank_24 rfl (v := (-1)) (by decide) ?_
    refine zv_iret dX1_aisleAtRank_25 rfl (by decide) (by decide) ?_
    exact hQ
  | succ k ih =>
    intro i hi hQ
    rw [fFst] at hQ
    refine zv_iload_n (n := 3) dX1_aisleAtRank_2 rfl rfl ?_
    refine zv_iconst (n := 4) dX1_aisleAtRank_3 rfl (v := 4) (by decide) ?_
    refine zv_icmp_ge (n := 7) (tgt := 24) dX1_aisleAtRank_4 (by decide) rfl (fun h4 => False.elim (absurd h4 (nI_ge (b := 4) (by omega) (by omega)))) (fun h4 => ?_)
    refine zv_aload_n (n := 8) dX1_aisleAtRank_7 rfl rfl ?_
    refine zv_iload_n (n := 9) dX1_aisleAtRank_8 rfl rfl ?_
    refine zv_callVP (n := 12) (As := [.int (nI i)]) (rest := []) (kc' := 0) (ks' := 0) dX1_aisleAtRank_9 rfl (c_X1_countAislesBefore hC hN (j := i) (by omega)) rfl kX1_countAislesBefore lX1_193 hC.c0 rfl rfl rfl ⟨by decide, by decide⟩ (Nat.le_of_ble_eq_true rfl) rfl rfl (by decide) (by decide) ?_
    refine zv_iload_n (n := 13) dX1_aisleAtRank_12 rfl rfl ?_
    refine zv_icmp_ne (n := 16) (tgt := 18) dX1_aisleAtRank_13 (by decide) rfl (fun h13 => ?_) (fun h13 => ?_)
    · skip
      rw [if_neg (fun q => h13 (of_decide_eq_true q))] at hQ
      refine zv_iinc (n := 21) (v := nI (i + 1)) (lv' := [(2, .int (nI (i + 1))), (0, .ref (c 0)), (1, .int r)]) dX1_aisleAtRank_18 rfl rfl (nI_1 i) (by decide) rfl ?_
      refine zv_goto (tgt := 2) dX1_aisleAtRank_21 (by decide) ?_
      refine zv_lvs (lv' := [(2, .int (nI (i + 1))), (0, .ref (c 0)), (1, .int r)]) ⟨rfl, rfl, rfl, trivial⟩ ?_
      exact ih (i + 1) (by omega) hQ
    · skip
      rw [if_pos (decide_eq_true h13)] at hQ
      refine zv_iload_n (n := 17) dX1_aisleAtRank_16 rfl rfl ?_
      refine zv_iret dX1_aisleAtRank_17 rfl (by decide) (by decide) ?_
      exact hQ

set_option maxRecDepth 100000 in
set_option maxHeartbeats 4000000 in
theorem c_X1_aisleAtRank {σ : zSg} {M : zM} {c : Nat → Nat} {S : zS} (hC : zCen M c S) (hN : zNn S) (r : Int32) : zCon μX1_aisleAtRank (4, 0, 0) σ [.ref (c 0), .int r] M (zP (some (.int (fAiR S r))) M) := by
  refine zCon.of (plainFor_of_name (by decide)) rfl (Nat.le_of_ble_eq_true rfl) ?_
  change zV _ _ _ _ _ 0 0 0 [(0, .ref (c 0)), (1, .int r)] []
  refine zv_iconst (n := 1) dX1_aisleAtRank_0 rfl (v := 0) (by decide) ?_
  refine zv_istore_n (n := 2) (lv' := [(2, .int 0), (0, .ref (c 0)), (1, .int r)]) dX1_aisleAtRank_1 rfl (by decide) rfl ?_
  exact l_X1_aisleAtRank hC hN r 4 0 (by omega) zPi

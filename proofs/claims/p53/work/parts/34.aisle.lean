/-! An aisle described: laid by wip/p53/m34.py. -/
theorem nI_t {x : Int32} {n : Nat} (h0 : 0 ≤ x.toInt) (h1 : x.toInt ≤ (n : Int)) : x = nI x.toNatClampNeg ∧ x.toNatClampNeg ≤ n := by
  obtain ⟨j, hj, e⟩ := nI_of (x := x) (by rw [Int32.lt_iff_toInt_lt]; have e0 : (0 : Int32).toInt = 0 := rfl; omega)
  subst e
  rw [nI_toInt hj] at h1
  rw [nI_clamp hj]
  exact ⟨rfl, by omega⟩
theorem fFindF_in {S : zS} {a p : Int32} : ∀ k i, fFindF S a p k i = -1 ∨ ∃ q, q < i + k ∧ fFindF S a p k i = nI q := by
  intro k
  induction k with
  | zero => intro i; exact Or.inl rfl
  | succ k ih =>
    intro i
    have h := ih (i + 1)
    rw [fFindF]
    split
    · split
      · exact Or.inr ⟨i, by omega, rfl⟩
      · rcases h with h | ⟨q, h1, h2⟩
        · exact Or.inl h
        · exact Or.inr ⟨q, by omega, h2⟩
    · rcases h with h | ⟨q, h1, h2⟩
      · exact Or.inl h
      · exact Or.inr ⟨q, by omega, h2⟩
theorem fFind_in (S : zS) (a p : Int32) : fFind S a p = -1 ∨ ∃ q, q < fCnt S ∧ fFind S a p = nI q := by
  rcases fFindF_in (S := S) (a := a) (p := p) (fCnt S) 0 with h | ⟨q, h1, h2⟩
  · exact Or.inl h
  · exact Or.inr ⟨q, by omega, h2⟩
def fTxAF (S : zS) (a : Int32) : Nat → Nat → (Nat → Nat) × Nat → (Nat → Nat) × Nat
  | 0, _, x => x
  | d + 1, i, x => fTxAF S a d (i + 1) (if fFind S a (nI i) = -1 then tcC (tcC x (if i = 0 then 32 else 44)) 45 else tcI (tcC x (if i = 0 then 32 else 44)) (fN S (3 + 3 * (fFind S a (nI i)).toNatClampNeg)))
def fTxA (S : zS) (a : Int32) : (Nat → Nat) × Nat := fTxAF S a 6 0 (tcI (tcC tc0 102) (fSpd S a).toNatClampNeg)

set_option maxRecDepth 100000 in
set_option maxHeartbeats 4000000 in
theorem l_X8_renderAisle {σ : zSg} {M0 : zM} {Z : Nat → Prop} {b : Nat → Nat} {C : Nat → Nat → Nat} {S : Nat → zS} {nw un : Nat} {hs ea fa : Int32} {t : Nat → Nat} {n : Nat} (a : Int32) (X : (Nat → Nat) × Nat) : ∀ (d i : Nat) (M : zM) (x : (Nat → Nat) × Nat) (kc ks : Nat), i + d = 6 → zPl M Z b C S nw un hs ea fa t n x.1 x.2 → zKe M0 M Z → x.2 ≤ 3 + 3 * i → kc + 2 * d ≤ 15 → ks + 300 * d ≤ 2106 → fTxAF (S nw) a d i x = X → zV μX8_renderAisle (7, 15, 2106) σ (zRen M0 Z b C S nw un hs ea fa t n X) M kc ks 38 [(2, .int (nI i)), (0, .ref (b 0)), (1, .int a)] [] := by
  intro d
  induction d with
  | zero =>
    intro i M x kc ks hi hP hz hx hc hs9 hX
    obtain ⟨ml0, v0, hB0⟩ := hP.outB
    refine zv_iload_n (n := 39) dX8_renderAisle_38 rfl rfl ?_
    refine zv_bipush (n := 41) dX8_renderAisle_39 rfl (v := 6) (by decide) ?_
    refine zv_icmp_ge (n := 44) (tgt := 121) dX8_renderAisle_41 (by decide) rfl (fun h41 => ?_) (fun h41 => False.elim (absurd (nI_le (a := 6) (by omega) (by omega)) h41))
    refine zv_aload_n (n := 122) dX8_renderAisle_121 rfl rfl ?_
    refine zv_get (n := 125) dX8_renderAisle_122 rfl hP.2.2.1 FX8_40 rfl ?_
    refine zv_callVP (n := 128) (As := []) (rest := []) (kc' := kc) (ks' := ks) dX8_renderAisle_125 rfl (c_outL hP) rfl kJ4_length_8abf5 lX8_247 hB0 rfl rfl rfl ⟨by decide, by decide⟩ (Nat.le_of_ble_eq_true rfl) rfl rfl (by show _ ≤ 15; omega) (by show _ ≤ 2106; omega) ?_
    refine zv_iret dX8_renderAisle_128 rfl (by show _ ≤ 15; omega) (by show _ ≤ 2106; omega) ?_
    rw [← hX]
    exact ⟨rfl, hP, hz⟩
  | succ d ih =>
    intro i M x kc ks hi hP hz hx hc hs9 hX
    rw [fTxAF] at hX
    have hnw : nw < 10 := hP.2.1.1
    have hO := hP.1.ok (i := nw) (by omega)
    obtain ⟨ml0, v0, hB0⟩ := hP.outB
    refine zv_iload_n (n := 39) dX8_renderAisle_38 rfl rfl ?_
    refine zv_bipush (n := 41) dX8_renderAisle_39 rfl (v := 6) (by decide) ?_
    refine zv_icmp_ge (n := 44) (tgt := 121) dX8_renderAisle_41 (by decide) rfl (fun h41 => False.elim (absurd h41 (nI_ge (b := 6) (by omega) (by omega)))) (fun h41 => ?_)
    refine zv_aload_n (n := 45) dX8_renderAisle_44 rfl rfl ?_
    refine zv_get (n := 48) dX8_renderAisle_45 rfl hP.2.2.1 FX8_40 rfl ?_
    refine zv_iload_n (n := 49) dX8_renderAisle_48 rfl rfl ?_
    refine zv_if_ne (n := 52) (tgt := 57) dX8_renderAisle_49 (by decide) rfl (fun h49 => ?_) (fun h49 => ?_)
    · have e0 : ¬ i = 0 := fun e => h49 (by rw [e]; rfl)
      refine zv_bipush (n := 59) dX8_renderAisle_57 rfl (v := 44) (by decide) ?_
      refine zv_callVF (n := 62) (As := [.int 44]) (rest := []) (kc' := (kc + 1)) (ks' := (ks + 150)) dX8_renderAisle_59 rfl (c_outC hP (c := 44) (by decide) (show x.2 + 1 ≤ 70 by omega)) rfl kJ4_append_cf468 lX8_244 hB0 rfl rfl rfl ⟨by decide, by decide⟩ (Nat.le_of_ble_eq_true rfl) rfl rfl (by show _ ≤ 15; omega) (by show _ ≤ 2106; omega) (fun M1 hq => ?_)
      obtain ⟨hP1, hz1⟩ := hq
      obtain ⟨ml1, v1, hB1⟩ := hP1.outB
      have hC1 := hP1.1.cen (i := nw) (by omega)
      refine zv_pop (n := 63) dX8_renderAisle_62 rfl rfl ?_
      refine zv_aload_n (n := 64) dX8_renderAisle_63 rfl rfl ?_
      refine zv_callVP (n := 67) (As := []) (rest := []) (kc' := (kc + 1)) (ks' := (ks + 150)) dX8_renderAisle_64 rfl (c_X8_now hP1) rfl kX8_now lX8_87 hP1.2.2.1 rfl rfl rfl ⟨by decide, by decide⟩ (Nat.le_of_ble_eq_true rfl) rfl rfl (by show _ ≤ 15; omega) (by show _ ≤ 2106; omega) ?_
      refine zv_getN (n := 70) dX8_renderAisle_67 rfl hC1.c0 FX8_94 rfl ?_
      refine zv_aload_n (n := 71) dX8_renderAisle_70 rfl rfl ?_
      refine zv_callVP (n := 74) (As := []) (rest := [.ref (C nw 1)]) (kc' := (kc + 1)) (ks' := (ks + 150)) dX8_renderAisle_71 rfl (c_X8_now hP1) rfl kX8_now lX8_87 hP1.2.2.1 rfl rfl rfl ⟨by decide, by decide⟩ (Nat.le_of_ble_eq_true rfl) rfl rfl (by show _ ≤ 15; omega) (by show _ ≤ 2106; omega) ?_
      refine zv_getN (n := 77) dX8_renderAisle_74 rfl hC1.c0 FX8_94 rfl ?_
      refine zv_iload_n (n := 78) dX8_renderAisle_77 rfl rfl ?_
      refine zv_iload_n (n := 79) dX8_renderAisle_78 rfl rfl ?_
      refine zv_callVP (n := 82) (As := [.int a, .int (nI i)]) (rest := [.ref (C nw 1)]) (kc' := (kc + 1)) (ks' := (ks + 150)) dX8_renderAisle_79 rfl (c_X5_find hC1 hO.1 a (nI i)) rfl kX5_find lX8_133 hC1.c1 rfl rfl rfl ⟨by decide, by decide⟩ (Nat.le_of_ble_eq_true rfl) rfl rfl (by show _ ≤ 15; omega) (by show _ ≤ 2106; omega) ?_
      rcases fFind_in (S nw) a (nI i) with e | ⟨q, hq2, e⟩
      · rw [e]
        refine zv_callVP (n := 85) (As := [.int (-1)]) (rest := []) (kc' := (kc + 1)) (ks' := (ks + 150)) dX8_renderAisle_82 rfl (c_X5_getN hC1 hO.1 (Or.inl (by decide))) rfl kX5_get lX8_250 hC1.c1 rfl rfl rfl ⟨by decide, by decide⟩ (Nat.le_of_ble_eq_true rfl) rfl rfl (by show _ ≤ 15; omega) (by show _ ≤ 2106; omega) ?_
        refine zv_astore_nN (n := 86) (lv' := [(3, .null), (2, .int (nI i)), (0, .ref (b 0)), (1, .int a)]) dX8_renderAisle_85 rfl (by decide) rfl ?_
        refine zv_aload_nN (n := 87) dX8_renderAisle_86 rfl rfl ?_
        refine zv_ifnonnullN (n := 90) dX8_renderAisle_87 rfl ?_
        refine zv_aload_n (n := 91) dX8_renderAisle_90 rfl rfl ?_
        refine zv_get (n := 94) dX8_renderAisle_91 rfl hP1.2.2.1 FX8_40 rfl ?_
        refine zv_bipush (n := 96) dX8_renderAisle_94 rfl (v := 45) (by decide) ?_
        refine zv_callVF (n := 99) (As := [.int 45]) (rest := []) (kc' := ((kc + 1) + 1)) (ks' := ((ks + 150) + 150)) dX8_renderAisle_96 rfl (c_outC hP1 (c := 45) (by decide) (show x.2 + 1 + 1 ≤ 70 by omega)) rfl kJ4_append_cf468 lX8_244 hB1 rfl rfl rfl ⟨by decide, by decide⟩ (Nat.le_of_ble_eq_true rfl) rfl rfl (by show _ ≤ 15; omega) (by show _ ≤ 2106; omega) (fun M2 hq => ?_)
        refine zv_pop (n := 100) dX8_renderAisle_99 rfl rfl ?_
        refine zv_goto (tgt := 115) dX8_renderAisle_100 (by decide) ?_
        refine zv_iinc (n := 118) (v := nI (i + 1)) (lv' := [(2, .int (nI (i + 1))), (3, .null), (0, .ref (b 0)), (1, .int a)]) dX8_renderAisle_115 rfl rfl (nI_1 i) (by decide) rfl ?_
        refine zv_goto (tgt := 38) dX8_renderAisle_118 (by decide) ?_
        rw [if_pos e, if_neg e0] at hX
        refine zv_lvs (lv' := [(2, .int (nI (i + 1))), (0, .ref (b 0)), (1, .int a)]) ⟨rfl, rfl, rfl, trivial⟩ ?_
        exact ih (i + 1) _ (tcC (tcC x 44) 45) _ _ (by omega) hq.1 ((hz.tr hz1).tr hq.2) (show x.2 + 1 + 1 ≤ 3 + 3 * (i + 1) by omega) (by omega) (by omega) hX
      · have e9 : ¬ fFind (S nw) a (nI i) = -1 := fun h => by rw [e] at h; exact nI_pos (n := q) (by have := hO.1.2; omega) (by rw [h]; decide)
        obtain ⟨e3, b3⟩ := fN_of (n := 20) (by decide) (hO.2.1 q (by have := hO.1.2; omega)).2.2
        have d3 := dgl (c := fN (S nw) (3 + 3 * q)) (by omega)
        rw [e]
        refine zv_callVP (n := 85) (As := [.int (nI q)]) (rest := []) (kc' := (kc + 1)) (ks' := (ks + 150)) dX8_renderAisle_82 rfl (c_X5_get hC1 hO.1 hq2) rfl kX5_get lX8_250 hC1.c1 rfl rfl rfl ⟨by decide, by decide⟩ (Nat.le_of_ble_eq_true rfl) rfl rfl (by show _ ≤ 15; omega) (by show _ ≤ 2106; omega) ?_
        refine zv_astore_n (n := 86) (lv' := [(3, .ref (C nw (8 + q))), (2, .int (nI i)), (0, .ref (b 0)), (1, .int a)]) dX8_renderAisle_85 rfl (by decide) rfl ?_
        refine zv_aload_n (n := 87) dX8_renderAisle_86 rfl rfl ?_
        refine zv_ifnonnull (tgt := 103) dX8_renderAisle_87 (by decide) ?_
        refine zv_aload_n (n := 104) dX8_renderAisle_103 rfl rfl ?_
        refine zv_get (n := 107) dX8_renderAisle_104 rfl hP1.2.2.1 FX8_40 rfl ?_
        refine zv_aload_n (n := 108) dX8_renderAisle_107 rfl rfl ?_
        refine zv_getN (n := 111) dX8_renderAisle_108 rfl (hC1.rk (i := q) (by have := hO.1.2; omega)) FX8_115 rfl ?_
        rw [e3]
        refine zv_callVF (n := 114) (As := [.int (nI (fN (S nw) (3 + 3 * q)))]) (rest := []) (kc' := ((kc + 1) + 1)) (ks' := ((ks + 150) + 150)) dX8_renderAisle_111 rfl (c_outI hP1 (c := fN (S nw) (3 + 3 * q)) (by omega) (show x.2 + 1 + 2 ≤ 70 by omega)) rfl kJ4_append_bf812 lX8_240 hB1 rfl rfl rfl ⟨by decide, by decide⟩ (Nat.le_of_ble_eq_true rfl) rfl rfl (by show _ ≤ 15; omega) (by show _ ≤ 2106; omega) (fun M2 hq => ?_)
        refine zv_pop (n := 115) dX8_renderAisle_114 rfl rfl ?_
        refine zv_iinc (n := 118) (v := nI (i + 1)) (lv' := [(2, .int (nI (i + 1))), (3, .ref (C nw (8 + q))), (0, .ref (b 0)), (1, .int a)]) dX8_renderAisle_115 rfl rfl (nI_1 i) (by decide) rfl ?_
        refine zv_goto (tgt := 38) dX8_renderAisle_118 (by decide) ?_
        rw [if_neg e9, if_neg e0, e, nI_clamp (by have := hO.1.2; omega)] at hX
        refine zv_lvs (lv' := [(2, .int (nI (i + 1))), (0, .ref (b 0)), (1, .int a)]) ⟨rfl, rfl, rfl, trivial⟩ ?_
        exact ih (i + 1) _ (tcI (tcC x 44) (fN (S nw) (3 + 3 * q))) _ _ (by omega) hq.1 ((hz.tr hz1).tr hq.2) (show x.2 + 1 + sb_dg (fN (S nw) (3 + 3 * q)) ≤ 3 + 3 * (i + 1) by omega) (by omega) (by omega) hX
    · have e0 : i = 0 := (nI_eq (b := 0) (by omega) (by decide)).mp h49
      refine zv_bipush (n := 54) dX8_renderAisle_52 rfl (v := 32) (by decide) ?_
      refine zv_goto (tgt := 59) dX8_renderAisle_54 (by decide) ?_
      refine zv_callVF (n := 62) (As := [.int 32]) (rest := []) (kc' := (kc + 1)) (ks' := (ks + 150)) dX8_renderAisle_59 rfl (c_outC hP (c := 32) (by decide) (show x.2 + 1 ≤ 70 by omega)) rfl kJ4_append_cf468 lX8_244 hB0 rfl rfl rfl ⟨by decide, by decide⟩ (Nat.le_of_ble_eq_true rfl) rfl rfl (by show _ ≤ 15; omega) (by show _ ≤ 2106; omega) (fun M1 hq => ?_)
      obtain ⟨hP1, hz1⟩ := hq
      obtain ⟨ml1, v1, hB1⟩ := hP1.outB
      have hC1 := hP1.1.cen (i := nw) (by omega)
      refine zv_pop (n := 63) dX8_renderAisle_62 rfl rfl ?_
      refine zv_aload_n (n := 64) dX8_renderAisle_63 rfl rfl ?_
      refine zv_callVP (n := 67) (As := []) (rest := []) (kc' := (kc + 1)) (ks' := (ks + 150)) dX8_renderAisle_64 rfl (c_X8_now hP1) rfl kX8_now lX8_87 hP1.2.2.1 rfl rfl rfl ⟨by decide, by decide⟩ (Nat.le_of_ble_eq_true rfl) rfl rfl (by show _ ≤ 15; omega) (by show _ ≤ 2106; omega) ?_
      refine zv_getN (n := 70) dX8_renderAisle_67 rfl hC1.c0 FX8_94 rfl ?_
      refine zv_aload_n (n := 71) dX8_renderAisle_70 rfl rfl ?_
      refine zv_callVP (n := 74) (As := []) (rest := [.ref (C nw 1)]) (kc' := (kc + 1)) (ks' := (ks + 150)) dX8_renderAisle_71 rfl (c_X8_now hP1) rfl kX8_now lX8_87 hP1.2.2.1 rfl rfl rfl ⟨by decide, by decide⟩ (Nat.le_of_ble_eq_true rfl) rfl rfl (by show _ ≤ 15; omega) (by show _ ≤ 2106; omega) ?_
      refine zv_getN (n := 77) dX8_renderAisle_74 rfl hC1.c0 FX8_94 rfl ?_
      refine zv_iload_n (n := 78) dX8_renderAisle_77 rfl rfl ?_
      refine zv_iload_n (n := 79) dX8_renderAisle_78 rfl rfl ?_
      refine zv_callVP (n := 82) (As := [.int a, .int (nI i)]) (rest := [.ref (C nw 1)]) (kc' := (kc + 1)) (ks' := (ks + 150)) dX8_renderAisle_79 rfl (c_X5_find hC1 hO.1 a (nI i)) rfl kX5_find lX8_133 hC1.c1 rfl rfl rfl ⟨by decide, by decide⟩ (Nat.le_of_ble_eq_true rfl) rfl rfl (by show _ ≤ 15; omega) (by show _ ≤ 2106; omega) ?_
      rcases fFind_in (S nw) a (nI i) with e | ⟨q, hq2, e⟩
      · rw [e]
        refine zv_callVP (n := 85) (As := [.int (-1)]) (rest := []) (kc' := (kc + 1)) (ks' := (ks + 150)) dX8_renderAisle_82 rfl (c_X5_getN hC1 hO.1 (Or.inl (by decide))) rfl kX5_get lX8_250 hC1.c1 rfl rfl rfl ⟨by decide, by decide⟩ (Nat.le_of_ble_eq_true rfl) rfl rfl (by show _ ≤ 15; omega) (by show _ ≤ 2106; omega) ?_
        refine zv_astore_nN (n := 86) (lv' := [(3, .null), (2, .int (nI i)), (0, .ref (b 0)), (1, .int a)]) dX8_renderAisle_85 rfl (by decide) rfl ?_
        refine zv_aload_nN (n := 87) dX8_renderAisle_86 rfl rfl ?_
        refine zv_ifnonnullN (n := 90) dX8_renderAisle_87 rfl ?_
        refine zv_aload_n (n := 91) dX8_renderAisle_90 rfl rfl ?_
        refine zv_get (n := 94) dX8_renderAisle_91 rfl hP1.2.2.1 FX8_40 rfl ?_
        refine zv_bipush (n := 96) dX8_renderAisle_94 rfl (v := 45) (by decide) ?_
        refine zv_callVF (n := 99) (As := [.int 45]) (rest := []) (kc' := ((kc + 1) + 1)) (ks' := ((ks + 150) + 150)) dX8_renderAisle_96 rfl (c_outC hP1 (c := 45) (by decide) (show x.2 + 1 + 1 ≤ 70 by omega)) rfl kJ4_append_cf468 lX8_244 hB1 rfl rfl rfl ⟨by decide, by decide⟩ (Nat.le_of_ble_eq_true rfl) rfl rfl (by show _ ≤ 15; omega) (by show _ ≤ 2106; omega) (fun M2 hq => ?_)
        refine zv_pop (n := 100) dX8_renderAisle_99 rfl rfl ?_
        refine zv_goto (tgt := 115) dX8_renderAisle_100 (by decide) ?_
        refine zv_iinc (n := 118) (v := nI (i + 1)) (lv' := [(2, .int (nI (i + 1))), (3, .null), (0, .ref (b 0)), (1, .int a)]) dX8_renderAisle_115 rfl rfl (nI_1 i) (by decide) rfl ?_
        refine zv_goto (tgt := 38) dX8_renderAisle_118 (by decide) ?_
        rw [if_pos e, if_pos e0] at hX
        refine zv_lvs (lv' := [(2, .int (nI (i + 1))), (0, .ref (b 0)), (1, .int a)]) ⟨rfl, rfl, rfl, trivial⟩ ?_
        exact ih (i + 1) _ (tcC (tcC x 32) 45) _ _ (by omega) hq.1 ((hz.tr hz1).tr hq.2) (show x.2 + 1 + 1 ≤ 3 + 3 * (i + 1) by omega) (by omega) (by omega) hX
      · have e9 : ¬ fFind (S nw) a (nI i) = -1 := fun h => by rw [e] at h; exact nI_pos (n := q) (by have := hO.1.2; omega) (by rw [h]; decide)
        obtain ⟨e3, b3⟩ := fN_of (n := 20) (by decide) (hO.2.1 q (by have := hO.1.2; omega)).2.2
        have d3 := dgl (c := fN (S nw) (3 + 3 * q)) (by omega)
        rw [e]
        refine zv_callVP (n := 85) (As := [.int (nI q)]) (rest := []) (kc' := (kc + 1)) (ks' := (ks + 150)) dX8_renderAisle_82 rfl (c_X5_get hC1 hO.1 hq2) rfl kX5_get lX8_250 hC1.c1 rfl rfl rfl ⟨by decide, by decide⟩ (Nat.le_of_ble_eq_true rfl) rfl rfl (by show _ ≤ 15; omega) (by show _ ≤ 2106; omega) ?_
        refine zv_astore_n (n := 86) (lv' := [(3, .ref (C nw (8 + q))), (2, .int (nI i)), (0, .ref (b 0)), (1, .int a)]) dX8_renderAisle_85 rfl (by decide) rfl ?_
        refine zv_aload_n (n := 87) dX8_renderAisle_86 rfl rfl ?_
        refine zv_ifnonnull (tgt := 103) dX8_renderAisle_87 (by decide) ?_
        refine zv_aload_n (n := 104) dX8_renderAisle_103 rfl rfl ?_
        refine zv_get (n := 107) dX8_renderAisle_104 rfl hP1.2.2.1 FX8_40 rfl ?_
        refine zv_aload_n (n := 108) dX8_renderAisle_107 rfl rfl ?_
        refine zv_getN (n := 111) dX8_renderAisle_108 rfl (hC1.rk (i := q) (by have := hO.1.2; omega)) FX8_115 rfl ?_
        rw [e3]
        refine zv_callVF (n := 114) (As := [.int (nI (fN (S nw) (3 + 3 * q)))]) (rest := []) (kc' := ((kc + 1) + 1)) (ks' := ((ks + 150) + 150)) dX8_renderAisle_111 rfl (c_outI hP1 (c := fN (S nw) (3 + 3 * q)) (by omega) (show x.2 + 1 + 2 ≤ 70 by omega)) rfl kJ4_append_bf812 lX8_240 hB1 rfl rfl rfl ⟨by decide, by decide⟩ (Nat.le_of_ble_eq_true rfl) rfl rfl (by show _ ≤ 15; omega) (by show _ ≤ 2106; omega) (fun M2 hq => ?_)
        refine zv_pop (n := 115) dX8_renderAisle_114 rfl rfl ?_
        refine zv_iinc (n := 118) (v := nI (i + 1)) (lv' := [(2, .int (nI (i + 1))), (3, .ref (C nw (8 + q))), (0, .ref (b 0)), (1, .int a)]) dX8_renderAisle_115 rfl rfl (nI_1 i) (by decide) rfl ?_
        refine zv_goto (tgt := 38) dX8_renderAisle_118 (by decide) ?_
        rw [if_neg e9, if_pos e0, e, nI_clamp (by have := hO.1.2; omega)] at hX
        refine zv_lvs (lv' := [(2, .int (nI (i + 1))), (0, .ref (b 0)), (1, .int a)]) ⟨rfl, rfl, rfl, trivial⟩ ?_
        exact ih (i + 1) _ (tcI (tcC x 32) (fN (S nw) (3 + 3 * q))) _ _ (by omega) hq.1 ((hz.tr hz1).tr hq.2) (show x.2 + 1 + sb_dg (fN (S nw) (3 + 3 * q)) ≤ 3 + 3 * (i + 1) by omega) (by omega) (by omega) hX

set_option maxRecDepth 100000 in
set_option maxHeartbeats 4000000 in
theorem c_X8_renderAisle {σ : zSg} {M : zM} {Z : Nat → Prop} {b : Nat → Nat} {C : Nat → Nat → Nat} {S : Nat → zS} {nw un : Nat} {hs ea fa : Int32} {t : Nat → Nat} {n : Nat} {u : Nat → Nat} {k : Nat} (hP : zPl M Z b C S nw un hs ea fa t n u k) {a : Int32} (ha : fBt a 0 3 = true) : zCon μX8_renderAisle (7, 15, 2106) σ [.ref (b 0), .int a] M (zRen M Z b C S nw un hs ea fa t n (fTxA (S nw) a)) := by
  have hnw : nw < 10 := hP.2.1.1
  have hC := hP.1.cen (i := nw) (by omega)
  have hO := hP.1.ok (i := nw) (by omega)
  obtain ⟨es, bs⟩ := nI_t (n := 10) (hO.spd a).1 (hO.spd a).2
  have ds := dgl (c := (fSpd (S nw) a).toNatClampNeg) (by omega)
  obtain ⟨ml0, v0, hB0⟩ := hP.outB
  refine zCon.of (plainFor_of_name (by decide)) rfl (Nat.le_of_ble_eq_true rfl) ?_
  change zV _ _ _ _ _ 0 0 0 [(0, .ref (b 0)), (1, .int a)] []
  refine zv_iload_n (n := 1) dX8_renderAisle_0 rfl rfl ?_
  refine zv_callSP0 (n := 4) (As := [.int a]) (rest := []) (kc' := 1) (ks' := 6) dX8_renderAisle_1 rfl (c_X8_reqA_1 ha) rfl kX8_requireAisle lX8_118 rfl rfl ⟨by decide, by decide⟩ (Nat.le_of_ble_eq_true rfl) rfl rfl (by decide) (by decide) ?_
  refine zv_aload_n (n := 5) dX8_renderAisle_4 rfl rfl ?_
  refine zv_get (n := 8) dX8_renderAisle_5 rfl hP.2.2.1 FX8_40 rfl ?_
  refine zv_iconst (n := 9) dX8_renderAisle_8 rfl (v := 0) (by decide) ?_
  refine zv_callVF0 (n := 12) (As := [.int 0]) (rest := []) (kc' := 1) (ks' := 6) dX8_renderAisle_9 rfl (c_out0 hP) rfl kJ4_setLength_d00df lX8_237 hB0 rfl rfl rfl ⟨by decide, by decide⟩ (Nat.le_of_ble_eq_true rfl) rfl rfl (by decide) (by decide) (fun M1 hq => ?_)
  obtain ⟨hP1, hz1⟩ := hq
  obtain ⟨ml1, v1, hB1⟩ := hP1.outB
  refine zv_aload_n (n := 13) dX8_renderAisle_12 rfl rfl ?_
  refine zv_get (n := 16) dX8_renderAisle_13 rfl hP1.2.2.1 FX8_40 rfl ?_
  refine zv_bipush (n := 18) dX8_renderAisle_16 rfl (v := 102) (by decide) ?_
  refine zv_callVF (n := 21) (As := [.int 102]) (rest := []) (kc' := 2) (ks' := 156) dX8_renderAisle_18 rfl (c_outC hP1 (c := 102) (by decide) (show 0 + 1 ≤ 70 by omega)) rfl kJ4_append_cf468 lX8_244 hB1 rfl rfl rfl ⟨by decide, by decide⟩ (Nat.le_of_ble_eq_true rfl) rfl rfl (by decide) (by decide) (fun M2 hq => ?_)
  obtain ⟨hP2, hz2⟩ := hq
  obtain ⟨ml2, v2, hB2⟩ := hP2.outB
  refine zv_aload_n (n := 22) dX8_renderAisle_21 rfl rfl ?_
  refine zv_callVP (n := 25) (As := []) (rest := [.ref (b 6)]) (kc' := 2) (ks' := 156) dX8_renderAisle_22 rfl (c_X8_now hP2) rfl kX8_now lX8_87 hP2.2.2.1 rfl rfl rfl ⟨by decide, by decide⟩ (Nat.le_of_ble_eq_true rfl) rfl rfl (by decide) (by decide) ?_
  refine zv_getN (n := 28) dX8_renderAisle_25 rfl (hP2.1.cen (i := nw) (by omega)).c0 FX8_69 rfl ?_
  refine zv_iload_n (n := 29) dX8_renderAisle_28 rfl rfl ?_
  refine zv_callVP (n := 32) (As := [.int a]) (rest := [.ref (b 6)]) (kc' := 2) (ks' := 156) dX8_renderAisle_29 rfl (c_X3_speedIn (hP2.1.cen (i := nw) (by omega)) a) rfl kX3_speedIn lX8_148 (hP2.1.cen (i := nw) (by omega)).c2 rfl rfl rfl ⟨by decide, by decide⟩ (Nat.le_of_ble_eq_true rfl) rfl rfl (by decide) (by decide) ?_
  rw [es]
  refine zv_callVF (n := 35) (As := [.int (nI (fSpd (S nw) a).toNatClampNeg)]) (rest := []) (kc' := 3) (ks' := 306) dX8_renderAisle_32 rfl (c_outI hP2 (c := (fSpd (S nw) a).toNatClampNeg) (by omega) (show 0 + 1 + 2 ≤ 70 by omega)) rfl kJ4_append_bf812 lX8_240 hB2 rfl rfl rfl ⟨by decide, by decide⟩ (Nat.le_of_ble_eq_true rfl) rfl rfl (by decide) (by decide) (fun M3 hq => ?_)
  obtain ⟨hP3, hz3⟩ := hq
  obtain ⟨ml3, v3, hB3⟩ := hP3.outB
  refine zv_pop (n := 36) dX8_renderAisle_35 rfl rfl ?_
  refine zv_iconst (n := 37) dX8_renderAisle_36 rfl (v := 0) (by decide) ?_
  refine zv_istore_n (n := 38) (lv' := [(2, .int 0), (0, .ref (b 0)), (1, .int a)]) dX8_renderAisle_37 rfl (by decide) rfl ?_
  refine zv_lvs (lv' := [(2, .int 0), (0, .ref (b 0)), (1, .int a)]) ⟨rfl, rfl, rfl, trivial⟩ ?_
  exact l_X8_renderAisle a (fTxA (S nw) a) 6 0 _ (tcI (tcC (u, 0) 102) (fSpd (S nw) a).toNatClampNeg) _ _ (by omega) hP3 ((hz1.tr hz2).tr hz3) (show 0 + 1 + sb_dg (fSpd (S nw) a).toNatClampNeg ≤ 3 + 3 * 0 by omega) (by omega) (by omega) (by unfold fTxA; rw [tcC0 u 102])

set_option maxRecDepth 100000 in
set_option maxHeartbeats 4000000 in
theorem c_X8_renderAisle_0 {σ : zSg} {M : zM} {Z : Nat → Prop} {b : Nat → Nat} {C : Nat → Nat → Nat} {S : Nat → zS} {nw un : Nat} {hs ea fa : Int32} {t : Nat → Nat} {n : Nat} {u : Nat → Nat} {k : Nat} (hP : zPl M Z b C S nw un hs ea fa t n u k) {a : Int32} (ha : fBt a 0 3 = false) : zCon μX8_renderAisle (7, 15, 2106) σ [.ref (b 0), .int a] M (zT9 "java/lang/IndexOutOfBoundsException" M) := by
  have hnw : nw < 10 := hP.2.1.1
  have hC := hP.1.cen (i := nw) (by omega)
  have hO := hP.1.ok (i := nw) (by omega)
  refine zCon.of (plainFor_of_name (by decide)) rfl (Nat.le_of_ble_eq_true rfl) ?_
  change zV _ _ _ _ _ 0 0 0 [(0, .ref (b 0)), (1, .int a)] []
  refine zv_iload_n (n := 1) dX8_renderAisle_0 rfl rfl ?_
  refine zv_callST (n := 4) (As := [.int a]) (rest := []) (kc' := 1) (ks' := 6) dX8_renderAisle_1 rfl (c_X8_reqA_0 ha) rfl kX8_requireAisle lX8_118 rfl rfl ⟨by decide, by decide⟩ (Nat.le_of_ble_eq_true rfl) rfl rfl (by decide) (by decide) ?_
  exact zvx_out rfl (by decide) (by decide) ⟨rfl, rfl⟩

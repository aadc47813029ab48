/-! The script's reader, its small steps; typing: laid by wip/p53/m38.py. -/
/-- a planner whose reader stands at p, reached r, read the command cm and nc numbers f -/
def zPs (M : zM) (Z : Nat → Prop) (b : Nat → Nat) (C : Nat → Nat → Nat) (S : Nat → zS) (nw un : Nat) (hs ea fa : Int32) (t : Nat → Nat) (n : Nat) (u : Nat → Nat) (k p r cm nc : Nat) (f : Nat → Int32) : Prop :=
  zPl M Z b C S nw un hs ea fa t n u k ∧ M (b 3) = some (.inr (8, [.ref (b 4), .int (nI p), .int (nI r), .ref cm, .ref (b 5), .int (nI nc)])) ∧ M (b 5) = some (zAI 3 f)
theorem zPs.put {M : zM} {Z : Nat → Prop} {b : Nat → Nat} {C : Nat → Nat → Nat} {S : Nat → zS} {nw un : Nat} {hs ea fa : Int32} {t : Nat → Nat} {n : Nat} {u : Nat → Nat} {k p r cm nc : Nat} {f : Nat → Int32} (hS : zPs M Z b C S nw un hs ea fa t n u k p r cm nc f) (p' r' cm' nc' : Nat) : zPs (zup M (b 3) (.inr (8, [.ref (b 4), .int (nI p'), .int (nI r'), .ref cm', .ref (b 5), .int (nI nc')]))) Z b C S nw un hs ea fa t n u k p' r' cm' nc' f ∧ zKe M (zup M (b 3) (.inr (8, [.ref (b 4), .int (nI p'), .int (nI r'), .ref cm', .ref (b 5), .int (nI nc')]))) Z := by
  obtain ⟨h1, h2, h3⟩ := hS
  obtain ⟨g1, g2⟩ := h1.scr (M' := M) (ps := nI p') (re := nI r') (nc := nI nc') (cm := cm')
  exact ⟨⟨g1, zup_s, zup_d h2 h3 (show (8 : Nat) ≠ 303 by decide)⟩, g2⟩
theorem zPs.num {M : zM} {Z : Nat → Prop} {b : Nat → Nat} {C : Nat → Nat → Nat} {S : Nat → zS} {nw un : Nat} {hs ea fa : Int32} {t : Nat → Nat} {n : Nat} {u : Nat → Nat} {k p r cm nc : Nat} {f : Nat → Int32} (hS : zPs M Z b C S nw un hs ea fa t n u k p r cm nc f) (f' : Nat → Int32) : zPs (zup M (b 5) (zAI 3 f')) Z b C S nw un hs ea fa t n u k p r cm nc f' ∧ zKe M (zup M (b 5) (zAI 3 f')) Z := by
  obtain ⟨h1, h2, h3⟩ := hS
  obtain ⟨g1, g2⟩ := h1.num (M' := M) f'
  exact ⟨⟨g1, zup_d h3 h2 (show (303 : Nat) ≠ 8 by decide), zup_s⟩, g2⟩
/-- the next letter -/
def fNx (t : Nat → Nat) (n p : Nat) : Nat := if p < n then t p else 0
def fMx (a b : Nat) : Nat := if a < b then b else a

set_option maxRecDepth 100000 in
set_option maxHeartbeats 4000000 in
theorem c_X6_next {σ : zSg} {M : zM} {Z : Nat → Prop} {b : Nat → Nat} {C : Nat → Nat → Nat} {S : Nat → zS} {nw un : Nat} {hs ea fa : Int32} {t : Nat → Nat} {n : Nat} {u : Nat → Nat} {k : Nat} {p r cm nc : Nat} {f : Nat → Int32} (hS : zPs M Z b C S nw un hs ea fa t n u k p r cm nc f) (hp : p < 2 ^ 31) : zCon μX6_next (5, 0, 0) σ [.ref (b 3)] M (zP (some (.int (nI (fNx t n p)))) M) := by
  have hP := hS.1
  obtain ⟨ml, v4, hB⟩ := hP.txtB
  have hnN := hP.txtN
  refine zCon.of (plainFor_of_name (by decide)) rfl (Nat.le_of_ble_eq_true rfl) ?_
  change zV _ _ _ _ _ 0 0 0 [(0, .ref (b 3))] []
  refine zv_aload_n (n := 1) dX6_next_0 rfl rfl ?_
  refine zv_get (n := 4) dX6_next_1 rfl hS.2.1 FX6_43 rfl ?_
  refine zv_if_lt (n := 7) (tgt := 35) dX6_next_4 (by decide) rfl (fun h4 => False.elim (nI_pos hp h4)) (fun h4 => ?_)
  refine zv_aload_n (n := 8) dX6_next_7 rfl rfl ?_
  refine zv_get (n := 11) dX6_next_8 rfl hS.2.1 FX6_43 rfl ?_
  refine zv_aload_n (n := 12) dX6_next_11 rfl rfl ?_
  refine zv_get (n := 15) dX6_next_12 rfl hS.2.1 FX6_12 rfl ?_
  refine zv_callVP (n := 18) (As := []) (rest := [.int (nI p)]) (kc' := 0) (ks' := 0) dX6_next_15 rfl (c_txtL hP) rfl kJ4_length_8abf5 lX6_31 hB rfl rfl rfl ⟨by decide, by decide⟩ (Nat.le_of_ble_eq_true rfl) rfl rfl (by decide) (by decide) ?_
  refine zv_icmp_ge (n := 21) (tgt := 35) dX6_next_18 (by decide) rfl (fun h18 => ?_) (fun h18 => ?_)
  · skip
    have hlt : ¬ p < n := fun q => absurd h18 (nI_ge q (by omega))
    refine zv_iconst (n := 36) dX6_next_35 rfl (v := 0) (by decide) ?_
    refine zv_zret dX6_next_36 rfl rfl (by decide) (by decide) ?_
    rw [show fNx t n p = 0 from if_neg hlt]
    exact zPi
  · skip
    have hlt : p < n := Nat.lt_of_not_le (fun q => h18 (nI_le q (by omega)))
    refine zv_aload_n (n := 22) dX6_next_21 rfl rfl ?_
    refine zv_get (n := 25) dX6_next_22 rfl hS.2.1 FX6_12 rfl ?_
    refine zv_aload_n (n := 26) dX6_next_25 rfl rfl ?_
    refine zv_get (n := 29) dX6_next_26 rfl hS.2.1 FX6_43 rfl ?_
    refine zv_callVP (n := 32) (As := [.int (nI p)]) (rest := []) (kc' := 0) (ks' := 0) dX6_next_29 rfl (c_txtA hP hlt) rfl kJ4_charAt_5068e lX6_155 hB rfl rfl rfl ⟨by decide, by decide⟩ (Nat.le_of_ble_eq_true rfl) rfl rfl (by decide) (by decide) ?_
    refine zv_goto (tgt := 36) dX6_next_32 (by decide) ?_
    refine zv_zret dX6_next_36 rfl (nar_ch (hP.txtLt hlt)) (by decide) (by decide) ?_
    rw [show fNx t n p = t p from if_pos hlt]
    exact zPi

set_option maxRecDepth 100000 in
set_option maxHeartbeats 4000000 in
theorem c_X6_goOn {σ : zSg} {M : zM} {Z : Nat → Prop} {b : Nat → Nat} {C : Nat → Nat → Nat} {S : Nat → zS} {nw un : Nat} {hs ea fa : Int32} {t : Nat → Nat} {n : Nat} {u : Nat → Nat} {k : Nat} {p r cm nc : Nat} {f : Nat → Int32} (hS : zPs M Z b C S nw un hs ea fa t n u k p r cm nc f) (hp : p < 2 ^ 30) (hr : r < 2 ^ 30) : zCon μX6_goOn (2, 0, 0) σ [.ref (b 3)] M (zF none (fun M' => zPs M' Z b C S nw un hs ea fa t n u k (p + 1) (fMx r (p + 1)) cm nc f ∧ zKe M M' Z)) := by
  refine zCon.of (plainFor_of_name (by decide)) rfl (Nat.le_of_ble_eq_true rfl) ?_
  change zV _ _ _ _ _ 0 0 0 [(0, .ref (b 3))] []
  refine zv_aload_n (n := 1) dX6_goOn_0 rfl rfl ?_
  refine zv_dup (n := 2) dX6_goOn_1 rfl rfl ?_
  refine zv_get (n := 5) dX6_goOn_2 rfl hS.2.1 FX6_43 rfl ?_
  refine zv_iconst (n := 6) dX6_goOn_5 rfl (v := 1) (by decide) ?_
  refine zv_iadd (n := 7) dX6_goOn_6 rfl ?_
  rw [nI_1]
  refine zv_put (n := 10) dX6_goOn_7 rfl hS.2.1 FX6_43 zcl_X6 zty_X6_1 rfl rfl (Nat.le_of_ble_eq_true rfl) ?_
  refine zv_aload_n (n := 11) dX6_goOn_10 rfl rfl ?_
  refine zv_aload_n (n := 12) dX6_goOn_11 rfl rfl ?_
  refine zv_get (n := 15) dX6_goOn_12 rfl zup_s FX6_47 rfl ?_
  refine zv_aload_n (n := 16) dX6_goOn_15 rfl rfl ?_
  refine zv_get (n := 19) dX6_goOn_16 rfl zup_s FX6_43 rfl ?_
  refine zv_callSP (n := 22) (As := [.int (nI r), .int (nI (p + 1))]) (rest := [.ref (b 3)]) (kc' := 0) (ks' := 0) dX6_goOn_19 rfl (c_max (nI r) (nI (p + 1))) rfl kJ9_max_7cf53 lX6_156 rfl rfl ⟨by decide, by decide⟩ (Nat.le_of_ble_eq_true rfl) rfl rfl (by decide) (by decide) ?_
  rw [show fMax (nI r) (nI (p + 1)) = nI (fMx r (p + 1)) from fMax_nI (by omega) (by omega)]
  refine zv_put (n := 25) dX6_goOn_22 rfl zup_s FX6_47 zcl_X6 zty_X6_2 rfl rfl (Nat.le_of_ble_eq_true rfl) ?_
  rw [zup_zup]
  refine zv_vret dX6_goOn_25 rfl (by decide) (by decide) ?_
  exact zFi (hS.put (p + 1) (fMx r (p + 1)) cm nc)

def fDg (c : Nat) : Bool := decide (48 ≤ c) && decide (c ≤ 57)
theorem fDg_t {c : Nat} (h : c < 2 ^ 31) (h1 : ¬ nI c < 48) (h2 : ¬ 57 < nI c) : fDg c = true := by
  unfold fDg
  have g1 : 48 ≤ c := Nat.le_of_not_lt (fun q => h1 (nI_lt (b := 48) q (by decide)))
  have g2 : c ≤ 57 := Nat.le_of_not_lt (fun q => h2 (nI_lt (a := 57) q h))
  rw [decide_eq_true g1, decide_eq_true g2]
  rfl
theorem fDg_f {c : Nat} (h : c < 2 ^ 31) (h1 : nI c < 48 ∨ 57 < nI c) : fDg c = false := by
  unfold fDg
  rcases h1 with h1 | h1
  · rw [decide_eq_false (fun q => nI_nlt (b := 48) q h h1)]
    rfl
  · rw [decide_eq_false (fun q => nI_nlt (a := 57) q (by decide) h1), Bool.and_false]

set_option maxRecDepth 100000 in
set_option maxHeartbeats 4000000 in
theorem c_X6_isDigit {σ : zSg} {M : zM} {c : Nat} (hc : c < 2 ^ 31) : zCon μX6_isDigit (1, 0, 0) σ [.int (nI c)] M (zP (some (.int (fB (fDg c)))) M) := by
  refine zCon.of (plainFor_of_name (by decide)) rfl (Nat.le_of_ble_eq_true rfl) ?_
  change zV _ _ _ _ _ 0 0 0 [(0, .int (nI c))] []
  refine zv_iload_n (n := 1) dX6_isDigit_0 rfl rfl ?_
  refine zv_bipush (n := 3) dX6_isDigit_1 rfl (v := 48) (by decide) ?_
  refine zv_icmp_lt (n := 6) (tgt := 16) dX6_isDigit_3 (by decide) rfl (fun h3 => ?_) (fun h3 => ?_)
  · skip
    refine zv_iconst (n := 17) dX6_isDigit_16 rfl (v := 0) (by decide) ?_
    refine zv_zret dX6_isDigit_17 rfl rfl (by decide) (by decide) ?_
    first
      | (rw [fB_f (fDg_f hc (Or.inl h3))]; exact zPi)
      | (rw [fB_f (fDg_f hc (Or.inr h9))]; exact zPi)
  · skip
    refine zv_iload_n (n := 7) dX6_isDigit_6 rfl rfl ?_
    refine zv_bipush (n := 9) dX6_isDigit_7 rfl (v := 57) (by decide) ?_
    refine zv_icmp_gt (n := 12) (tgt := 16) dX6_isDigit_9 (by decide) rfl (fun h9 => ?_) (fun h9 => ?_)
    · skip
      refine zv_iconst (n := 17) dX6_isDigit_16 rfl (v := 0) (by decide) ?_
      refine zv_zret dX6_isDigit_17 rfl rfl (by decide) (by decide) ?_
      first
        | (rw [fB_f (fDg_f hc (Or.inl h3))]; exact zPi)
        | (rw [fB_f (fDg_f hc (Or.inr h9))]; exact zPi)
    · skip
      refine zv_iconst (n := 13) dX6_isDigit_12 rfl (v := 1) (by decide) ?_
      refine zv_goto (tgt := 17) dX6_isDigit_13 (by decide) ?_
      refine zv_zret dX6_isDigit_17 rfl rfl (by decide) (by decide) ?_
      rw [fB_t (fDg_t hc h3 h9)]
      exact zPi

/-- a letter read, or not -/
def fRc (t : Nat → Nat) (n p r c : Nat) : Bool × Nat × Nat := if fNx t n p = c then (true, p + 1, fMx r (p + 1)) else (false, p, r)
theorem fNx_lt {t : Nat → Nat} {n p : Nat} (h : ∀ i, i < n → t i < 256) : fNx t n p < 256 := by
  unfold fNx
  split
  · exact h _ (by assumption)
  · decide

set_option maxRecDepth 100000 in
set_option maxHeartbeats 4000000 in
theorem c_X6_readCharacter {σ : zSg} {M : zM} {Z : Nat → Prop} {b : Nat → Nat} {C : Nat → Nat → Nat} {S : Nat → zS} {nw un : Nat} {hs ea fa : Int32} {t : Nat → Nat} {n : Nat} {u : Nat → Nat} {k : Nat} {p r cm nc : Nat} {f : Nat → Int32} (hS : zPs M Z b C S nw un hs ea fa t n u k p r cm nc f) {c : Nat} (hp : p < 2 ^ 30) (hr : r < 2 ^ 30) (hc : c < 256) : zCon μX6_readCharacter (6, 0, 0) σ [.ref (b 3), .int (nI c)] M (zF (some (.int (fB (fRc t n p r c).1))) (fun M' => zPs M' Z b C S nw un hs ea fa t n u k (fRc t n p r c).2.1 (fRc t n p r c).2.2 cm nc f ∧ zKe M M' Z)) := by
  have hP := hS.1
  have hNx := fNx_lt (t := t) (n := n) (p := p) (fun i hi => hP.txtLt hi)
  refine zCon.of (plainFor_of_name (by decide)) rfl (Nat.le_of_ble_eq_true rfl) ?_
  change zV _ _ _ _ _ 0 0 0 [(0, .ref (b 3)), (1, .int (nI c))] []
  refine zv_aload_n (n := 1) dX6_readCharacter_0 rfl rfl ?_
  refine zv_callVP (n := 4) (As := []) (rest := []) (kc' := 0) (ks' := 0) dX6_readCharacter_1 rfl (c_X6_next hS (by omega)) rfl kX6_next lX6_141 hS.2.1 rfl rfl rfl ⟨by decide, by decide⟩ (Nat.le_of_ble_eq_true rfl) rfl rfl (by decide) (by decide) ?_
  refine zv_iload_n (n := 5) dX6_readCharacter_4 rfl rfl ?_
  refine zv_icmp_ne (n := 8) (tgt := 12) dX6_readCharacter_5 (by decide) rfl (fun h5 => ?_) (fun h5 => ?_)
  · skip
    have e5 : ¬ fNx t n p = c := fun e => h5 (by rw [e])
    refine zv_iconst (n := 13) dX6_readCharacter_12 rfl (v := 0) (by decide) ?_
    refine zv_istore_n (n := 14) (lv' := [(2, .int 0), (0, .ref (b 3)), (1, .int (nI c))]) dX6_readCharacter_13 rfl (by decide) rfl ?_
    refine zv_iload_n (n := 15) dX6_readCharacter_14 rfl rfl ?_
    refine zv_if_eq (n := 18) (tgt := 22) dX6_readCharacter_15 (by decide) rfl (fun h15 => ?_) (fun h15 => False.elim (h15 rfl))
    refine zv_iload_n (n := 23) dX6_readCharacter_22 rfl rfl ?_
    refine zv_zret dX6_readCharacter_23 rfl rfl (by decide) (by decide) ?_
    rw [show fRc t n p r c = (false, p, r) from if_neg e5]
    exact zFi ⟨hS, zKe.rf⟩
  · skip
    have e5 : fNx t n p = c := (nI_eq (by omega) (by omega)).mp h5
    refine zv_iconst (n := 9) dX6_readCharacter_8 rfl (v := 1) (by decide) ?_
    refine zv_goto (tgt := 13) dX6_readCharacter_9 (by decide) ?_
    refine zv_istore_n (n := 14) (lv' := [(2, .int 1), (0, .ref (b 3)), (1, .int (nI c))]) dX6_readCharacter_13 rfl (by decide) rfl ?_
    refine zv_iload_n (n := 15) dX6_readCharacter_14 rfl rfl ?_
    refine zv_if_eq (n := 18) (tgt := 22) dX6_readCharacter_15 (by decide) rfl (fun h15 => False.elim (absurd h15 (by decide))) (fun h15 => ?_)
    refine zv_aload_n (n := 19) dX6_readCharacter_18 rfl rfl ?_
    refine zv_callVF0 (n := 22) (As := []) (rest := []) (kc' := 0) (ks' := 0) dX6_readCharacter_19 rfl (c_X6_goOn hS hp hr) rfl kX6_goOn lX6_148 hS.2.1 rfl rfl rfl ⟨by decide, by decide⟩ (Nat.le_of_ble_eq_true rfl) rfl rfl (by decide) (by decide) (fun M1 hq => ?_)
    refine zv_iload_n (n := 23) dX6_readCharacter_22 rfl rfl ?_
    refine zv_zret dX6_readCharacter_23 rfl rfl (by decide) (by decide) ?_
    rw [show fRc t n p r c = (true, p + 1, fMx r (p + 1)) from if_pos e5]
    exact zFi hq

set_option maxRecDepth 100000 in
set_option maxHeartbeats 4000000 in
theorem c_X6_isFull {σ : zSg} {M : zM} {Z : Nat → Prop} {b : Nat → Nat} {C : Nat → Nat → Nat} {S : Nat → zS} {nw un : Nat} {hs ea fa : Int32} {t : Nat → Nat} {n : Nat} {u : Nat → Nat} {k : Nat} (hP : zPl M Z b C S nw un hs ea fa t n u k)  : zCon μX6_isFull (3, 0, 0) σ [.ref (b 3)] M (zP (some (.int (fB (decide (60 ≤ n))))) M) := by
  obtain ⟨ps, re, ncc, cmm, h3⟩ := hP.2.2.2.1
  obtain ⟨ml, v4, hB⟩ := hP.txtB
  have hnN := hP.txtN
  refine zCon.of (plainFor_of_name (by decide)) rfl (Nat.le_of_ble_eq_true rfl) ?_
  change zV _ _ _ _ _ 0 0 0 [(0, .ref (b 3))] []
  refine zv_aload_n (n := 1) dX6_isFull_0 rfl rfl ?_
  refine zv_get (n := 4) dX6_isFull_1 rfl h3 FX6_12 rfl ?_
  refine zv_callVP (n := 7) (As := []) (rest := []) (kc' := 0) (ks' := 0) dX6_isFull_4 rfl (c_txtL hP) rfl kJ4_length_8abf5 lX6_31 hB rfl rfl rfl ⟨by decide, by decide⟩ (Nat.le_of_ble_eq_true rfl) rfl rfl (by decide) (by decide) ?_
  refine zv_bipush (n := 9) dX6_isFull_7 rfl (v := 60) (by decide) ?_
  refine zv_icmp_lt (n := 12) (tgt := 16) dX6_isFull_9 (by decide) rfl (fun h9 => ?_) (fun h9 => ?_)
  · skip
    refine zv_iconst (n := 17) dX6_isFull_16 rfl (v := 0) (by decide) ?_
    refine zv_zret dX6_isFull_17 rfl rfl (by decide) (by decide) ?_
    rw [fB_f (decide_eq_false (fun q => nI_nlt (b := 60) q (by omega) h9))]
    exact zPi
  · skip
    refine zv_iconst (n := 13) dX6_isFull_12 rfl (v := 1) (by decide) ?_
    refine zv_goto (tgt := 17) dX6_isFull_13 (by decide) ?_
    refine zv_zret dX6_isFull_17 rfl rfl (by decide) (by decide) ?_
    rw [fB_t (decide_eq_true (Nat.le_of_not_lt (fun q => h9 (nI_lt (b := 60) q (by decide)))))]
    exact zPi

set_option maxRecDepth 100000 in
set_option maxHeartbeats 4000000 in
theorem c_X6_append {σ : zSg} {M : zM} {Z : Nat → Prop} {b : Nat → Nat} {C : Nat → Nat → Nat} {S : Nat → zS} {nw un : Nat} {hs ea fa : Int32} {t : Nat → Nat} {n : Nat} {u : Nat → Nat} {k : Nat} (hP : zPl M Z b C S nw un hs ea fa t n u k) {c : Nat} (hc : c < 256) (hn : n < 60) : zCon μX6_append (7, 1, 150) σ [.ref (b 3), .int (nI c)] M (zF (some (.int (nI (n + 1)))) (fun M' => zPl M' Z b C S nw un hs ea fa (tcC (t, n) c).1 (tcC (t, n) c).2 u k ∧ zKe M M' Z)) := by
  obtain ⟨ps, re, ncc, cmm, h3⟩ := hP.2.2.2.1
  obtain ⟨ml, v4, hB⟩ := hP.txtB
  have hnN := hP.txtN
  refine zCon.of (plainFor_of_name (by decide)) rfl (Nat.le_of_ble_eq_true rfl) ?_
  change zV _ _ _ _ _ 0 0 0 [(0, .ref (b 3)), (1, .int (nI c))] []
  refine zv_aload_n (n := 1) dX6_append_0 rfl rfl ?_
  refine zv_get (n := 4) dX6_append_1 rfl h3 FX6_12 rfl ?_
  refine zv_iload_n (n := 5) dX6_append_4 rfl rfl ?_
  refine zv_callVF (n := 8) (As := [.int (nI c)]) (rest := []) (kc' := 1) (ks' := 150) dX6_append_5 rfl (c_txtC hP hc (by omega)) rfl kJ4_append_cf468 lX6_35 hB rfl rfl rfl ⟨by decide, by decide⟩ (Nat.le_of_ble_eq_true rfl) rfl rfl (by decide) (by decide) (fun M1 hq => ?_)
  obtain ⟨hP1, hz1⟩ := hq
  obtain ⟨ps1, re1, nc1, cm1, h31⟩ := hP1.2.2.2.1
  obtain ⟨ml1, v41, hB1⟩ := hP1.txtB
  refine zv_pop (n := 9) dX6_append_8 rfl rfl ?_
  refine zv_aload_n (n := 10) dX6_append_9 rfl rfl ?_
  refine zv_get (n := 13) dX6_append_10 rfl h31 FX6_12 rfl ?_
  refine zv_callVP (n := 16) (As := []) (rest := []) (kc' := 1) (ks' := 150) dX6_append_13 rfl (c_txtL hP1) rfl kJ4_length_8abf5 lX6_31 hB1 rfl rfl rfl ⟨by decide, by decide⟩ (Nat.le_of_ble_eq_true rfl) rfl rfl (by decide) (by decide) ?_
  refine zv_iret dX6_append_16 rfl (by decide) (by decide) ?_
  exact zFi ⟨hP1, hz1⟩

set_option maxRecDepth 100000 in
set_option maxHeartbeats 4000000 in
theorem c_X6_clear {σ : zSg} {M : zM} {Z : Nat → Prop} {b : Nat → Nat} {C : Nat → Nat → Nat} {S : Nat → zS} {nw un : Nat} {hs ea fa : Int32} {t : Nat → Nat} {n : Nat} {u : Nat → Nat} {k : Nat} (hP : zPl M Z b C S nw un hs ea fa t n u k)  : zCon μX6_clear (7, 0, 0) σ [.ref (b 3)] M (zF none (fun M' => zPl M' Z b C S nw un hs ea fa t 0 u k ∧ zKe M M' Z)) := by
  obtain ⟨ps, re, ncc, cmm, h3⟩ := hP.2.2.2.1
  obtain ⟨ml, v4, hB⟩ := hP.txtB
  have hnN := hP.txtN
  refine zCon.of (plainFor_of_name (by decide)) rfl (Nat.le_of_ble_eq_true rfl) ?_
  change zV _ _ _ _ _ 0 0 0 [(0, .ref (b 3))] []
  refine zv_aload_n (n := 1) dX6_clear_0 rfl rfl ?_
  refine zv_get (n := 4) dX6_clear_1 rfl h3 FX6_12 rfl ?_
  refine zv_iconst (n := 5) dX6_clear_4 rfl (v := 0) (by decide) ?_
  refine zv_callVF0 (n := 8) (As := [.int 0]) (rest := []) (kc' := 0) (ks' := 0) dX6_clear_5 rfl (c_txt0 hP) rfl kJ4_setLength_d00df lX6_39 hB rfl rfl rfl ⟨by decide, by decide⟩ (Nat.le_of_ble_eq_true rfl) rfl rfl (by decide) (by decide) (fun M1 hq => ?_)
  refine zv_vret dX6_clear_8 rfl (by decide) (by decide) ?_
  exact zFi hq

set_option maxRecDepth 100000 in
set_option maxHeartbeats 4000000 in
theorem c_X8_type_1 {σ : zSg} {M : zM} {Z : Nat → Prop} {b : Nat → Nat} {C : Nat → Nat → Nat} {S : Nat → zS} {nw un : Nat} {hs ea fa : Int32} {t : Nat → Nat} {n : Nat} {u : Nat → Nat} {k : Nat} (hP : zPl M Z b C S nw un hs ea fa t n u k) {c : Nat} (h32 : 32 ≤ c) (h126 : c ≤ 126) (hn : n < 60) : zCon μX8_type (8, 1, 150) σ [.ref (b 0), .int (nI c)] M (zF (some (.int (nI (n + 1)))) (fun M' => zPl M' Z b C S nw un hs ea fa (tcC (t, n) c).1 (tcC (t, n) c).2 u k ∧ zKe M M' Z)) := by
  obtain ⟨ps, re, ncc, cmm, h3⟩ := hP.2.2.2.1
  obtain ⟨ml, v4, hB⟩ := hP.txtB
  have hnN := hP.txtN
  refine zCon.of (plainFor_of_name (by decide)) rfl (Nat.le_of_ble_eq_true rfl) ?_
  change zV _ _ _ _ _ 0 0 0 [(0, .ref (b 0)), (1, .int (nI c))] []
  refine zv_iload_n (n := 1) dX8_type_0 rfl rfl ?_
  refine zv_bipush (n := 3) dX8_type_1 rfl (v := 32) (by decide) ?_
  refine zv_icmp_lt (n := 6) (tgt := 12) dX8_type_3 (by decide) rfl (fun h3_ => False.elim (absurd h3_ (nI_nlt (b := 32) h32 (by omega)))) (fun h3_ => ?_)
  refine zv_iload_n (n := 7) dX8_type_6 rfl rfl ?_
  refine zv_bipush (n := 9) dX8_type_7 rfl (v := 126) (by decide) ?_
  refine zv_icmp_le (n := 12) (tgt := 23) dX8_type_9 (by decide) rfl (fun h9 => ?_) (fun h9 => False.elim (h9 (nI_le (b := 126) h126 (by decide))))
  refine zv_aload_n (n := 24) dX8_type_23 rfl rfl ?_
  refine zv_get (n := 27) dX8_type_24 rfl hP.2.2.1 FX8_26 rfl ?_
  refine zv_callVP (n := 30) (As := []) (rest := []) (kc' := 0) (ks' := 0) dX8_type_27 rfl (c_X6_isFull hP) rfl kX6_isFull lX8_261 h3 rfl rfl rfl ⟨by decide, by decide⟩ (Nat.le_of_ble_eq_true rfl) rfl rfl (by decide) (by decide) ?_
  refine zv_if_eq (n := 33) (tgt := 44) dX8_type_30 (by decide) rfl (fun h30 => ?_) (fun h30 => False.elim (absurd h30 (by rw [decide_eq_false (by omega)]; decide)))
  refine zv_aload_n (n := 45) dX8_type_44 rfl rfl ?_
  refine zv_get (n := 48) dX8_type_45 rfl hP.2.2.1 FX8_26 rfl ?_
  refine zv_iload_n (n := 49) dX8_type_48 rfl rfl ?_
  refine zv_callVF (n := 52) (As := [.int (nI c)]) (rest := []) (kc' := 1) (ks' := 150) dX8_type_49 rfl (c_X6_append hP (c := c) (by omega) hn) rfl kX6_append lX8_269 h3 rfl rfl rfl ⟨by decide, by decide⟩ (Nat.le_of_ble_eq_true rfl) rfl rfl (by decide) (by decide) (fun M1 hq => ?_)
  refine zv_iret dX8_type_52 rfl (by decide) (by decide) ?_
  exact zFi hq

set_option maxRecDepth 100000 in
set_option maxHeartbeats 4000000 in
theorem c_X8_type_f {σ : zSg} {M : zM} {Z : Nat → Prop} {b : Nat → Nat} {C : Nat → Nat → Nat} {S : Nat → zS} {nw un : Nat} {hs ea fa : Int32} {t : Nat → Nat} {n : Nat} {u : Nat → Nat} {k : Nat} (hP : zPl M Z b C S nw un hs ea fa t n u k) {c : Nat} (h32 : 32 ≤ c) (h126 : c ≤ 126) (hn : 60 ≤ n) : zCon μX8_type (8, 1, 150) σ [.ref (b 0), .int (nI c)] M (zT9 "java/lang/IllegalStateException" M) := by
  obtain ⟨ps, re, ncc, cmm, h3⟩ := hP.2.2.2.1
  obtain ⟨ml, v4, hB⟩ := hP.txtB
  have hnN := hP.txtN
  refine zCon.of (plainFor_of_name (by decide)) rfl (Nat.le_of_ble_eq_true rfl) ?_
  change zV _ _ _ _ _ 0 0 0 [(0, .ref (b 0)), (1, .int (nI c))] []
  refine zv_iload_n (n := 1) dX8_type_0 rfl rfl ?_
  refine zv_bipush (n := 3) dX8_type_1 rfl (v := 32) (by decide) ?_
  refine zv_icmp_lt (n := 6) (tgt := 12) dX8_type_3 (by decide) rfl (fun h3_ => False.elim (absurd h3_ (nI_nlt (b := 32) h32 (by omega)))) (fun h3_ => ?_)
  refine zv_iload_n (n := 7) dX8_type_6 rfl rfl ?_
  refine zv_bipush (n := 9) dX8_type_7 rfl (v := 126) (by decide) ?_
  refine zv_icmp_le (n := 12) (tgt := 23) dX8_type_9 (by decide) rfl (fun h9 => ?_) (fun h9 => False.elim (h9 (nI_le (b := 126) h126 (by decide))))
  refine zv_aload_n (n := 24) dX8_type_23 rfl rfl ?_
  refine zv_get (n := 27) dX8_type_24 rfl hP.2.2.1 FX8_26 rfl ?_
  refine zv_callVP (n := 30) (As := []) (rest := []) (kc' := 0) (ks' := 0) dX8_type_27 rfl (c_X6_isFull hP) rfl kX6_isFull lX8_261 h3 rfl rfl rfl ⟨by decide, by decide⟩ (Nat.le_of_ble_eq_true rfl) rfl rfl (by decide) (by decide) ?_
  refine zv_if_eq (n := 33) (tgt := 44) dX8_type_30 (by decide) rfl (fun h30 => False.elim (absurd h30 (by rw [decide_eq_true hn]; decide))) (fun h30 => ?_)
  refine zv_throwSW (j := 23) (names := ["java/lang/RuntimeException", "java/lang/Exception"]) hfit_IllegalState.1 hfit_IllegalState.2 eX8_264 ini_IllegalStateException rfl rfl rfl hat_IllegalState hgo_IllegalState dX8_type_33 dX8_type_36 dX8_type_37 dX8_type_40 dX8_type_43 rfl (by decide) (by decide) (by decide) (by decide) ?_
  exact ⟨rfl, rfl⟩

set_option maxRecDepth 100000 in
set_option maxHeartbeats 4000000 in
theorem c_X8_type_b {σ : zSg} {M : zM} {Z : Nat → Prop} {b : Nat → Nat} {C : Nat → Nat → Nat} {S : Nat → zS} {nw un : Nat} {hs ea fa : Int32} {t : Nat → Nat} {n : Nat} {u : Nat → Nat} {k : Nat} (hP : zPl M Z b C S nw un hs ea fa t n u k) {c : Nat} (hc : 126 < c) (hc2 : c < 2 ^ 31) : zCon μX8_type (8, 1, 150) σ [.ref (b 0), .int (nI c)] M (zT9 "java/lang/IllegalArgumentException" M) := by
  obtain ⟨ps, re, ncc, cmm, h3⟩ := hP.2.2.2.1
  obtain ⟨ml, v4, hB⟩ := hP.txtB
  have hnN := hP.txtN
  refine zCon.of (plainFor_of_name (by decide)) rfl (Nat.le_of_ble_eq_true rfl) ?_
  change zV _ _ _ _ _ 0 0 0 [(0, .ref (b 0)), (1, .int (nI c))] []
  refine zv_iload_n (n := 1) dX8_type_0 rfl rfl ?_
  refine zv_bipush (n := 3) dX8_type_1 rfl (v := 32) (by decide) ?_
  refine zv_icmp_lt (n := 6) (tgt := 12) dX8_type_3 (by decide) rfl (fun h3_ => False.elim (absurd h3_ (nI_nlt (b := 32) (by omega) hc2))) (fun h3_ => ?_)
  refine zv_iload_n (n := 7) dX8_type_6 rfl rfl ?_
  refine zv_bipush (n := 9) dX8_type_7 rfl (v := 126) (by decide) ?_
  refine zv_icmp_le (n := 12) (tgt := 23) dX8_type_9 (by decide) rfl (fun h9 => False.elim (absurd h9 (nI_ge (a := 126) hc hc2))) (fun h9 => ?_)
  refine zv_throwSW (j := 22) (names := ["java/lang/RuntimeException", "java/lang/Exception"]) hfit_IllegalArgument.1 hfit_IllegalArgument.2 eX8_126 ini_IllegalArgumentException rfl rfl rfl hat_IllegalArgument hgo_IllegalArgument dX8_type_12 dX8_type_15 dX8_type_16 dX8_type_19 dX8_type_22 rfl (by decide) (by decide) (by decide) (by decide) ?_
  exact ⟨rfl, rfl⟩

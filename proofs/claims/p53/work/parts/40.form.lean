/-! The script's reader: signs and forms: laid by wip/p53/m40.py. -/
/-- a sign read: whether, place, reached, how many numbers, the numbers -/
def fSgn (t : Nat → Nat) (n c p r nc : Nat) (f : Nat → Int32) : Bool × Nat × Nat × Nat × (Nat → Int32) :=
  if c = 35 then ((fNum t n 1 p r nc f).1, (fNum t n 1 p r nc f).2.1, (fNum t n 1 p r nc f).2.2.1, nc + 1, (fNum t n 1 p r nc f).2.2.2)
  else if c = 42 then ((fNum t n 3 p r nc f).1, (fNum t n 3 p r nc f).2.1, (fNum t n 3 p r nc f).2.2.1, nc + 1, (fNum t n 3 p r nc f).2.2.2)
  else ((fRc t n p r c).1, (fRc t n p r c).2.1, (fRc t n p r c).2.2, nc, f)
theorem fRc_le {t : Nat → Nat} {n p r c : Nat} (hn : n ≤ 70) (hp : p ≤ 70) (hr : r ≤ 70) (hc : c ≠ 0) : (fRc t n p r c).2.1 ≤ 70 ∧ (fRc t n p r c).2.2 ≤ 70 := by
  unfold fRc
  split
  · rename_i h
    have := fNx_p (t := t) (n := n) (p := p) (by rw [h]; exact hc)
    exact ⟨(show p + 1 ≤ 70 by omega), fMx_le hr (by omega)⟩
  · exact ⟨hp, hr⟩
theorem fSgn_le {t : Nat → Nat} {n c p r nc : Nat} {f : Nat → Int32} (hn : n ≤ 70) (hp : p ≤ 70) (hr : r ≤ 70) (hc : c ≠ 0) : (fSgn t n c p r nc f).2.1 ≤ 70 ∧ (fSgn t n c p r nc f).2.2.1 ≤ 70 := by
  unfold fSgn
  split
  · have := fNmL_le (t := t) hn 1 0 p r 0 hp hr
    exact ⟨this.1, this.2.1⟩
  · split
    · have := fNmL_le (t := t) hn 3 0 p r 0 hp hr
      exact ⟨this.1, this.2.1⟩
    · exact fRc_le hn hp hr hc
theorem fSgn_nc {t : Nat → Nat} {n c p r nc : Nat} {f : Nat → Int32} : (fSgn t n c p r nc f).2.2.2.1 = nc + (if c = 35 ∨ c = 42 then 1 else 0) := by
  unfold fSgn
  by_cases h1 : c = 35
  · rw [if_pos h1, if_pos (Or.inl h1)]
  · rw [if_neg h1]
    by_cases h2 : c = 42
    · rw [if_pos h2, if_pos (Or.inr h2)]
    · rw [if_neg h2, if_neg (fun h => h.elim h1 h2)]; rfl

set_option maxRecDepth 100000 in
set_option maxHeartbeats 4000000 in
theorem c_X6_readSign {σ : zSg} {M : zM} {Z : Nat → Prop} {b : Nat → Nat} {C : Nat → Nat → Nat} {S : Nat → zS} {nw un : Nat} {hs ea fa : Int32} {t : Nat → Nat} {n : Nat} {u : Nat → Nat} {k : Nat} {p r cm nc : Nat} {f : Nat → Int32} (hS : zPs M Z b C S nw un hs ea fa t n u k p r cm nc f) {c : Nat} (hc : c < 256) (hp : p ≤ 70) (hr : r ≤ 70) (hnc : c = 35 ∨ c = 42 → nc < 3) : zCon μX6_readSign (8, 0, 0) σ [.ref (b 3), .int (nI c)] M (zF (some (.int (fB (fSgn t n c p r nc f).1))) (fun M' => zPs M' Z b C S nw un hs ea fa t n u k (fSgn t n c p r nc f).2.1 (fSgn t n c p r nc f).2.2.1 cm (fSgn t n c p r nc f).2.2.2.1 (fSgn t n c p r nc f).2.2.2.2 ∧ zKe M M' Z)) := by
  refine zCon.of (plainFor_of_name (by decide)) rfl (Nat.le_of_ble_eq_true rfl) ?_
  change zV _ _ _ _ _ 0 0 0 [(0, .ref (b 3)), (1, .int (nI c))] []
  refine zv_iload_n (n := 1) dX6_readSign_0 rfl rfl ?_
  refine zv_bipush (n := 3) dX6_readSign_1 rfl (v := 35) (by decide) ?_
  refine zv_icmp_ne (n := 6) (tgt := 12) dX6_readSign_3 (by decide) rfl (fun h3 => ?_) (fun h3 => ?_)
  · skip
    skip
    refine zv_iload_n (n := 13) dX6_readSign_12 rfl rfl ?_
    refine zv_bipush (n := 15) dX6_readSign_13 rfl (v := 42) (by decide) ?_
    refine zv_icmp_ne (n := 18) (tgt := 26) dX6_readSign_15 (by decide) rfl (fun h15 => ?_) (fun h15 => ?_)
    · skip
      have g1 : ¬ c = 35 := fun e => h3 (by rw [e]; rfl)
      have g2 : ¬ c = 42 := fun e => h15 (by rw [e]; rfl)
      have ex : fSgn t n c p r nc f = ((fRc t n p r c).1, (fRc t n p r c).2.1, (fRc t n p r c).2.2, nc, f) := by unfold fSgn; rw [if_neg g1, if_neg g2]
      refine zv_aload_n (n := 27) dX6_readSign_26 rfl rfl ?_
      refine zv_iload_n (n := 28) dX6_readSign_27 rfl rfl ?_
      refine zv_callVF (n := 31) (As := [.int (nI c)]) (rest := []) (kc' := 0) (ks' := 0) dX6_readSign_28 rfl (c_X6_readCharacter hS (c := c) (by omega) (by omega) hc) rfl kX6_readCharacter lX6_54 hS.2.1 rfl rfl rfl ⟨by decide, by decide⟩ (Nat.le_of_ble_eq_true rfl) rfl rfl (by decide) (by decide) (fun M1 hq => ?_)
      refine zv_zret dX6_readSign_31 rfl (fB_nar _) (by decide) (by decide) ?_
      rw [ex]
      exact zFi hq
    · skip
      have g1 : ¬ c = 35 := fun e => h3 (by rw [e]; rfl)
      have hc9 : c = 42 := (nI_eq (b := 42) (by omega) (by decide)).mp h15
      have ex : fSgn t n c p r nc f = ((fNum t n 3 p r nc f).1, (fNum t n 3 p r nc f).2.1, (fNum t n 3 p r nc f).2.2.1, nc + 1, (fNum t n 3 p r nc f).2.2.2) := by unfold fSgn; rw [if_neg g1, if_pos hc9]
      refine zv_aload_n (n := 19) dX6_readSign_18 rfl rfl ?_
      refine zv_iconst (n := 20) dX6_readSign_19 rfl (v := 3) (by decide) ?_
      refine zv_callVF (n := 23) (As := [.int 3]) (rest := []) (kc' := 0) (ks' := 0) dX6_readSign_20 rfl (c_X6_readNumber hS (m := 3) (by decide) hp hr (hnc (by omega))) rfl kX6_readNumber lX6_137 hS.2.1 rfl rfl rfl ⟨by decide, by decide⟩ (Nat.le_of_ble_eq_true rfl) rfl rfl (by decide) (by decide) (fun M1 hq => ?_)
      refine zv_goto (tgt := 31) dX6_readSign_23 (by decide) ?_
      refine zv_zret dX6_readSign_31 rfl (fB_nar _) (by decide) (by decide) ?_
      rw [ex]
      exact zFi hq
  · skip
    have hc9 : c = 35 := (nI_eq (b := 35) (by omega) (by decide)).mp h3
    have ex : fSgn t n c p r nc f = ((fNum t n 1 p r nc f).1, (fNum t n 1 p r nc f).2.1, (fNum t n 1 p r nc f).2.2.1, nc + 1, (fNum t n 1 p r nc f).2.2.2) := if_pos hc9
    refine zv_aload_n (n := 7) dX6_readSign_6 rfl rfl ?_
    refine zv_iconst (n := 8) dX6_readSign_7 rfl (v := 1) (by decide) ?_
    refine zv_callVF (n := 11) (As := [.int 1]) (rest := []) (kc' := 0) (ks' := 0) dX6_readSign_8 rfl (c_X6_readNumber hS (m := 1) (by decide) hp hr (hnc (by omega))) rfl kX6_readNumber lX6_137 hS.2.1 rfl rfl rfl ⟨by decide, by decide⟩ (Nat.le_of_ble_eq_true rfl) rfl rfl (by decide) (by decide) (fun M1 hq => ?_)
    refine zv_zret dX6_readSign_11 rfl (fB_nar _) (by decide) (by decide) ?_
    rw [ex]
    exact zFi hq

/-- a form read from its letter j on -/
def fFm (t : Nat → Nat) (n i : Nat) : Nat → Nat → Nat → Nat → Nat → (Nat → Int32) → Bool × Nat × Nat × Nat × (Nat → Int32)
  | 0, _, p, r, nc, f => (true, p, r, nc, f)
  | l + 1, j, p, r, nc, f => if (fSgn t n (fK i j) p r nc f).1 = true then fFm t n i l (j + 1) (fSgn t n (fK i j) p r nc f).2.1 (fSgn t n (fK i j) p r nc f).2.2.1 (fSgn t n (fK i j) p r nc f).2.2.2.1 (fSgn t n (fK i j) p r nc f).2.2.2.2 else (false, (fSgn t n (fK i j) p r nc f).2)
def fCt (i : Nat) : Nat → Nat
  | 0 => 0
  | j + 1 => fCt i j + (if fK i j = 35 ∨ fK i j = 42 then 1 else 0)
theorem fCt_ok {i j : Nat} (h6 : 6 ≤ i) (hi : i < 16) (hj : j < fKn i) : (fK i j = 35 ∨ fK i j = 42 → fCt i j < 3) ∧ fK i j ≠ 0 ∧ fCt i j < 10 := by
  have key : ∀ i : Fin 16, 6 ≤ i.1 → ∀ j : Fin 20, j.1 < fKn i.1 → (fK i.1 j.1 = 35 ∨ fK i.1 j.1 = 42 → fCt i.1 j.1 < 3) ∧ fK i.1 j.1 ≠ 0 ∧ fCt i.1 j.1 < 10 := by decide +kernel
  exact key ⟨i, hi⟩ h6 ⟨j, Nat.lt_of_lt_of_le hj (fKn_le hi)⟩ hj
theorem fFm_le {t : Nat → Nat} {n i : Nat} (hn : n ≤ 70) (h6 : 6 ≤ i) (hi : i < 16) : ∀ (l j p r nc : Nat) (f : Nat → Int32), j + l = fKn i → p ≤ 70 → r ≤ 70 → (fFm t n i l j p r nc f).2.1 ≤ 70 ∧ (fFm t n i l j p r nc f).2.2.1 ≤ 70 := by
  intro l
  induction l with
  | zero => intro j p r nc f _ hp hr; exact ⟨hp, hr⟩
  | succ l ih =>
    intro j p r nc f hj hp hr
    have hb := fSgn_le (t := t) (nc := nc) (f := f) hn hp hr (fCt_ok h6 hi (j := j) (by omega)).2.1
    rw [fFm]
    split
    · exact ih (j + 1) _ _ _ _ (by omega) hb.1 hb.2
    · exact hb

set_option maxRecDepth 100000 in
set_option maxHeartbeats 4000000 in
theorem l_X6_readForm {σ : zSg} {Z : Nat → Prop} {b : Nat → Nat} {C : Nat → Nat → Nat} {S : Nat → zS} {nw un : Nat} {hs ea fa : Int32} {t : Nat → Nat} {n : Nat} {u : Nat → Nat} {k : Nat} {cm : Nat} {M0 : zM} {i : Nat} (h6 : 6 ≤ i) (hi : i < 16) (Y : Bool × Nat × Nat × Nat × (Nat → Int32)) : ∀ (l j : Nat) (M : zM) (p r nc : Nat) (f : Nat → Int32), j + l = fKn i → nc = fCt i j → zPs M Z b C S nw un hs ea fa t n u k p r cm nc f → zKe M0 M Z → p ≤ 70 → r ≤ 70 → fFm t n i l j p r nc f = Y → zV μX6_readForm (9, 0, 0) σ (zF (some (.int (fB Y.1))) (fun M' => zPs M' Z b C S nw un hs ea fa t n u k Y.2.1 Y.2.2.1 cm Y.2.2.2.1 Y.2.2.2.2 ∧ zKe M0 M' Z)) M 0 0 7 [(2, .int (nI j)), (0, .ref (b 3)), (1, .ref (zK σ i))] [] := by
  have hK20 := fKn_le hi
  intro l
  induction l with
  | zero =>
    intro j M p r nc f hj hnc hS hz hp hr hY
    refine zv_iload_n (n := 8) dX6_readForm_7 rfl rfl ?_
    refine zv_aload_n (n := 9) dX6_readForm_8 rfl rfl ?_
    refine zv_callVK (n := 12) (As := []) (rest := [.int (nI j)]) (kc' := 0) (ks' := 0) dX6_readForm_9 rfl (c_klength hi) rfl kJ0_length_8abf5 lX6_127 (fun U H h => (h.2.2.2.2.2.1.1 i hi).1) rfl rfl ⟨by decide, by decide⟩ (Nat.le_of_ble_eq_true rfl) rfl rfl (by decide) (by decide) ?_
    refine zv_icmp_ge (n := 15) (tgt := 35) dX6_readForm_12 (by decide) rfl (fun h12 => ?_) (fun h12 => False.elim (absurd (nI_le (by omega) (by omega)) h12))
    refine zv_iconst (n := 36) dX6_readForm_35 rfl (v := 1) (by decide) ?_
    refine zv_zret dX6_readForm_36 rfl rfl (by decide) (by decide) ?_
    subst hY
    exact ⟨rfl, hS, hz⟩
  | succ l ih =>
    intro j M p r nc f hj hnc hS hz hp hr hY
    have hk := fCt_ok h6 hi (j := j) (by omega)
    have hn := hS.1.txtN
    have hb := fSgn_le (t := t) (nc := nc) (f := f) hn hp hr hk.2.1
    have hc8 := (fK_ok hi (j := j) (by omega)).2.1
    rw [fFm] at hY
    refine zv_iload_n (n := 8) dX6_readForm_7 rfl rfl ?_
    refine zv_aload_n (n := 9) dX6_readForm_8 rfl rfl ?_
    refine zv_callVK (n := 12) (As := []) (rest := [.int (nI j)]) (kc' := 0) (ks' := 0) dX6_readForm_9 rfl (c_klength hi) rfl kJ0_length_8abf5 lX6_127 (fun U H h => (h.2.2.2.2.2.1.1 i hi).1) rfl rfl ⟨by decide, by decide⟩ (Nat.le_of_ble_eq_true rfl) rfl rfl (by decide) (by decide) ?_
    refine zv_icmp_ge (n := 15) (tgt := 35) dX6_readForm_12 (by decide) rfl (fun h12 => False.elim (absurd h12 (nI_ge (by omega) (by omega)))) (fun h12 => ?_)
    refine zv_aload_n (n := 16) dX6_readForm_15 rfl rfl ?_
    refine zv_aload_n (n := 17) dX6_readForm_16 rfl rfl ?_
    refine zv_iload_n (n := 18) dX6_readForm_17 rfl rfl ?_
    refine zv_callVK (n := 21) (As := [.int (nI j)]) (rest := [.ref (b 3)]) (kc' := 0) (ks' := 0) dX6_readForm_18 rfl (c_kcharAt hi (j := j) (by omega)) rfl kJ0_charAt_5068e lX6_130 (fun U H h => (h.2.2.2.2.2.1.1 i hi).1) rfl rfl ⟨by decide, by decide⟩ (Nat.le_of_ble_eq_true rfl) rfl rfl (by decide) (by decide) ?_
    refine zv_callVF (n := 24) (As := [.int (nI (fK i j))]) (rest := []) (kc' := 0) (ks' := 0) dX6_readForm_21 rfl (c_X6_readSign hS (c := fK i j) (by omega) hp hr (fun q => by rw [hnc]; exact hk.1 q)) rfl kX6_readSign lX6_134 hS.2.1 rfl rfl rfl ⟨by decide, by decide⟩ (Nat.le_of_ble_eq_true rfl) rfl rfl (by decide) (by decide) (fun M1 hq => ?_)
    refine zv_if_ne (n := 27) (tgt := 29) dX6_readForm_24 (by decide) rfl (fun h24 => ?_) (fun h24 => ?_)
    · skip
      have e24 := fB_ne h24
      rw [if_pos e24] at hY
      refine zv_iinc (n := 32) (v := nI (j + 1)) (lv' := [(2, .int (nI (j + 1))), (0, .ref (b 3)), (1, .ref (zK σ i))]) dX6_readForm_29 rfl rfl (nI_1 j) (by decide) rfl ?_
      refine zv_goto (tgt := 7) dX6_readForm_32 (by decide) ?_
      refine zv_lvs (lv' := [(2, .int (nI (j + 1))), (0, .ref (b 3)), (1, .ref (zK σ i))]) ⟨rfl, rfl, rfl, trivial⟩ ?_
      exact ih (j + 1) _ _ _ _ _ (by omega) (by rw [fSgn_nc, fCt, hnc]) hq.1 (hz.tr hq.2) hb.1 hb.2 hY
    · skip
      have e24 := fB_eq h24
      rw [if_neg (by rw [e24]; decide)] at hY
      refine zv_iconst (n := 28) dX6_readForm_27 rfl (v := 0) (by decide) ?_
      refine zv_zret dX6_readForm_28 rfl rfl (by decide) (by decide) ?_
      subst hY
      exact ⟨rfl, hq.1, hz.tr hq.2⟩

set_option maxRecDepth 100000 in
set_option maxHeartbeats 4000000 in
theorem c_X6_readForm {σ : zSg} {M : zM} {Z : Nat → Prop} {b : Nat → Nat} {C : Nat → Nat → Nat} {S : Nat → zS} {nw un : Nat} {hs ea fa : Int32} {t : Nat → Nat} {n : Nat} {u : Nat → Nat} {k : Nat} {p r cm nc : Nat} {f : Nat → Int32} (hS : zPs M Z b C S nw un hs ea fa t n u k p r cm nc f) {i : Nat} (h6 : 6 ≤ i) (hi : i < 16) (hp : p ≤ 70) (hr : r ≤ 70) : zCon μX6_readForm (9, 0, 0) σ [.ref (b 3), .ref (zK σ i)] M (zF (some (.int (fB (fFm t n i (fKn i) 0 p r 0 f).1))) (fun M' => zPs M' Z b C S nw un hs ea fa t n u k (fFm t n i (fKn i) 0 p r 0 f).2.1 (fFm t n i (fKn i) 0 p r 0 f).2.2.1 cm (fFm t n i (fKn i) 0 p r 0 f).2.2.2.1 (fFm t n i (fKn i) 0 p r 0 f).2.2.2.2 ∧ zKe M M' Z)) := by
  refine zCon.of (plainFor_of_name (by decide)) rfl (Nat.le_of_ble_eq_true rfl) ?_
  change zV _ _ _ _ _ 0 0 0 [(0, .ref (b 3)), (1, .ref (zK σ i))] []
  refine zv_aload_n (n := 1) dX6_readForm_0 rfl rfl ?_
  refine zv_iconst (n := 2) dX6_readForm_1 rfl (v := 0) (by decide) ?_
  refine zv_put (n := 5) dX6_readForm_2 rfl hS.2.1 FX6_124 zcl_X6 zty_X6_5 rfl rfl (Nat.le_of_ble_eq_true rfl) ?_
  obtain ⟨h3, h4⟩ := hS.put p r cm 0
  refine zv_iconst (n := 6) dX6_readForm_5 rfl (v := 0) (by decide) ?_
  refine zv_istore_n (n := 7) (lv' := [(2, .int 0), (0, .ref (b 3)), (1, .ref (zK σ i))]) dX6_readForm_6 rfl (by decide) rfl ?_
  refine zv_lvs (lv' := [(2, .int 0), (0, .ref (b 3)), (1, .ref (zK σ i))]) ⟨rfl, rfl, rfl, trivial⟩ ?_
  exact l_X6_readForm h6 hi (fFm t n i (fKn i) 0 p r 0 f) (fKn i) 0 _ p r 0 f (by omega) rfl h3 h4 hp hr rfl

/-! A script performed: laid by wip/p53/m44.py. -/
theorem fCm_q {t : Nat → Nat} {n st : Nat} : ∀ (l q p r nc : Nat) (f : Nat → Int32), q + l = 10 → (fCm t n st l q p r nc f).1 = true → (fCm t n st l q p r nc f).2.1 < 10 := by
  intro l
  induction l with
  | zero => intro q p r nc f _ h; exact absurd h (by show ¬ (false = true); decide)
  | succ l ih =>
    intro q p r nc f hq h
    rw [fCm] at h ⊢
    split
    · exact (show q < 10 by omega)
    · rename_i h9
      rw [if_neg h9] at h
      exact ih (q + 1) _ _ _ _ (by omega) h
/-- how many commands take effect from the d-th at p on, and the state behind -/
def fPo (t : Nat → Nat) (n : Nat) : Nat → Nat → Nat → Nat → Nat → (Nat → Int32) → zS → Nat × zS
  | 0, d, _, _, _, _, T => (d, T)
  | l + 1, d, p, r, nc, f, T => if (fCm t n p 10 0 p r nc f).1 = true then (if (fPer T (fCm t n p 10 0 p r nc f).2.2.2.2.2 (fCm t n p 10 0 p r nc f).2.1).1 < 0 then (d, (fPer T (fCm t n p 10 0 p r nc f).2.2.2.2.2 (fCm t n p 10 0 p r nc f).2.1).2) else fPo t n l (d + 1) (fRc t n (fCm t n p 10 0 p r nc f).2.2.1 (fCm t n p 10 0 p r nc f).2.2.2.1 59).2.1 (fRc t n (fCm t n p 10 0 p r nc f).2.2.1 (fCm t n p 10 0 p r nc f).2.2.2.1 59).2.2 (fCm t n p 10 0 p r nc f).2.2.2.2.1 (fCm t n p 10 0 p r nc f).2.2.2.2.2 (fPer T (fCm t n p 10 0 p r nc f).2.2.2.2.2 (fCm t n p 10 0 p r nc f).2.1).2) else (d, T)

theorem pf_T {σ : zSg} {M : zM} {Z : Nat → Prop} {b : Nat → Nat} {C : Nat → Nat → Nat} {S : Nat → zS} {nw un : Nat} {hs ea fa : Int32} {t : Nat → Nat} {n : Nat} {u : Nat → Nat} {k : Nat} {p r nc q : Nat} {f : Nat → Int32} {j : Nat} {T : zS} (hS : zPs M Z b C (va_up S j T) nw un hs ea fa t n u k p r (zCm σ q) nc f) (hj : j < 11) (hq : q < 10) : zCon μX6_perform (5, 0, 0) σ [.ref (b 3), .ref (C j 0)] M (zF (some (.int (fPer T f q).1)) (fun M' => zPs M' Z b C (va_up S j (fPer T f q).2) nw un hs ea fa t n u k p r (zCm σ q) nc f ∧ zKe M M' Z)) := by
  have h := c_X6_perform hS hj hq
  rw [va_up_self, va_up_up] at h
  exact h

set_option maxRecDepth 100000 in
set_option maxHeartbeats 4000000 in
theorem l_X6_performOn {σ : zSg} {Z : Nat → Prop} {b : Nat → Nat} {C : Nat → Nat → Nat} {S : Nat → zS} {nw un : Nat} {hs ea fa : Int32} {t : Nat → Nat} {n : Nat} {u : Nat → Nat} {k : Nat}  {M0 : zM} {j N : Nat} (hj : j < 11) (hN : N ≤ 60) (V : Nat × zS) : ∀ (l d : Nat) (M : zM) (p r cm nc : Nat) (f : Nat → Int32) (T : zS), d + l = N → zPs M Z b C (va_up S j T) nw un hs ea fa t n u k p r cm nc f → zKe M0 M Z → p ≤ 70 → r ≤ 70 → fPo t n l d p r nc f T = V → zV μX6_performOn (11, 0, 0) σ (zF (some (.int (nI V.1))) (fun M' => zPl M' Z b C (va_up S j V.2) nw un hs ea fa t n u k ∧ zKe M0 M' Z)) M 0 0 7 [(3, .int (nI d)), (0, .ref (b 3)), (1, .ref (C j 0)), (2, .int (nI N))] [] := by
  intro l
  induction l with
  | zero =>
    intro d M p r cm nc f T hd hS hz hp hr hV
    refine zv_iload_n (n := 8) dX6_performOn_7 rfl rfl ?_
    refine zv_iload_n (n := 9) dX6_performOn_8 rfl rfl ?_
    refine zv_icmp_ge (n := 12) (tgt := 42) dX6_performOn_9 (by decide) rfl (fun h9 => ?_) (fun h9 => False.elim (absurd (nI_le (by omega) (by omega)) h9))
    refine zv_iload_n (n := 43) dX6_performOn_42 rfl rfl ?_
    refine zv_iret dX6_performOn_43 rfl (by decide) (by decide) ?_
    subst hV
    rw [show N = d by omega]
    exact ⟨rfl, hS.1, hz⟩
  | succ l ih =>
    intro d M p r cm nc f T hd hS hz hp hr hV
    have hn := hS.1.txtN
    have hb := fCm_le (t := t) hn hp 10 0 p r nc f (by omega) hp hr
    rw [fPo] at hV
    refine zv_iload_n (n := 8) dX6_performOn_7 rfl rfl ?_
    refine zv_iload_n (n := 9) dX6_performOn_8 rfl rfl ?_
    refine zv_icmp_ge (n := 12) (tgt := 42) dX6_performOn_9 (by decide) rfl (fun h9 => False.elim (absurd h9 (nI_ge (by omega) (by omega)))) (fun h9 => ?_)
    refine zv_aload_n (n := 13) dX6_performOn_12 rfl rfl ?_
    refine zv_callVF (n := 16) (As := []) (rest := []) (kc' := 0) (ks' := 0) dX6_performOn_13 rfl (c_X6_readCommand hS hp hr) rfl kX6_readCommand lX6_50 hS.2.1 rfl rfl rfl ⟨by decide, by decide⟩ (Nat.le_of_ble_eq_true rfl) rfl rfl (by decide) (by decide) (fun M1 hq => ?_)
    obtain ⟨h1, h2⟩ := hq
    refine zv_if_eq (n := 19) (tgt := 27) dX6_performOn_16 (by decide) rfl (fun h16 => ?_) (fun h16 => ?_)
    · skip
      have e16 := fB_eq h16
      rw [if_neg (by rw [e16]; decide)] at hV
      refine zv_iload_n (n := 28) dX6_performOn_27 rfl rfl ?_
      refine zv_iret dX6_performOn_28 rfl (by decide) (by decide) ?_
      subst hV
      exact ⟨rfl, h1.1, hz.tr h2⟩
    · skip
      have e16 := fB_ne h16
      rw [if_pos e16] at hV
      rw [if_pos e16] at h1
      have hq10 := fCm_q (t := t) (n := n) (st := p) 10 0 p r nc f (by omega) e16
      refine zv_aload_n (n := 20) dX6_performOn_19 rfl rfl ?_
      refine zv_aload_n (n := 21) dX6_performOn_20 rfl rfl ?_
      refine zv_callVF (n := 24) (As := [.ref (C j 0)]) (rest := []) (kc' := 0) (ks' := 0) dX6_performOn_21 rfl (pf_T h1 hj hq10) rfl kX6_perform lX6_58 h1.2.1 rfl rfl rfl ⟨by decide, by decide⟩ (Nat.le_of_ble_eq_true rfl) rfl rfl (by decide) (by decide) (fun M2 hq => ?_)
      obtain ⟨h3, h4⟩ := hq
      refine zv_if_ge (n := 27) (tgt := 29) dX6_performOn_24 (by decide) rfl (fun h24 => ?_) (fun h24 => ?_)
      · skip
        rw [if_neg (Int32.not_lt.mpr h24)] at hV
        refine zv_aload_n (n := 30) dX6_performOn_29 rfl rfl ?_
        refine zv_bipush (n := 32) dX6_performOn_30 rfl (v := 59) (by decide) ?_
        refine zv_callVF (n := 35) (As := [.int 59]) (rest := []) (kc' := 0) (ks' := 0) dX6_performOn_32 rfl (c_X6_readCharacter h3 (c := 59) (by omega) (by omega) (by decide)) rfl kX6_readCharacter lX6_54 h3.2.1 rfl rfl rfl ⟨by decide, by decide⟩ (Nat.le_of_ble_eq_true rfl) rfl rfl (by decide) (by decide) (fun M3 hq => ?_)
        obtain ⟨h5, h6⟩ := hq
        have hc := fRc_le (t := t) (c := 59) hn hb.1 hb.2 (by decide)
        refine zv_pop (n := 36) dX6_performOn_35 rfl rfl ?_
        refine zv_iinc (n := 39) (v := nI (d + 1)) (lv' := [(3, .int (nI (d + 1))), (0, .ref (b 3)), (1, .ref (C j 0)), (2, .int (nI N))]) dX6_performOn_36 rfl rfl (nI_1 d) (by decide) rfl ?_
        refine zv_goto (tgt := 7) dX6_performOn_39 (by decide) ?_
        refine zv_lvs (lv' := [(3, .int (nI (d + 1))), (0, .ref (b 3)), (1, .ref (C j 0)), (2, .int (nI N))]) ⟨rfl, rfl, rfl, rfl, trivial⟩ ?_
        exact ih (d + 1) _ _ _ _ _ _ _ (by omega) h5 (((hz.tr h2).tr h4).tr h6) hc.1 hc.2 hV
      · skip
        rw [if_pos (Int32.not_le.mp h24)] at hV
        refine zv_iload_n (n := 28) dX6_performOn_27 rfl rfl ?_
        refine zv_iret dX6_performOn_28 rfl (by decide) (by decide) ?_
        subst hV
        exact ⟨rfl, h3.1, (hz.tr h2).tr h4⟩

set_option maxRecDepth 100000 in
set_option maxHeartbeats 4000000 in
theorem c_X6_performOn {σ : zSg} {M : zM} {Z : Nat → Prop} {b : Nat → Nat} {C : Nat → Nat → Nat} {S : Nat → zS} {nw un : Nat} {hs ea fa : Int32} {t : Nat → Nat} {n : Nat} {u : Nat → Nat} {k : Nat} {p r cm nc : Nat} {f : Nat → Int32} (hS : zPs M Z b C S nw un hs ea fa t n u k p r cm nc f) {j N : Nat} (hj : j < 11) (hN : N ≤ 60) (hr : r ≤ 70) : zCon μX6_performOn (11, 0, 0) σ [.ref (b 3), .ref (C j 0), .int (nI N)] M (zF (some (.int (nI (fPo t n N 0 0 r nc f (S j)).1))) (fun M' => zPl M' Z b C (va_up S j (fPo t n N 0 0 r nc f (S j)).2) nw un hs ea fa t n u k ∧ zKe M M' Z)) := by
  refine zCon.of (plainFor_of_name (by decide)) rfl (Nat.le_of_ble_eq_true rfl) ?_
  change zV _ _ _ _ _ 0 0 0 [(0, .ref (b 3)), (1, .ref (C j 0)), (2, .int (nI N))] []
  refine zv_aload_n (n := 1) dX6_performOn_0 rfl rfl ?_
  refine zv_iconst (n := 2) dX6_performOn_1 rfl (v := 0) (by decide) ?_
  refine zv_put (n := 5) dX6_performOn_2 rfl hS.2.1 FX6_43 zcl_X6 zty_X6_1 rfl rfl (Nat.le_of_ble_eq_true rfl) ?_
  obtain ⟨h1, h2⟩ := hS.put 0 r cm nc
  rw [← va_up_id S j] at h1
  refine zv_iconst (n := 6) dX6_performOn_5 rfl (v := 0) (by decide) ?_
  refine zv_istore_n (n := 7) (lv' := [(3, .int 0), (0, .ref (b 3)), (1, .ref (C j 0)), (2, .int (nI N))]) dX6_performOn_6 rfl (by decide) rfl ?_
  refine zv_lvs (lv' := [(3, .int 0), (0, .ref (b 3)), (1, .ref (C j 0)), (2, .int (nI N))]) ⟨rfl, rfl, rfl, rfl, trivial⟩ ?_
  exact l_X6_performOn hj hN (fPo t n N 0 0 r nc f (S j)) N 0 _ 0 r cm nc f (S j) (by omega) h1 h2 (by decide) hr rfl

/-! The script's reader: how many commands: laid by wip/p53/m42.py. -/
/-- how many commands from the k-th at p on (-1: none), and how far it reached -/
def fCc (t : Nat → Nat) (n : Nat) : Nat → Nat → Nat → Nat → Nat → (Nat → Int32) → Int32 × Nat
  | 0, _, _, r, _, _ => (-1, r)
  | l + 1, k, p, r, nc, f => if (fCm t n p 10 0 p r nc f).1 = true then (if n ≤ (fCm t n p 10 0 p r nc f).2.2.1 then (nI k, (fCm t n p 10 0 p r nc f).2.2.2.1) else if (fRc t n (fCm t n p 10 0 p r nc f).2.2.1 (fCm t n p 10 0 p r nc f).2.2.2.1 59).1 = true then fCc t n l (k + 1) (fRc t n (fCm t n p 10 0 p r nc f).2.2.1 (fCm t n p 10 0 p r nc f).2.2.2.1 59).2.1 (fRc t n (fCm t n p 10 0 p r nc f).2.2.1 (fCm t n p 10 0 p r nc f).2.2.2.1 59).2.2 (fCm t n p 10 0 p r nc f).2.2.2.2.1 (fCm t n p 10 0 p r nc f).2.2.2.2.2 else (-1, (fRc t n (fCm t n p 10 0 p r nc f).2.2.1 (fCm t n p 10 0 p r nc f).2.2.2.1 59).2.2)) else (-1, (fCm t n p 10 0 p r nc f).2.2.2.1)

set_option maxRecDepth 100000 in
set_option maxHeartbeats 4000000 in
theorem l_X6_countCommands {σ : zSg} {Z : Nat → Prop} {b : Nat → Nat} {C : Nat → Nat → Nat} {S : Nat → zS} {nw un : Nat} {hs ea fa : Int32} {t : Nat → Nat} {n : Nat} {u : Nat → Nat} {k : Nat}  {M0 : zM} (V : Int32 × Nat) : ∀ (l j : Nat) (M : zM) (p r cm nc : Nat) (f : Nat → Int32), j + l = 61 → zPs M Z b C S nw un hs ea fa t n u k p r cm nc f → zKe M0 M Z → p ≤ 70 → r ≤ 70 → fCc t n l j p r nc f = V → zV μX6_countCommands (11, 0, 0) σ (zF (some (.int V.1)) (fun M' => (∃ p' cm' nc' f', zPs M' Z b C S nw un hs ea fa t n u k p' V.2 cm' nc' f') ∧ zKe M0 M' Z)) M 0 0 12 [(1, .int (nI j)), (0, .ref (b 3))] [] := by
  intro l
  induction l with
  | zero =>
    intro j M p r cm nc f hj hS hz hp hr hV
    refine zv_iload_n (n := 13) dX6_countCommands_12 rfl rfl ?_
    refine zv_bipush (n := 15) dX6_countCommands_13 rfl (v := 60) (by decide) ?_
    refine zv_icmp_gt (n := 18) (tgt := 60) dX6_countCommands_15 (by decide) rfl (fun h15 => ?_) (fun h15 => False.elim (absurd (nI_lt (a := 60) (by omega) (by omega)) h15))
    refine zv_iconst (n := 61) dX6_countCommands_60 rfl (v := (-1)) (by decide) ?_
    refine zv_iret dX6_countCommands_61 rfl (by decide) (by decide) ?_
    subst hV
    exact ⟨rfl, ⟨_, _, _, _, hS⟩, hz⟩
  | succ l ih =>
    intro j M p r cm nc f hj hS hz hp hr hV
    have hn := hS.1.txtN
    have hb := fCm_le (t := t) hn hp 10 0 p r nc f (by omega) hp hr
    rw [fCc] at hV
    refine zv_iload_n (n := 13) dX6_countCommands_12 rfl rfl ?_
    refine zv_bipush (n := 15) dX6_countCommands_13 rfl (v := 60) (by decide) ?_
    refine zv_icmp_gt (n := 18) (tgt := 60) dX6_countCommands_15 (by decide) rfl (fun h15 => False.elim (absurd h15 (nI_nlt (a := 60) (by omega) (by decide)))) (fun h15 => ?_)
    refine zv_aload_n (n := 19) dX6_countCommands_18 rfl rfl ?_
    refine zv_callVF (n := 22) (As := []) (rest := []) (kc' := 0) (ks' := 0) dX6_countCommands_19 rfl (c_X6_readCommand hS hp hr) rfl kX6_readCommand lX6_50 hS.2.1 rfl rfl rfl ⟨by decide, by decide⟩ (Nat.le_of_ble_eq_true rfl) rfl rfl (by decide) (by decide) (fun M1 hq => ?_)
    obtain ⟨h1, h2⟩ := hq
    obtain ⟨ml, v4, hB⟩ := h1.1.txtB
    refine zv_if_ne (n := 25) (tgt := 27) dX6_countCommands_22 (by decide) rfl (fun h22 => ?_) (fun h22 => ?_)
    · skip
      have e22 := fB_ne h22
      rw [if_pos e22] at hV
      refine zv_aload_n (n := 28) dX6_countCommands_27 rfl rfl ?_
      refine zv_get (n := 31) dX6_countCommands_28 rfl h1.2.1 FX6_43 rfl ?_
      refine zv_aload_n (n := 32) dX6_countCommands_31 rfl rfl ?_
      refine zv_get (n := 35) dX6_countCommands_32 rfl h1.2.1 FX6_12 rfl ?_
      refine zv_callVP (n := 38) (As := []) (rest := [.int (nI (fCm t n p 10 0 p r nc f).2.2.1)]) (kc' := 0) (ks' := 0) dX6_countCommands_35 rfl (c_txtL h1.1) rfl kJ4_length_8abf5 lX6_31 hB rfl rfl rfl ⟨by decide, by decide⟩ (Nat.le_of_ble_eq_true rfl) rfl rfl (by decide) (by decide) ?_
      refine zv_icmp_lt (n := 41) (tgt := 43) dX6_countCommands_38 (by decide) rfl (fun h38 => ?_) (fun h38 => ?_)
      · skip
        have hlt : ¬ n ≤ (fCm t n p 10 0 p r nc f).2.2.1 := fun q => nI_nlt q (by omega) h38
        rw [if_neg hlt] at hV
        refine zv_aload_n (n := 44) dX6_countCommands_43 rfl rfl ?_
        refine zv_bipush (n := 46) dX6_countCommands_44 rfl (v := 59) (by decide) ?_
        refine zv_callVF (n := 49) (As := [.int 59]) (rest := []) (kc' := 0) (ks' := 0) dX6_countCommands_46 rfl (c_X6_readCharacter h1 (c := 59) (by omega) (by omega) (by decide)) rfl kX6_readCharacter lX6_54 h1.2.1 rfl rfl rfl ⟨by decide, by decide⟩ (Nat.le_of_ble_eq_true rfl) rfl rfl (by decide) (by decide) (fun M2 hq => ?_)
        obtain ⟨h3, h4⟩ := hq
        have hc := fRc_le (t := t) (c := 59) hn hb.1 hb.2 (by decide)
        refine zv_if_ne (n := 52) (tgt := 54) dX6_countCommands_49 (by decide) rfl (fun h49 => ?_) (fun h49 => ?_)
        · skip
          have e49 := fB_ne h49
          rw [if_pos e49] at hV
          refine zv_iinc (n := 57) (v := nI (j + 1)) (lv' := [(1, .int (nI (j + 1))), (0, .ref (b 3))]) dX6_countCommands_54 rfl rfl (nI_1 j) (by decide) rfl ?_
          refine zv_goto (tgt := 12) dX6_countCommands_57 (by decide) ?_
          refine zv_lvs (lv' := [(1, .int (nI (j + 1))), (0, .ref (b 3))]) ⟨rfl, rfl, trivial⟩ ?_
          exact ih (j + 1) _ _ _ _ _ _ (by omega) h3 ((hz.tr h2).tr h4) hc.1 hc.2 hV
        · skip
          have e49 := fB_eq h49
          rw [if_neg (by rw [e49]; decide)] at hV
          refine zv_iconst (n := 53) dX6_countCommands_52 rfl (v := (-1)) (by decide) ?_
          refine zv_iret dX6_countCommands_53 rfl (by decide) (by decide) ?_
          subst hV
          exact ⟨rfl, ⟨_, _, _, _, h3⟩, (hz.tr h2).tr h4⟩
      · skip
        have hge : n ≤ (fCm t n p 10 0 p r nc f).2.2.1 := Nat.le_of_not_lt (fun q => h38 (nI_lt q (by omega)))
        rw [if_pos hge] at hV
        refine zv_iload_n (n := 42) dX6_countCommands_41 rfl rfl ?_
        refine zv_iret dX6_countCommands_42 rfl (by decide) (by decide) ?_
        subst hV
        exact ⟨rfl, ⟨_, _, _, _, h1⟩, hz.tr h2⟩
    · skip
      have e22 := fB_eq h22
      rw [if_neg (by rw [e22]; decide)] at hV
      refine zv_iconst (n := 26) dX6_countCommands_25 rfl (v := (-1)) (by decide) ?_
      refine zv_iret dX6_countCommands_26 rfl (by decide) (by decide) ?_
      subst hV
      exact ⟨rfl, ⟨_, _, _, _, h1⟩, hz.tr h2⟩

set_option maxRecDepth 100000 in
set_option maxHeartbeats 4000000 in
theorem c_X6_countCommands {σ : zSg} {M : zM} {Z : Nat → Prop} {b : Nat → Nat} {C : Nat → Nat → Nat} {S : Nat → zS} {nw un : Nat} {hs ea fa : Int32} {t : Nat → Nat} {n : Nat} {u : Nat → Nat} {k : Nat} {p r cm nc : Nat} {f : Nat → Int32} (hS : zPs M Z b C S nw un hs ea fa t n u k p r cm nc f)  : zCon μX6_countCommands (11, 0, 0) σ [.ref (b 3)] M (zF (some (.int (fCc t n 60 1 0 0 nc f).1)) (fun M' => (∃ p' cm' nc' f', zPs M' Z b C S nw un hs ea fa t n u k p' (fCc t n 60 1 0 0 nc f).2 cm' nc' f') ∧ zKe M M' Z)) := by
  refine zCon.of (plainFor_of_name (by decide)) rfl (Nat.le_of_ble_eq_true rfl) ?_
  change zV _ _ _ _ _ 0 0 0 [(0, .ref (b 3))] []
  refine zv_aload_n (n := 1) dX6_countCommands_0 rfl rfl ?_
  refine zv_iconst (n := 2) dX6_countCommands_1 rfl (v := 0) (by decide) ?_
  refine zv_put (n := 5) dX6_countCommands_2 rfl hS.2.1 FX6_43 zcl_X6 zty_X6_1 rfl rfl (Nat.le_of_ble_eq_true rfl) ?_
  obtain ⟨h1, h2⟩ := hS.put 0 r cm nc
  refine zv_aload_n (n := 6) dX6_countCommands_5 rfl rfl ?_
  refine zv_iconst (n := 7) dX6_countCommands_6 rfl (v := 0) (by decide) ?_
  refine zv_put (n := 10) dX6_countCommands_7 rfl h1.2.1 FX6_47 zcl_X6 zty_X6_2 rfl rfl (Nat.le_of_ble_eq_true rfl) ?_
  obtain ⟨h3, h4⟩ := h1.put 0 0 cm nc
  refine zv_iconst (n := 11) dX6_countCommands_10 rfl (v := 1) (by decide) ?_
  refine zv_istore_n (n := 12) (lv' := [(1, .int 1), (0, .ref (b 3))]) dX6_countCommands_11 rfl (by decide) rfl ?_
  refine zv_lvs (lv' := [(1, .int 1), (0, .ref (b 3))]) ⟨rfl, rfl, trivial⟩ ?_
  exact l_X6_countCommands (fCc t n 60 1 0 0 nc f) 60 1 _ 0 0 cm nc f (by omega) h3 (h2.tr h4) (by decide) (by decide) rfl

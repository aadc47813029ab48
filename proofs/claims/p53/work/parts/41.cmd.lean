/-! The script's reader: commands: laid by wip/p53/m41.py. -/
/-- a command read at st: whether, which, place, reached, how many numbers, the numbers -/
def fCm (t : Nat → Nat) (n st : Nat) : Nat → Nat → Nat → Nat → Nat → (Nat → Int32) → Bool × Nat × Nat × Nat × Nat × (Nat → Int32)
  | 0, q, p, r, nc, f => (false, q, p, r, nc, f)
  | l + 1, q, _, r, _, f => if (fFm t n (6 + q) (fKn (6 + q)) 0 st r 0 f).1 = true then (true, q, (fFm t n (6 + q) (fKn (6 + q)) 0 st r 0 f).2) else fCm t n st l (q + 1) (fFm t n (6 + q) (fKn (6 + q)) 0 st r 0 f).2.1 (fFm t n (6 + q) (fKn (6 + q)) 0 st r 0 f).2.2.1 (fFm t n (6 + q) (fKn (6 + q)) 0 st r 0 f).2.2.2.1 (fFm t n (6 + q) (fKn (6 + q)) 0 st r 0 f).2.2.2.2
theorem fCm_le {t : Nat → Nat} {n st : Nat} (hn : n ≤ 70) (hst : st ≤ 70) : ∀ (l q p r nc : Nat) (f : Nat → Int32), q + l = 10 → p ≤ 70 → r ≤ 70 → (fCm t n st l q p r nc f).2.2.1 ≤ 70 ∧ (fCm t n st l q p r nc f).2.2.2.1 ≤ 70 := by
  intro l
  induction l with
  | zero => intro q p r nc f _ hp hr; exact ⟨hp, hr⟩
  | succ l ih =>
    intro q p r nc f hq hp hr
    have hb := fFm_le (t := t) hn (show 6 ≤ 6 + q by omega) (show 6 + q < 16 by omega) (fKn (6 + q)) 0 st r 0 f (by omega) hst hr
    rw [fCm]
    split
    · exact hb
    · exact ih (q + 1) _ _ _ _ (by omega) hb.1 hb.2

set_option maxRecDepth 100000 in
set_option maxHeartbeats 4000000 in
theorem l_X6_readCommand {σ : zSg} {Z : Nat → Prop} {b : Nat → Nat} {C : Nat → Nat → Nat} {S : Nat → zS} {nw un : Nat} {hs ea fa : Int32} {t : Nat → Nat} {n : Nat} {u : Nat → Nat} {k : Nat} {cm : Nat} {M0 : zM} {st : Nat} (hst : st ≤ 70) (Y : Bool × Nat × Nat × Nat × Nat × (Nat → Int32)) : ∀ (l q : Nat) (M : zM) (p r nc : Nat) (f : Nat → Int32), q + l = 10 → zPs M Z b C S nw un hs ea fa t n u k p r cm nc f → zKe M0 M Z → p ≤ 70 → r ≤ 70 → fCm t n st l q p r nc f = Y → zV μX6_readCommand (10, 0, 0) σ (zF (some (.int (fB Y.1))) (fun M' => zPs M' Z b C S nw un hs ea fa t n u k Y.2.2.1 Y.2.2.2.1 (if Y.1 = true then zCm σ Y.2.1 else cm) Y.2.2.2.2.1 Y.2.2.2.2.2 ∧ zKe M0 M' Z)) M 0 0 15 [(4, .int (nI q)), (3, .int (nI 10)), (2, .ref (σ.1 3)), (1, .int (nI st)), (0, .ref (b 3))] [] := by
  intro l
  induction l with
  | zero =>
    intro q M p r nc f hq hS hz hp hr hY
    refine zv_iload (n := 17) dX6_readCommand_15 rfl rfl ?_
    refine zv_iload_n (n := 18) dX6_readCommand_17 rfl rfl ?_
    refine zv_icmp_ge (n := 21) (tgt := 58) dX6_readCommand_18 (by decide) rfl (fun h18 => ?_) (fun h18 => False.elim (absurd (nI_le (by omega) (by omega)) h18))
    refine zv_iconst (n := 59) dX6_readCommand_58 rfl (v := 0) (by decide) ?_
    refine zv_zret dX6_readCommand_59 rfl rfl (by decide) (by decide) ?_
    subst hY
    exact ⟨rfl, hS, hz⟩
  | succ l ih =>
    intro q M p r nc f hq hS hz hp hr hY
    have hn := hS.1.txtN
    have h6 : 6 ≤ 6 + q := by omega
    have h16 : 6 + q < 16 := by omega
    have hb := fFm_le (t := t) hn h6 h16 (fKn (6 + q)) 0 st r 0 f (by omega) hst hr
    rw [fCm] at hY
    refine zv_iload (n := 17) dX6_readCommand_15 rfl rfl ?_
    refine zv_iload_n (n := 18) dX6_readCommand_17 rfl rfl ?_
    refine zv_icmp_ge (n := 21) (tgt := 58) dX6_readCommand_18 (by decide) rfl (fun h18 => False.elim (absurd h18 (nI_ge (by omega) (by omega)))) (fun h18 => ?_)
    refine zv_aload_n (n := 22) dX6_readCommand_21 rfl rfl ?_
    refine zv_iload (n := 24) dX6_readCommand_22 rfl rfl ?_
    refine zv_kref (n := 25) (v := .ref (zCm σ q)) dX6_readCommand_24 rfl (fun U H h => h.2.2.2.2.2.2.2.2.1) (vp_in_nI (by omega) (by decide)) (by rw [nI_clamp (by omega)]) ?_
    refine zv_astore (n := 27) (lv' := [(5, .ref (zCm σ q)), (4, .int (nI q)), (3, .int (nI 10)), (2, .ref (σ.1 3)), (1, .int (nI st)), (0, .ref (b 3))]) dX6_readCommand_25 rfl (by decide) rfl ?_
    refine zv_aload_n (n := 28) dX6_readCommand_27 rfl rfl ?_
    refine zv_iload_n (n := 29) dX6_readCommand_28 rfl rfl ?_
    refine zv_put (n := 32) dX6_readCommand_29 rfl hS.2.1 FX6_43 zcl_X6 zty_X6_1 rfl rfl (Nat.le_of_ble_eq_true rfl) ?_
    obtain ⟨h3, h4⟩ := hS.put st r cm nc
    refine zv_aload_n (n := 33) dX6_readCommand_32 rfl rfl ?_
    refine zv_aload (n := 35) dX6_readCommand_33 rfl rfl ?_
    refine zv_kgetN (n := 38) (v := .ref (zK σ (6 + q))) dX6_readCommand_35 rfl (fun U H h => (h.2.2.2.2.2.2.2.2.2.1 q (by omega)).2.2) SX6_116 ?_
    refine zv_callVF (n := 41) (As := [.ref (zK σ (6 + q))]) (rest := []) (kc' := 0) (ks' := 0) dX6_readCommand_38 rfl (c_X6_readForm h3 h6 h16 hst hr) rfl kX6_readForm lX6_120 h3.2.1 rfl rfl rfl ⟨by decide, by decide⟩ (Nat.le_of_ble_eq_true rfl) rfl rfl (by decide) (by decide) (fun M1 hq9 => ?_)
    obtain ⟨h5, h7⟩ := hq9
    refine zv_if_eq (n := 44) (tgt := 52) dX6_readCommand_41 (by decide) rfl (fun h41 => ?_) (fun h41 => ?_)
    · skip
      have e41 := fB_eq h41
      rw [if_neg (by rw [e41]; decide)] at hY
      refine zv_iinc (n := 55) (v := nI (q + 1)) (lv' := [(4, .int (nI (q + 1))), (5, .ref (zCm σ q)), (3, .int (nI 10)), (2, .ref (σ.1 3)), (1, .int (nI st)), (0, .ref (b 3))]) dX6_readCommand_52 rfl rfl (nI_1 q) (by decide) rfl ?_
      refine zv_goto (tgt := 15) dX6_readCommand_55 (by decide) ?_
      refine zv_lvs (lv' := [(4, .int (nI (q + 1))), (3, .int (nI 10)), (2, .ref (σ.1 3)), (1, .int (nI st)), (0, .ref (b 3))]) ⟨rfl, rfl, rfl, rfl, rfl, trivial⟩ ?_
      exact ih (q + 1) _ _ _ _ _ (by omega) h5 ((hz.tr h4).tr h7) hb.1 hb.2 hY
    · skip
      have e41 := fB_ne h41
      rw [if_pos e41] at hY
      refine zv_aload_n (n := 45) dX6_readCommand_44 rfl rfl ?_
      refine zv_aload (n := 47) dX6_readCommand_45 rfl rfl ?_
      refine zv_put (n := 50) dX6_readCommand_47 rfl h5.2.1 FX6_24 zcl_X6 zty_X6_3 rfl rfl (Nat.le_of_ble_eq_true rfl) ?_
      obtain ⟨h8, h9⟩ := h5.put (fFm t n (6 + q) (fKn (6 + q)) 0 st r 0 f).2.1 (fFm t n (6 + q) (fKn (6 + q)) 0 st r 0 f).2.2.1 (zCm σ q) (fFm t n (6 + q) (fKn (6 + q)) 0 st r 0 f).2.2.2.1
      refine zv_iconst (n := 51) dX6_readCommand_50 rfl (v := 1) (by decide) ?_
      refine zv_zret dX6_readCommand_51 rfl rfl (by decide) (by decide) ?_
      subst hY
      exact ⟨rfl, h8, ((hz.tr h4).tr h7).tr h9⟩

set_option maxRecDepth 100000 in
set_option maxHeartbeats 4000000 in
theorem c_X6_readCommand {σ : zSg} {M : zM} {Z : Nat → Prop} {b : Nat → Nat} {C : Nat → Nat → Nat} {S : Nat → zS} {nw un : Nat} {hs ea fa : Int32} {t : Nat → Nat} {n : Nat} {u : Nat → Nat} {k : Nat} {p r cm nc : Nat} {f : Nat → Int32} (hS : zPs M Z b C S nw un hs ea fa t n u k p r cm nc f) (hp : p ≤ 70) (hr : r ≤ 70) : zCon μX6_readCommand (10, 0, 0) σ [.ref (b 3)] M (zF (some (.int (fB (fCm t n p 10 0 p r nc f).1))) (fun M' => zPs M' Z b C S nw un hs ea fa t n u k (fCm t n p 10 0 p r nc f).2.2.1 (fCm t n p 10 0 p r nc f).2.2.2.1 (if (fCm t n p 10 0 p r nc f).1 = true then zCm σ (fCm t n p 10 0 p r nc f).2.1 else cm) (fCm t n p 10 0 p r nc f).2.2.2.2.1 (fCm t n p 10 0 p r nc f).2.2.2.2.2 ∧ zKe M M' Z)) := by
  refine zCon.of (plainFor_of_name (by decide)) rfl (Nat.le_of_ble_eq_true rfl) ?_
  change zV _ _ _ _ _ 0 0 0 [(0, .ref (b 3))] []
  refine zv_aload_n (n := 1) dX6_readCommand_0 rfl rfl ?_
  refine zv_get (n := 4) dX6_readCommand_1 rfl hS.2.1 FX6_43 rfl ?_
  refine zv_istore_n (n := 5) (lv' := [(1, .int (nI p)), (0, .ref (b 3))]) dX6_readCommand_4 rfl (by decide) rfl ?_
  refine zv_getsN (n := 8) (v := .ref (σ.1 3)) dX6_readCommand_5 rfl (fun U H h => h.2.2.2.2.2.2.2.1) SX6_112 ?_
  refine zv_astore_n (n := 9) (lv' := [(2, .ref (σ.1 3)), (1, .int (nI p)), (0, .ref (b 3))]) dX6_readCommand_8 rfl (by decide) rfl ?_
  refine zv_aload_n (n := 10) dX6_readCommand_9 rfl rfl ?_
  refine zv_klen (n := 11) dX6_readCommand_10 rfl (fun U H h => h.2.2.2.2.2.2.2.2.1) ?_
  refine zv_istore_n (n := 12) (lv' := [(3, .int (nI 10)), (2, .ref (σ.1 3)), (1, .int (nI p)), (0, .ref (b 3))]) dX6_readCommand_11 rfl (by decide) rfl ?_
  refine zv_iconst (n := 13) dX6_readCommand_12 rfl (v := 0) (by decide) ?_
  refine zv_istore (n := 15) (lv' := [(4, .int 0), (3, .int (nI 10)), (2, .ref (σ.1 3)), (1, .int (nI p)), (0, .ref (b 3))]) dX6_readCommand_13 rfl (by decide) rfl ?_
  refine zv_lvs (lv' := [(4, .int 0), (3, .int (nI 10)), (2, .ref (σ.1 3)), (1, .int (nI p)), (0, .ref (b 3))]) ⟨rfl, rfl, rfl, rfl, rfl, trivial⟩ ?_
  exact l_X6_readCommand hp (fCm t n p 10 0 p r nc f) 10 0 M p r nc f (by omega) hS zKe.rf hp hr rfl

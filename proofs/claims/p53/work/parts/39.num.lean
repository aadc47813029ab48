/-! The script's reader: numbers and signs: laid by wip/p53/m39.py. -/
/-- digits read: how many, where, reached, their value -/
def fNmL (t : Nat → Nat) (n : Nat) : Nat → Nat → Nat → Nat → Int32 → Nat × Nat × Nat × Int32
  | 0, d, p, r, v => (d, p, r, v)
  | l + 1, d, p, r, v => if fDg (fNx t n p) = true then fNmL t n l (d + 1) (p + 1) (fMx r (p + 1)) (10 * v + (nI (fNx t n p) - 48)) else (d, p, r, v)
theorem fNx_p {t : Nat → Nat} {n p : Nat} (h : fNx t n p ≠ 0) : p < n := by
  unfold fNx at h
  split at h
  · assumption
  · exact absurd rfl h
theorem fDg_p {t : Nat → Nat} {n p : Nat} (h : fDg (fNx t n p) = true) : p < n := by
  refine fNx_p (t := t) (fun e => ?_)
  rw [e] at h
  exact absurd h (by decide)
theorem fMx_le {a b c : Nat} (h1 : a ≤ c) (h2 : b ≤ c) : fMx a b ≤ c := by
  unfold fMx
  split <;> assumption
theorem fNmL_le {t : Nat → Nat} {n : Nat} (hn : n ≤ 70) : ∀ (l d p r : Nat) (v : Int32), p ≤ 70 → r ≤ 70 → (fNmL t n l d p r v).2.1 ≤ 70 ∧ (fNmL t n l d p r v).2.2.1 ≤ 70 ∧ (fNmL t n l d p r v).1 ≤ d + l := by
  intro l
  induction l with
  | zero => intro d p r v hp hr; exact ⟨hp, hr, Nat.le_refl _⟩
  | succ l ih =>
    intro d p r v hp hr
    rw [fNmL]
    split
    · rename_i h
      have := fDg_p h
      have := ih (d + 1) (p + 1) (fMx r (p + 1)) (10 * v + (nI (fNx t n p) - 48)) (by omega) (fMx_le hr (by omega))
      omega
    · exact ⟨hp, hr, Nat.le_add_right _ _⟩

set_option maxRecDepth 100000 in
set_option maxHeartbeats 4000000 in
theorem l_X6_readNumber {σ : zSg} {Z : Nat → Prop} {b : Nat → Nat} {C : Nat → Nat → Nat} {S : Nat → zS} {nw un : Nat} {hs ea fa : Int32} {t : Nat → Nat} {n : Nat} {u : Nat → Nat} {k : Nat} {cm nc : Nat} {f : Nat → Int32} {Q : zO → zM → Prop} {m : Nat} (hm : m ≤ 3) : ∀ (l d : Nat) (M : zM) (p r : Nat) (v : Int32), d + l = m → zPs M Z b C S nw un hs ea fa t n u k p r cm nc f → p ≤ 70 → r ≤ 70 → (∀ M', zPs M' Z b C S nw un hs ea fa t n u k (fNmL t n l d p r v).2.1 (fNmL t n l d p r v).2.2.1 cm nc f → zKe M M' Z → zV μX6_readNumber (7, 0, 0) σ Q M' 0 0 42 [(3, .int (nI (fNmL t n l d p r v).1)), (2, .int (fNmL t n l d p r v).2.2.2), (0, .ref (b 3)), (1, .int (nI m))] []) → zV μX6_readNumber (7, 0, 0) σ Q M 0 0 4 [(3, .int (nI d)), (2, .int v), (0, .ref (b 3)), (1, .int (nI m))] [] := by
  intro l
  induction l with
  | zero =>
    intro d M p r v hd hS hp hr hQ
    refine zv_iload_n (n := 5) dX6_readNumber_4 rfl rfl ?_
    refine zv_iload_n (n := 6) dX6_readNumber_5 rfl rfl ?_
    refine zv_icmp_ge (n := 9) (tgt := 42) dX6_readNumber_6 (by decide) rfl (fun h6 => ?_) (fun h6 => False.elim (absurd (nI_le (by omega) (by omega)) h6))
    exact hQ M hS zKe.rf
  | succ l ih =>
    intro d M p r v hd hS hp hr hQ
    have hP := hS.1
    have hNx := fNx_lt (t := t) (n := n) (p := p) (fun i hi => hP.txtLt hi)
    rw [fNmL] at hQ
    refine zv_iload_n (n := 5) dX6_readNumber_4 rfl rfl ?_
    refine zv_iload_n (n := 6) dX6_readNumber_5 rfl rfl ?_
    refine zv_icmp_ge (n := 9) (tgt := 42) dX6_readNumber_6 (by decide) rfl (fun h6 => False.elim (absurd h6 (nI_ge (by omega) (by omega)))) (fun h6 => ?_)
    refine zv_aload_n (n := 10) dX6_readNumber_9 rfl rfl ?_
    refine zv_callVP (n := 13) (As := []) (rest := []) (kc' := 0) (ks' := 0) dX6_readNumber_10 rfl (c_X6_next hS (by omega)) rfl kX6_next lX6_141 hS.2.1 rfl rfl rfl ⟨by decide, by decide⟩ (Nat.le_of_ble_eq_true rfl) rfl rfl (by decide) (by decide) ?_
    refine zv_callSP (n := 16) (As := [.int (nI (fNx t n p))]) (rest := []) (kc' := 0) (ks' := 0) dX6_readNumber_13 rfl (c_X6_isDigit (c := fNx t n p) (by omega)) rfl kX6_isDigit lX6_145 rfl rfl ⟨by decide, by decide⟩ (Nat.le_of_ble_eq_true rfl) rfl rfl (by decide) (by decide) ?_
    refine zv_if_eq (n := 19) (tgt := 42) dX6_readNumber_16 (by decide) rfl (fun h16 => ?_) (fun h16 => ?_)
    · skip
      have e16 := fB_eq h16
      rw [if_neg (by rw [e16]; decide)] at hQ
      exact hQ M hS zKe.rf
    · skip
      have e16 := fB_ne h16
      rw [if_pos e16] at hQ
      refine zv_bipush (n := 21) dX6_readNumber_19 rfl (v := 10) (by decide) ?_
      refine zv_iload_n (n := 22) dX6_readNumber_21 rfl rfl ?_
      refine zv_imul (n := 23) dX6_readNumber_22 rfl ?_
      refine zv_aload_n (n := 24) dX6_readNumber_23 rfl rfl ?_
      refine zv_callVP (n := 27) (As := []) (rest := [.int (10 * v)]) (kc' := 0) (ks' := 0) dX6_readNumber_24 rfl (c_X6_next hS (by omega)) rfl kX6_next lX6_141 hS.2.1 rfl rfl rfl ⟨by decide, by decide⟩ (Nat.le_of_ble_eq_true rfl) rfl rfl (by decide) (by decide) ?_
      refine zv_bipush (n := 29) dX6_readNumber_27 rfl (v := 48) (by decide) ?_
      refine zv_isub (n := 30) dX6_readNumber_29 rfl ?_
      refine zv_iadd (n := 31) dX6_readNumber_30 rfl ?_
      refine zv_istore_n (n := 32) (lv' := [(2, .int ((10 * v) + ((nI (fNx t n p)) - 48))), (3, .int (nI d)), (0, .ref (b 3)), (1, .int (nI m))]) dX6_readNumber_31 rfl (by decide) rfl ?_
      refine zv_iinc (n := 35) (v := nI (d + 1)) (lv' := [(3, .int (nI (d + 1))), (2, .int ((10 * v) + ((nI (fNx t n p)) - 48))), (0, .ref (b 3)), (1, .int (nI m))]) dX6_readNumber_32 rfl rfl (nI_1 d) (by decide) rfl ?_
      refine zv_aload_n (n := 36) dX6_readNumber_35 rfl rfl ?_
      refine zv_callVF0 (n := 39) (As := []) (rest := []) (kc' := 0) (ks' := 0) dX6_readNumber_36 rfl (c_X6_goOn hS (by omega) (by omega)) rfl kX6_goOn lX6_148 hS.2.1 rfl rfl rfl ⟨by decide, by decide⟩ (Nat.le_of_ble_eq_true rfl) rfl rfl (by decide) (by decide) (fun M1 hq => ?_)
      refine zv_goto (tgt := 4) dX6_readNumber_39 (by decide) ?_
      refine zv_lvs (lv' := [(3, .int (nI (d + 1))), (2, .int ((10 * v) + ((nI (fNx t n p)) - 48))), (0, .ref (b 3)), (1, .int (nI m))]) ⟨rfl, rfl, rfl, rfl, trivial⟩ ?_
      have hpn := fDg_p e16
      have hnN := hP.txtN
      exact ih (d + 1) _ (p + 1) (fMx r (p + 1)) _ (by omega) hq.1 (by omega) (fMx_le hr (by omega)) (fun M' h1 h2 => hQ M' h1 (hq.2.tr h2))

/-- what a number's reading leaves: whether, place, reached, numbers -/
def fNum (t : Nat → Nat) (n m p r nc : Nat) (f : Nat → Int32) : Bool × Nat × Nat × (Nat → Int32) := (decide (0 < (fNmL t n m 0 p r 0).1), (fNmL t n m 0 p r 0).2.1, (fNmL t n m 0 p r 0).2.2.1, upd f nc (fNmL t n m 0 p r 0).2.2.2)

set_option maxRecDepth 100000 in
set_option maxHeartbeats 4000000 in
theorem k_X6_readNumber {σ : zSg} {Z : Nat → Prop} {b : Nat → Nat} {C : Nat → Nat → Nat} {S : Nat → zS} {nw un : Nat} {hs ea fa : Int32} {t : Nat → Nat} {n : Nat} {u : Nat → Nat} {k : Nat} {p r cm nc : Nat} {f : Nat → Int32} {M M' : zM} {m : Nat} (hm : m ≤ 3) (hp : p ≤ 70) (hr : r ≤ 70) (hnc : nc < 3) (hn : n ≤ 70) (h1 : zPs M' Z b C S nw un hs ea fa t n u k (fNmL t n m 0 p r 0).2.1 (fNmL t n m 0 p r 0).2.2.1 cm nc f) (h2 : zKe M M' Z) : zV μX6_readNumber (7, 0, 0) σ (zF (some (.int (fB (fNum t n m p r nc f).1))) (fun M' => zPs M' Z b C S nw un hs ea fa t n u k (fNum t n m p r nc f).2.1 (fNum t n m p r nc f).2.2.1 cm (nc + 1) (fNum t n m p r nc f).2.2.2 ∧ zKe M M' Z)) M' 0 0 42 [(3, .int (nI (fNmL t n m 0 p r 0).1)), (2, .int (fNmL t n m 0 p r 0).2.2.2), (0, .ref (b 3)), (1, .int (nI m))] [] := by
  have hb := fNmL_le (t := t) hn m 0 p r 0 hp hr
  refine zv_aload_n (n := 43) dX6_readNumber_42 rfl rfl ?_
  refine zv_get (n := 46) dX6_readNumber_43 rfl h1.2.1 FX6_27 rfl ?_
  refine zv_aload_n (n := 47) dX6_readNumber_46 rfl rfl ?_
  refine zv_get (n := 50) dX6_readNumber_47 rfl h1.2.1 FX6_124 rfl ?_
  refine zv_iload_n (n := 51) dX6_readNumber_50 rfl rfl ?_
  refine zv_callSNF0 (n := 54) (As := [.ref (b 5), .int (nI nc), .int (fNmL t n m 0 p r 0).2.2.2]) (rest := []) (kc' := 0) (ks' := 0) dX6_readNumber_51 rfl (c_X8_put h1.2.2 (by decide) (nI nc) (fNmL t n m 0 p r 0).2.2.2) rfl kX8_put lX6_151 rfl rfl ⟨by decide, by decide⟩ (Nat.le_of_ble_eq_true rfl) rfl rfl (by decide) (by decide) (fun M2 hq => ?_)
  rw [if_neg (nI_pos (by omega)), if_neg (fun q => absurd ((nI_leI (a := 3) (by decide) (by omega)).mp q) (by omega)), nI_clamp (by omega)] at hq
  subst hq
  obtain ⟨h3, h4⟩ := h1.num (upd f nc (fNmL t n m 0 p r 0).2.2.2)
  refine zv_aload_n (n := 55) dX6_readNumber_54 rfl rfl ?_
  refine zv_dup (n := 56) dX6_readNumber_55 rfl rfl ?_
  refine zv_get (n := 59) dX6_readNumber_56 rfl h3.2.1 FX6_124 rfl ?_
  refine zv_iconst (n := 60) dX6_readNumber_59 rfl (v := 1) (by decide) ?_
  refine zv_iadd (n := 61) dX6_readNumber_60 rfl ?_
  rw [nI_1]
  refine zv_put (n := 64) dX6_readNumber_61 rfl h3.2.1 FX6_124 zcl_X6 zty_X6_5 rfl rfl (Nat.le_of_ble_eq_true rfl) ?_
  obtain ⟨h5, h6⟩ := h3.put (fNmL t n m 0 p r 0).2.1 (fNmL t n m 0 p r 0).2.2.1 cm (nc + 1)
  refine zv_iload_n (n := 65) dX6_readNumber_64 rfl rfl ?_
  refine zv_if_le (n := 68) (tgt := 72) dX6_readNumber_65 (by decide) rfl (fun h65 => ?_) (fun h65 => ?_)
  · skip
    have e65 : (fNum t n m p r nc f).1 = false := decide_eq_false (fun q => absurd h65 (nI_ge (a := 0) q (by omega)))
    refine zv_iconst (n := 73) dX6_readNumber_72 rfl (v := 0) (by decide) ?_
    refine zv_zret dX6_readNumber_73 rfl rfl (by decide) (by decide) ?_
    refine ⟨by rw [fB_f e65], h5, (h2.tr h4).tr h6⟩
  · skip
    have e65 : (fNum t n m p r nc f).1 = true := decide_eq_true (Nat.pos_of_ne_zero (fun q => h65 (by rw [q]; decide)))
    refine zv_iconst (n := 69) dX6_readNumber_68 rfl (v := 1) (by decide) ?_
    refine zv_goto (tgt := 73) dX6_readNumber_69 (by decide) ?_
    refine zv_zret dX6_readNumber_73 rfl rfl (by decide) (by decide) ?_
    refine ⟨by rw [fB_t e65], h5, (h2.tr h4).tr h6⟩

set_option maxRecDepth 100000 in
set_option maxHeartbeats 4000000 in
theorem c_X6_readNumber {σ : zSg} {M : zM} {Z : Nat → Prop} {b : Nat → Nat} {C : Nat → Nat → Nat} {S : Nat → zS} {nw un : Nat} {hs ea fa : Int32} {t : Nat → Nat} {n : Nat} {u : Nat → Nat} {k : Nat} {p r cm nc : Nat} {f : Nat → Int32} (hS : zPs M Z b C S nw un hs ea fa t n u k p r cm nc f) {m : Nat} (hm : m ≤ 3) (hp : p ≤ 70) (hr : r ≤ 70) (hnc : nc < 3) : zCon μX6_readNumber (7, 0, 0) σ [.ref (b 3), .int (nI m)] M (zF (some (.int (fB (fNum t n m p r nc f).1))) (fun M' => zPs M' Z b C S nw un hs ea fa t n u k (fNum t n m p r nc f).2.1 (fNum t n m p r nc f).2.2.1 cm (nc + 1) (fNum t n m p r nc f).2.2.2 ∧ zKe M M' Z)) := by
  refine zCon.of (plainFor_of_name (by decide)) rfl (Nat.le_of_ble_eq_true rfl) ?_
  change zV _ _ _ _ _ 0 0 0 [(0, .ref (b 3)), (1, .int (nI m))] []
  refine zv_iconst (n := 1) dX6_readNumber_0 rfl (v := 0) (by decide) ?_
  refine zv_istore_n (n := 2) (lv' := [(2, .int 0), (0, .ref (b 3)), (1, .int (nI m))]) dX6_readNumber_1 rfl (by decide) rfl ?_
  refine zv_iconst (n := 3) dX6_readNumber_2 rfl (v := 0) (by decide) ?_
  refine zv_istore_n (n := 4) (lv' := [(3, .int 0), (2, .int 0), (0, .ref (b 3)), (1, .int (nI m))]) dX6_readNumber_3 rfl (by decide) rfl ?_
  refine zv_lvs (lv' := [(3, .int 0), (2, .int 0), (0, .ref (b 3)), (1, .int (nI m))]) ⟨rfl, rfl, rfl, rfl, trivial⟩ ?_
  exact l_X6_readNumber hm m 0 M p r 0 (by omega) hS hp hr (fun M' h1 h2 => k_X6_readNumber hm hp hr hnc hS.1.txtN h1 h2)

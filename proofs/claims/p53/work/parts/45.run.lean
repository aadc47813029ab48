/-! A script run: laid by wip/p53/m45.py. -/
theorem fCc_in {t : Nat → Nat} {n : Nat} : ∀ (l j p r nc : Nat) (f : Nat → Int32), j + l = 61 → (fCc t n l j p r nc f).1 = -1 ∨ ∃ N, N ≤ 60 ∧ (fCc t n l j p r nc f).1 = nI N := by
  intro l
  induction l with
  | zero => intro j p r nc f _; exact Or.inl rfl
  | succ l ih =>
    intro j p r nc f hj
    rw [fCc]
    split
    · split
      · exact Or.inr ⟨j, by omega, rfl⟩
      · split
        · exact ih (j + 1) _ _ _ _ (by omega)
        · exact Or.inl rfl
    · exact Or.inl rfl
theorem fCc_le {t : Nat → Nat} {n : Nat} (hn : n ≤ 70) : ∀ (l j p r nc : Nat) (f : Nat → Int32), p ≤ 70 → r ≤ 70 → (fCc t n l j p r nc f).2 ≤ 70 := by
  intro l
  induction l with
  | zero => intro j p r nc f hp hr; exact hr
  | succ l ih =>
    intro j p r nc f hp hr
    have hb := fCm_le (t := t) hn hp 10 0 p r nc f (by omega) hp hr
    have hc := fRc_le (t := t) (c := 59) hn hb.1 hb.2 (by decide)
    rw [fCc]
    split
    · split
      · exact hb.2
      · split
        · exact ih (j + 1) _ _ _ _ hc.1 hc.2
        · exact hc.2
    · exact hb.2
theorem fPo_le {t : Nat → Nat} {n : Nat} : ∀ (l d p r nc : Nat) (f : Nat → Int32) (T : zS), (fPo t n l d p r nc f T).1 ≤ d + l := by
  intro l
  induction l with
  | zero => intro d p r nc f T; exact Nat.le_refl _
  | succ l ih =>
    intro d p r nc f T
    rw [fPo]
    split
    · split
      · exact Nat.le_add_right _ _
      · exact Nat.le_trans (ih _ _ _ _ _ _) (by omega)
    · exact Nat.le_add_right _ _

set_option maxRecDepth 100000 in
set_option maxHeartbeats 4000000 in
theorem c_X8_run_p {σ : zSg} {M : zM} {Z : Nat → Prop} {b : Nat → Nat} {C : Nat → Nat → Nat} {S : Nat → zS} {nw un : Nat} {hs ea fa : Int32} {t : Nat → Nat} {n : Nat} {u : Nat → Nat} {k : Nat} {p r cm nc : Nat} {f : Nat → Int32} (hS : zPs M Z b C S nw un hs ea fa t n u k p r cm nc f) (hV : (fCc t n 60 1 0 0 nc f).1 = -1) : zCon μX8_runScript (12, 1, 6) σ [.ref (b 0)] M (fun o M' => o = .inr "java/lang/IllegalArgumentException" ∧ zPl M' Z b C S nw un hs (nI (fCc t n 60 1 0 0 nc f).2) fa t 0 u k ∧ zKe M M' Z) := by
  refine zCon.of (plainFor_of_name (by decide)) rfl (Nat.le_of_ble_eq_true rfl) ?_
  change zV _ _ _ _ _ 0 0 0 [(0, .ref (b 0))] []
  refine zv_aload_n (n := 1) dX8_runScript_0 rfl rfl ?_
  refine zv_get (n := 4) dX8_runScript_1 rfl hS.1.2.2.1 FX8_26 rfl ?_
  refine zv_callVF (n := 7) (As := []) (rest := []) (kc' := 0) (ks' := 0) dX8_runScript_4 rfl (c_X6_countCommands hS) rfl kX6_countCommands lX8_272 hS.2.1 rfl rfl rfl ⟨by decide, by decide⟩ (Nat.le_of_ble_eq_true rfl) rfl rfl (by decide) (by decide) (fun M1 hq => ?_)
  obtain ⟨⟨p1, cm1, nc1, f1, h1⟩, hz1⟩ := hq
  rw [hV]
  refine zv_istore_n (n := 8) (lv' := [(1, .int (-1)), (0, .ref (b 0))]) dX8_runScript_7 rfl (by decide) rfl ?_
  refine zv_iload_n (n := 9) dX8_runScript_8 rfl rfl ?_
  refine zv_iconst (n := 10) dX8_runScript_9 rfl (v := (-1)) (by decide) ?_
  refine zv_icmp_ne (n := 13) (tgt := 42) dX8_runScript_10 (by decide) rfl (fun h10 => False.elim (h10 rfl)) (fun h10 => ?_)
  refine zv_aload_n (n := 14) dX8_runScript_13 rfl rfl ?_
  refine zv_aload_n (n := 15) dX8_runScript_14 rfl rfl ?_
  refine zv_get (n := 18) dX8_runScript_15 rfl h1.1.2.2.1 FX8_26 rfl ?_
  refine zv_getN (n := 21) dX8_runScript_18 rfl h1.2.1 FX8_275 rfl ?_
  refine zv_put (n := 24) dX8_runScript_21 rfl h1.1.2.2.1 FX8_30 zcl_X8 zty_X8_4 rfl rfl (Nat.le_of_ble_eq_true rfl) ?_
  obtain ⟨h2, hz2⟩ := h1.1.own (M' := M1) hs (nI (fCc t n 60 1 0 0 nc f).2) fa
  obtain ⟨ps, re, ncc, cmm, h3⟩ := h2.2.2.2.1
  refine zv_aload_n (n := 25) dX8_runScript_24 rfl rfl ?_
  refine zv_get (n := 28) dX8_runScript_25 rfl h2.2.2.1 FX8_26 rfl ?_
  refine zv_callVF0 (n := 31) (As := []) (rest := []) (kc' := 0) (ks' := 0) dX8_runScript_28 rfl (c_X6_clear h2) rfl kX6_clear lX8_278 h3 rfl rfl rfl ⟨by decide, by decide⟩ (Nat.le_of_ble_eq_true rfl) rfl rfl (by decide) (by decide) (fun M3 hq => ?_)
  obtain ⟨h4, hz4⟩ := hq
  refine zv_throwSW (j := 24) (names := ["java/lang/RuntimeException", "java/lang/Exception"]) hfit_IllegalArgument.1 hfit_IllegalArgument.2 eX8_126 ini_IllegalArgumentException rfl rfl rfl hat_IllegalArgument hgo_IllegalArgument dX8_runScript_31 dX8_runScript_34 dX8_runScript_35 dX8_runScript_38 dX8_runScript_41 rfl (by decide) (by decide) (by decide) (by decide) ?_
  exact ⟨rfl, h4, (hz1.tr hz2).tr hz4⟩

set_option maxRecDepth 100000 in
set_option maxHeartbeats 4000000 in
theorem c_X8_run_g {σ : zSg} {M : zM} {Z : Nat → Prop} {b : Nat → Nat} {C : Nat → Nat → Nat} {S : Nat → zS} {nw un : Nat} {hs ea fa : Int32} {t : Nat → Nat} {n : Nat} {u : Nat → Nat} {k : Nat} {p r cm nc : Nat} {f : Nat → Int32} (hS : zPs M Z b C S nw un hs ea fa t n u k p r cm nc f) {N : Nat} (hN : N ≤ 60) (hV : (fCc t n 60 1 0 0 nc f).1 = nI N) : zCon μX8_runScript (12, 1, 6) σ [.ref (b 0)] M (fun o M' => zKe M M' Z ∧ ∃ nc9 f9, ((fPo t n N 0 0 (fCc t n 60 1 0 0 nc f).2 nc9 f9 (S nw)).1 < N → o = .inr "java/lang/IllegalStateException" ∧ zPl M' Z b C (va_up S (nx nw) (fPo t n N 0 0 (fCc t n 60 1 0 0 nc f).2 nc9 f9 (S nw)).2) nw un hs ea (nI (fPo t n N 0 0 (fCc t n 60 1 0 0 nc f).2 nc9 f9 (S nw)).1) t 0 u k) ∧ (¬ (fPo t n N 0 0 (fCc t n 60 1 0 0 nc f).2 nc9 f9 (S nw)).1 < N → o = .inl (some (.int (nI N))) ∧ zPl M' Z b C (va_up S (nx nw) (fPo t n N 0 0 (fCc t n 60 1 0 0 nc f).2 nc9 f9 (S nw)).2) (nx nw) (if un < 8 then un + 1 else 8) hs ea fa t 0 u k)) := by
  refine zCon.of (plainFor_of_name (by decide)) rfl (Nat.le_of_ble_eq_true rfl) ?_
  change zV _ _ _ _ _ 0 0 0 [(0, .ref (b 0))] []
  refine zv_aload_n (n := 1) dX8_runScript_0 rfl rfl ?_
  refine zv_get (n := 4) dX8_runScript_1 rfl hS.1.2.2.1 FX8_26 rfl ?_
  refine zv_callVF (n := 7) (As := []) (rest := []) (kc' := 0) (ks' := 0) dX8_runScript_4 rfl (c_X6_countCommands hS) rfl kX6_countCommands lX8_272 hS.2.1 rfl rfl rfl ⟨by decide, by decide⟩ (Nat.le_of_ble_eq_true rfl) rfl rfl (by decide) (by decide) (fun M1 hq => ?_)
  obtain ⟨⟨p1, cm1, nc1, f1, h1⟩, hz1⟩ := hq
  rw [hV]
  refine zv_istore_n (n := 8) (lv' := [(1, .int (nI N)), (0, .ref (b 0))]) dX8_runScript_7 rfl (by decide) rfl ?_
  refine zv_iload_n (n := 9) dX8_runScript_8 rfl rfl ?_
  refine zv_iconst (n := 10) dX8_runScript_9 rfl (v := (-1)) (by decide) ?_
  refine zv_icmp_ne (n := 13) (tgt := 42) dX8_runScript_10 (by decide) rfl (fun h10 => ?_) (fun h10 => False.elim (absurd h10 (fun e => nI_pos (n := N) (by omega) (by rw [e]; decide))))
  refine zv_aload_n (n := 43) dX8_runScript_42 rfl rfl ?_
  refine zv_get (n := 46) dX8_runScript_43 rfl h1.1.2.2.1 FX8_26 rfl ?_
  refine zv_aload_n (n := 47) dX8_runScript_46 rfl rfl ?_
  refine zv_get (n := 50) dX8_runScript_47 rfl h1.1.2.2.1 FX8_10 rfl ?_
  refine zv_callVF (n := 53) (As := []) (rest := [.ref (b 3)]) (kc' := 0) (ks' := 0) dX8_runScript_50 rfl (c_X7_draft h1.1.2.1 h1.1.1) rfl kX7_draft lX8_44 h1.1.2.1.2.2.1 rfl rfl rfl ⟨by decide, by decide⟩ (Nat.le_of_ble_eq_true rfl) rfl rfl (by decide) (by decide) (fun M2 hq => ?_)
  obtain ⟨hA1, ho1⟩ := hq
  have hx := nx_lt nw
  have hC1 := hA1.cen (i := nx nw) (by omega)
  have hO1 := hA1.ok (i := nx nw) (by omega)
  rw [va_up_self] at hC1 hO1
  obtain ⟨h2, hz2⟩ := h1.cen (by omega) hC1 hO1 ho1
  refine zv_iload_n (n := 54) dX8_runScript_53 rfl rfl ?_
  refine zv_callVF (n := 57) (As := [.ref (C (nx nw) 0), .int (nI N)]) (rest := []) (kc' := 0) (ks' := 0) dX8_runScript_54 rfl ((c_X6_performOn h2 (j := nx nw) (N := N) (by omega) hN (fCc_le (t := t) hS.1.txtN 60 1 0 0 nc f (by decide) (by decide)))) rfl kX6_performOn lX8_283 h2.2.1 rfl rfl rfl ⟨by decide, by decide⟩ (Nat.le_of_ble_eq_true rfl) rfl rfl (by decide) (by decide) (fun M3 hq => ?_)
  rw [va_up_self] at hq ⊢
  refine zv_istore_n (n := 58) (lv' := [(2, .int (nI (fPo t n N 0 0 (fCc t n 60 1 0 0 nc f).2 nc1 f1 (S nw)).1)), (1, .int (nI N)), (0, .ref (b 0))]) dX8_runScript_57 rfl (by decide) rfl ?_
  refine zv_aload_n (n := 59) dX8_runScript_58 rfl rfl ?_
  obtain ⟨h3, hz3⟩ := hq
  rw [va_up_up] at h3
  obtain ⟨ps, re, ncc, cmm, h33⟩ := h3.2.2.2.1
  have hW := fPo_le (t := t) (n := n) N 0 0 (fCc t n 60 1 0 0 nc f).2 nc1 f1 (S nw)
  refine zv_get (n := 62) dX8_runScript_59 rfl h3.2.2.1 FX8_26 rfl ?_
  refine zv_callVF0 (n := 65) (As := []) (rest := []) (kc' := 0) (ks' := 0) dX8_runScript_62 rfl (c_X6_clear h3) rfl kX6_clear lX8_278 h33 rfl rfl rfl ⟨by decide, by decide⟩ (Nat.le_of_ble_eq_true rfl) rfl rfl (by decide) (by decide) (fun M4 hq => ?_)
  obtain ⟨h4, hz4⟩ := hq
  refine zv_iload_n (n := 66) dX8_runScript_65 rfl rfl ?_
  refine zv_iload_n (n := 67) dX8_runScript_66 rfl rfl ?_
  refine zv_icmp_ge (n := 70) (tgt := 86) dX8_runScript_67 (by decide) rfl (fun h67 => ?_) (fun h67 => ?_)
  · skip
    have hge : ¬ (fPo t n N 0 0 (fCc t n 60 1 0 0 nc f).2 nc1 f1 (S nw)).1 < N := fun q => nI_ge q (by omega) h67
    refine zv_aload_n (n := 87) dX8_runScript_86 rfl rfl ?_
    refine zv_get (n := 90) dX8_runScript_87 rfl h4.2.2.1 FX8_10 rfl ?_
    refine zv_callVF0 (n := 93) (As := []) (rest := []) (kc' := 0) (ks' := 0) dX8_runScript_90 rfl (c_X7_keepDraft h4.2.1) rfl kX7_keepDraft lX8_289 h4.2.1.2.2.1 rfl rfl rfl ⟨by decide, by decide⟩ (Nat.le_of_ble_eq_true rfl) rfl rfl (by decide) (by decide) (fun M5 hq => ?_)
    obtain ⟨h5, hz5⟩ := h4.tl hq.1 hq.2
    refine zv_iload_n (n := 94) dX8_runScript_93 rfl rfl ?_
    refine zv_iret dX8_runScript_94 rfl (by decide) (by decide) ?_
    exact ⟨(((hz1.tr hz2).tr hz3).tr hz4).tr hz5, nc1, f1, (fun q => absurd q hge), (fun _ => ⟨rfl, h5⟩)⟩
  · skip
    have hlt : (fPo t n N 0 0 (fCc t n 60 1 0 0 nc f).2 nc1 f1 (S nw)).1 < N := Nat.lt_of_not_le (fun q => h67 (nI_le q (by omega)))
    refine zv_aload_n (n := 71) dX8_runScript_70 rfl rfl ?_
    refine zv_iload_n (n := 72) dX8_runScript_71 rfl rfl ?_
    refine zv_put (n := 75) dX8_runScript_72 rfl h4.2.2.1 FX8_34 zcl_X8 zty_X8_5 rfl rfl (Nat.le_of_ble_eq_true rfl) ?_
    obtain ⟨h5, hz5⟩ := h4.own (M' := M4) hs ea (nI (fPo t n N 0 0 (fCc t n 60 1 0 0 nc f).2 nc1 f1 (S nw)).1)
    refine zv_throwSW (j := 25) (names := ["java/lang/RuntimeException", "java/lang/Exception"]) hfit_IllegalState.1 hfit_IllegalState.2 eX8_264 ini_IllegalStateException rfl rfl rfl hat_IllegalState hgo_IllegalState dX8_runScript_75 dX8_runScript_78 dX8_runScript_79 dX8_runScript_82 dX8_runScript_85 rfl (by decide) (by decide) (by decide) (by decide) ?_
    exact ⟨(((hz1.tr hz2).tr hz3).tr hz4).tr hz5, nc1, f1, (fun _ => ⟨rfl, h5⟩), (fun q => absurd hlt q)⟩

/-! The planner's constructor: laid by wip/p53/m36.py. -/
/-- what was there stays, but h -/
def zUp (M M' : zM) (h : Nat) : Prop := ∀ x e, M x = some e → x ≠ h → M' x = some e
theorem zUp.rf {M : zM} {h : Nat} : zUp M M h := fun _ _ hx _ => hx
theorem zUp.tr {M M' M2 : zM} {h : Nat} (a : zUp M M' h) (b : zUp M' M2 h) : zUp M M2 h := fun x e hx hh => b x e (a x e hx hh) hh
theorem zUp.new {M : zM} {h q : Nat} {e : zE} (hq : M q = none) : zUp M (zup M q e) h := fun x e9 hx _ => zup_f hq hx
theorem zUp.put {M : zM} {h : Nat} {e : zE} : zUp M (zup M h e) h := fun x e9 hx hh => (zup_n hh).trans hx
theorem zUp.fresh {M M' : zM} {h : Nat} (a : zUp M M' h) (hh : M' h ≠ none) {q : Nat} (hq : M' q = none) : M q = none := by
  cases hM : M q with
  | none => rfl
  | some e =>
    by_cases e9 : q = h
    · rw [e9] at hq; exact absurd hq hh
    · rw [a q e hM e9] at hq; cases hq
theorem zTk.up {M M' : zM} {q ar h : Nat} {e : zE} {C : Nat → Nat → Nat} {f : Nat → Option Nat} {m : Nat} (hq : M q = none) (H : zTk (zup M q e) M' q ar C f m) : zUp M M' h := fun x e9 hx _ => by
  have hxq : x ≠ q := fun e1 => by rw [e1, hq] at hx; cases hx
  have h9 : zup M q e x = some e9 := zup_f hq hx
  rw [H.2.2.2.2.2.2.2.2 x hxq (fun e1 => by rw [e1, H.2.1] at h9; cases h9) (fun i j hi hj e1 => by rw [e1, H.2.2.2.2.2.2.2.1 i j hi hj] at h9; cases h9)]
  exact h9
theorem zUp.cen {M M' : zM} {q h : Nat} {e : zE} {c : Nat → Nat} (hq : M q = none) (c0 : c 0 = q) (hn : ∀ i, 0 < i → i < 20 → zup M q e (c i) = none) (ho : zOff (zup M q e) M' c) : zUp M M' h ∧ ∀ i, i < 20 → M (c i) = none := by
  have fresh : ∀ i, i < 20 → M (c i) = none := fun i hi => by
    rcases Nat.eq_zero_or_pos i with rfl | hp
    · rw [c0]; exact hq
    · have := hn i hp hi
      have hne : c i ≠ q := fun e9 => by rw [e9, zup_s] at this; cases this
      rw [zup_n hne] at this
      exact this
  refine ⟨fun x e9 hx _ => ?_, fresh⟩
  rw [ho x (fun i hi e1 => by rw [e1, fresh i hi] at hx; cases hx)]
  exact zup_f hq hx

set_option maxRecDepth 100000 in
set_option maxHeartbeats 4000000 in
theorem c_X8_init {σ : zSg} {M : zM} {Z : Nat → Prop} {h : Nat} (hh : M h = some (.inr (10, [.null, .null, .int 0, .null, .int 0, .int 0, .null]))) (hZ : ∀ a, Z a → M a ≠ none ∧ a ≠ h) : zCon μX8_init (5, 228, 986) σ [.ref h] M (fun o M' => o = .inl none ∧ ∃ (b : Nat → Nat) (C : Nat → Nat → Nat), b 0 = h ∧ zPl M' Z b C (fun _ => zS0) 0 0 0 (-1) (-1) (fun _ => 0) 0 (fun _ => 0) 0 ∧ zKe M M' Z) := by
  refine zCon.of (plainFor_of_name (by decide)) rfl (Nat.le_of_ble_eq_true rfl) ?_
  change zV _ _ _ _ _ 0 0 0 [(0, .ref h)] []
  refine zv_aload_n (n := 1) dX8_init_0 rfl rfl ?_
  refine zv_objInit (n := 4) dX8_init_1 rfl lX8_1 zob1 zob2 ?_ (by decide)
  refine zv_aload_n (n := 5) dX8_init_4 rfl rfl ?_
  refine zv_new (n := 8) (kc' := 1) (ks' := 3) dX8_init_5 rfl nX8_7 rfl rfl (by decide) (by decide) (fun q1 hq1 => ?_)
  refine zv_dup (n := 9) dX8_init_8 rfl rfl ?_
  refine zv_callIF0 (n := 12) (As := []) (rest := [.ref q1, .ref h]) (kc' := 202) (ks' := 853) dX8_init_9 rfl (c_X7_init (h := q1) zup_s) rfl rfl kX7_init lX8_9 rfl rfl ⟨by decide, by decide⟩ (Nat.le_of_ble_eq_true rfl) rfl rfl (by decide) (by decide) (fun M2 hq9 => ?_)
  obtain ⟨ar, C, f, T⟩ := hq9
  have U2 : zUp M M2 h := zTk.up hq1 T
  have n1 : q1 ≠ h := fun e => by rw [e, hh] at hq1; cases hq1
  have hh2 : M2 h = some (.inr (10, [.null, .null, .int 0, .null, .int 0, .int 0, .null])) := by
    have h9 : zup M q1 (.inr (9, [.null, .int 0, .int 0])) h = some (.inr (10, [.null, .null, .int 0, .null, .int 0, .int 0, .null])) := zup_f hq1 hh
    rw [T.2.2.2.2.2.2.2.2 h n1.symm (fun e1 => by rw [e1, T.2.1] at h9; cases h9) (fun i j hi hj e1 => by rw [e1, T.2.2.2.2.2.2.2.1 i j hi hj] at h9; cases h9)]
    exact h9
  obtain ⟨-, t1, t2, t3, t4, t5, t6, t7, -⟩ := T
  have r1 : M ar = none := by
    have h9 : ar ≠ q1 := fun e => by rw [e, zup_s] at t1; cases t1
    rw [zup_n h9] at t1; exact t1
  have rC : ∀ i j, i < 10 → j < 20 → M (C i j) = none := fun i j hi hj => by
    have t8 := t7 i j hi hj
    have h9 : C i j ≠ q1 := fun e => by rw [e, zup_s] at t8; cases t8
    rw [zup_n h9] at t8; exact t8
  refine zv_putF (n := 15) dX8_init_12 rfl hh2 FX8_10 zcl_X8 zty_X8_0 rfl ⟨_, rfl, rfl⟩ rfl rfl (Nat.le_of_ble_eq_true rfl) ?_
  have U3 : zUp M2 (zup M2 h (.inr (10, [.ref q1, .null, .int 0, .null, .int 0, .int 0, .null]))) h := zUp.put
  refine zv_aload_n (n := 16) dX8_init_15 rfl rfl ?_
  refine zv_new (n := 19) (kc' := 203) (ks' := 862) dX8_init_16 rfl nX8_16 rfl rfl (by decide) (by decide) (fun q2 hq2 => ?_)
  refine zv_dup (n := 20) dX8_init_19 rfl rfl ?_
  refine zv_callINF0 (n := 23) (As := []) (rest := [.ref q2, .ref h]) (kc' := 222) (ks' := 937) dX8_init_20 rfl (c_X1_init (h := q2) zup_s) rfl rfl kX1_init lX8_18 rfl rfl ⟨by decide, by decide⟩ (Nat.le_of_ble_eq_true rfl) rfl rfl (by decide) (by decide) (fun M5 hq9 => ?_)
  obtain ⟨c, c0, hc, hn, ho⟩ := hq9
  obtain ⟨U5, fc⟩ := zUp.cen (h := h) hq2 c0 hn ho
  have hh5 : M5 h = some (.inr (10, [.ref q1, .null, .int 0, .null, .int 0, .int 0, .null])) := by
    rw [ho h (fun i hi e1 => by have := fc i hi; rw [← e1, zup_s] at this; cases this), zup_n (fun e1 => by rw [← e1, zup_s] at hq2; cases hq2), zup_s]
    rfl
  have U25 : zUp M2 M5 h := U3.tr U5
  have rc : ∀ j, j < 20 → M (c j) = none := fun j hj => U2.fresh (by rw [hh2]; exact (fun h => nomatch h)) (U3.fresh (by rw [zup_s]; exact (fun h => nomatch h)) (fc j hj))
  have fc2 : ∀ j, j < 20 → M2 (c j) = none := fun j hj => U3.fresh (by rw [zup_s]; exact (fun h => nomatch h)) (fc j hj)
  refine zv_putF (n := 26) dX8_init_23 rfl hh5 FX8_19 zcl_X8 zty_X8_1 rfl ⟨_, rfl, rfl⟩ rfl rfl (Nat.le_of_ble_eq_true rfl) ?_
  have U6 : zUp M5 (zup M5 h (.inr (10, [.ref q1, .ref q2, .int 0, .null, .int 0, .int 0, .null]))) h := zUp.put
  refine zv_aload_n (n := 27) dX8_init_26 rfl rfl ?_
  refine zv_new (n := 30) (kc' := 223) (ks' := 943) dX8_init_27 rfl nX8_23 rfl rfl (by decide) (by decide) (fun q3 hq3 => ?_)
  refine zv_dup (n := 31) dX8_init_30 rfl rfl ?_
  refine zv_callINF0 (n := 34) (As := []) (rest := [.ref q3, .ref h]) (kc' := 226) (ks' := 966) dX8_init_31 rfl (c_X6_init (h := q3) zup_s) rfl rfl kX6_init lX8_25 rfl rfl ⟨by decide, by decide⟩ (Nat.le_of_ble_eq_true rfl) rfl rfl (by decide) (by decide) (fun M8 hq9 => ?_)
  obtain ⟨s, v, nb, fn, s0, v0, nb0, snb, d3, dB, dn, fr⟩ := hq9
  have e3 : ∀ x, zup (zup M5 h (.inr (10, [.ref q1, .ref q2, .int 0, .null, .int 0, .int 0, .null]))) q3 (.inr (8, [.null, .int 0, .int 0, .null, .null, .int 0])) x = none → zup M5 h (.inr (10, [.ref q1, .ref q2, .int 0, .null, .int 0, .int 0, .null])) x = none := fun x hx => by
    rw [zup_n (fun e1 => by rw [e1, zup_s] at hx; cases hx)] at hx
    exact hx
  have U8 : zUp (zup M5 h (.inr (10, [.ref q1, .ref q2, .int 0, .null, .int 0, .int 0, .null]))) M8 h := fun x e9 hx _ => by
    have h9 : zup (zup M5 h (.inr (10, [.ref q1, .ref q2, .int 0, .null, .int 0, .int 0, .null]))) q3 (.inr (8, [.null, .int 0, .int 0, .null, .null, .int 0])) x = some e9 := zup_f hq3 hx
    rw [fr x (fun e1 => by rw [e1] at hx; cases (hq3.symm.trans hx : none = some e9)) (fun e1 => by rw [e1] at h9; cases (s0.symm.trans h9 : none = some e9)) (fun e1 => by rw [e1] at h9; cases (v0.symm.trans h9 : none = some e9)) (fun e1 => by rw [e1] at h9; cases (nb0.symm.trans h9 : none = some e9))]
    exact h9
  have hh8 : M8 h = some (.inr (10, [.ref q1, .ref q2, .int 0, .null, .int 0, .int 0, .null])) := by
    have hx : zup M5 h (.inr (10, [.ref q1, .ref q2, .int 0, .null, .int 0, .int 0, .null])) h = some (.inr (10, [.ref q1, .ref q2, .int 0, .null, .int 0, .int 0, .null])) := zup_s
    have h9 : zup (zup M5 h (.inr (10, [.ref q1, .ref q2, .int 0, .null, .int 0, .int 0, .null]))) q3 (.inr (8, [.null, .int 0, .int 0, .null, .null, .int 0])) h = some (.inr (10, [.ref q1, .ref q2, .int 0, .null, .int 0, .int 0, .null])) := zup_f hq3 hx
    rw [fr h (fun e1 => by have y := hq3; rw [← e1] at y; cases (y.symm.trans hx : none = some _)) (fun e1 => by have y := s0; rw [← e1] at y; cases (y.symm.trans h9 : none = some _)) (fun e1 => by have y := v0; rw [← e1] at y; cases (y.symm.trans h9 : none = some _)) (fun e1 => by have y := nb0; rw [← e1] at y; cases (y.symm.trans h9 : none = some _))]
    exact h9
  have U58 : zUp M5 M8 h := U6.tr U8
  have hh5n : M5 h ≠ none := by rw [hh5]; exact (fun h => nomatch h)
  have low5 : ∀ x, zup M5 h (.inr (10, [.ref q1, .ref q2, .int 0, .null, .int 0, .int 0, .null])) x = none → M5 x = none := fun x hx => U6.fresh (by rw [zup_s]; exact (fun h => nomatch h)) hx
  have low2 : ∀ x, M5 x = none → M2 x = none := fun x hx => U25.fresh hh5n hx
  have low0 : ∀ x, M5 x = none → M x = none := fun x hx => U2.fresh (by rw [hh2]; exact (fun h => nomatch h)) (low2 x hx)
  have k3 := low5 _ hq3
  have ks := low5 _ (e3 _ s0)
  have kv := low5 _ (e3 _ v0)
  have knb := low5 _ (e3 _ nb0)
  refine zv_putF (n := 37) dX8_init_34 rfl hh8 FX8_26 zcl_X8 zty_X8_3 rfl ⟨_, rfl, rfl⟩ rfl rfl (Nat.le_of_ble_eq_true rfl) ?_
  have U9 : zUp M8 (zup M8 h (.inr (10, [.ref q1, .ref q2, .int 0, .ref q3, .int 0, .int 0, .null]))) h := zUp.put
  refine zv_aload_n (n := 38) dX8_init_37 rfl rfl ?_
  refine zv_iconst (n := 39) dX8_init_38 rfl (v := (-1)) (by decide) ?_
  refine zv_put (n := 42) dX8_init_39 rfl zup_s FX8_30 zcl_X8 zty_X8_4 rfl rfl (Nat.le_of_ble_eq_true rfl) ?_
  rw [zup_zup]
  refine zv_aload_n (n := 43) dX8_init_42 rfl rfl ?_
  refine zv_iconst (n := 44) dX8_init_43 rfl (v := (-1)) (by decide) ?_
  refine zv_put (n := 47) dX8_init_44 rfl zup_s FX8_34 zcl_X8 zty_X8_5 rfl rfl (Nat.le_of_ble_eq_true rfl) ?_
  rw [zup_zup]
  have U10 : zUp M8 (zup M8 h (.inr (10, [.ref q1, .ref q2, .int 0, .ref q3, .int (-1), .int (-1), .null]))) h := zUp.put
  refine zv_aload_n (n := 48) dX8_init_47 rfl rfl ?_
  refine zv_new (n := 51) (kc' := 227) (ks' := 970) dX8_init_48 rfl nX8_37 rfl rfl (by decide) (by decide) (fun q4 hq4 => ?_)
  refine zv_dup (n := 52) dX8_init_51 rfl rfl ?_
  refine zv_callIF0 (n := 55) (As := []) (rest := [.ref q4, .ref h]) (kc' := 228) (ks' := 986) dX8_init_52 rfl (c_J4_init (h := q4) zup_s) rfl rfl kJ4_init_da8c8 lX8_39 rfl rfl ⟨by decide, by decide⟩ (Nat.le_of_ble_eq_true rfl) rfl rfl (by decide) (by decide) (fun M12 hq9 => ?_)
  obtain ⟨v6, w0, wB, fr6⟩ := hq9
  have U12 : zUp (zup M8 h (.inr (10, [.ref q1, .ref q2, .int 0, .ref q3, .int (-1), .int (-1), .null]))) M12 h := fun x e9 hx _ => by
    have h9 : zup (zup M8 h (.inr (10, [.ref q1, .ref q2, .int 0, .ref q3, .int (-1), .int (-1), .null]))) q4 (.inr (1, [.null, .int 0, .int 0, .int 0])) x = some e9 := zup_f hq4 hx
    rw [fr6 x (fun e1 => by rw [e1] at hx; cases (hq4.symm.trans hx : none = some e9)) (fun e1 => by rw [e1] at h9; cases (w0.symm.trans h9 : none = some e9))]
    exact h9
  have hh12 : M12 h = some (.inr (10, [.ref q1, .ref q2, .int 0, .ref q3, .int (-1), .int (-1), .null])) := by
    have hx : zup M8 h (.inr (10, [.ref q1, .ref q2, .int 0, .ref q3, .int (-1), .int (-1), .null])) h = some (.inr (10, [.ref q1, .ref q2, .int 0, .ref q3, .int (-1), .int (-1), .null])) := zup_s
    have h9 : zup (zup M8 h (.inr (10, [.ref q1, .ref q2, .int 0, .ref q3, .int (-1), .int (-1), .null]))) q4 (.inr (1, [.null, .int 0, .int 0, .int 0])) h = some (.inr (10, [.ref q1, .ref q2, .int 0, .ref q3, .int (-1), .int (-1), .null])) := zup_f hq4 hx
    rw [fr6 h (fun e1 => by have y := hq4; rw [← e1] at y; cases (y.symm.trans hx : none = some _)) (fun e1 => by have y := w0; rw [← e1] at y; cases (y.symm.trans h9 : none = some _))]
    exact h9
  have low8 : ∀ x, zup M8 h (.inr (10, [.ref q1, .ref q2, .int 0, .ref q3, .int (-1), .int (-1), .null])) x = none → M8 x = none := fun x hx => U10.fresh (by rw [zup_s]; exact (fun h => nomatch h)) hx
  have j4 := low8 _ hq4
  have jv6 : M8 v6 = none := low8 _ (by
    have h9 : v6 ≠ q4 := fun e1 => by rw [e1, zup_s] at w0; cases w0
    rw [zup_n h9] at w0
    exact w0)
  have l85 : ∀ x, M8 x = none → M5 x = none := fun x hx => U58.fresh (by rw [hh8]; exact (fun h => nomatch h)) hx
  refine zv_putF (n := 58) dX8_init_55 rfl hh12 FX8_40 zcl_X8 zty_X8_6 rfl ⟨_, rfl, rfl⟩ rfl rfl (Nat.le_of_ble_eq_true rfl) ?_
  refine zv_vret dX8_init_58 rfl (by decide) (by decide) ?_
  refine ⟨rfl, ?_⟩
  have U13 : zUp M12 (zup M12 h (.inr (10, [.ref q1, .ref q2, .int 0, .ref q3, .int (-1), .int (-1), .ref q4]))) h := zUp.put
  have V8 : zUp M8 (zup M12 h (.inr (10, [.ref q1, .ref q2, .int 0, .ref q3, .int (-1), .int (-1), .ref q4]))) h := (U10.tr U12).tr U13
  have V5 : zUp M5 (zup M12 h (.inr (10, [.ref q1, .ref q2, .int 0, .ref q3, .int (-1), .int (-1), .ref q4]))) h := U58.tr V8
  have V2 : zUp M2 (zup M12 h (.inr (10, [.ref q1, .ref q2, .int 0, .ref q3, .int (-1), .int (-1), .ref q4]))) h := U25.tr V5
  have V0 : zUp M (zup M12 h (.inr (10, [.ref q1, .ref q2, .int 0, .ref q3, .int (-1), .int (-1), .ref q4]))) h := U2.tr V2
  have nh : ∀ x, M x = none → x ≠ h := fun x hx e => by rw [e, hh] at hx; cases hx
  obtain ⟨ml, a, B1, B2, B3⟩ := id dB
  obtain ⟨ml', a', B1', B2', B3'⟩ := id wB
  have CC : ∀ i, i < 10 → zCen (zup M12 h (.inr (10, [.ref q1, .ref q2, .int 0, .ref q3, .int (-1), .int (-1), .ref q4]))) (C i) zS0 := fun i hi => (t5 i hi).frame (fun j hj => by
    obtain ⟨e9, e1, -⟩ := (t5 i hi).tag hj
    rw [e1]
    exact V2 _ _ e1 (nh _ (rC i j hi hj)))
  have cc : zCen (zup M12 h (.inr (10, [.ref q1, .ref q2, .int 0, .ref q3, .int (-1), .int (-1), .ref q4]))) c zS0 := hc.frame (fun j hj => by
    obtain ⟨e9, e1, -⟩ := hc.tag hj
    rw [e1]
    exact V5 _ _ e1 (nh _ (rc j hj)))
  have Cs : ∀ i j, i < 10 → j < 20 → ∃ e, M2 (C i j) = some e := fun i j hi hj => by
    obtain ⟨e9, e1, -⟩ := (t5 i hi).tag hj
    exact ⟨e9, e1⟩
  have cs : ∀ j, j < 20 → ∃ e, M5 (c j) = some e := fun j hj => by
    obtain ⟨e9, e1, -⟩ := hc.tag hj
    exact ⟨e9, e1⟩
  have ap : ∀ i, i < 10 → zApart (C i) c := fun i hi j k hj hk e1 => by
    obtain ⟨e9, e2⟩ := Cs i j hi hj
    rw [e1, fc2 k hk] at e2
    cases e2
  refine ⟨fun i => if i = 0 then h else if i = 1 then q1 else if i = 2 then ar else if i = 3 then q3 else if i = 4 then s else if i = 5 then nb else q4, va_up C 10 c, rfl, ?_, fun x hx => ?_⟩
  · have hC10 : va_up C 10 c 10 0 = q2 := by rw [va_up_self]; exact c0
    refine ⟨⟨fun i hi => ?_, fun i k hi hk hik => ?_⟩, ⟨by decide, by decide, V2 _ _ t2 (nh _ hq1), f, V2 _ _ t3 (nh _ r1), fun i hi => ?_⟩, ?_, ⟨0, 0, 0, _, V8 _ _ d3 (nh _ (low0 _ k3))⟩, ⟨fn, V8 _ _ dn (nh _ (low0 _ knb))⟩, fun i j hi hj e => ?_, ?_, v, 16, v6, 16, dB.keep ?_ ?_, Or.inl rfl, wB.keep ?_ ?_, Or.inl rfl, ?_, fun x hx => ?_⟩
    · by_cases e : i = 10
      · rw [e, va_up_self]; exact ⟨cc, zS0_ok⟩
      · rw [va_up_ne _ _ e]; exact ⟨CC i (by omega), zS0_ok⟩
    · by_cases e : i = 10
      · have e2 : k ≠ 10 := fun e2 => hik (e.trans e2.symm)
        rw [e, va_up_self, va_up_ne _ _ e2]
        exact fun x y hx hy e3 => ap k (by omega) y x hy hx e3.symm
      · by_cases e2 : k = 10
        · rw [e2, va_up_self, va_up_ne _ _ e]; exact ap i (by omega)
        · rw [va_up_ne _ _ e, va_up_ne _ _ e2]; exact t6 i k (by omega) (by omega) hik
    · rw [va_up_ne _ _ (by omega)]; exact t4 i hi
    · rw [hC10]; exact zup_s
    · by_cases e1 : i = 10
      · rw [e1, va_up_self] at e
        obtain ⟨e9, e2⟩ := cs j hj
        have e' : nb = c j := e
        rw [← e', knb] at e2
        cases e2
      · rw [va_up_ne _ _ e1] at e
        obtain ⟨e9, e2⟩ := Cs i j (by omega) hj
        have e' : nb = C i j := e
        rw [← e', low2 _ knb] at e2
        cases e2
    · show s ≠ q4
      intro e
      rw [e, j4] at B1
      cases B1
    · exact (V8 _ _ B1 (nh _ (low0 _ ks))).trans B1.symm
    · exact (V8 _ _ B2 (nh _ (low0 _ kv))).trans B2.symm
    · exact zup_n (nh _ (low0 _ (l85 _ j4)))
    · exact zup_n (nh _ (low0 _ (l85 _ jv6)))
    · intro e
      rw [e, jv6] at B2
      cases B2
    · obtain ⟨z1, z2⟩ := hZ x hx
      cases hx9 : M x with
      | none => exact absurd hx9 z1
      | some e9 =>
        have ne : ∀ y, M y = none → x ≠ y := fun y hy e => by rw [e, hy] at hx9; cases hx9
        refine ⟨(fun h8 => nomatch ((V0 x e9 hx9 z2).symm.trans h8 : some e9 = none)), fun i hi => ?_, fun i j hi hj => ?_, ne _ (low0 _ kv), ne _ (low0 _ (l85 _ jv6))⟩
        · rcases (show i = 0 ∨ i = 1 ∨ i = 2 ∨ i = 3 ∨ i = 4 ∨ i = 5 ∨ i = 6 by omega) with rfl | rfl | rfl | rfl | rfl | rfl | rfl
          · exact z2
          · exact ne _ hq1
          · exact ne _ r1
          · exact ne _ (low0 _ k3)
          · exact ne _ (low0 _ ks)
          · exact ne _ (low0 _ knb)
          · exact ne _ (low0 _ (l85 _ j4))
        · by_cases e : i = 10
          · rw [e, va_up_self]; exact ne _ (rc j hj)
          · rw [va_up_ne _ _ e]; exact ne _ (rC i j (by omega) hj)
  · obtain ⟨z1, z2⟩ := hZ x hx
    cases hx9 : M x with
    | none => exact absurd hx9 z1
    | some e9 => exact V0 x e9 hx9 z2

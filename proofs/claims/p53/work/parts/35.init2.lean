/-! Constructors of builders, scripts and timelines: laid by wip/p53/m35.py. -/
set_option maxRecDepth 100000 in
set_option maxHeartbeats 4000000 in
theorem c_J5_init {σ : zSg} {M : zM} {h : Nat} (hh : M h = some (.inr (1, [.null, .int 0, .int 0, .int 0]))) : zCon μJ5_init_d00df (1, 1, 16) σ [.ref h, .int (nI 16)] M (zF none (fun M' => ∃ v, M v = none ∧ zSB M' h v (fun _ => 0) 0 16 ∧ ∀ a, a ≠ h → a ≠ v → M' a = M a)) := by
  refine zCon.of (plainFor_of_name (by decide)) rfl (Nat.le_of_ble_eq_true rfl) ?_
  change zV _ _ _ _ _ 0 0 0 [(0, .ref h), (1, .int (nI 16))] []
  refine zv_aload_n (n := 1) dJ5_init_d00df_0 rfl rfl ?_
  refine zv_objInit (n := 4) dJ5_init_d00df_1 rfl lJ5_3 zob1 zob2 ?_ (by decide)
  refine zv_gets (n := 7) (v := .int 1) dJ5_init_d00df_4 rfl (fun U H h => h.2.2.2.2.2.2.1) SJ5_18 ?_
  refine zv_if_eq (n := 10) (tgt := 25) dJ5_init_d00df_7 (by decide) rfl (fun h7 => False.elim (absurd h7 (by decide))) (fun h7 => ?_)
  refine zv_aload_n (n := 11) dJ5_init_d00df_10 rfl rfl ?_
  refine zv_iload_n (n := 12) dJ5_init_d00df_11 rfl rfl ?_
  refine zv_newB (N := 16) (n := 14) (kc' := 1) (ks' := 16) dJ5_init_d00df_12 rfl zaB (nI_pos (by decide)) (nI_clamp (by decide)) (by decide) rfl rfl (by decide) (by decide) (fun v hv => ?_)
  have hv9 : v ≠ h := fun e => by rw [e, hh] at hv; cases hv
  refine zv_put (n := 17) dJ5_init_d00df_14 rfl ((zup_n hv9.symm).trans hh) FJ5_15 zcl_J4 zty_J4_0 rfl rfl (Nat.le_of_ble_eq_true rfl) ?_
  refine zv_aload_n (n := 18) dJ5_init_d00df_17 rfl rfl ?_
  refine zv_iconst (n := 19) dJ5_init_d00df_18 rfl (v := 0) (by decide) ?_
  refine zv_put (n := 22) dJ5_init_d00df_19 rfl zup_s FJ5_22 zcl_J4 zty_J4_1 rfl rfl (Nat.le_of_ble_eq_true rfl) ?_
  rw [zup_zup]
  refine zv_goto (tgt := 38) dJ5_init_d00df_22 (by decide) ?_
  refine zv_vret dJ5_init_d00df_38 rfl (by decide) (by decide) ?_
  refine zFi ⟨v, hv, ⟨0, _, zup_s, (zup_n hv9).trans zup_s, fun j hj => absurd hj (Nat.not_lt_zero _), sb_fit0, by decide, by decide⟩, fun a h1 h2 => ?_⟩
  rw [zup_n h1, zup_n h2]

set_option maxRecDepth 100000 in
set_option maxHeartbeats 4000000 in
theorem c_J4_init {σ : zSg} {M : zM} {h : Nat} (hh : M h = some (.inr (1, [.null, .int 0, .int 0, .int 0]))) : zCon μJ4_init_da8c8 (2, 1, 16) σ [.ref h] M (zF none (fun M' => ∃ v, M v = none ∧ zSB M' h v (fun _ => 0) 0 16 ∧ ∀ a, a ≠ h → a ≠ v → M' a = M a)) := by
  refine zCon.of (plainFor_of_name (by decide)) rfl (Nat.le_of_ble_eq_true rfl) ?_
  change zV _ _ _ _ _ 0 0 0 [(0, .ref h)] []
  refine zv_aload_n (n := 1) dJ4_init_da8c8_0 rfl rfl ?_
  refine zv_bipush (n := 3) dJ4_init_da8c8_1 rfl (v := 16) (by decide) ?_
  refine zv_callIF0 (n := 6) (As := [.int 16]) (rest := []) (kc' := 1) (ks' := 16) dJ4_init_da8c8_3 rfl (c_J5_init hh) rfl rfl kJ5_init_d00df lJ4_1 rfl rfl ⟨by decide, by decide⟩ (Nat.le_of_ble_eq_true rfl) rfl rfl (by decide) (by decide) (fun M1 hq => ?_)
  refine zv_vret dJ4_init_da8c8_6 rfl (by decide) (by decide) ?_
  exact zFi hq

set_option maxRecDepth 100000 in
set_option maxHeartbeats 4000000 in
theorem c_X6_init {σ : zSg} {M : zM} {h : Nat} (hh : M h = some (.inr (8, [.null, .int 0, .int 0, .null, .null, .int 0]))) : zCon μX6_init (3, 3, 23) σ [.ref h] M (zF none (fun M' => ∃ s v nb f, M s = none ∧ M v = none ∧ M nb = none ∧ s ≠ nb ∧ M' h = some (.inr (8, [.ref s, .int 0, .int 0, .ref (zCm σ 9), .ref nb, .int 0])) ∧ zSB M' s v (fun _ => 0) 0 16 ∧ M' nb = some (zAI 3 f) ∧ ∀ a, a ≠ h → a ≠ s → a ≠ v → a ≠ nb → M' a = M a)) := by
  refine zCon.of (plainFor_of_name (by decide)) rfl (Nat.le_of_ble_eq_true rfl) ?_
  change zV _ _ _ _ _ 0 0 0 [(0, .ref h)] []
  refine zv_aload_n (n := 1) dX6_init_0 rfl rfl ?_
  refine zv_objInit (n := 4) dX6_init_1 rfl lX6_3 zob1 zob2 ?_ (by decide)
  refine zv_aload_n (n := 5) dX6_init_4 rfl rfl ?_
  refine zv_new (n := 8) (kc' := 1) (ks' := 4) dX6_init_5 rfl nX6_9 rfl rfl (by decide) (by decide) (fun q hq => ?_)
  have n1 : q ≠ h := fun e => by rw [e, hh] at hq; cases hq
  refine zv_dup (n := 9) dX6_init_8 rfl rfl ?_
  refine zv_callIF0 (n := 12) (As := []) (rest := [.ref q, .ref h]) (kc' := 2) (ks' := 20) dX6_init_9 rfl (c_J4_init (h := q) zup_s) rfl rfl kJ4_init_da8c8 lX6_11 rfl rfl ⟨by decide, by decide⟩ (Nat.le_of_ble_eq_true rfl) rfl rfl (by decide) (by decide) (fun M2 hq2 => ?_)
  obtain ⟨v, hv, hB, fr⟩ := hq2
  have vq : v ≠ q := fun e => by rw [e, zup_s] at hv; cases hv
  have hv0 : M v = none := by rw [zup_n vq] at hv; exact hv
  have vh : v ≠ h := fun e => by rw [e, hh] at hv0; cases hv0
  have hh2 : M2 h = _ := (fr h n1.symm vh.symm).trans ((zup_n n1.symm).trans hh)
  obtain ⟨ml, a, B1, B2, B3⟩ := id hB
  refine zv_putF (n := 15) dX6_init_12 rfl hh2 FX6_12 zcl_X6 zty_X6_0 rfl ⟨_, rfl, rfl⟩ rfl rfl (Nat.le_of_ble_eq_true rfl) ?_
  refine zv_aload_n (n := 16) dX6_init_15 rfl rfl ?_
  refine zv_gets (n := 19) (v := .ref (zCm σ 9)) dX6_init_16 rfl (fun U H h => h.2.2.2.2.2.2.2.2.2.2.1) SX6_18 ?_
  refine zv_put (n := 22) dX6_init_19 rfl zup_s FX6_24 zcl_X6 zty_X6_3 rfl rfl (Nat.le_of_ble_eq_true rfl) ?_
  rw [zup_zup]
  refine zv_aload_n (n := 23) dX6_init_22 rfl rfl ?_
  refine zv_iconst (n := 24) dX6_init_23 rfl (v := 3) (by decide) ?_
  refine zv_newI (N := 3) (n := 26) (kc' := 3) (ks' := 23) dX6_init_24 rfl zaI (by decide) (by decide) (by decide) rfl rfl (by decide) (by decide) (fun nb hnb => ?_)
  have nh : nb ≠ h := fun e => by rw [e, zup_s] at hnb; cases hnb
  rw [zup_n nh] at hnb
  have nq : nb ≠ q := fun e => by rw [e, B1] at hnb; cases hnb
  have nv : nb ≠ v := fun e => by rw [e, B2] at hnb; cases hnb
  have hnb0 : M nb = none := by rw [fr nb nq nv, zup_n nq] at hnb; exact hnb
  refine zv_putF (n := 29) dX6_init_26 rfl ((zup_n nh.symm).trans zup_s) FX6_27 zcl_X6 zty_X6_4 rfl ⟨_, rfl, rfl⟩ rfl rfl (Nat.le_of_ble_eq_true rfl) ?_
  refine zv_vret dX6_init_29 rfl (by decide) (by decide) ?_
  refine zFi ⟨q, v, nb, _, hq, hv0, hnb0, nq.symm, zup_s, hB.keep ?_ ?_, (zup_n nh).trans zup_s, fun x h1 h2 h3 h4 => ?_⟩
  · rw [zup_n n1, zup_n nq.symm, zup_n n1]
  · rw [zup_n vh, zup_n nv.symm, zup_n vh]
  · rw [zup_n h1, zup_n h4, zup_n h1, fr x h2 h3, zup_n h2]

/-- the ring under way: m centres made -/
def zTk (M0 M : zM) (h ar : Nat) (C : Nat → Nat → Nat) (f : Nat → Option Nat) (m : Nat) : Prop :=
  M0 h ≠ none ∧ M0 ar = none ∧ M h = some (.inr (9, [.ref ar, .int 0, .int 0])) ∧ M ar = some (zAC 10 f) ∧ (∀ i, i < m → f i = some (C i 0)) ∧ (∀ i, i < m → zCen M (C i) zS0) ∧ (∀ i k, i < m → k < m → i ≠ k → zApart (C i) (C k)) ∧
  (∀ i j, i < m → j < 20 → M0 (C i j) = none) ∧ ∀ a, a ≠ h → a ≠ ar → (∀ i j, i < m → j < 20 → a ≠ C i j) → M a = M0 a
theorem zTk.step {M0 M M2 : zM} {h ar : Nat} {C : Nat → Nat → Nat} {f : Nat → Option Nat} {m : Nat} (H : zTk M0 M h ar C f m) {q : Nat} {e : zE} (hq : M q = none) {c : Nat → Nat} (c0 : c 0 = q) (hc : zCen M2 c zS0) (hn : ∀ i, 0 < i → i < 20 → zup M q e (c i) = none) (ho : zOff (zup M q e) M2 c) : zTk M0 (zup M2 ar (zAC 10 (va_up f m (some q)))) h ar (va_up C m c) (va_up f m (some q)) (m + 1) := by
  obtain ⟨h0, h1, h2, h3, h4, h5, h6, h7, h8⟩ := H
  have fresh : ∀ i, i < 20 → M (c i) = none := fun i hi => by
    rcases Nat.eq_zero_or_pos i with rfl | hp
    · rw [c0]; exact hq
    · have := hn i hp hi
      have hne : c i ≠ q := fun e9 => by rw [e9, zup_s] at this; cases this
      rw [zup_n hne] at this
      exact this
  have old : ∀ x e9, M x = some e9 → M2 x = some e9 := fun x e9 hx => by
    have h9 : ∀ i, i < 20 → x ≠ c i := fun i hi e1 => by rw [e1, fresh i hi] at hx; cases hx
    have hxq : x ≠ q := fun e1 => by rw [e1, hq] at hx; cases hx
    rw [ho x h9, zup_n hxq]
    exact hx
  have har := old _ _ h3
  have C1 : ∀ i, i < m → zCen M2 (C i) zS0 := fun i hi => (h5 i hi).frame (fun j hj => by
    obtain ⟨e9, e1, -⟩ := (h5 i hi).tag hj
    rw [e1]
    exact old _ _ e1)
  have Car : ∀ i j, i < m → j < 20 → C i j ≠ ar := fun i j hi hj => ((C1 i hi).out har rfl j hj).symm
  have car : ∀ j, j < 20 → c j ≠ ar := fun j hj => (hc.out har rfl j hj).symm
  have ap : ∀ i, i < m → zApart (C i) c := fun i hi j k hj hk e1 => by
    obtain ⟨e9, e2, -⟩ := (h5 i hi).tag hj
    rw [e1, fresh k hk] at e2
    cases e2
  have out : ∀ x, x ≠ h → x ≠ ar → (∀ i j, i < m → j < 20 → x ≠ C i j) → (∀ j, j < 20 → x ≠ c j) → M2 x = M0 x := fun x x1 x2 x3 x4 => by
    rw [ho x x4, zup_n (by rw [← c0]; exact x4 0 (by decide))]
    exact h8 x x1 x2 x3
  have zero : ∀ j, j < 20 → M0 (c j) = none := fun j hj => by
    have hx := fresh j hj
    have k1 : c j ≠ h := fun e1 => by rw [e1, h2] at hx; cases hx
    have k2 : c j ≠ ar := car j hj
    have k3 : ∀ i k, i < m → k < 20 → c j ≠ C i k := fun i k hi hk e1 => ap i hi k j hk hj e1.symm
    rw [← h8 _ k1 k2 k3]
    exact hx
  refine ⟨h0, h1, ?_, zup_s, fun i hi => ?_, fun i hi => ?_, fun i k hi hk hik => ?_, fun i j hi hj => ?_, fun x x1 x2 x3 => ?_⟩
  · rw [zup_n (fun e1 => by rw [e1, h3] at h2; cases h2)]
    exact old _ _ h2
  · by_cases e1 : i = m
    · rw [e1, va_up_self, va_up_self, c0]
    · rw [va_up_ne _ _ e1, va_up_ne _ _ e1]; exact h4 i (by omega)
  · by_cases e1 : i = m
    · rw [e1, va_up_self]; exact hc.frame (fun j hj => zup_n (car j hj))
    · rw [va_up_ne _ _ e1]; exact (C1 i (by omega)).frame (fun j hj => zup_n (Car i j (by omega) hj))
  · by_cases e1 : i = m
    · have e2 : k ≠ m := fun e => hik (e1.trans e.symm)
      rw [e1, va_up_self, va_up_ne _ _ e2]
      exact fun a b ha hb e3 => ap k (by omega) b a hb ha e3.symm
    · by_cases e2 : k = m
      · rw [e2, va_up_self, va_up_ne _ _ e1]; exact ap i (by omega)
      · rw [va_up_ne _ _ e1, va_up_ne _ _ e2]; exact h6 i k (by omega) (by omega) hik
  · by_cases e1 : i = m
    · rw [e1, va_up_self]; exact zero j hj
    · rw [va_up_ne _ _ e1]; exact h7 i j (by omega) hj
  · rw [zup_n x2]
    refine out x x1 x2 (fun i j hi hj => ?_) (fun j hj => ?_)
    · have := x3 i j (by omega) hj
      rw [va_up_ne _ _ (by omega)] at this
      exact this
    · have := x3 m j (by omega) hj
      rw [va_up_self] at this
      exact this

set_option maxRecDepth 100000 in
set_option maxHeartbeats 4000000 in
theorem l_X7_init {σ : zSg} {M0 : zM} {h ar : Nat} {Q : zO → zM → Prop} (hQ : ∀ M' C f, zTk M0 M' h ar C f 10 → Q (.inl none) M') : ∀ (k i : Nat) (M : zM) (C : Nat → Nat → Nat) (f : Nat → Option Nat) (kc ks : Nat), i + k = 10 → zTk M0 M h ar C f i → kc + 20 * k ≤ 201 → ks + 84 * k ≤ 850 → zV μX7_init (4, 201, 850) σ Q M kc ks 15 [(1, .int (nI i)), (0, .ref h)] [] := by
  intro k
  induction k with
  | zero =>
    intro i M C f kc ks hi H hc hs
    refine zv_iload_n (n := 16) dX7_init_15 rfl rfl ?_
    refine zv_aload_n (n := 17) dX7_init_16 rfl rfl ?_
    refine zv_get (n := 20) dX7_init_17 rfl H.2.2.1 FX7_13 rfl ?_
    refine zv_alen (n := 21) dX7_init_20 rfl H.2.2.2.1 (by decide) (v := (nI 10)) rfl ?_
    refine zv_icmp_ge (n := 24) (tgt := 43) dX7_init_21 (by decide) rfl (fun h21 => ?_) (fun h21 => False.elim (absurd (nI_le (a := 10) (by omega) (by omega)) h21))
    refine zv_vret dX7_init_43 rfl (by show kc ≤ 201; omega) (by show ks ≤ 850; omega) ?_
    exact hQ M C f (by rw [show (10 : Nat) = i by omega]; exact H)
  | succ k ih =>
    intro i M C f kc ks hi H hc hs
    refine zv_iload_n (n := 16) dX7_init_15 rfl rfl ?_
    refine zv_aload_n (n := 17) dX7_init_16 rfl rfl ?_
    refine zv_get (n := 20) dX7_init_17 rfl H.2.2.1 FX7_13 rfl ?_
    refine zv_alen (n := 21) dX7_init_20 rfl H.2.2.2.1 (by decide) (v := (nI 10)) rfl ?_
    refine zv_icmp_ge (n := 24) (tgt := 43) dX7_init_21 (by decide) rfl (fun h21 => False.elim (absurd h21 (nI_ge (b := 10) (by omega) (by omega)))) (fun h21 => ?_)
    refine zv_aload_n (n := 25) dX7_init_24 rfl rfl ?_
    refine zv_get (n := 28) dX7_init_25 rfl H.2.2.1 FX7_13 rfl ?_
    refine zv_iload_n (n := 29) dX7_init_28 rfl rfl ?_
    refine zv_new (n := 32) (kc' := (kc + 1)) (ks' := (ks + 9)) dX7_init_29 rfl nX7_11 rfl rfl (by show kc + 1 ≤ 201; omega) (by show ks + 9 ≤ 850; omega) (fun q hq => ?_)
    refine zv_dup (n := 33) dX7_init_32 rfl rfl ?_
    refine zv_callINF0 (n := 36) (As := []) (rest := [.ref q, .int (nI i), .ref ar]) (kc' := ((kc + 1) + 19)) (ks' := ((ks + 9) + 75)) dX7_init_33 rfl (c_X1_init (h := q) zup_s) rfl rfl kX1_init lX7_17 rfl rfl ⟨by decide, by decide⟩ (Nat.le_of_ble_eq_true rfl) rfl rfl (by show _ ≤ 201; omega) (by show _ ≤ 850; omega) (fun M2 hq2 => ?_)
    obtain ⟨c, c0, hc2, hn2, ho2⟩ := hq2
    have har : M2 ar = some (zAC 10 f) := by
      have h3 := H.2.2.2.1
      have hx : ∀ j, j < 20 → ar ≠ c j := fun j hj e => by
        rcases Nat.eq_zero_or_pos j with rfl | hp
        · rw [e, c0, hq] at h3; cases h3
        · have h9 := hn2 j hp hj
          have hne : ar ≠ q := fun e9 => by rw [e9, hq] at h3; cases h3
          rw [← e, zup_n hne, h3] at h9
          cases h9
      rw [ho2 ar hx, zup_n (fun e => by rw [e, hq] at h3; cases h3)]
      exact h3
    have hq0 := hc2.c0
    rw [c0] at hq0
    refine zv_astC (n := 37) dX7_init_36 rfl har hq0 (vp_in_nI (by omega) (by decide)) ?_
    rw [nI_clamp (by omega)]
    refine zv_iinc (n := 40) (v := nI (i + 1)) (lv' := [(1, .int (nI (i + 1))), (0, .ref h)]) dX7_init_37 rfl rfl (nI_1 i) (by decide) rfl ?_
    refine zv_goto (tgt := 15) dX7_init_40 (by decide) ?_
    exact ih (i + 1) _ _ _ _ _ (by omega) (H.step hq c0 hc2 hn2 ho2) (by omega) (by omega)

set_option maxRecDepth 100000 in
set_option maxHeartbeats 4000000 in
theorem c_X7_init {σ : zSg} {M : zM} {h : Nat} (hh : M h = some (.inr (9, [.null, .int 0, .int 0]))) : zCon μX7_init (4, 201, 850) σ [.ref h] M (zF none (fun M' => ∃ ar C f, zTk M M' h ar C f 10)) := by
  refine zCon.of (plainFor_of_name (by decide)) rfl (Nat.le_of_ble_eq_true rfl) ?_
  change zV _ _ _ _ _ 0 0 0 [(0, .ref h)] []
  refine zv_aload_n (n := 1) dX7_init_0 rfl rfl ?_
  refine zv_objInit (n := 4) dX7_init_1 rfl lX7_3 zob1 zob2 ?_ (by decide)
  refine zv_aload_n (n := 5) dX7_init_4 rfl rfl ?_
  refine zv_bipush (n := 7) dX7_init_5 rfl (v := 10) (by decide) ?_
  refine zv_newC (N := 10) (n := 10) (kc' := 1) (ks' := 10) dX7_init_7 rfl zoC eX7_11 (by decide) (by decide) (by decide) rfl rfl (by decide) (by decide) (fun ar har => ?_)
  have ha9 : ar ≠ h := fun e => by rw [e, hh] at har; cases har
  refine zv_putF (n := 13) dX7_init_10 rfl ((zup_n ha9.symm).trans hh) FX7_13 zcl_X7 zty_X7_0 rfl ⟨_, rfl, rfl⟩ rfl rfl (Nat.le_of_ble_eq_true rfl) ?_
  refine zv_iconst (n := 14) dX7_init_13 rfl (v := 0) (by decide) ?_
  refine zv_istore_n (n := 15) (lv' := [(1, .int 0), (0, .ref h)]) dX7_init_14 rfl (by decide) rfl ?_
  refine l_X7_init (fun M' C f H => zFi ⟨ar, C, f, H⟩) 10 0 _ (fun _ _ => 0) (fun _ => none) _ _ (by omega) ⟨(fun e => by rw [e] at hh; cases hh), har, zup_s, (zup_n ha9).trans zup_s, fun j hj => absurd hj (Nat.not_lt_zero _), fun j hj => absurd hj (Nat.not_lt_zero _), fun j k hj => absurd hj (Nat.not_lt_zero _), fun j k hj => absurd hj (Nat.not_lt_zero _), fun b hb hc _ => ?_⟩ (by decide) (by decide)
  rw [zup_n hb, zup_n hc]

/-! Constructors of racks, fans and centres: laid by wip/p53/m24.py. -/
theorem zob1 : zin (.instanceMethod objectInit) := z_a1 42 rfl rfl
theorem zob2 : zin (.code objectInit ⟨#[0xb1]⟩ 1 none) := z_a1 43 rfl rfl
set_option maxRecDepth 100000 in
set_option maxHeartbeats 4000000 in
theorem c_X4_init {σ : zSg} {M : zM} {h : Nat} : zCon μX4_init (1, 0, 0) σ [.ref h] M (zP none M) := by
  refine zCon.of (plainFor_of_name (by decide)) rfl (Nat.le_of_ble_eq_true rfl) ?_
  change zV _ _ _ _ _ 0 0 0 [(0, .ref h)] []
  refine zv_aload_n (n := 1) dX4_init_0 rfl rfl ?_
  refine zv_objInit (n := 4) dX4_init_1 rfl lX4_1 zob1 zob2 ?_ (by decide)
  refine zv_vret dX4_init_4 rfl (by decide) (by decide) ?_
  exact zPi

/-- racks under way: i of them made, the book r: 0 the row, 1 + j the rack j -/
def zRx (M0 M : zM) (h : Nat) (r : Nat → Nat) (f : Nat → Option Nat) (i : Nat) : Prop :=
  M0 h ≠ none ∧ (∀ j, j < 1 + i → M0 (r j) = none) ∧ (∀ j k, j < 1 + i → k < 1 + i → r j = r k → j = k) ∧ (∀ a, a ≠ h → (∀ j, j < 1 + i → a ≠ r j) → M a = M0 a) ∧
  M h = some (.inr (7, [.ref (r 0), .int 0])) ∧ M (r 0) = some (zAR 12 f) ∧ (∀ j, j < i → f j = some (r (1 + j))) ∧ (∀ j, j < i → M (r (1 + j)) = some (.inr (6, [.int 0, .int 0, .int 0])))
theorem zRx.neq {M0 M : zM} {h : Nat} {r : Nat → Nat} {f : Nat → Option Nat} {i : Nat} (H : zRx M0 M h r f i) {q : Nat} (hq : M q = none) : q ≠ h ∧ (∀ j, j < 1 + i → q ≠ r j) := by
  obtain ⟨h0, h1, h2, h3, h4, h5, h6, h7⟩ := H
  refine ⟨(fun e => by rw [e, h4] at hq; cases hq), fun j hj e => ?_⟩
  rcases Nat.eq_zero_or_pos j with e0 | e0
  · rw [e, e0, h5] at hq; cases hq
  · have := h7 (j - 1) (by omega)
    rw [show 1 + (j - 1) = j by omega, ← e, hq] at this
    cases this
theorem zRx.step {M0 M : zM} {h : Nat} {r : Nat → Nat} {f : Nat → Option Nat} {i : Nat} (H : zRx M0 M h r f i) {q : Nat} (hq : M q = none) : zRx M0 (zup (zup M q (.inr (6, [.int 0, .int 0, .int 0]))) (r 0) (zAR 12 (va_up f i (some q)))) h (va_up r (1 + i) q) (va_up f i (some q)) (i + 1) := by
  obtain ⟨n1, n2⟩ := H.neq hq
  obtain ⟨h0, h1, h2, h3, h4, h5, h6, h7⟩ := H
  have hq0 : M0 q = none := (h3 q n1 n2).symm.trans hq
  have hr0 : ∀ j, j < 1 + i → va_up r (1 + i) q j = r j := fun j hj => va_up_ne _ _ (by omega)
  have hh : h ≠ r 0 := fun e => by rw [e, h5] at h4; cases h4
  refine ⟨h0, fun j hj => ?_, fun j k hj hk e => ?_, fun a ha hb => ?_, ?_, ?_, fun j hj => ?_, fun j hj => ?_⟩
  · by_cases e : j = 1 + i
    · rw [e, va_up_self]; exact hq0
    · rw [hr0 j (by omega)]; exact h1 j (by omega)
  · by_cases ej : j = 1 + i
    · by_cases ek : k = 1 + i
      · omega
      · rw [ej, va_up_self, hr0 k (by omega)] at e
        exact absurd e (n2 k (by omega))
    · by_cases ek : k = 1 + i
      · rw [ek, va_up_self, hr0 j (by omega)] at e
        exact absurd e.symm (n2 j (by omega))
      · rw [hr0 j (by omega), hr0 k (by omega)] at e
        exact h2 j k (by omega) (by omega) e
  · have b0 := hb 0 (by omega)
    have b1 := hb (1 + i) (by omega)
    rw [va_up_self] at b1
    rw [hr0 0 (by omega)] at b0
    rw [zup_n b0, zup_n b1]
    refine h3 a ha (fun j hj => ?_)
    have := hb j (by omega)
    rw [hr0 j hj] at this
    exact this
  · rw [zup_n hh, zup_n n1.symm, hr0 0 (by omega)]
    exact h4
  · rw [hr0 0 (by omega)]
    exact zup_s
  · by_cases e : j = i
    · rw [e, va_up_self, va_up_self]
    · rw [va_up_ne _ _ e, hr0 (1 + j) (by omega)]
      exact h6 j (by omega)
  · by_cases e : j = i
    · rw [e, va_up_self, zup_n (n2 0 (by omega)), zup_s]
    · have e1 : r (1 + j) ≠ r 0 := fun e2 => by have := h2 (1 + j) 0 (by omega) (by omega) e2; omega
      rw [hr0 (1 + j) (by omega), zup_n e1, zup_n (n2 (1 + j) (by omega)).symm]
      exact h7 j (by omega)

set_option maxRecDepth 100000 in
set_option maxHeartbeats 4000000 in
theorem l_X5_init {σ : zSg} {M0 : zM} {h : Nat} {Q : zO → zM → Prop} (hQ : ∀ M' r f, zRx M0 M' h r f 12 → Q (.inl none) M') : ∀ (k i : Nat) (M : zM) (r : Nat → Nat) (f : Nat → Option Nat) (kc ks : Nat), i + k = 12 → zRx M0 M h r f i → kc + k ≤ 13 → ks + 3 * k ≤ 48 → zV μX5_init (2, 13, 48) σ Q M kc ks 15 [(1, .int (nI i)), (0, .ref h)] [] := by
  intro k
  induction k with
  | zero =>
    intro i M r f kc ks hi H hc hs
    refine zv_iload_n (n := 16) dX5_init_15 rfl rfl ?_
    refine zv_aload_n (n := 17) dX5_init_16 rfl rfl ?_
    refine zv_get (n := 20) dX5_init_17 rfl H.2.2.2.2.1 FX5_11 rfl ?_
    refine zv_alen (n := 21) dX5_init_20 rfl H.2.2.2.2.2.1 (by decide) (v := (nI 12)) rfl ?_
    refine zv_icmp_ge (n := 24) (tgt := 43) dX5_init_21 (by decide) rfl (fun h21 => ?_) (fun h21 => False.elim (absurd ((nI12 (by omega)).mpr (by omega)) h21))
    refine zv_vret dX5_init_43 rfl (by show kc ≤ 13; omega) (by show ks ≤ 48; omega) ?_
    exact hQ M r f (by rw [show (12 : Nat) = i by omega]; exact H)
  | succ k ih =>
    intro i M r f kc ks hi H hc hs
    refine zv_iload_n (n := 16) dX5_init_15 rfl rfl ?_
    refine zv_aload_n (n := 17) dX5_init_16 rfl rfl ?_
    refine zv_get (n := 20) dX5_init_17 rfl H.2.2.2.2.1 FX5_11 rfl ?_
    refine zv_alen (n := 21) dX5_init_20 rfl H.2.2.2.2.2.1 (by decide) (v := (nI 12)) rfl ?_
    refine zv_icmp_ge (n := 24) (tgt := 43) dX5_init_21 (by decide) rfl (fun h21 => False.elim (absurd ((nI12 (by omega)).mp h21) (by omega))) (fun h21 => ?_)
    refine zv_aload_n (n := 25) dX5_init_24 rfl rfl ?_
    refine zv_get (n := 28) dX5_init_25 rfl H.2.2.2.2.1 FX5_11 rfl ?_
    refine zv_iload_n (n := 29) dX5_init_28 rfl rfl ?_
    refine zv_new (n := 32) (kc' := (kc + 1)) (ks' := (ks + 3)) dX5_init_29 rfl nX5_9 rfl rfl (by show kc + 1 ≤ 13; omega) (by show ks + 3 ≤ 48; omega) (fun q hq => ?_)
    obtain ⟨n1, n2⟩ := H.neq hq
    refine zv_dup (n := 33) dX5_init_32 rfl rfl ?_
    refine zv_callINF0 (n := 36) (As := []) (rest := [.ref q, .int (nI i), .ref (r 0)]) (kc' := (kc + 1)) (ks' := (ks + 3)) dX5_init_33 rfl (c_X4_init (h := q)) rfl rfl kX4_init lX5_17 rfl rfl ⟨by decide, by decide⟩ (Nat.le_of_ble_eq_true rfl) rfl rfl (by show kc + 1 ≤ 13; omega) (by show ks + 3 ≤ 48; omega) (fun M2 hq2 => ?_)
    subst hq2
    refine zv_astR (n := 37) dX5_init_36 rfl ((zup_n (n2 0 (by omega)).symm).trans H.2.2.2.2.2.1) zup_s (vp_in_nI (by omega) (by decide)) ?_
    rw [nI_clamp (by omega)]
    refine zv_iinc (n := 40) (v := nI (i + 1)) (lv' := [(1, .int (nI (i + 1))), (0, .ref h)]) dX5_init_37 rfl rfl (nI_1 i) (by decide) rfl ?_
    refine zv_goto (tgt := 15) dX5_init_40 (by decide) ?_
    exact ih (i + 1) _ _ _ (kc + 1) (ks + 3) (by omega) (H.step hq) (by omega) (by omega)

set_option maxRecDepth 100000 in
set_option maxHeartbeats 4000000 in
theorem c_X5_init {σ : zSg} {M : zM} {h : Nat} (hh : M h = some (.inr (7, [.null, .int 0]))) : zCon μX5_init (2, 13, 48) σ [.ref h] M (zF none (fun M' => ∃ r f, zRx M M' h r f 12)) := by
  refine zCon.of (plainFor_of_name (by decide)) rfl (Nat.le_of_ble_eq_true rfl) ?_
  change zV _ _ _ _ _ 0 0 0 [(0, .ref h)] []
  refine zv_aload_n (n := 1) dX5_init_0 rfl rfl ?_
  refine zv_objInit (n := 4) dX5_init_1 rfl lX5_3 zob1 zob2 ?_ (by decide)
  refine zv_aload_n (n := 5) dX5_init_4 rfl rfl ?_
  refine zv_bipush (n := 7) dX5_init_5 rfl (v := 12) (by decide) ?_
  refine zv_newR (N := 12) (n := 10) (kc' := 1) (ks' := 12) dX5_init_7 rfl zoR eX5_9 (by decide) (by decide) (by decide) rfl rfl (by decide) (by decide) (fun a ha => ?_)
  have ha9 : a ≠ h := fun e => by rw [e, hh] at ha; cases ha
  refine zv_putF (n := 13) dX5_init_10 rfl ((zup_n ha9.symm).trans hh) FX5_11 zcl_X5 zty_X5_0 rfl ⟨_, rfl, rfl⟩ rfl rfl (Nat.le_of_ble_eq_true rfl) ?_
  refine zv_iconst (n := 14) dX5_init_13 rfl (v := 0) (by decide) ?_
  refine zv_istore_n (n := 15) (lv' := [(1, .int 0), (0, .ref h)]) dX5_init_14 rfl (by decide) rfl ?_
  refine l_X5_init (fun M' r f H => zFi ⟨r, f, H⟩) 12 0 _ (fun _ => a) (fun _ => none) _ _ (by omega) ⟨(fun e => by rw [e] at hh; cases hh), fun j hj => ha, fun j k hj hk e => by omega, fun b hb hc => ?_, zup_s, (zup_n ha9).trans zup_s, fun j hj => absurd hj (Nat.not_lt_zero _), fun j hj => absurd hj (Nat.not_lt_zero _)⟩ (by decide) (by decide)
  rw [zup_n hb, zup_n (hc 0 (by omega))]

set_option maxRecDepth 100000 in
set_option maxHeartbeats 4000000 in
theorem c_X3_init {σ : zSg} {M : zM} {h : Nat} (hh : M h = some (.inr (5, [.null, .null]))) : zCon μX3_init (1, 2, 7) σ [.ref h] M (zF none (fun M' => ∃ a b f g, M a = none ∧ M b = none ∧ a ≠ b ∧ M' h = some (.inr (5, [.ref a, .ref b])) ∧ M' a = some (zAI 4 f) ∧ M' b = some (zAI 3 g) ∧ (∀ j, j < 4 → f j = 5) ∧ g 0 = 0 ∧ g 1 = 50 ∧ g 2 = 80 ∧ ∀ x, x ≠ h → x ≠ a → x ≠ b → M' x = M x)) := by
  refine zCon.of (plainFor_of_name (by decide)) rfl (Nat.le_of_ble_eq_true rfl) ?_
  change zV _ _ _ _ _ 0 0 0 [(0, .ref h)] []
  refine zv_aload_n (n := 1) dX3_init_0 rfl rfl ?_
  refine zv_objInit (n := 4) dX3_init_1 rfl lX3_3 zob1 zob2 ?_ (by decide)
  refine zv_aload_n (n := 5) dX3_init_4 rfl rfl ?_
  refine zv_iconst (n := 6) dX3_init_5 rfl (v := 4) (by decide) ?_
  refine zv_newI (N := 4) (n := 8) (kc' := 1) (ks' := 4) dX3_init_6 rfl zaI (by decide) (by decide) (by decide) rfl rfl (by decide) (by decide) (fun a ha => ?_)
  have ha9 : a ≠ h := fun e => by rw [e, hh] at ha; cases ha
  refine zv_dup (n := 9) dX3_init_8 rfl rfl ?_
  refine zv_iconst (n := 10) dX3_init_9 rfl (v := 0) (by decide) ?_
  refine zv_iconst (n := 11) dX3_init_10 rfl (v := 5) (by decide) ?_
  refine zv_iast (n := 12) dX3_init_11 rfl zup_s (show vp_in (nI 0) 4 from vp_in_nI (by decide) (by decide)) ?_
  refine zv_dup (n := 13) dX3_init_12 rfl rfl ?_
  refine zv_iconst (n := 14) dX3_init_13 rfl (v := 1) (by decide) ?_
  refine zv_iconst (n := 15) dX3_init_14 rfl (v := 5) (by decide) ?_
  refine zv_iast (n := 16) dX3_init_15 rfl zup_s (show vp_in (nI 1) 4 from vp_in_nI (by decide) (by decide)) ?_
  refine zv_dup (n := 17) dX3_init_16 rfl rfl ?_
  refine zv_iconst (n := 18) dX3_init_17 rfl (v := 2) (by decide) ?_
  refine zv_iconst (n := 19) dX3_init_18 rfl (v := 5) (by decide) ?_
  refine zv_iast (n := 20) dX3_init_19 rfl zup_s (show vp_in (nI 2) 4 from vp_in_nI (by decide) (by decide)) ?_
  refine zv_dup (n := 21) dX3_init_20 rfl rfl ?_
  refine zv_iconst (n := 22) dX3_init_21 rfl (v := 3) (by decide) ?_
  refine zv_iconst (n := 23) dX3_init_22 rfl (v := 5) (by decide) ?_
  refine zv_iast (n := 24) dX3_init_23 rfl zup_s (show vp_in (nI 3) 4 from vp_in_nI (by decide) (by decide)) ?_
  rw [zup_zup, zup_zup, zup_zup, zup_zup]
  refine zv_putF (n := 27) dX3_init_24 rfl ((zup_n ha9.symm).trans hh) FX3_9 zcl_X3 zty_X3_0 rfl ⟨_, rfl, rfl⟩ rfl rfl (Nat.le_of_ble_eq_true rfl) ?_
  refine zv_aload_n (n := 28) dX3_init_27 rfl rfl ?_
  refine zv_iconst (n := 29) dX3_init_28 rfl (v := 3) (by decide) ?_
  refine zv_newI (N := 3) (n := 31) (kc' := 2) (ks' := 7) dX3_init_29 rfl zaI (by decide) (by decide) (by decide) rfl rfl (by decide) (by decide) (fun b hb => ?_)
  have hb9 : b ≠ h := fun e => by rw [e, zup_s] at hb; cases hb
  have hba : b ≠ a := fun e => by rw [e, zup_n ha9, zup_s] at hb; cases hb
  refine zv_dup (n := 32) dX3_init_31 rfl rfl ?_
  refine zv_iconst (n := 33) dX3_init_32 rfl (v := 0) (by decide) ?_
  refine zv_iconst (n := 34) dX3_init_33 rfl (v := 0) (by decide) ?_
  refine zv_iast (n := 35) dX3_init_34 rfl zup_s (show vp_in (nI 0) 3 from vp_in_nI (by decide) (by decide)) ?_
  refine zv_dup (n := 36) dX3_init_35 rfl rfl ?_
  refine zv_iconst (n := 37) dX3_init_36 rfl (v := 1) (by decide) ?_
  refine zv_bipush (n := 39) dX3_init_37 rfl (v := 50) (by decide) ?_
  refine zv_iast (n := 40) dX3_init_39 rfl zup_s (show vp_in (nI 1) 3 from vp_in_nI (by decide) (by decide)) ?_
  refine zv_dup (n := 41) dX3_init_40 rfl rfl ?_
  refine zv_iconst (n := 42) dX3_init_41 rfl (v := 2) (by decide) ?_
  refine zv_bipush (n := 44) dX3_init_42 rfl (v := 80) (by decide) ?_
  refine zv_iast (n := 45) dX3_init_44 rfl zup_s (show vp_in (nI 2) 3 from vp_in_nI (by decide) (by decide)) ?_
  rw [zup_zup, zup_zup, zup_zup]
  refine zv_putF (n := 48) dX3_init_45 rfl ((zup_n hb9.symm).trans zup_s) FX3_15 zcl_X3 zty_X3_1 rfl ⟨_, rfl, rfl⟩ rfl rfl (Nat.le_of_ble_eq_true rfl) ?_
  refine zv_vret dX3_init_48 rfl (by decide) (by decide) ?_
  have hb0 : M b = none := by rw [zup_n hb9, zup_n hba] at hb; exact hb
  refine zFi ⟨a, b, _, _, ha, hb0, hba.symm, zup_s, (zup_n ha9).trans ((zup_n hba.symm).trans ((zup_n ha9).trans zup_s)), (zup_n hb9).trans zup_s, fun j hj => ?_, rfl, rfl, rfl, fun x h1 h2 h3 => ?_⟩
  · rcases (show j = 0 ∨ j = 1 ∨ j = 2 ∨ j = 3 by omega) with rfl | rfl | rfl | rfl <;> rfl
  · rw [zup_n h1, zup_n h3, zup_n h1, zup_n h2]

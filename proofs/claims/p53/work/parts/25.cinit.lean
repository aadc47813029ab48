/-! A centre's constructor: laid by wip/p53/m25.py. -/
def ztag : zE → Nat
  | .inl (k, (n, _)) => 100 + 100 * k + n
  | .inr (ci, _) => ci
theorem zup_f {M : zM} {q x : Nat} {e e' : zE} (hq : M q = none) (hx : M x = some e) : zup M q e' x = some e := by
  rw [zup_n (fun h => by rw [h, hq] at hx; cases hx)]
  exact hx
theorem zne_d {M : zM} {h x : Nat} {e1 e2 : zE} (hh : M h = some e1) (hx : M x = some e2) (ht : ztag e1 ≠ ztag e2) : x ≠ h := fun e => by
  rw [e, hh] at hx
  exact ht (congrArg ztag (Option.some.inj hx))
theorem zup_d {M : zM} {h x : Nat} {e1 e2 e' : zE} (hh : M h = some e1) (hx : M x = some e2) (ht : ztag e1 ≠ ztag e2) : zup M h e' x = some e2 := by
  rw [zup_n (zne_d hh hx ht)]
  exact hx
/-- M is M0 but at P, and there it holds something -/
def zFr (M0 M : zM) (P : Nat → Prop) : Prop := (∀ a, ¬ P a → M a = M0 a) ∧ ∀ a, P a → M a ≠ none
theorem zFr.no {M0 M : zM} {P : Nat → Prop} (h : zFr M0 M P) {q : Nat} (hq : M q = none) : ¬ P q ∧ M0 q = none := by
  have h1 : ¬ P q := fun hp => h.2 q hp hq
  exact ⟨h1, (h.1 q h1).symm.trans hq⟩
theorem zFr.up {M0 M : zM} {P : Nat → Prop} (h : zFr M0 M P) (q : Nat) (e : zE) : zFr M0 (zup M q e) (fun a => P a ∨ a = q) := by
  refine ⟨fun a ha => ?_, fun a ha => ?_⟩
  · rw [zup_n (fun e => ha (Or.inr e))]
    exact h.1 a (fun hp => ha (Or.inl hp))
  · by_cases e : a = q
    · rw [e, zup_s]; exact fun h => nomatch h
    · rw [zup_n e]; exact h.2 a (ha.resolve_right e)
theorem zFr.tr {M0 M M' : zM} {P P' : Nat → Prop} (h : zFr M0 M P) (h' : zFr M M' P') : zFr M0 M' (fun a => P a ∨ P' a) := by
  refine ⟨fun a ha => ?_, fun a ha => ?_⟩
  · rw [h'.1 a (fun hp => ha (Or.inr hp))]
    exact h.1 a (fun hp => ha (Or.inl hp))
  · by_cases e : P' a
    · exact h'.2 a e
    · rw [h'.1 a e]
      exact h.2 a (ha.resolve_right e)
theorem zFr.rf {M : zM} : zFr M M (fun _ => False) := ⟨fun _ _ => rfl, fun _ h => h.elim⟩
theorem zRx.fr {M0 M : zM} {h : Nat} {r : Nat → Nat} {f : Nat → Option Nat} {i : Nat} (H : zRx M0 M h r f i) : zFr M0 M (fun a => a = h ∨ ∃ j, j < 1 + i ∧ a = r j) := by
  obtain ⟨h0, h1, h2, h3, h4, h5, h6, h7⟩ := H
  refine ⟨fun a ha => h3 a (fun e => ha (Or.inl e)) (fun j hj e => ha (Or.inr ⟨j, hj, e⟩)), fun a ha => ?_⟩
  rcases ha with e | ⟨j, hj, e⟩
  · rw [e, h4]; exact fun h => nomatch h
  · rw [e]
    rcases Nat.eq_zero_or_pos j with e0 | e0
    · rw [e0, h5]; exact fun h => nomatch h
    · rw [show j = 1 + (j - 1) by omega, h7 (j - 1) (by omega)]; exact fun h => nomatch h
def ctag (i : Nat) : Nat := if i = 0 then 4 else if i = 1 then 7 else if i = 2 then 5 else if i = 3 then 304 else if i = 4 then 212 else if i = 5 then 512 else if i = 6 then 304 else if i = 7 then 303 else 6
theorem ctag_inj (i : Nat) (hi : i < 20) (j : Nat) (hj : j < 20) (h : ctag i = ctag j) : i = j ∨ (i = 3 ∧ j = 6) ∨ (i = 6 ∧ j = 3) ∨ (8 ≤ i ∧ 8 ≤ j) := by
  have key : ∀ i j : Fin 20, ctag i.1 = ctag j.1 → i.1 = j.1 ∨ (i.1 = 3 ∧ j.1 = 6) ∨ (i.1 = 6 ∧ j.1 = 3) ∨ (8 ≤ i.1 ∧ 8 ≤ j.1) := by decide +kernel
  exact key ⟨i, hi⟩ ⟨j, hj⟩ h
/-- the class of what lies in a centre's cell -/
theorem zCen.tag {M : zM} {c : Nat → Nat} {S : zS} (h : zCen M c S) {i : Nat} (hi : i < 20) : ∃ e, M (c i) = some e ∧ ztag e = ctag i := by
  rcases (show i = 0 ∨ i = 1 ∨ i = 2 ∨ i = 3 ∨ i = 4 ∨ i = 5 ∨ i = 6 ∨ i = 7 ∨ ∃ j, j < 12 ∧ i = 8 + j from by
    by_cases h8 : 8 ≤ i
    · exact Or.inr (Or.inr (Or.inr (Or.inr (Or.inr (Or.inr (Or.inr (Or.inr ⟨i - 8, by omega, by omega⟩)))))))
    · omega) with rfl | rfl | rfl | rfl | rfl | rfl | rfl | rfl | ⟨j, hj, rfl⟩
  · exact ⟨_, h.c0, rfl⟩
  · exact ⟨_, h.c1, rfl⟩
  · exact ⟨_, h.c2, rfl⟩
  · obtain ⟨f, hf, _⟩ := h.c3; exact ⟨_, hf, rfl⟩
  · obtain ⟨f, hf⟩ := h.c4; exact ⟨_, hf, rfl⟩
  · obtain ⟨f, hf, _⟩ := h.c5; exact ⟨_, hf, rfl⟩
  · obtain ⟨f, hf, _⟩ := h.c6; exact ⟨_, hf, rfl⟩
  · obtain ⟨f, hf, _⟩ := h.c7; exact ⟨_, hf, rfl⟩
  · refine ⟨_, h.rk hj, ?_⟩
    unfold ctag
    rw [if_neg (by omega), if_neg (by omega), if_neg (by omega), if_neg (by omega), if_neg (by omega), if_neg (by omega), if_neg (by omega), if_neg (by omega)]
    rfl
/-- a centre out of its cells -/
theorem zCen.mk1 {M : zM} {c : Nat → Nat} {S : zS} (h0 : M (c 0) = some (.inr (4, [.ref (c 1), .ref (c 2), .ref (c 3), .int (S 48), .int (S 49), .int (S 50), .int (S 51), .int (S 52), .ref (c 4)]))) (h1 : M (c 1) = some (.inr (7, [.ref (c 5), .int (S 0)]))) (h2 : M (c 2) = some (.inr (5, [.ref (c 6), .ref (c 7)]))) (h3 : ∃ f, M (c 3) = some (zAI 4 f) ∧ ∀ j, j < 4 → f j = S (44 + j)) (h4 : ∃ g, M (c 4) = some (zAF 12 g)) (h5 : ∃ f, M (c 5) = some (zAR 12 f) ∧ ∀ j, j < 12 → f j = some (c (8 + j))) (h6 : ∃ f, M (c 6) = some (zAI 4 f) ∧ ∀ j, j < 4 → f j = S (37 + j)) (h7 : ∃ f, M (c 7) = some (zAI 3 f) ∧ ∀ j, j < 3 → f j = S (41 + j)) (h8 : ∀ i, i < 12 → M (c (8 + i)) = some (.inr (6, [.int (S (1 + 3 * i)), .int (S (2 + 3 * i)), .int (S (3 + 3 * i))])))
    (n36 : c 3 ≠ c 6) (hr : ∀ i j, i < 12 → j < 12 → c (8 + i) = c (8 + j) → i = j) : zCen M c S := by
  have key : ∀ i, i < 20 → ∃ e, M (c i) = some e ∧ ztag e = ctag i := by
    intro i hi
    rcases (show i = 0 ∨ i = 1 ∨ i = 2 ∨ i = 3 ∨ i = 4 ∨ i = 5 ∨ i = 6 ∨ i = 7 ∨ ∃ j, j < 12 ∧ i = 8 + j from by
      by_cases h8 : 8 ≤ i
      · exact Or.inr (Or.inr (Or.inr (Or.inr (Or.inr (Or.inr (Or.inr (Or.inr ⟨i - 8, by omega, by omega⟩)))))))
      · omega) with rfl | rfl | rfl | rfl | rfl | rfl | rfl | rfl | ⟨j, hj, rfl⟩
    · exact ⟨_, h0, rfl⟩
    · exact ⟨_, h1, rfl⟩
    · exact ⟨_, h2, rfl⟩
    · obtain ⟨f, hf, _⟩ := h3; exact ⟨_, hf, rfl⟩
    · obtain ⟨f, hf⟩ := h4; exact ⟨_, hf, rfl⟩
    · obtain ⟨f, hf, _⟩ := h5; exact ⟨_, hf, rfl⟩
    · obtain ⟨f, hf, _⟩ := h6; exact ⟨_, hf, rfl⟩
    · obtain ⟨f, hf, _⟩ := h7; exact ⟨_, hf, rfl⟩
    · refine ⟨_, h8 j hj, ?_⟩
      unfold ctag
      rw [if_neg (by omega), if_neg (by omega), if_neg (by omega), if_neg (by omega), if_neg (by omega), if_neg (by omega), if_neg (by omega), if_neg (by omega)]
      rfl
  refine ⟨fun i j hi hj e => ?_, h0, h1, h2, h3, h4, h5, h6, h7, h8⟩
  obtain ⟨x, x1, x2⟩ := key i hi
  obtain ⟨y, y1, y2⟩ := key j hj
  rw [e, y1] at x1
  cases x1
  rcases ctag_inj i hi j hj (x2.symm.trans y2) with h | ⟨rfl, rfl⟩ | ⟨rfl, rfl⟩ | ⟨a, b⟩
  · exact h
  · exact absurd e n36
  · exact absurd e.symm n36
  · have := hr (i - 8) (j - 8) (by omega) (by omega) (by rw [show 8 + (i - 8) = i by omega, show 8 + (j - 8) = j by omega]; exact e)
    omega

set_option maxRecDepth 100000 in
set_option maxHeartbeats 4000000 in
theorem c_X1_init {σ : zSg} {M : zM} {h : Nat} (hh : M h = some (.inr (4, [.null, .null, .null, .int 0, .int 0, .int 0, .int 0, .int 0, .null]))) : zCon μX1_init (3, 19, 75) σ [.ref h] M (zF none (fun M' => ∃ c, c 0 = h ∧ zCen M' c zS0 ∧ (∀ i, 0 < i → i < 20 → M (c i) = none) ∧ zOff M M' c)) := by
  refine zCon.of (plainFor_of_name (by decide)) rfl (Nat.le_of_ble_eq_true rfl) ?_
  change zV _ _ _ _ _ 0 0 0 [(0, .ref h)] []
  refine zv_aload_n (n := 1) dX1_init_0 rfl rfl ?_
  refine zv_objInit (n := 4) dX1_init_1 rfl lX1_3 zob1 zob2 ?_ (by decide)
  refine zv_aload_n (n := 5) dX1_init_4 rfl rfl ?_
  refine zv_new (n := 8) (kc' := 1) (ks' := 2) dX1_init_5 rfl nX1_9 rfl rfl (by decide) (by decide) (fun q1 hq1 => ?_)
  have n1 : q1 ≠ h := fun e => by rw [e, hh] at hq1; cases hq1
  have F1 := (zFr.rf (M := M)).up q1 (.inr (7, [.null, .int 0]))
  refine zv_dup (n := 9) dX1_init_8 rfl rfl ?_
  refine zv_callIF0 (n := 12) (As := []) (rest := [.ref q1, .ref h]) (kc' := 14) (ks' := 50) dX1_init_9 rfl (c_X5_init (h := q1) zup_s) rfl rfl kX5_init lX1_11 rfl rfl ⟨by decide, by decide⟩ (Nat.le_of_ble_eq_true rfl) rfl rfl (by decide) (by decide) (fun M2 hq => ?_)
  obtain ⟨r, f, H⟩ := hq
  have F2 := F1.tr H.fr
  have rf : ∀ j, j < 13 → M (r j) = none := fun j hj => (F1.no (H.2.1 j hj)).2
  obtain ⟨-, r1, r2, r3, r4, r5, r6, r7⟩ := H
  have hr : ∀ j, j < 13 → h ≠ r j := fun j hj e => by have := rf j hj; rw [← e, hh] at this; cases this
  have hh2 : M2 h = some (.inr (4, [.null, .null, .null, .int 0, .int 0, .int 0, .int 0, .int 0, .null])) := by rw [r3 h n1.symm hr, zup_n n1.symm]; exact hh
  refine zv_putF (n := 15) dX1_init_12 rfl hh2 FX1_12 zcl_X1 zty_X1_0 rfl ⟨_, rfl, rfl⟩ rfl rfl (Nat.le_of_ble_eq_true rfl) ?_
  have F3 := F2.up h (.inr (4, [.ref q1, .null, .null, .int 0, .int 0, .int 0, .int 0, .int 0, .null]))
  have a1 := zup_d (e' := .inr (4, [.ref q1, .null, .null, .int 0, .int 0, .int 0, .int 0, .int 0, .null])) hh2 r4 (show (4 : Nat) ≠ 7 by decide)
  have a5 := zup_d (e' := .inr (4, [.ref q1, .null, .null, .int 0, .int 0, .int 0, .int 0, .int 0, .null])) hh2 r5 (show (4 : Nat) ≠ 512 by decide)
  have a8 : ∀ j, j < 12 → zup M2 h (.inr (4, [.ref q1, .null, .null, .int 0, .int 0, .int 0, .int 0, .int 0, .null])) (r (1 + j)) = _ := fun j hj => zup_d hh2 (r7 j hj) (show (4 : Nat) ≠ 6 by decide)
  refine zv_aload_n (n := 16) dX1_init_15 rfl rfl ?_
  refine zv_new (n := 19) (kc' := 15) (ks' := 52) dX1_init_16 rfl nX1_18 rfl rfl (by decide) (by decide) (fun q2 hq2 => ?_)
  have g2 := F3.no hq2
  have F4 := F3.up q2 (.inr (5, [.null, .null]))
  have b0 := zup_f (e' := .inr (5, [.null, .null])) hq2 (zup_s (M := M2) (a := h) (e := .inr (4, [.ref q1, .null, .null, .int 0, .int 0, .int 0, .int 0, .int 0, .null])))
  have b1 := zup_f (e' := .inr (5, [.null, .null])) hq2 a1
  have b5 := zup_f (e' := .inr (5, [.null, .null])) hq2 a5
  have b8 : ∀ j, j < 12 → _ := fun j hj => zup_f (e' := .inr (5, [.null, .null])) hq2 (a8 j hj)
  refine zv_dup (n := 20) dX1_init_19 rfl rfl ?_
  refine zv_callINF0 (n := 23) (As := []) (rest := [.ref q2, .ref h]) (kc' := 17) (ks' := 59) dX1_init_20 rfl (c_X3_init (h := q2) zup_s) rfl rfl kX3_init lX1_20 rfl rfl ⟨by decide, by decide⟩ (Nat.le_of_ble_eq_true rfl) rfl rfl (by decide) (by decide) (fun M5 hq => ?_)
  obtain ⟨a, b, fa, fb, ha, hb, hab, d2, d6, d7, da, e0, e1, e2, fr5⟩ := hq
  have ga := F4.no ha
  have gb := F4.no hb
  have keep5 : ∀ x e, zup (zup M2 h (.inr (4, [.ref q1, .null, .null, .int 0, .int 0, .int 0, .int 0, .int 0, .null]))) q2 (.inr (5, [.null, .null])) x = some e → x ≠ q2 → M5 x = some e := fun x e hx hx2 => by
    rw [fr5 x hx2 (fun e9 => by rw [e9] at hx; cases (ha.symm.trans hx : none = some e)) (fun e9 => by rw [e9] at hx; cases (hb.symm.trans hx : none = some e))]
    exact hx
  have c0 := keep5 _ _ b0 (fun e9 => by rw [e9, zup_s] at b0; cases b0)
  have c1 := keep5 _ _ b1 (fun e9 => by rw [e9, zup_s] at b1; cases b1)
  have c5 := keep5 _ _ b5 (fun e9 => by rw [e9, zup_s] at b5; cases b5)
  have c8 : ∀ j, j < 12 → _ := fun j hj => keep5 _ _ (b8 j hj) (fun e9 => by have b9 := b8 j hj; rw [e9, zup_s] at b9; cases b9)
  have F5 : zFr M M5 (fun x => ((((False ∨ x = q1) ∨ (x = q1 ∨ ∃ j, j < 1 + 12 ∧ x = r j)) ∨ x = h) ∨ x = q2) ∨ (x = q2 ∨ x = a ∨ x = b)) := F4.tr ⟨fun x hx => fr5 x (fun e => hx (Or.inl e)) (fun e => hx (Or.inr (Or.inl e))) (fun e => hx (Or.inr (Or.inr e))), fun x hx => by
    rcases hx with e | e | e
    · rw [e, d2]; exact fun h => nomatch h
    · rw [e, d6]; exact fun h => nomatch h
    · rw [e, d7]; exact fun h => nomatch h⟩
  refine zv_putF (n := 26) dX1_init_23 rfl c0 FX1_21 zcl_X1 zty_X1_1 rfl ⟨_, rfl, rfl⟩ rfl rfl (Nat.le_of_ble_eq_true rfl) ?_
  have F6 := F5.up h (.inr (4, [.ref q1, .ref q2, .null, .int 0, .int 0, .int 0, .int 0, .int 0, .null]))
  refine zv_aload_n (n := 27) dX1_init_26 rfl rfl ?_
  refine zv_iconst (n := 28) dX1_init_27 rfl (v := 4) (by decide) ?_
  refine zv_newI (N := 4) (n := 30) (kc' := 18) (ks' := 63) dX1_init_28 rfl zaI (by decide) (by decide) (by decide) rfl rfl (by decide) (by decide) (fun q3 hq3 => ?_)
  have g3 := F6.no hq3
  have F7 := F6.up q3 (zAI 4 (fun _ => 0))
  have n3 : q3 ≠ h := fun e => g3.1 (Or.inr e)
  refine zv_putF (n := 33) dX1_init_30 rfl ((zup_n n3.symm).trans zup_s) FX1_25 zcl_X1 zty_X1_2 rfl ⟨_, rfl, rfl⟩ rfl rfl (Nat.le_of_ble_eq_true rfl) ?_
  have F8 := F7.up h (.inr (4, [.ref q1, .ref q2, .ref q3, .int 0, .int 0, .int 0, .int 0, .int 0, .null]))
  refine zv_aload_n (n := 34) dX1_init_33 rfl rfl ?_
  refine zv_bipush (n := 36) dX1_init_34 rfl (v := 27) (by decide) ?_
  refine zv_put (n := 39) dX1_init_36 rfl zup_s FX1_29 zcl_X1 zty_X1_3 rfl rfl (Nat.le_of_ble_eq_true rfl) ?_
  rw [zup_zup]
  have F9 := F7.up h (.inr (4, [.ref q1, .ref q2, .ref q3, .int 27, .int 0, .int 0, .int 0, .int 0, .null]))
  refine zv_aload_n (n := 40) dX1_init_39 rfl rfl ?_
  refine zv_bipush (n := 42) dX1_init_40 rfl (v := 12) (by decide) ?_
  refine zv_newF (N := 12) (n := 44) (kc' := 19) (ks' := 75) dX1_init_42 rfl zaF (by decide) (by decide) (by decide) rfl rfl (by decide) (by decide) (fun q4 hq4 => ?_)
  have g4 := F9.no hq4
  have F10 := F9.up q4 (zAF 12 (fun _ => 0))
  have n4 : q4 ≠ h := fun e => g4.1 (Or.inr e)
  refine zv_putF (n := 47) dX1_init_44 rfl ((zup_n n4.symm).trans zup_s) FX1_33 zcl_X1 zty_X1_8 rfl ⟨_, rfl, rfl⟩ rfl rfl (Nat.le_of_ble_eq_true rfl) ?_
  have F11 := F10.up h (.inr (4, [.ref q1, .ref q2, .ref q3, .int 27, .int 0, .int 0, .int 0, .int 0, .ref q4]))
  refine zv_vret dX1_init_47 rfl (by decide) (by decide) ?_
  have fin : ∀ x e, M5 x = some e → ztag e ≠ 4 → zup (zup (zup (zup (zup M5 h (.inr (4, [.ref q1, .ref q2, .null, .int 0, .int 0, .int 0, .int 0, .int 0, .null]))) q3 (zAI 4 (fun _ => 0))) h (.inr (4, [.ref q1, .ref q2, .ref q3, .int 27, .int 0, .int 0, .int 0, .int 0, .null]))) q4 (zAF 12 (fun _ => 0))) h (.inr (4, [.ref q1, .ref q2, .ref q3, .int 27, .int 0, .int 0, .int 0, .int 0, .ref q4])) x = some e := fun x e hx ht => by
    have nx := zne_d c0 hx (fun e9 => ht e9.symm)
    have n3x : x ≠ q3 := fun e9 => by rw [e9] at hx nx; rw [zup_n nx] at hq3; rw [hq3] at hx; cases hx
    have n4x : x ≠ q4 := fun e9 => by rw [e9] at hx nx n3x; rw [zup_n nx, zup_n n3x, zup_n nx] at hq4; rw [hq4] at hx; cases hx
    rw [zup_n nx, zup_n n4x, zup_n nx, zup_n n3x, zup_n nx]
    exact hx
  refine zFi ⟨fun i => if i = 0 then h else if i = 1 then q1 else if i = 2 then q2 else if i = 3 then q3 else if i = 4 then q4 else if i = 5 then r 0 else if i = 6 then a else if i = 7 then b else r (i - 7), rfl, ?_, ?_, ?_⟩
  · refine zCen.mk1 zup_s (fin _ _ c1 (show (7 : Nat) ≠ 4 by decide)) (fin _ _ d2 (show (5 : Nat) ≠ 4 by decide)) ⟨_, (zup_n n3).trans ((zup_n (fun e => ?_)).trans ((zup_n n3).trans zup_s)), fun j hj => ?_⟩ ⟨_, (zup_n n4).trans zup_s⟩ ⟨_, fin _ _ c5 (show (512 : Nat) ≠ 4 by decide), fun j hj => ?_⟩ ⟨_, fin _ _ d6 (show (304 : Nat) ≠ 4 by decide), fun j hj => ?_⟩ ⟨_, fin _ _ d7 (show (303 : Nat) ≠ 4 by decide), fun j hj => ?_⟩ (fun i hi => ?_) ?_ ?_
    · exact g4.1 (Or.inl (Or.inr e.symm))
    · unfold zS0; rw [if_neg (by omega), if_neg (by omega), if_neg (by omega), if_neg (by omega)]
    · rw [r6 j hj]
      show _ = some (if 8 + j = 0 then h else if 8 + j = 1 then q1 else if 8 + j = 2 then q2 else if 8 + j = 3 then q3 else if 8 + j = 4 then q4 else if 8 + j = 5 then r 0 else if 8 + j = 6 then a else if 8 + j = 7 then b else r (8 + j - 7))
      rw [if_neg (by omega), if_neg (by omega), if_neg (by omega), if_neg (by omega), if_neg (by omega), if_neg (by omega), if_neg (by omega), if_neg (by omega), show 8 + j - 7 = 1 + j by omega]
    · rw [da j hj]; unfold zS0; rw [if_pos (by omega)]
    · rcases (show j = 0 ∨ j = 1 ∨ j = 2 by omega) with rfl | rfl | rfl
      · exact e0
      · exact e1
      · exact e2
    · rw [if_neg (by omega), if_neg (by omega), if_neg (by omega), if_neg (by omega), if_neg (by omega), if_neg (by omega), if_neg (by omega), if_neg (by omega), show 8 + i - 7 = 1 + i by omega]
      have e9 : zS0 (1 + 3 * i) = 0 ∧ zS0 (2 + 3 * i) = 0 ∧ zS0 (3 + 3 * i) = 0 := by
        unfold zS0
        refine ⟨?_, ?_, ?_⟩ <;> rw [if_neg (by omega), if_neg (by omega), if_neg (by omega), if_neg (by omega)]
      rw [e9.1, e9.2.1, e9.2.2]
      exact fin _ _ (c8 i hi) (show (6 : Nat) ≠ 4 by decide)
    · exact fun e => g3.1 (Or.inl (Or.inr (Or.inr (Or.inl e))))
    · intro i j hi hj e
      change (if 8 + i = 0 then h else if 8 + i = 1 then q1 else if 8 + i = 2 then q2 else if 8 + i = 3 then q3 else if 8 + i = 4 then q4 else if 8 + i = 5 then r 0 else if 8 + i = 6 then a else if 8 + i = 7 then b else r (8 + i - 7)) = (if 8 + j = 0 then h else if 8 + j = 1 then q1 else if 8 + j = 2 then q2 else if 8 + j = 3 then q3 else if 8 + j = 4 then q4 else if 8 + j = 5 then r 0 else if 8 + j = 6 then a else if 8 + j = 7 then b else r (8 + j - 7)) at e
      rw [if_neg (by omega), if_neg (by omega), if_neg (by omega), if_neg (by omega), if_neg (by omega), if_neg (by omega), if_neg (by omega), if_neg (by omega), if_neg (by omega), if_neg (by omega), if_neg (by omega), if_neg (by omega), if_neg (by omega), if_neg (by omega), if_neg (by omega), if_neg (by omega)] at e
      have := r2 _ _ (by omega) (by omega) e
      omega
  · intro i h0 hi
    dsimp only
    rw [if_neg (by omega)]
    split
    · exact hq1
    · split
      · exact g2.2
      · split
        · exact g3.2
        · split
          · exact g4.2
          · split
            · exact rf 0 (by decide)
            · split
              · exact ga.2
              · split
                · exact gb.2
                · exact rf _ (by omega)
  · intro x hx
    refine F11.1 x (fun hp => ?_)
    have x0 := hx 0 (by decide)
    have x1 := hx 1 (by decide)
    have x2 := hx 2 (by decide)
    have x3 := hx 3 (by decide)
    have x4 := hx 4 (by decide)
    have x5 := hx 5 (by decide)
    have x6 := hx 6 (by decide)
    have x7 := hx 7 (by decide)
    rcases hp with (((((((((hp | hp) | (hp | ⟨j, hj, hp⟩)) | hp) | hp) | (hp | hp | hp)) | hp) | hp) | hp) | hp) | hp
    · exact hp
    · exact x1 hp
    · exact x1 hp
    · rcases Nat.eq_zero_or_pos j with e0 | e0
      · rw [e0] at hp; exact x5 hp
      · have x8 := hx (7 + j) (by omega)
        dsimp only at x8
        rw [if_neg (by omega), if_neg (by omega), if_neg (by omega), if_neg (by omega), if_neg (by omega), if_neg (by omega), if_neg (by omega), if_neg (by omega), show 7 + j - 7 = j by omega] at x8
        exact x8 hp
    · exact x0 hp
    · exact x2 hp
    · exact x2 hp
    · exact x6 hp
    · exact x7 hp
    · exact x0 hp
    · exact x3 hp
    · exact x0 hp
    · exact x4 hp
    · exact x0 hp

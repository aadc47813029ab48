/-! A planner's output and text: laid by wip/p53/m32.py. -/
theorem zSB.uniq {M : zM} {s v v2 : Nat} {t t2 : Nat → Nat} {n n2 m m2 : Nat} (h : zSB M s v t n m) (h2 : zSB M s v2 t2 n2 m2) : v = v2 ∧ m = m2 := by
  obtain ⟨ml, a, h1, h3, _⟩ := h
  obtain ⟨ml', a', h1', h3', _⟩ := h2
  have h9 := Option.some.inj (h1.symm.trans h1')
  have e : Value.ref v = Value.ref v2 := congrArg (fun e : zE => match e with | .inr (_, x :: _) => x | _ => Value.null) h9
  injection e with e
  subst e
  rw [h3] at h3'
  cases h3'
  exact ⟨rfl, rfl⟩
theorem zNN.cap {N n q : Nat} (h : zNN N) (hn : n ≤ N) (h1 : n ≤ q) (h2 : q ≤ n + 2) (h3 : q ≤ 70) : zNN (sb_cap q N) ∧ sb_cap q N ≤ 150 := by
  unfold sb_cap zNN
  rcases h with rfl | rfl | rfl
  · by_cases e : q ≤ 16
    · rw [if_pos e]; exact ⟨Or.inl rfl, by decide⟩
    · rw [if_neg e, if_neg (by omega)]; exact ⟨Or.inr (Or.inl rfl), by decide⟩
  · by_cases e : q ≤ 34
    · rw [if_pos e]; exact ⟨Or.inr (Or.inl rfl), by decide⟩
    · rw [if_neg e, if_neg (by omega)]; exact ⟨Or.inr (Or.inr rfl), by decide⟩
  · rw [if_pos h3]; exact ⟨Or.inr (Or.inr rfl), by decide⟩
abbrev tcC (x : (Nat → Nat) × Nat) (c : Nat) : (Nat → Nat) × Nat := (sb_cat x.1 x.2 (fun _ => c), x.2 + 1)
abbrev tcI (x : (Nat → Nat) × Nat) (k : Nat) : (Nat → Nat) × Nat := (sb_cat x.1 x.2 (sb_dec k), x.2 + sb_dg k)
theorem cat0 (t s : Nat → Nat) : sb_cat t 0 s = s := by
  funext j
  unfold sb_cat
  rw [if_neg (by omega), Nat.sub_zero]

theorem c_outC {σ : zSg} {M : zM} {Z : Nat → Prop} {b : Nat → Nat} {C : Nat → Nat → Nat} {S : Nat → zS} {nw un : Nat} {hs ea fa : Int32} {t : Nat → Nat} {n : Nat} {u : Nat → Nat} {k : Nat} (hP : zPl M Z b C S nw un hs ea fa t n u k) {c : Nat} (hc : c < 256) (hk : k + 1 ≤ 70) : zCon μJ4_append_cf468 (6, 1, 150) σ [.ref (b 6), .int (nI c)] M (zF (some (.ref (b 6))) (fun M' => zPl M' Z b C S nw un hs ea fa t n (tcC (u, k) c).1 (tcC (u, k) c).2 ∧ zKe M M' Z)) := by
  obtain ⟨-, -, -, -, -, -, -, v, N, v', N', g8, g9, g10, g11, g12, g13⟩ := id hP
  have hle : k ≤ N' := by obtain ⟨_, _, _, _, _, _, q, _⟩ := g10; exact q
  obtain ⟨e1, e2⟩ := g11.cap hle (Nat.le_succ _) (by omega) hk
  refine (c_J4_appendC g10 hc (Or.inr e2)).post (fun o M' h => ?_)
  obtain ⟨h1, v2, h2, h3⟩ := h
  exact ⟨h1, hP.outp (fun w W hs hW => by
    obtain ⟨r1, r2⟩ := g10.uniq hs
    subst r1; subst r2
    exact ⟨v2, _, h2, e1, h3⟩)⟩
theorem c_outI {σ : zSg} {M : zM} {Z : Nat → Prop} {b : Nat → Nat} {C : Nat → Nat → Nat} {S : Nat → zS} {nw un : Nat} {hs ea fa : Int32} {t : Nat → Nat} {n : Nat} {u : Nat → Nat} {k : Nat} (hP : zPl M Z b C S nw un hs ea fa t n u k) {c : Nat} (hc : c < 100) (hk : k + 2 ≤ 70) : zCon μJ4_append_bf812 (6, 1, 150) σ [.ref (b 6), .int (nI c)] M (zF (some (.ref (b 6))) (fun M' => zPl M' Z b C S nw un hs ea fa t n (tcI (u, k) c).1 (tcI (u, k) c).2 ∧ zKe M M' Z)) := by
  obtain ⟨-, -, -, -, -, -, -, v, N, v', N', g8, g9, g10, g11, g12, g13⟩ := id hP
  have hle : k ≤ N' := by obtain ⟨_, _, _, _, _, _, q, _⟩ := g10; exact q
  have hd : sb_dg c ≤ 2 := by
    rcases Nat.lt_or_ge c 10 with q | q
    · rw [dg1 q]; decide
    · rw [dg2 q hc]; decide
  obtain ⟨e1, e2⟩ := g11.cap hle (Nat.le_add_right _ (sb_dg c)) (by omega) (by omega)
  refine (c_J4_appendI g10 hc (Or.inr e2)).post (fun o M' h => ?_)
  obtain ⟨h1, v2, h2, h3⟩ := h
  exact ⟨h1, hP.outp (fun w W hs hW => by
    obtain ⟨r1, r2⟩ := g10.uniq hs
    subst r1; subst r2
    exact ⟨v2, _, h2, e1, h3⟩)⟩
theorem c_out0 {σ : zSg} {M : zM} {Z : Nat → Prop} {b : Nat → Nat} {C : Nat → Nat → Nat} {S : Nat → zS} {nw un : Nat} {hs ea fa : Int32} {t : Nat → Nat} {n : Nat} {u : Nat → Nat} {k : Nat} (hP : zPl M Z b C S nw un hs ea fa t n u k) : zCon μJ4_setLength_d00df (6, 0, 0) σ [.ref (b 6), .int 0] M (zF none (fun M' => zPl M' Z b C S nw un hs ea fa t n u 0 ∧ zKe M M' Z)) := by
  obtain ⟨-, -, -, -, -, -, -, v, N, v', N', g8, g9, g10, g11, g12, g13⟩ := id hP
  refine (c_J4_setLength g10).post (fun o M' h => ?_)
  obtain ⟨h1, h2, h3⟩ := h
  exact ⟨h1, hP.outp (fun w W hs hW => by
    obtain ⟨r1, r2⟩ := g10.uniq hs
    subst r1; subst r2
    exact ⟨_, _, h2, g11, h3⟩)⟩
theorem c_outL {σ : zSg} {M : zM} {Z : Nat → Prop} {b : Nat → Nat} {C : Nat → Nat → Nat} {S : Nat → zS} {nw un : Nat} {hs ea fa : Int32} {t : Nat → Nat} {n : Nat} {u : Nat → Nat} {k : Nat} (hP : zPl M Z b C S nw un hs ea fa t n u k) : zCon μJ4_length_8abf5 (2, 0, 0) σ [.ref (b 6)] M (zP (some (.int (nI k))) M) := by
  obtain ⟨-, -, -, -, -, -, -, v, N, v', N', g8, g9, g10, g11, g12, g13⟩ := id hP
  exact c_J4_length g10
theorem c_outA {σ : zSg} {M : zM} {Z : Nat → Prop} {b : Nat → Nat} {C : Nat → Nat → Nat} {S : Nat → zS} {nw un : Nat} {hs ea fa : Int32} {t : Nat → Nat} {n : Nat} {u : Nat → Nat} {k : Nat} (hP : zPl M Z b C S nw un hs ea fa t n u k) {i : Nat} (hi : i < k) : zCon μJ4_charAt_5068e (4, 0, 0) σ [.ref (b 6), .int (nI i)] M (zP (some (.int (nI (u i)))) M) := by
  obtain ⟨-, -, -, -, -, -, -, v, N, v', N', g8, g9, g10, g11, g12, g13⟩ := id hP
  exact c_J4_charAt g10 hi
theorem zPl.outB {M : zM} {Z : Nat → Prop} {b : Nat → Nat} {C : Nat → Nat → Nat} {S : Nat → zS} {nw un : Nat} {hs ea fa : Int32} {t : Nat → Nat} {n : Nat} {u : Nat → Nat} {k : Nat} (hP : zPl M Z b C S nw un hs ea fa t n u k) : ∃ ml v, M (b 6) = some (.inr (1, [.ref v, .int 0, .int ml, .int (nI k)])) := by
  obtain ⟨-, -, -, -, -, -, -, v, N, v', N', g8, g9, g10, g11, g12, g13⟩ := id hP
  obtain ⟨ml, a, h1, _⟩ := g10
  exact ⟨ml, _, h1⟩
theorem zPl.outN {M : zM} {Z : Nat → Prop} {b : Nat → Nat} {C : Nat → Nat → Nat} {S : Nat → zS} {nw un : Nat} {hs ea fa : Int32} {t : Nat → Nat} {n : Nat} {u : Nat → Nat} {k : Nat} (hP : zPl M Z b C S nw un hs ea fa t n u k) : k ≤ 70 := by
  obtain ⟨-, -, -, -, -, -, -, v, N, v', N', g8, g9, g10, g11, g12, g13⟩ := id hP
  obtain ⟨_, _, _, _, _, _, q, _⟩ := g10
  have := g11.le
  omega
theorem zPl.outLt {M : zM} {Z : Nat → Prop} {b : Nat → Nat} {C : Nat → Nat → Nat} {S : Nat → zS} {nw un : Nat} {hs ea fa : Int32} {t : Nat → Nat} {n : Nat} {u : Nat → Nat} {k : Nat} (hP : zPl M Z b C S nw un hs ea fa t n u k) {i : Nat} (hi : i < k) : u i < 256 := by
  obtain ⟨-, -, -, -, -, -, -, v, N, v', N', g8, g9, g10, g11, g12, g13⟩ := id hP
  obtain ⟨_, _, _, _, q, _⟩ := g10
  exact (q i hi).1

theorem c_txtC {σ : zSg} {M : zM} {Z : Nat → Prop} {b : Nat → Nat} {C : Nat → Nat → Nat} {S : Nat → zS} {nw un : Nat} {hs ea fa : Int32} {t : Nat → Nat} {n : Nat} {u : Nat → Nat} {k : Nat} (hP : zPl M Z b C S nw un hs ea fa t n u k) {c : Nat} (hc : c < 256) (hk : n + 1 ≤ 70) : zCon μJ4_append_cf468 (6, 1, 150) σ [.ref (b 4), .int (nI c)] M (zF (some (.ref (b 4))) (fun M' => zPl M' Z b C S nw un hs ea fa (tcC (t, n) c).1 (tcC (t, n) c).2 u k ∧ zKe M M' Z)) := by
  obtain ⟨-, -, -, -, -, -, -, v, N, v', N', g8, g9, g10, g11, g12, g13⟩ := id hP
  have hle : n ≤ N := by obtain ⟨_, _, _, _, _, _, q, _⟩ := g8; exact q
  obtain ⟨e1, e2⟩ := g9.cap hle (Nat.le_succ _) (by omega) hk
  refine (c_J4_appendC g8 hc (Or.inr e2)).post (fun o M' h => ?_)
  obtain ⟨h1, v2, h2, h3⟩ := h
  exact ⟨h1, hP.txt (fun w W hs hW => by
    obtain ⟨r1, r2⟩ := g8.uniq hs
    subst r1; subst r2
    exact ⟨v2, _, h2, e1, h3⟩)⟩
theorem c_txtI {σ : zSg} {M : zM} {Z : Nat → Prop} {b : Nat → Nat} {C : Nat → Nat → Nat} {S : Nat → zS} {nw un : Nat} {hs ea fa : Int32} {t : Nat → Nat} {n : Nat} {u : Nat → Nat} {k : Nat} (hP : zPl M Z b C S nw un hs ea fa t n u k) {c : Nat} (hc : c < 100) (hk : n + 2 ≤ 70) : zCon μJ4_append_bf812 (6, 1, 150) σ [.ref (b 4), .int (nI c)] M (zF (some (.ref (b 4))) (fun M' => zPl M' Z b C S nw un hs ea fa (tcI (t, n) c).1 (tcI (t, n) c).2 u k ∧ zKe M M' Z)) := by
  obtain ⟨-, -, -, -, -, -, -, v, N, v', N', g8, g9, g10, g11, g12, g13⟩ := id hP
  have hle : n ≤ N := by obtain ⟨_, _, _, _, _, _, q, _⟩ := g8; exact q
  have hd : sb_dg c ≤ 2 := by
    rcases Nat.lt_or_ge c 10 with q | q
    · rw [dg1 q]; decide
    · rw [dg2 q hc]; decide
  obtain ⟨e1, e2⟩ := g9.cap hle (Nat.le_add_right _ (sb_dg c)) (by omega) (by omega)
  refine (c_J4_appendI g8 hc (Or.inr e2)).post (fun o M' h => ?_)
  obtain ⟨h1, v2, h2, h3⟩ := h
  exact ⟨h1, hP.txt (fun w W hs hW => by
    obtain ⟨r1, r2⟩ := g8.uniq hs
    subst r1; subst r2
    exact ⟨v2, _, h2, e1, h3⟩)⟩
theorem c_txt0 {σ : zSg} {M : zM} {Z : Nat → Prop} {b : Nat → Nat} {C : Nat → Nat → Nat} {S : Nat → zS} {nw un : Nat} {hs ea fa : Int32} {t : Nat → Nat} {n : Nat} {u : Nat → Nat} {k : Nat} (hP : zPl M Z b C S nw un hs ea fa t n u k) : zCon μJ4_setLength_d00df (6, 0, 0) σ [.ref (b 4), .int 0] M (zF none (fun M' => zPl M' Z b C S nw un hs ea fa t 0 u k ∧ zKe M M' Z)) := by
  obtain ⟨-, -, -, -, -, -, -, v, N, v', N', g8, g9, g10, g11, g12, g13⟩ := id hP
  refine (c_J4_setLength g8).post (fun o M' h => ?_)
  obtain ⟨h1, h2, h3⟩ := h
  exact ⟨h1, hP.txt (fun w W hs hW => by
    obtain ⟨r1, r2⟩ := g8.uniq hs
    subst r1; subst r2
    exact ⟨_, _, h2, g9, h3⟩)⟩
theorem c_txtL {σ : zSg} {M : zM} {Z : Nat → Prop} {b : Nat → Nat} {C : Nat → Nat → Nat} {S : Nat → zS} {nw un : Nat} {hs ea fa : Int32} {t : Nat → Nat} {n : Nat} {u : Nat → Nat} {k : Nat} (hP : zPl M Z b C S nw un hs ea fa t n u k) : zCon μJ4_length_8abf5 (2, 0, 0) σ [.ref (b 4)] M (zP (some (.int (nI n))) M) := by
  obtain ⟨-, -, -, -, -, -, -, v, N, v', N', g8, g9, g10, g11, g12, g13⟩ := id hP
  exact c_J4_length g8
theorem c_txtA {σ : zSg} {M : zM} {Z : Nat → Prop} {b : Nat → Nat} {C : Nat → Nat → Nat} {S : Nat → zS} {nw un : Nat} {hs ea fa : Int32} {t : Nat → Nat} {n : Nat} {u : Nat → Nat} {k : Nat} (hP : zPl M Z b C S nw un hs ea fa t n u k) {i : Nat} (hi : i < n) : zCon μJ4_charAt_5068e (4, 0, 0) σ [.ref (b 4), .int (nI i)] M (zP (some (.int (nI (t i)))) M) := by
  obtain ⟨-, -, -, -, -, -, -, v, N, v', N', g8, g9, g10, g11, g12, g13⟩ := id hP
  exact c_J4_charAt g8 hi
theorem zPl.txtB {M : zM} {Z : Nat → Prop} {b : Nat → Nat} {C : Nat → Nat → Nat} {S : Nat → zS} {nw un : Nat} {hs ea fa : Int32} {t : Nat → Nat} {n : Nat} {u : Nat → Nat} {k : Nat} (hP : zPl M Z b C S nw un hs ea fa t n u k) : ∃ ml v, M (b 4) = some (.inr (1, [.ref v, .int 0, .int ml, .int (nI n)])) := by
  obtain ⟨-, -, -, -, -, -, -, v, N, v', N', g8, g9, g10, g11, g12, g13⟩ := id hP
  obtain ⟨ml, a, h1, _⟩ := g8
  exact ⟨ml, _, h1⟩
theorem zPl.txtN {M : zM} {Z : Nat → Prop} {b : Nat → Nat} {C : Nat → Nat → Nat} {S : Nat → zS} {nw un : Nat} {hs ea fa : Int32} {t : Nat → Nat} {n : Nat} {u : Nat → Nat} {k : Nat} (hP : zPl M Z b C S nw un hs ea fa t n u k) : n ≤ 70 := by
  obtain ⟨-, -, -, -, -, -, -, v, N, v', N', g8, g9, g10, g11, g12, g13⟩ := id hP
  obtain ⟨_, _, _, _, _, _, q, _⟩ := g8
  have := g9.le
  omega
theorem zPl.txtLt {M : zM} {Z : Nat → Prop} {b : Nat → Nat} {C : Nat → Nat → Nat} {S : Nat → zS} {nw un : Nat} {hs ea fa : Int32} {t : Nat → Nat} {n : Nat} {u : Nat → Nat} {k : Nat} (hP : zPl M Z b C S nw un hs ea fa t n u k) {i : Nat} (hi : i < n) : t i < 256 := by
  obtain ⟨-, -, -, -, -, -, -, v, N, v', N', g8, g9, g10, g11, g12, g13⟩ := id hP
  obtain ⟨_, _, _, _, q, _⟩ := g8
  exact (q i hi).1

set_option maxRecDepth 100000 in
set_option maxHeartbeats 4000000 in
theorem c_X8_outAt_1 {σ : zSg} {M : zM} {Z : Nat → Prop} {b : Nat → Nat} {C : Nat → Nat → Nat} {S : Nat → zS} {nw un : Nat} {hs ea fa : Int32} {t : Nat → Nat} {n : Nat} {u : Nat → Nat} {k : Nat} (hP : zPl M Z b C S nw un hs ea fa t n u k) {i : Nat} (hi : i < k) : zCon μX8_outputAt (5, 1, 6) σ [.ref (b 0), .int (nI i)] M (zP (some (.int (nI (u i)))) M) := by
  have hnw : nw < 10 := hP.2.1.1
  have hC := hP.1.cen (i := nw) (by omega)
  have hO := hP.1.ok (i := nw) (by omega)
  obtain ⟨ml, v6, hB⟩ := hP.outB
  have hkN := hP.outN
  refine zCon.of (plainFor_of_name (by decide)) rfl (Nat.le_of_ble_eq_true rfl) ?_
  change zV _ _ _ _ _ 0 0 0 [(0, .ref (b 0)), (1, .int (nI i))] []
  refine zv_iload_n (n := 1) dX8_outputAt_0 rfl rfl ?_
  refine zv_if_lt (n := 4) (tgt := 15) dX8_outputAt_1 (by decide) rfl (fun h1 => False.elim (nI_pos (by omega) h1)) (fun h1 => ?_)
  refine zv_iload_n (n := 5) dX8_outputAt_4 rfl rfl ?_
  refine zv_aload_n (n := 6) dX8_outputAt_5 rfl rfl ?_
  refine zv_get (n := 9) dX8_outputAt_6 rfl hP.2.2.1 FX8_40 rfl ?_
  refine zv_callVP (n := 12) (As := []) (rest := [.int (nI i)]) (kc' := 0) (ks' := 0) dX8_outputAt_9 rfl (c_outL hP) rfl kJ4_length_8abf5 lX8_247 hB rfl rfl rfl ⟨by decide, by decide⟩ (Nat.le_of_ble_eq_true rfl) rfl rfl (by decide) (by decide) ?_
  refine zv_icmp_lt (n := 15) (tgt := 25) dX8_outputAt_12 (by decide) rfl (fun h12 => ?_) (fun h12 => False.elim (h12 (nI_lt hi (by omega))))
  refine zv_aload_n (n := 26) dX8_outputAt_25 rfl rfl ?_
  refine zv_get (n := 29) dX8_outputAt_26 rfl hP.2.2.1 FX8_40 rfl ?_
  refine zv_iload_n (n := 30) dX8_outputAt_29 rfl rfl ?_
  refine zv_callVP (n := 33) (As := [.int (nI i)]) (rest := []) (kc' := 0) (ks' := 0) dX8_outputAt_30 rfl (c_outA hP hi) rfl kJ4_charAt_5068e lX8_255 hB rfl rfl rfl ⟨by decide, by decide⟩ (Nat.le_of_ble_eq_true rfl) rfl rfl (by decide) (by decide) ?_
  refine zv_zret dX8_outputAt_33 rfl (nar_ch (hP.outLt hi)) (by decide) (by decide) ?_
  exact zPi

set_option maxRecDepth 100000 in
set_option maxHeartbeats 4000000 in
theorem c_X8_outAt_0 {σ : zSg} {M : zM} {Z : Nat → Prop} {b : Nat → Nat} {C : Nat → Nat → Nat} {S : Nat → zS} {nw un : Nat} {hs ea fa : Int32} {t : Nat → Nat} {n : Nat} {u : Nat → Nat} {k : Nat} (hP : zPl M Z b C S nw un hs ea fa t n u k) {x : Int32} (hx : x < 0 ∨ nI k ≤ x) : zCon μX8_outputAt (5, 1, 6) σ [.ref (b 0), .int x] M (zT9 "java/lang/IndexOutOfBoundsException" M) := by
  have hnw : nw < 10 := hP.2.1.1
  have hC := hP.1.cen (i := nw) (by omega)
  have hO := hP.1.ok (i := nw) (by omega)
  obtain ⟨ml, v6, hB⟩ := hP.outB
  refine zCon.of (plainFor_of_name (by decide)) rfl (Nat.le_of_ble_eq_true rfl) ?_
  change zV _ _ _ _ _ 0 0 0 [(0, .ref (b 0)), (1, .int x)] []
  refine zv_iload_n (n := 1) dX8_outputAt_0 rfl rfl ?_
  refine zv_if_lt (n := 4) (tgt := 15) dX8_outputAt_1 (by decide) rfl (fun h1 => ?_) (fun h1 => ?_)
  · skip
    refine zv_throwS (j := 29) (names := ["java/lang/RuntimeException", "java/lang/Exception"]) hfit_IndexOutOfBounds.1 hfit_IndexOutOfBounds.2 eX8_154 ini_IndexOutOfBoundsException rfl rfl rfl hat_IndexOutOfBounds hgo_IndexOutOfBounds dX8_outputAt_15 dX8_outputAt_18 dX8_outputAt_19 dX8_outputAt_21 dX8_outputAt_24 rfl (by decide) (by decide) (by decide) (by decide) ?_
    exact ⟨rfl, rfl⟩
  · skip
    refine zv_iload_n (n := 5) dX8_outputAt_4 rfl rfl ?_
    refine zv_aload_n (n := 6) dX8_outputAt_5 rfl rfl ?_
    refine zv_get (n := 9) dX8_outputAt_6 rfl hP.2.2.1 FX8_40 rfl ?_
    refine zv_callVP (n := 12) (As := []) (rest := [.int x]) (kc' := 0) (ks' := 0) dX8_outputAt_9 rfl (c_outL hP) rfl kJ4_length_8abf5 lX8_247 hB rfl rfl rfl ⟨by decide, by decide⟩ (Nat.le_of_ble_eq_true rfl) rfl rfl (by decide) (by decide) ?_
    refine zv_icmp_lt (n := 15) (tgt := 25) dX8_outputAt_12 (by decide) rfl (fun h12 => False.elim (hx.elim h1 (fun q => absurd h12 (Int32.not_lt.mpr q)))) (fun h12 => ?_)
    refine zv_throwS (j := 29) (names := ["java/lang/RuntimeException", "java/lang/Exception"]) hfit_IndexOutOfBounds.1 hfit_IndexOutOfBounds.2 eX8_154 ini_IndexOutOfBoundsException rfl rfl rfl hat_IndexOutOfBounds hgo_IndexOutOfBounds dX8_outputAt_15 dX8_outputAt_18 dX8_outputAt_19 dX8_outputAt_21 dX8_outputAt_24 rfl (by decide) (by decide) (by decide) (by decide) ?_
    exact ⟨rfl, rfl⟩

set_option maxRecDepth 100000 in
set_option maxHeartbeats 4000000 in
theorem c_X8_undo_0 {σ : zSg} {M : zM} {Z : Nat → Prop} {b : Nat → Nat} {C : Nat → Nat → Nat} {S : Nat → zS} {nw un : Nat} {hs ea fa : Int32} {t : Nat → Nat} {n : Nat} {u : Nat → Nat} {k : Nat} (hP : zPl M Z b C S nw un hs ea fa t n u k) (h0 : un = 0) : zCon μX8_undo (3, 1, 6) σ [.ref (b 0)] M (zT9 "java/util/NoSuchElementException" M) := by
  refine zCon.of (plainFor_of_name (by decide)) rfl (Nat.le_of_ble_eq_true rfl) ?_
  change zV _ _ _ _ _ 0 0 0 [(0, .ref (b 0))] []
  refine zv_aload_n (n := 1) dX8_undo_0 rfl rfl ?_
  refine zv_get (n := 4) dX8_undo_1 rfl hP.2.2.1 FX8_10 rfl ?_
  refine zv_callVP (n := 7) (As := []) (rest := []) (kc' := 0) (ks' := 0) dX8_undo_4 rfl (c_X7_goBack_0 hP.2.1 h0) rfl kX7_goBack lX8_292 hP.2.1.2.2.1 rfl rfl rfl ⟨by decide, by decide⟩ (Nat.le_of_ble_eq_true rfl) rfl rfl (by decide) (by decide) ?_
  refine zv_callST (n := 10) (As := [.int (-1)]) (rest := []) (kc' := 1) (ks' := 6) dX8_undo_7 rfl (c_X8_found_0) rfl kX8_found lX8_136 rfl rfl ⟨by decide, by decide⟩ (Nat.le_of_ble_eq_true rfl) rfl rfl (by decide) (by decide) ?_
  exact zvx_out rfl (by decide) (by decide) ⟨rfl, rfl⟩

set_option maxRecDepth 100000 in
set_option maxHeartbeats 4000000 in
theorem c_X8_undo_1 {σ : zSg} {M : zM} {Z : Nat → Prop} {b : Nat → Nat} {C : Nat → Nat → Nat} {S : Nat → zS} {nw un : Nat} {hs ea fa : Int32} {t : Nat → Nat} {n : Nat} {u : Nat → Nat} {k : Nat} (hP : zPl M Z b C S nw un hs ea fa t n u k) (h0 : 0 < un) : zCon μX8_undo (3, 1, 6) σ [.ref (b 0)] M (zF (some (.int (nI (un - 1)))) (fun M' => zPl M' Z b C S (pv nw) (un - 1) hs ea fa t n u k ∧ zKe M M' Z)) := by
  refine zCon.of (plainFor_of_name (by decide)) rfl (Nat.le_of_ble_eq_true rfl) ?_
  change zV _ _ _ _ _ 0 0 0 [(0, .ref (b 0))] []
  refine zv_aload_n (n := 1) dX8_undo_0 rfl rfl ?_
  refine zv_get (n := 4) dX8_undo_1 rfl hP.2.2.1 FX8_10 rfl ?_
  refine zv_callVF (n := 7) (As := []) (rest := []) (kc' := 0) (ks' := 0) dX8_undo_4 rfl (c_X7_goBack_1 hP.2.1 h0) rfl kX7_goBack lX8_292 hP.2.1.2.2.1 rfl rfl rfl ⟨by decide, by decide⟩ (Nat.le_of_ble_eq_true rfl) rfl rfl (by decide) (by decide) (fun M1 hq => ?_)
  have hun : un ≤ 8 := hP.2.1.2.1
  refine zv_callSP (n := 10) (As := [.int (nI (un - 1))]) (rest := []) (kc' := 1) (ks' := 6) dX8_undo_7 rfl (c_X8_found_1 (fun q => nI_pos (n := un - 1) (by omega) (by rw [q]; decide))) rfl kX8_found lX8_136 rfl rfl ⟨by decide, by decide⟩ (Nat.le_of_ble_eq_true rfl) rfl rfl (by decide) (by decide) ?_
  refine zv_iret dX8_undo_10 rfl (by decide) (by decide) ?_
  exact zFi (hP.tl hq.1 hq.2)

set_option maxRecDepth 100000 in
set_option maxHeartbeats 4000000 in
theorem c_X8_save {σ : zSg} {M : zM} {Z : Nat → Prop} {b : Nat → Nat} {C : Nat → Nat → Nat} {S : Nat → zS} {nw un : Nat} {hs ea fa : Int32} {t : Nat → Nat} {n : Nat} {u : Nat → Nat} {k : Nat} (hP : zPl M Z b C S nw un hs ea fa t n u k)  : zCon μX8_save (6, 0, 0) σ [.ref (b 0)] M (zF (some (.int (S nw 0))) (fun M' => zPl M' Z b C (va_up S 10 (S nw)) nw un 1 ea fa t n u k ∧ zKe M M' Z)) := by
  have hnw : nw < 10 := hP.2.1.1
  have hC := hP.1.cen (i := nw) (by omega)
  have hO := hP.1.ok (i := nw) (by omega)
  refine zCon.of (plainFor_of_name (by decide)) rfl (Nat.le_of_ble_eq_true rfl) ?_
  change zV _ _ _ _ _ 0 0 0 [(0, .ref (b 0))] []
  refine zv_aload_n (n := 1) dX8_save_0 rfl rfl ?_
  refine zv_get (n := 4) dX8_save_1 rfl hP.2.2.1 FX8_19 rfl ?_
  refine zv_aload_n (n := 5) dX8_save_4 rfl rfl ?_
  refine zv_callVP (n := 8) (As := []) (rest := [.ref (C 10 0)]) (kc' := 0) (ks' := 0) dX8_save_5 rfl (c_X8_now hP) rfl kX8_now lX8_87 hP.2.2.1 rfl rfl rfl ⟨by decide, by decide⟩ (Nat.le_of_ble_eq_true rfl) rfl rfl (by decide) (by decide) ?_
  refine zv_callVF0 (n := 11) (As := [.ref (C nw 0)]) (rest := []) (kc' := 0) (ks' := 0) dX8_save_8 rfl (c_X1_copyFrom (hP.1.cen (i := 10) (by decide)) hC (hP.1.2 10 nw (by decide) (by omega) (by omega))) rfl kX1_copyFrom lX8_295 (hP.1.cen (i := 10) (by decide)).c0 rfl rfl rfl ⟨by decide, by decide⟩ (Nat.le_of_ble_eq_true rfl) rfl rfl (by decide) (by decide) (fun M1 hq => ?_)
  obtain ⟨hP1, hz1⟩ := hP.cen (by decide) hq.1 hO hq.2
  refine zv_aload_n (n := 12) dX8_save_11 rfl rfl ?_
  refine zv_iconst (n := 13) dX8_save_12 rfl (v := 1) (by decide) ?_
  refine zv_put (n := 16) dX8_save_13 rfl hP1.2.2.1 FX8_299 zcl_X8 zty_X8_2 rfl rfl (Nat.le_of_ble_eq_true rfl) ?_
  obtain ⟨hP2, hz2⟩ := hP1.own (M' := M1) 1 ea fa
  have hC2 := hP2.1.cen (i := 10) (by decide)
  rw [va_up_self] at hC2
  refine zv_aload_n (n := 17) dX8_save_16 rfl rfl ?_
  refine zv_get (n := 20) dX8_save_17 rfl hP2.2.2.1 FX8_19 rfl ?_
  refine zv_getN (n := 23) dX8_save_20 rfl hC2.c0 FX8_94 rfl ?_
  refine zv_getN (n := 26) dX8_save_23 rfl hC2.c1 FX8_98 rfl ?_
  refine zv_iret dX8_save_26 rfl (by decide) (by decide) ?_
  exact zFi ⟨hP2, hz1.tr hz2⟩

set_option maxRecDepth 100000 in
set_option maxHeartbeats 4000000 in
theorem c_X8_restore_0 {σ : zSg} {M : zM} {Z : Nat → Prop} {b : Nat → Nat} {C : Nat → Nat → Nat} {S : Nat → zS} {nw un : Nat} {hs ea fa : Int32} {t : Nat → Nat} {n : Nat} {u : Nat → Nat} {k : Nat} (hP : zPl M Z b C S nw un hs ea fa t n u k) (h0 : hs = 0) : zCon μX8_restore (6, 1, 6) σ [.ref (b 0)] M (zT9 "java/lang/IllegalStateException" M) := by
  refine zCon.of (plainFor_of_name (by decide)) rfl (Nat.le_of_ble_eq_true rfl) ?_
  change zV _ _ _ _ _ 0 0 0 [(0, .ref (b 0))] []
  refine zv_aload_n (n := 1) dX8_restore_0 rfl rfl ?_
  refine zv_get (n := 4) dX8_restore_1 rfl hP.2.2.1 FX8_299 rfl ?_
  refine zv_if_ne (n := 7) (tgt := 18) dX8_restore_4 (by decide) rfl (fun h4 => False.elim (h4 h0)) (fun h4 => ?_)
  refine zv_throwSW (j := 27) (names := ["java/lang/RuntimeException", "java/lang/Exception"]) hfit_IllegalState.1 hfit_IllegalState.2 eX8_264 ini_IllegalStateException rfl rfl rfl hat_IllegalState hgo_IllegalState dX8_restore_7 dX8_restore_10 dX8_restore_11 dX8_restore_14 dX8_restore_17 rfl (by decide) (by decide) (by decide) (by decide) ?_
  exact ⟨rfl, rfl⟩

set_option maxRecDepth 100000 in
set_option maxHeartbeats 4000000 in
theorem c_X8_restore_1 {σ : zSg} {M : zM} {Z : Nat → Prop} {b : Nat → Nat} {C : Nat → Nat → Nat} {S : Nat → zS} {nw un : Nat} {hs ea fa : Int32} {t : Nat → Nat} {n : Nat} {u : Nat → Nat} {k : Nat} (hP : zPl M Z b C S nw un hs ea fa t n u k) (h0 : ¬ hs = 0) : zCon μX8_restore (6, 1, 6) σ [.ref (b 0)] M (zF (some (.int (S 10 0))) (fun M' => zPl M' Z b C (va_up S nw (S 10)) nw 0 hs ea fa t n u k ∧ zKe M M' Z)) := by
  have hnw : nw < 10 := hP.2.1.1
  have hC := hP.1.cen (i := nw) (by omega)
  have hO := hP.1.ok (i := nw) (by omega)
  refine zCon.of (plainFor_of_name (by decide)) rfl (Nat.le_of_ble_eq_true rfl) ?_
  change zV _ _ _ _ _ 0 0 0 [(0, .ref (b 0))] []
  refine zv_aload_n (n := 1) dX8_restore_0 rfl rfl ?_
  refine zv_get (n := 4) dX8_restore_1 rfl hP.2.2.1 FX8_299 rfl ?_
  refine zv_if_ne (n := 7) (tgt := 18) dX8_restore_4 (by decide) rfl (fun h4 => ?_) (fun h4 => False.elim (h0 h4))
  refine zv_aload_n (n := 19) dX8_restore_18 rfl rfl ?_
  refine zv_get (n := 22) dX8_restore_19 rfl hP.2.2.1 FX8_10 rfl ?_
  refine zv_aload_n (n := 23) dX8_restore_22 rfl rfl ?_
  refine zv_get (n := 26) dX8_restore_23 rfl hP.2.2.1 FX8_19 rfl ?_
  refine zv_callVF0 (n := 29) (As := [.ref (C 10 0)]) (rest := []) (kc' := 0) (ks' := 0) dX8_restore_26 rfl (c_X7_startAnewFrom hP.2.1 hP.1) rfl kX7_startAnewFrom lX8_305 hP.2.1.2.2.1 rfl rfl rfl ⟨by decide, by decide⟩ (Nat.le_of_ble_eq_true rfl) rfl rfl (by decide) (by decide) (fun M1 hq => ?_)
  obtain ⟨hP1, hz1⟩ := hP.out hq.1 hq.2.1 hq.2.2
  have hC2 := hP1.1.cen (i := 10) (by decide)
  rw [va_up_ne _ _ (by omega)] at hC2
  refine zv_aload_n (n := 30) dX8_restore_29 rfl rfl ?_
  refine zv_get (n := 33) dX8_restore_30 rfl hP1.2.2.1 FX8_19 rfl ?_
  refine zv_getN (n := 36) dX8_restore_33 rfl hC2.c0 FX8_94 rfl ?_
  refine zv_getN (n := 39) dX8_restore_36 rfl hC2.c1 FX8_98 rfl ?_
  refine zv_iret dX8_restore_39 rfl (by decide) (by decide) ?_
  exact zFi ⟨hP1, hz1⟩

/-! The ring of states: laid by wip/p53/m26.py. -/
def okTag (n : Nat) : Bool := !(n == 4 || n == 5 || n == 6 || n == 7 || n == 212 || n == 303 || n == 304 || n == 512)
theorem ctag_ok (i : Nat) (hi : i < 20) : okTag (ctag i) = false := by
  have key : ∀ i : Fin 20, okTag (ctag i.1) = false := by decide +kernel
  exact key ⟨i, hi⟩
/-- what isn't a centre's -/
theorem zCen.out {M : zM} {c : Nat → Nat} {S : zS} (h : zCen M c S) {x : Nat} {e : zE} (hx : M x = some e) (ht : okTag (ztag e) = true) : ∀ i, i < 20 → x ≠ c i := by
  intro i hi q
  obtain ⟨e', h1, h2⟩ := h.tag hi
  rw [← q, hx] at h1
  cases h1
  rw [h2, ctag_ok i hi] at ht
  cases ht
/-- all eleven centres: ten of the ring, the snapshot -/
def zAll (M : zM) (C : Nat → Nat → Nat) (S : Nat → zS) : Prop := (∀ i, i < 11 → zCen M (C i) (S i) ∧ zOk (S i)) ∧ ∀ i k, i < 11 → k < 11 → i ≠ k → zApart (C i) (C k)
/-- what changes: only cells of centres, and x -/
def zOut (M M' : zM) (C : Nat → Nat → Nat) (x : Nat) : Prop := ∀ a, a ≠ x → (∀ i j, i < 11 → j < 20 → a ≠ C i j) → M' a = M a
theorem zOut.rf {M : zM} {C : Nat → Nat → Nat} {x : Nat} : zOut M M C x := fun _ _ _ => rfl
theorem zOut.tr {M M' M2 : zM} {C : Nat → Nat → Nat} {x : Nat} (h : zOut M M' C x) (h2 : zOut M' M2 C x) : zOut M M2 C x := fun a h3 h4 => (h2 a h3 h4).trans (h a h3 h4)
theorem zOff.out {M M' : zM} {C : Nat → Nat → Nat} {x k : Nat} (h : zOff M M' (C k)) (hk : k < 11) : zOut M M' C x := fun a _ h4 => h a (fun i hi => h4 k i hk hi)
theorem zOut.up {M : zM} {C : Nat → Nat → Nat} {x : Nat} {e : zE} : zOut M (zup M x e) C x := fun _ h3 _ => zup_n h3
theorem zAll.cen {M : zM} {C : Nat → Nat → Nat} {S : Nat → zS} (h : zAll M C S) {i : Nat} (hi : i < 11) : zCen M (C i) (S i) := (h.1 i hi).1
theorem zAll.ok {M : zM} {C : Nat → Nat → Nat} {S : Nat → zS} (h : zAll M C S) {i : Nat} (hi : i < 11) : zOk (S i) := (h.1 i hi).2
theorem zAll.upd {M M' : zM} {C : Nat → Nat → Nat} {S : Nat → zS} (h : zAll M C S) {k : Nat} (hk : k < 11) {T : zS} (hT : zCen M' (C k) T) (hO : zOk T) (ho : zOff M M' (C k)) : zAll M' C (va_up S k T) := by
  refine ⟨fun i hi => ?_, h.2⟩
  by_cases e : i = k
  · subst e; rw [va_up_self]; exact ⟨hT, hO⟩
  · rw [va_up_ne _ _ e]
    exact ⟨(h.cen hi).keep (h.2 k i hk hi (fun e2 => e e2.symm)) ho, h.ok hi⟩
theorem zAll.out {M : zM} {C : Nat → Nat → Nat} {S : Nat → zS} (h : zAll M C S) {x : Nat} {e : zE} (hx : M x = some e) (ht : okTag (ztag e) = true) : ∀ i j, i < 11 → j < 20 → x ≠ C i j := fun i j hi hj => (h.cen hi).out hx ht j hj
theorem zAll.frame {M M' : zM} {C : Nat → Nat → Nat} {S : Nat → zS} (h : zAll M C S) (hf : ∀ i j, i < 11 → j < 20 → M' (C i j) = M (C i j)) : zAll M' C S := ⟨fun i hi => ⟨(h.cen hi).frame (fun j hj => hf i j hi hj), h.ok hi⟩, h.2⟩
/-- the timeline -/
def zTl (M : zM) (b1 b2 : Nat) (C : Nat → Nat → Nat) (nw un : Nat) : Prop := nw < 10 ∧ un ≤ 8 ∧ M b1 = some (.inr (9, [.ref b2, .int (nI nw), .int (nI un)])) ∧ ∃ f, M b2 = some (zAC 10 f) ∧ ∀ i, i < 10 → f i = some (C i 0)
theorem zTl.keep {M M' : zM} {b1 b2 : Nat} {C : Nat → Nat → Nat} {nw un : Nat} (h : zTl M b1 b2 C nw un) (e1 : M' b1 = M b1) (e2 : M' b2 = M b2) : zTl M' b1 b2 C nw un := by
  obtain ⟨h1, h2, h3, f, h4, h5⟩ := h
  exact ⟨h1, h2, e1.trans h3, f, e2.trans h4, h5⟩
theorem zTl.off {M M' : zM} {b1 b2 : Nat} {C : Nat → Nat → Nat} {S : Nat → zS} {nw un k : Nat} (h : zTl M b1 b2 C nw un) (hA : zAll M C S) (hk : k < 11) (ho : zOff M M' (C k)) : zTl M' b1 b2 C nw un := by
  obtain ⟨h1, h2, h3, f, h4, h5⟩ := id h
  exact h.keep (ho _ (fun i hi => hA.out h3 rfl k i hk hi)) (ho _ (fun i hi => hA.out h4 rfl k i hk hi))
def nx (n : Nat) : Nat := (n + 1) % 10
def pv (n : Nat) : Nat := (n + 9) % 10
theorem fmd0 {n : Nat} (h : n < 10) : fFM (nI n) 10 = nI n := by
  have key : ∀ i : Fin 10, fFM (nI i.1) 10 = nI i.1 := by decide +kernel
  exact key ⟨n, h⟩
theorem fmd1 {n : Nat} (h : n < 10) : fFM (nI n + 1) 10 = nI (nx n) := by
  have key : ∀ i : Fin 10, fFM (nI i.1 + 1) 10 = nI (nx i.1) := by decide +kernel
  exact key ⟨n, h⟩
theorem fmd9 {n : Nat} (h : n < 10) : fFM (nI n - 1) 10 = nI (pv n) := by
  have key : ∀ i : Fin 10, fFM (nI i.1 - 1) 10 = nI (pv i.1) := by decide +kernel
  exact key ⟨n, h⟩
theorem nx_lt (n : Nat) : nx n < 10 := Nat.mod_lt _ (by decide)
theorem pv_lt (n : Nat) : pv n < 10 := Nat.mod_lt _ (by decide)
theorem nx_ne {n : Nat} (h : n < 10) : nx n ≠ n := by
  unfold nx
  omega

set_option maxRecDepth 100000 in
set_option maxHeartbeats 4000000 in
theorem c_X7_stateAt {σ : zSg} {M : zM} {b1 b2 : Nat} {C : Nat → Nat → Nat} {nw un : Nat} (hT : zTl M b1 b2 C nw un) {p : Int32} {k : Nat} (hk : k < 10) (hp : fFM p 10 = nI k) : zCon μX7_stateAt (2, 0, 0) σ [.ref b1, .int p] M (zP (some (.ref (C k 0))) M) := by
  obtain ⟨hnw, hun, h1, f, h2, hf⟩ := hT
  refine zCon.of (plainFor_of_name (by decide)) rfl (Nat.le_of_ble_eq_true rfl) ?_
  change zV _ _ _ _ _ 0 0 0 [(0, .ref b1), (1, .int p)] []
  refine zv_aload_n (n := 1) dX7_stateAt_0 rfl rfl ?_
  refine zv_get (n := 4) dX7_stateAt_1 rfl h1 FX7_13 rfl ?_
  refine zv_iload_n (n := 5) dX7_stateAt_4 rfl rfl ?_
  refine zv_bipush (n := 7) dX7_stateAt_5 rfl (v := 10) (by decide) ?_
  refine zv_callSP (n := 10) (As := [.int p, .int 10]) (rest := [.ref b2]) (kc' := 0) (ks' := 0) dX7_stateAt_7 rfl (c_floorMod p 10 (by decide)) rfl kJ9_floorMod_7cf53 lX7_34 rfl rfl ⟨by decide, by decide⟩ (Nat.le_of_ble_eq_true rfl) rfl rfl (by decide) (by decide) ?_
  rw [hp]
  refine zv_aldC' (n := 11) dX7_stateAt_10 rfl h2 (vp_in_nI (by omega) (by decide)) (by rw [nI_clamp (by omega)]; exact hf k hk) ?_
  refine zv_aret dX7_stateAt_11 rfl (Or.inl ⟨_, rfl⟩) (by decide) (by decide) ?_
  exact zPi

set_option maxRecDepth 100000 in
set_option maxHeartbeats 4000000 in
theorem c_X7_present {σ : zSg} {M : zM} {b1 b2 : Nat} {C : Nat → Nat → Nat} {nw un : Nat} (hT : zTl M b1 b2 C nw un)  : zCon μX7_present (3, 0, 0) σ [.ref b1] M (zP (some (.ref (C nw 0))) M) := by
  obtain ⟨hnw, hun, h1, f, h2, hf⟩ := id hT
  refine zCon.of (plainFor_of_name (by decide)) rfl (Nat.le_of_ble_eq_true rfl) ?_
  change zV _ _ _ _ _ 0 0 0 [(0, .ref b1)] []
  refine zv_aload_n (n := 1) dX7_present_0 rfl rfl ?_
  refine zv_aload_n (n := 2) dX7_present_1 rfl rfl ?_
  refine zv_get (n := 5) dX7_present_2 rfl h1 FX7_18 rfl ?_
  refine zv_callVP (n := 8) (As := [.int (nI nw)]) (rest := []) (kc' := 0) (ks' := 0) dX7_present_5 rfl (c_X7_stateAt hT hnw (fmd0 hnw)) rfl kX7_stateAt lX7_22 h1 rfl rfl rfl ⟨by decide, by decide⟩ (Nat.le_of_ble_eq_true rfl) rfl rfl (by decide) (by decide) ?_
  refine zv_aret dX7_present_8 rfl (Or.inl ⟨_, rfl⟩) (by decide) (by decide) ?_
  exact zPi

set_option maxRecDepth 100000 in
set_option maxHeartbeats 4000000 in
theorem c_X7_draft {σ : zSg} {M : zM} {b1 b2 : Nat} {C : Nat → Nat → Nat} {S : Nat → zS} {nw un : Nat} (hT : zTl M b1 b2 C nw un) (hA : zAll M C S) : zCon μX7_draft (5, 0, 0) σ [.ref b1] M (zF (some (.ref (C (nx nw) 0))) (fun M' => zAll M' C (va_up S (nx nw) (S nw)) ∧ zOff M M' (C (nx nw)))) := by
  obtain ⟨hnw, hun, h1, f, h2, hf⟩ := id hT
  refine zCon.of (plainFor_of_name (by decide)) rfl (Nat.le_of_ble_eq_true rfl) ?_
  change zV _ _ _ _ _ 0 0 0 [(0, .ref b1)] []
  refine zv_aload_n (n := 1) dX7_draft_0 rfl rfl ?_
  refine zv_aload_n (n := 2) dX7_draft_1 rfl rfl ?_
  refine zv_get (n := 5) dX7_draft_2 rfl h1 FX7_18 rfl ?_
  refine zv_iconst (n := 6) dX7_draft_5 rfl (v := 1) (by decide) ?_
  refine zv_iadd (n := 7) dX7_draft_6 rfl ?_
  refine zv_callVP (n := 10) (As := [.int ((nI nw) + 1)]) (rest := []) (kc' := 0) (ks' := 0) dX7_draft_7 rfl (c_X7_stateAt hT (nx_lt nw) (fmd1 hnw)) rfl kX7_stateAt lX7_22 h1 rfl rfl rfl ⟨by decide, by decide⟩ (Nat.le_of_ble_eq_true rfl) rfl rfl (by decide) (by decide) ?_
  refine zv_astore_n (n := 11) (lv' := [(1, .ref (C (nx nw) 0)), (0, .ref b1)]) dX7_draft_10 rfl (by decide) rfl ?_
  refine zv_aload_n (n := 12) dX7_draft_11 rfl rfl ?_
  refine zv_aload_n (n := 13) dX7_draft_12 rfl rfl ?_
  refine zv_callVP (n := 16) (As := []) (rest := [.ref (C (nx nw) 0)]) (kc' := 0) (ks' := 0) dX7_draft_13 rfl (c_X7_present hT) rfl kX7_present lX7_26 h1 rfl rfl rfl ⟨by decide, by decide⟩ (Nat.le_of_ble_eq_true rfl) rfl rfl (by decide) (by decide) ?_
  refine zv_callVF0 (n := 19) (As := [.ref (C nw 0)]) (rest := []) (kc' := 0) (ks' := 0) dX7_draft_16 rfl (c_X1_copyFrom (hA.cen (i := nx nw) (by have := nx_lt nw; omega)) (hA.cen (i := nw) (by omega)) (hA.2 (nx nw) nw (by have := nx_lt nw; omega) (by omega) (nx_ne hnw))) rfl kX1_copyFrom lX7_30 (hA.cen (i := nx nw) (by have := nx_lt nw; omega)).c0 rfl rfl rfl ⟨by decide, by decide⟩ (Nat.le_of_ble_eq_true rfl) rfl rfl (by decide) (by decide) (fun M1 hq => ?_)
  refine zv_aload_n (n := 20) dX7_draft_19 rfl rfl ?_
  refine zv_aret dX7_draft_20 rfl (Or.inl ⟨_, rfl⟩) (by decide) (by decide) ?_
  exact zFi ⟨hA.upd (by have := nx_lt nw; omega) hq.1 (hA.ok (by omega)) hq.2, hq.2⟩

theorem fMin8 {un : Nat} (h : un ≤ 8) : fMin (nI (un + 1)) (nI 8) = nI (if un < 8 then un + 1 else 8) := by
  rw [fMin_nI (by omega) (by decide)]
  by_cases h8 : un < 8
  · rw [if_pos h8, if_neg (by omega)]
  · rw [if_neg h8, if_pos (by omega)]

set_option maxRecDepth 100000 in
set_option maxHeartbeats 4000000 in
theorem c_X7_keepDraft {σ : zSg} {M : zM} {b1 b2 : Nat} {C : Nat → Nat → Nat} {nw un : Nat} (hT : zTl M b1 b2 C nw un)  : zCon μX7_keepDraft (2, 0, 0) σ [.ref b1] M (zF none (fun M' => zTl M' b1 b2 C (nx nw) (if un < 8 then un + 1 else 8) ∧ ∀ a, a ≠ b1 → M' a = M a)) := by
  obtain ⟨hnw, hun, h1, f, h2, hf⟩ := id hT
  refine zCon.of (plainFor_of_name (by decide)) rfl (Nat.le_of_ble_eq_true rfl) ?_
  change zV _ _ _ _ _ 0 0 0 [(0, .ref b1)] []
  refine zv_aload_n (n := 1) dX7_keepDraft_0 rfl rfl ?_
  refine zv_aload_n (n := 2) dX7_keepDraft_1 rfl rfl ?_
  refine zv_get (n := 5) dX7_keepDraft_2 rfl h1 FX7_18 rfl ?_
  refine zv_iconst (n := 6) dX7_keepDraft_5 rfl (v := 1) (by decide) ?_
  refine zv_iadd (n := 7) dX7_keepDraft_6 rfl ?_
  refine zv_bipush (n := 9) dX7_keepDraft_7 rfl (v := 10) (by decide) ?_
  refine zv_callSP (n := 12) (As := [.int ((nI nw) + 1), .int 10]) (rest := [.ref b1]) (kc' := 0) (ks' := 0) dX7_keepDraft_9 rfl (c_floorMod (nI nw + 1) 10 (by decide)) rfl kJ9_floorMod_7cf53 lX7_34 rfl rfl ⟨by decide, by decide⟩ (Nat.le_of_ble_eq_true rfl) rfl rfl (by decide) (by decide) ?_
  rw [fmd1 hnw]
  refine zv_put (n := 15) dX7_keepDraft_12 rfl h1 FX7_18 zcl_X7 zty_X7_1 rfl rfl (Nat.le_of_ble_eq_true rfl) ?_
  refine zv_aload_n (n := 16) dX7_keepDraft_15 rfl rfl ?_
  refine zv_aload_n (n := 17) dX7_keepDraft_16 rfl rfl ?_
  refine zv_get (n := 20) dX7_keepDraft_17 rfl zup_s FX7_40 rfl ?_
  refine zv_iconst (n := 21) dX7_keepDraft_20 rfl (v := 1) (by decide) ?_
  refine zv_iadd (n := 22) dX7_keepDraft_21 rfl ?_
  rw [nI_1]
  refine zv_bipush (n := 24) dX7_keepDraft_22 rfl (v := 8) (by decide) ?_
  refine zv_callSP (n := 27) (As := [.int (nI (un + 1)), .int 8]) (rest := [.ref b1]) (kc' := 0) (ks' := 0) dX7_keepDraft_24 rfl (c_min (nI (un + 1)) (nI 8)) rfl kJ9_min_7cf53 lX7_43 rfl rfl ⟨by decide, by decide⟩ (Nat.le_of_ble_eq_true rfl) rfl rfl (by decide) (by decide) ?_
  rw [fMin8 hun]
  refine zv_put (n := 30) dX7_keepDraft_27 rfl zup_s FX7_40 zcl_X7 zty_X7_2 rfl rfl (Nat.le_of_ble_eq_true rfl) ?_
  refine zv_vret dX7_keepDraft_30 rfl (by decide) (by decide) ?_
  rw [zup_zup]
  refine zFi ⟨⟨nx_lt nw, ?_, zup_s, f, (zup_n ?_).trans h2, hf⟩, fun a ha => zup_n ha⟩
  · split <;> omega
  · exact fun e => by rw [e, h1] at h2; cases h2

set_option maxRecDepth 100000 in
set_option maxHeartbeats 4000000 in
theorem c_X7_goBack_0 {σ : zSg} {M : zM} {b1 b2 : Nat} {C : Nat → Nat → Nat} {nw un : Nat} (hT : zTl M b1 b2 C nw un) (h0 : un = 0) : zCon μX7_goBack (2, 0, 0) σ [.ref b1] M (zP (some (.int (-1))) M) := by
  obtain ⟨hnw, hun, h1, f, h2, hf⟩ := id hT
  refine zCon.of (plainFor_of_name (by decide)) rfl (Nat.le_of_ble_eq_true rfl) ?_
  change zV _ _ _ _ _ 0 0 0 [(0, .ref b1)] []
  refine zv_aload_n (n := 1) dX7_goBack_0 rfl rfl ?_
  refine zv_get (n := 4) dX7_goBack_1 rfl h1 FX7_40 rfl ?_
  refine zv_if_ne (n := 7) (tgt := 9) dX7_goBack_4 (by decide) rfl (fun h4 => False.elim (h4 (by rw [h0]; rfl))) (fun h4 => ?_)
  refine zv_iconst (n := 8) dX7_goBack_7 rfl (v := (-1)) (by decide) ?_
  refine zv_iret dX7_goBack_8 rfl (by decide) (by decide) ?_
  exact zPi

set_option maxRecDepth 100000 in
set_option maxHeartbeats 4000000 in
theorem c_X7_goBack_1 {σ : zSg} {M : zM} {b1 b2 : Nat} {C : Nat → Nat → Nat} {nw un : Nat} (hT : zTl M b1 b2 C nw un) (h0 : 0 < un) : zCon μX7_goBack (2, 0, 0) σ [.ref b1] M (zF (some (.int (nI (un - 1)))) (fun M' => zTl M' b1 b2 C (pv nw) (un - 1) ∧ ∀ a, a ≠ b1 → M' a = M a)) := by
  obtain ⟨hnw, hun, h1, f, h2, hf⟩ := id hT
  refine zCon.of (plainFor_of_name (by decide)) rfl (Nat.le_of_ble_eq_true rfl) ?_
  change zV _ _ _ _ _ 0 0 0 [(0, .ref b1)] []
  refine zv_aload_n (n := 1) dX7_goBack_0 rfl rfl ?_
  refine zv_get (n := 4) dX7_goBack_1 rfl h1 FX7_40 rfl ?_
  refine zv_if_ne (n := 7) (tgt := 9) dX7_goBack_4 (by decide) rfl (fun h4 => ?_) (fun h4 => False.elim (absurd h4 (nI_ne0 h0 (by omega))))
  refine zv_aload_n (n := 10) dX7_goBack_9 rfl rfl ?_
  refine zv_aload_n (n := 11) dX7_goBack_10 rfl rfl ?_
  refine zv_get (n := 14) dX7_goBack_11 rfl h1 FX7_18 rfl ?_
  refine zv_iconst (n := 15) dX7_goBack_14 rfl (v := 1) (by decide) ?_
  refine zv_isub (n := 16) dX7_goBack_15 rfl ?_
  refine zv_bipush (n := 18) dX7_goBack_16 rfl (v := 10) (by decide) ?_
  refine zv_callSP (n := 21) (As := [.int ((nI nw) - 1), .int 10]) (rest := [.ref b1]) (kc' := 0) (ks' := 0) dX7_goBack_18 rfl (c_floorMod (nI nw - 1) 10 (by decide)) rfl kJ9_floorMod_7cf53 lX7_34 rfl rfl ⟨by decide, by decide⟩ (Nat.le_of_ble_eq_true rfl) rfl rfl (by decide) (by decide) ?_
  rw [fmd9 hnw]
  refine zv_put (n := 24) dX7_goBack_21 rfl h1 FX7_18 zcl_X7 zty_X7_1 rfl rfl (Nat.le_of_ble_eq_true rfl) ?_
  refine zv_aload_n (n := 25) dX7_goBack_24 rfl rfl ?_
  refine zv_dup (n := 26) dX7_goBack_25 rfl rfl ?_
  refine zv_get (n := 29) dX7_goBack_26 rfl zup_s FX7_40 rfl ?_
  refine zv_iconst (n := 30) dX7_goBack_29 rfl (v := 1) (by decide) ?_
  refine zv_isub (n := 31) dX7_goBack_30 rfl ?_
  rw [show nI un - 1 = nI (un - 1) from pk_sub (a := un) (b := 1) (by omega)]
  refine zv_put (n := 34) dX7_goBack_31 rfl zup_s FX7_40 zcl_X7 zty_X7_2 rfl rfl (Nat.le_of_ble_eq_true rfl) ?_
  refine zv_aload_n (n := 35) dX7_goBack_34 rfl rfl ?_
  refine zv_get (n := 38) dX7_goBack_35 rfl zup_s FX7_40 rfl ?_
  refine zv_iret dX7_goBack_38 rfl (by decide) (by decide) ?_
  rw [zup_zup]
  refine zFi ⟨⟨pv_lt nw, by omega, zup_s, f, (zup_n ?_).trans h2, hf⟩, fun a ha => zup_n ha⟩
  exact fun e => by rw [e, h1] at h2; cases h2

set_option maxRecDepth 100000 in
set_option maxHeartbeats 4000000 in
theorem c_X7_startAnewFrom {σ : zSg} {M : zM} {b1 b2 : Nat} {C : Nat → Nat → Nat} {S : Nat → zS} {nw un : Nat} (hT : zTl M b1 b2 C nw un) (hA : zAll M C S) : zCon μX7_startAnewFrom (5, 0, 0) σ [.ref b1, .ref (C 10 0)] M (zF none (fun M' => zAll M' C (va_up S nw (S 10)) ∧ zTl M' b1 b2 C nw 0 ∧ zOut M M' C b1)) := by
  obtain ⟨hnw, hun, h1, f, h2, hf⟩ := id hT
  refine zCon.of (plainFor_of_name (by decide)) rfl (Nat.le_of_ble_eq_true rfl) ?_
  change zV _ _ _ _ _ 0 0 0 [(0, .ref b1), (1, .ref (C 10 0))] []
  refine zv_aload_n (n := 1) dX7_startAnewFrom_0 rfl rfl ?_
  refine zv_callVP (n := 4) (As := []) (rest := []) (kc' := 0) (ks' := 0) dX7_startAnewFrom_1 rfl (c_X7_present hT) rfl kX7_present lX7_26 h1 rfl rfl rfl ⟨by decide, by decide⟩ (Nat.le_of_ble_eq_true rfl) rfl rfl (by decide) (by decide) ?_
  refine zv_aload_n (n := 5) dX7_startAnewFrom_4 rfl rfl ?_
  refine zv_callVF0 (n := 8) (As := [.ref (C 10 0)]) (rest := []) (kc' := 0) (ks' := 0) dX7_startAnewFrom_5 rfl (c_X1_copyFrom (hA.cen (i := nw) (by omega)) (hA.cen (i := 10) (by decide)) (hA.2 nw 10 (by omega) (by decide) (by omega))) rfl kX1_copyFrom lX7_30 (hA.cen (i := nw) (by omega)).c0 rfl rfl rfl ⟨by decide, by decide⟩ (Nat.le_of_ble_eq_true rfl) rfl rfl (by decide) (by decide) (fun M1 hq => ?_)
  have hA1 := hA.upd (k := nw) (by omega) hq.1 (hA.ok (i := 10) (by decide)) hq.2
  obtain ⟨-, -, g1, g, g2, gf⟩ := hT.off hA (k := nw) (by omega) hq.2
  refine zv_aload_n (n := 9) dX7_startAnewFrom_8 rfl rfl ?_
  refine zv_iconst (n := 10) dX7_startAnewFrom_9 rfl (v := 0) (by decide) ?_
  refine zv_put (n := 13) dX7_startAnewFrom_10 rfl g1 FX7_40 zcl_X7 zty_X7_2 rfl rfl (Nat.le_of_ble_eq_true rfl) ?_
  refine zv_vret dX7_startAnewFrom_13 rfl (by decide) (by decide) ?_
  refine zFi ⟨hA1.frame (fun i j hi hj => zup_n (hA1.out g1 rfl i j hi hj).symm), ⟨hnw, by decide, zup_s, g, (zup_n ?_).trans g2, gf⟩, (hq.2.out (by omega)).tr zOut.up⟩
  exact fun e => by rw [e, g1] at g2; cases g2

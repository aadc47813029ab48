/-! Characters typed, scripts run, by the law: laid by wip/p53/m52.py. -/
/-- an int answered -/
def zI9 (PW : Int32 → zM → Prop) : zO → zM → Prop := fun o M' => ∃ w, o = .inl (some (.int w)) ∧ PW w M'
theorem zIi {PW : Int32 → zM → Prop} {M : zM} {w : Int32} (h : PW w M) : zI9 PW (.inl (some (.int w))) M := ⟨w, rfl, h⟩
section
variable {μ : zMeth} {R : zRoom} {σ : zSg} {Q : zO → zM → Prop} {M : zM} {kc ks pc n : Nat} {lv : List (Nat × Value)}
theorem zv_callSI {y : zMeth} {Ry : zRoom} {As rest st : List Value} {idx k kc' ks' : Nat} {PW : Int32 → zM → Prop} (hd : decode μ.2.1 pc = .ok (.invokestatic idx, 3)) (hn : pc + 3 = n) (hC : zCon y Ry σ As M (zI9 PW)) (hh : y.2.2.2.2 = []) (hK : zKS y k) (hlk : zin (.methodLink μ.1.cls idx y.1)) (hst : As.reverse ++ rest = st) (hlen : As.length = k) (hr : zRm y Ry R) (hW : (rest.map fun v => v.category).sum ≤ 8) (h1 : kc + Ry.2.1 = kc') (h2 : ks + Ry.2.2 = ks') (hk : kc' ≤ R.2.1) (hs : ks' ≤ R.2.2)
    (kk : ∀ (w : Int32) (M' : zM), PW w M' → zV μ R σ Q M' kc' ks' n lv (.int w :: rest)) : zV μ R σ Q M kc ks pc lv (st) :=
  zv_callS hd hn hC hh hK hlk hst hlen hr hW h1 h2 hk hs (fun v' M' h => by
    obtain ⟨w, e1, e2⟩ := h
    cases e1
    exact kk w M' e2) (fun E M' h => by
    obtain ⟨w, e1, e2⟩ := h
    cases e1)
theorem zv_callSXI {y : zMeth} {Ry : zRoom} {As rest st : List Value} {idx k kc' ks' : Nat} {h0 : Nat × Nat × Nat × Nat} {ht : List (Nat × Nat × Nat × Nat)} {PW : Int32 → zM → Prop} (hd : decode μ.2.1 pc = .ok (.invokestatic idx, 3)) (hn : pc + 3 = n) (hC : zCon y Ry σ As M (zI9 PW)) (hh : y.2.2.2.2 = h0 :: ht) (hK : zKS y k) (hlk : zin (.methodLink μ.1.cls idx y.1)) (hst : As.reverse ++ rest = st) (hlen : As.length = k) (hr : zRm y Ry R) (hW : (rest.map fun v => v.category).sum ≤ 8) (h1 : kc + Ry.2.1 = kc') (h2 : ks + Ry.2.2 = ks') (hk : kc' ≤ R.2.1) (hs : ks' ≤ R.2.2)
    (kk : ∀ (w : Int32) (M' : zM), PW w M' → zV μ R σ Q M' kc' ks' n lv (.int w :: rest)) : zV μ R σ Q M kc ks pc lv (st) :=
  zv_callSX hd hn hC hh hK hlk hst hlen hr hW h1 h2 hk hs (fun v' M' h => by
    obtain ⟨w, e1, e2⟩ := h
    cases e1
    exact kk w M' e2) (fun E M' h => by
    obtain ⟨w, e1, e2⟩ := h
    cases e1)
end
theorem nI_all (x : Int32) : ∃ p : Nat, x = nI p := ⟨x.toBitVec.toNat, by
  apply Int32.toBitVec_inj.mp
  show x.toBitVec = BitVec.ofNat 32 x.toBitVec.toNat
  simp⟩

theorem zPl.ps {M : zM} {Z : Nat → Prop} {b : Nat → Nat} {C : Nat → Nat → Nat} {S : Nat → zS} {nw un : Nat} {hs ea fa : Int32} {t : Nat → Nat} {n : Nat} {u : Nat → Nat} {k : Nat} (hP : zPl M Z b C S nw un hs ea fa t n u k) : ∃ p r cm nc f, zPs M Z b C S nw un hs ea fa t n u k p r cm nc f := by
  obtain ⟨ps, re, nc, cm, h3⟩ := hP.2.2.2.1
  obtain ⟨f, h5⟩ := hP.2.2.2.2.1
  obtain ⟨p, rfl⟩ := nI_all ps
  obtain ⟨r, rfl⟩ := nI_all re
  obtain ⟨c9, rfl⟩ := nI_all nc
  exact ⟨p, r, cm, c9, f, hP, h3, h5⟩

theorem c_L_type_1 {σ : zSg} {M : zM} {Z : Nat → Prop} {b : Nat → Nat} {C : Nat → Nat → Nat} {P : zS} {U : List zS} {X : Option zS} {ea fa : Int32} {t : Nat → Nat} {n : Nat} {u : Nat → Nat} {k : Nat} (hV : zVw M Z b C P U X ea fa t n u k) {c : Nat} (h32 : 32 ≤ c) (h126 : c ≤ 126) (hn : n < 60) : zCon μL_type (9, 1, 150) σ [.ref (b 0), .int (nI c)] M (zF (some (.int (nI (n + 1)))) (fun M' => zVw M' Z b C P U X ea fa (tcC (t, n) c).1 (tcC (t, n) c).2 u k ∧ zKe M M' Z)) := by
  obtain ⟨S, nw, un, hs, hP, ho, rfl, rfl, rfl⟩ := hV
  exact w_type_r hP.2.2.1 ((c_X8_type_1 hP h32 h126 hn).post (fun o M' h => ⟨h.1, ⟨S, nw, un, hs, h.2.1, ho, rfl, rfl, rfl⟩, h.2.2⟩)) (by decide) (by decide) (by decide)
theorem c_L_type_f {σ : zSg} {M : zM} {Z : Nat → Prop} {b : Nat → Nat} {C : Nat → Nat → Nat} {P : zS} {U : List zS} {X : Option zS} {ea fa : Int32} {t : Nat → Nat} {n : Nat} {u : Nat → Nat} {k : Nat} (hV : zVw M Z b C P U X ea fa t n u k) {c : Nat} (h32 : 32 ≤ c) (h126 : c ≤ 126) (hn : 60 ≤ n) : zCon μL_type (9, 1, 150) σ [.ref (b 0), .int (nI c)] M (zP (some (.int (-1002))) M) := by
  obtain ⟨S, nw, un, hs, hP, ho, rfl, rfl, rfl⟩ := hV
  exact w_type_x1 (P := fun M' => M' = M) hP.2.2.1 ((c_X8_type_f hP h32 h126 hn).post (fun _ _ h => h)) (by decide) (by decide) (by decide)
theorem c_L_type_b {σ : zSg} {M : zM} {Z : Nat → Prop} {b : Nat → Nat} {C : Nat → Nat → Nat} {P : zS} {U : List zS} {X : Option zS} {ea fa : Int32} {t : Nat → Nat} {n : Nat} {u : Nat → Nat} {k : Nat} (hV : zVw M Z b C P U X ea fa t n u k) {c : Nat} (hc : 126 < c) (hc2 : c < 2 ^ 31) : zCon μL_type (9, 1, 150) σ [.ref (b 0), .int (nI c)] M (zP (some (.int (-1001))) M) := by
  obtain ⟨S, nw, un, hs, hP, ho, rfl, rfl, rfl⟩ := hV
  exact w_type_x0 (P := fun M' => M' = M) hP.2.2.1 ((c_X8_type_b hP hc hc2).post (fun _ _ h => h)) (by decide) (by decide) (by decide)

/-- what a script's run makes of what the law sees -/
def zRw (M : zM) (Z : Nat → Prop) (b : Nat → Nat) (C : Nat → Nat → Nat) (P : zS) (U : List zS) (X : Option zS) (t : Nat → Nat) (u : Nat → Nat) (k : Nat) : Int32 → zM → Prop := fun w M' => ∃ ea fa, ((0 ≤ w ∧ ∃ T, zVw M' Z b C T ((P :: U).take 8) X ea fa t 0 u k) ∨ (w < 0 ∧ zVw M' Z b C P U X ea fa t 0 u k)) ∧ zKe M M' Z
theorem c_L_run_p {σ : zSg} {M : zM} {Z : Nat → Prop} {b : Nat → Nat} {C : Nat → Nat → Nat} {P : zS} {U : List zS} {X : Option zS} {ea fa : Int32} {t : Nat → Nat} {n : Nat} {u : Nat → Nat} {k : Nat} (hV : zVw M Z b C P U X ea fa t n u k) {e : Nat} (hE : ∀ nc f, fCc t n 60 1 0 0 nc f = (-1, e)) : zCon μL_run (13, 1, 6) σ [.ref (b 0)] M (zF (some (.int (-1001))) (fun M' => zVw M' Z b C P U X (nI e) fa t 0 u k ∧ zKe M M' Z)) := by
  obtain ⟨S, nw, un, hs, hP, ho, rfl, rfl, rfl⟩ := hV
  obtain ⟨p, r, cm, nc, f, hS⟩ := hP.ps
  refine w_run_x0 hP.2.2.1 ((c_X8_run_p hS (by rw [hE])).post (fun o M' h => ?_)) (by decide) (by decide) (by decide)
  obtain ⟨h1, h2, h3⟩ := h
  rw [hE] at h2
  exact ⟨h1, ⟨S, nw, un, hs, h2, ho, rfl, rfl, rfl⟩, h3⟩
theorem c_L_run_f {σ : zSg} {M : zM} {Z : Nat → Prop} {b : Nat → Nat} {C : Nat → Nat → Nat} {P : zS} {U : List zS} {X : Option zS} {ea fa : Int32} {t : Nat → Nat} {n : Nat} {u : Nat → Nat} {k : Nat} (hV : zVw M Z b C P U X ea fa t n u k) {N r d : Nat} (hN : N ≤ 60) (hE : ∀ nc f, fCc t n 60 1 0 0 nc f = (nI N, r)) (hF : ∀ nc f, (fPo t n N 0 0 r nc f P).1 = d) (hd : d < N) : zCon μL_run (13, 1, 6) σ [.ref (b 0)] M (zF (some (.int (-1002))) (fun M' => zVw M' Z b C P U X ea (nI d) t 0 u k ∧ zKe M M' Z)) := by
  have hO := hV.ok
  have hl := hV.ol
  obtain ⟨S, nw, un, hs, hP, ho, rfl, rfl, rfl⟩ := hV
  obtain ⟨p, r9, cm, nc, f, hS⟩ := hP.ps
  refine w_run_x1 hP.2.2.1 ((c_X8_run_g hS hN (by rw [hE])).post (fun o M' h => ?_)) (by decide) (by decide) (by decide)
  obtain ⟨h1, nc9, f9, h2, h3⟩ := h
  rw [hE] at h2
  have h4 := hF nc9 f9
  have h5 := fPo_ol (t := t) (n := n) N 0 0 r nc9 f9 _ hO hl
  obtain ⟨e, h6⟩ := h2 (by rw [h4]; exact hd)
  rw [h4] at h6
  exact ⟨e, vw_left hP ho h5 h6, h1⟩

set_option maxRecDepth 100000 in
set_option maxHeartbeats 4000000 in
theorem w_run_any {σ : zSg} {M : zM} {o : Nat} {fs : List Value} {Qy : zO → zM → Prop} {PW : Int32 → zM → Prop} (hb : M o = some (.inr (10, fs))) (hC : zCon μX8_runScript (12, 1, 6) σ [.ref o] M Qy) (hq1 : ∀ v M', Qy (.inl v) M' → ∃ w, v = some (.int w) ∧ PW w M') (hq2 : ∀ E M', Qy (.inr E) M' → (E = "java/lang/IllegalArgumentException" ∧ PW (-1001) M') ∨ (E = "java/lang/IllegalStateException" ∧ PW (-1002) M')) : zCon μL_run (13, 1, 6) σ [.ref o] M (zI9 PW) := by
  refine zCon.ofH (by decide) rfl (Nat.le_of_ble_eq_true rfl) ?_
  change zV _ _ _ _ _ 0 0 0 [(0, .ref o)] []
  refine zv_aload_n (n := 1) dL_run_0 rfl rfl ?_
  refine zv_callV (n := 4) (As := []) (rest := []) (kc' := 1) (ks' := 6) dL_run_1 rfl hC rfl kX8_runScript lL_132 hb rfl rfl rfl ⟨by decide, by decide⟩ (Nat.le_of_ble_eq_true rfl) rfl rfl (by decide) (by decide) (fun v9 M1 hq => ?_) (fun E9 M1 hq => ?_)
  · obtain ⟨w1, rfl, hp1⟩ := hq1 _ _ hq
    change zV _ _ _ _ M1 _ _ _ _ [.int w1]
    refine zv_iret dL_run_4 rfl (by decide) (by decide) ?_
    exact zIi hp1
  · rcases hq2 _ _ hq with ⟨rfl, hp1⟩ | ⟨rfl, hp1⟩
    · refine zvx_catch (nm := "java/lang/IllegalArgumentException") [] [(0, 4, 10, 17)] rfl (fun _ h => nomatch h) (by decide) (by decide) eL_15 ca_IllegalArgument_IllegalArgument (by decide) (by decide) (fun q => ?_)
      change zV _ _ _ _ _ _ _ 5 [(0, .ref o)] [.ref q]
      refine zv_astore_n (n := 6) (lv' := [(1, .ref q), (0, .ref o)]) dL_run_5 rfl (by decide) rfl ?_
      refine zv_sipush (n := 9) dL_run_6 rfl (v := (-1001)) (by decide) ?_
      refine zv_iret dL_run_9 rfl (by decide) (by decide) ?_
      exact zIi hp1
    · refine zvx_catch (nm := "java/lang/IllegalStateException") [(0, 4, 5, 15)] [] rfl (List.forall_mem_cons.mpr ⟨⟨by decide, _, eL_15, by decide +kernel⟩, (fun _ h => nomatch h)⟩) (by decide) (by decide) eL_17 ca_IllegalState_IllegalState (by decide) (by decide) (fun q => ?_)
      change zV _ _ _ _ _ _ _ 10 [(0, .ref o)] [.ref q]
      refine zv_astore_n (n := 11) (lv' := [(1, .ref q), (0, .ref o)]) dL_run_10 rfl (by decide) rfl ?_
      refine zv_sipush (n := 14) dL_run_11 rfl (v := (-1002)) (by decide) ?_
      refine zv_iret dL_run_14 rfl (by decide) (by decide) ?_
      exact zIi hp1

theorem c_L_run_any {σ : zSg} {M : zM} {Z : Nat → Prop} {b : Nat → Nat} {C : Nat → Nat → Nat} {P : zS} {U : List zS} {X : Option zS} {ea fa : Int32} {t : Nat → Nat} {n : Nat} {u : Nat → Nat} {k : Nat} (hV : zVw M Z b C P U X ea fa t n u k) : zCon μL_run (13, 1, 6) σ [.ref (b 0)] M (zI9 (zRw M Z b C P U X t u k)) := by
  have hO := hV.ok
  have hl := hV.ol
  obtain ⟨S, nw, un, hs, hP, ho, rfl, rfl, rfl⟩ := hV
  obtain ⟨p, r, cm, nc, f, hS⟩ := hP.ps
  rcases fCc_in (t := t) (n := n) 60 1 0 0 nc f rfl with hE | ⟨N, hN, hE⟩
  · refine w_run_any hP.2.2.1 (c_X8_run_p hS hE) (fun v M' h => nomatch h.1) (fun E M' h => ?_)
    obtain ⟨h1, h2, h3⟩ := h
    cases h1
    exact Or.inl ⟨rfl, _, _, Or.inr ⟨by decide, S, nw, un, hs, h2, ho, rfl, rfl, rfl⟩, h3⟩
  · refine w_run_any hP.2.2.1 (c_X8_run_g hS hN hE) (fun v M' h => ?_) (fun E M' h => ?_)
    · obtain ⟨h1, nc9, f9, h2, h3⟩ := h
      have h5 := fPo_ol (t := t) (n := n) N 0 0 (fCc t n 60 1 0 0 nc f).2 nc9 f9 _ hO hl
      by_cases hd : (fPo t n N 0 0 (fCc t n 60 1 0 0 nc f).2 nc9 f9 (S nw)).1 < N
      · exact nomatch (h2 hd).1
      · obtain ⟨e, h6⟩ := h3 hd
        cases e
        exact ⟨nI N, rfl, _, _, Or.inl ⟨nI_pos' (by omega), _, vw_made hP ho h5 h6⟩, h1⟩
    · obtain ⟨h1, nc9, f9, h2, h3⟩ := h
      have h5 := fPo_ol (t := t) (n := n) N 0 0 (fCc t n 60 1 0 0 nc f).2 nc9 f9 _ hO hl
      by_cases hd : (fPo t n N 0 0 (fCc t n 60 1 0 0 nc f).2 nc9 f9 (S nw)).1 < N
      · obtain ⟨e, h6⟩ := h2 hd
        cases e
        exact Or.inr ⟨rfl, _, _, Or.inr ⟨by decide, vw_left hP ho h5 h6⟩, h1⟩
      · exact nomatch (h3 hd).1

/-- the buffer when i letters of K are typed -/
def fTy (K : Nat → Nat) (t : Nat → Nat) (i : Nat) : Nat → Nat := if i = 0 then t else fun j => K (if j < i then j else i - 1)
theorem fTy_step {K t : Nat → Nat} {i : Nat} : (tcC (fTy K t i, i) (K i)).1 = fTy K t (i + 1) := by
  funext j
  show sb_cat (fTy K t i) i (fun _ => K i) j = _
  unfold sb_cat fTy
  rw [if_neg (Nat.succ_ne_zero i)]
  by_cases h : j < i
  · rw [if_pos h, if_neg (by omega)]
    show K (if j < i then j else i - 1) = K (if j < i + 1 then j else i + 1 - 1)
    rw [if_pos h, if_pos (by omega)]
  · rw [if_neg h]
    show K i = K (if j < i + 1 then j else i + 1 - 1)
    by_cases h2 : j < i + 1
    · rw [if_pos h2, show j = i by omega]
    · rw [if_neg h2]; rfl

set_option maxRecDepth 100000 in
set_option maxHeartbeats 4000000 in
theorem l_runsK {σ : zSg} {Z : Nat → Prop} {b : Nat → Nat} {C : Nat → Nat → Nat} {P : zS} {U : List zS} {X : Option zS} {ea fa : Int32} {t : Nat → Nat} {u : Nat → Nat} {k : Nat} {Q : zO → zM → Prop} {M0 : zM} {i9 N : Nat} (hi9 : i9 < 16) (hN9 : fKn i9 = N) (hok : ∀ j, j < N → 32 ≤ fK i9 j ∧ fK i9 j ≤ 126) (hN : N ≤ 20) : ∀ (l i : Nat) (M : zM), i + l = N → zVw M Z b C P U X ea fa (fTy (fK i9) t i) i u k → zKe M0 M Z → (∀ M', zVw M' Z b C P U X ea fa (fTy (fK i9) t N) N u k → zKe M0 M' Z → zV μL_runs (14, 21, 3006) σ Q M' 20 3000 35 [(2, .int (nI N)), (0, .ref (b 0)), (1, .ref (zK σ i9))] []) → zV μL_runs (14, 21, 3006) σ Q M i (150 * i) 2 [(2, .int (nI i)), (0, .ref (b 0)), (1, .ref (zK σ i9))] [] := by
  intro l
  induction l with
  | zero =>
    intro i M hi hV hz kk
    obtain rfl : i = N := by omega
    refine zv_iload_n (n := 3) dL_runs_2 rfl rfl ?_
    refine zv_aload_n (n := 4) dL_runs_3 rfl rfl ?_
    refine zv_callVK (n := 7) (As := []) (rest := [.int (nI i)]) (kc' := i) (ks' := (150 * i)) dL_runs_4 rfl (c_klength hi9) rfl kJ0_length_8abf5 lL_148 (fun U H h => (h.2.2.2.2.2.1.1 i9 hi9).1) rfl rfl ⟨by decide, by decide⟩ (Nat.le_of_ble_eq_true rfl) rfl rfl (by show _ ≤ (21 : Nat); omega) (by show _ ≤ (3006 : Nat); omega) ?_
    rw [hN9]
    refine zv_icmp_ge (n := 10) (tgt := 35) dL_runs_7 (by decide) rfl (fun h7 => ?_) (fun h7 => False.elim (absurd (Int32.le_refl _) h7))
    exact zv_wide (by omega) (by omega) (kk M hV hz)
  | succ l ih =>
    intro i M hi hV hz kk
    have hlt : i < N := by omega
    refine zv_iload_n (n := 3) dL_runs_2 rfl rfl ?_
    refine zv_aload_n (n := 4) dL_runs_3 rfl rfl ?_
    refine zv_callVK (n := 7) (As := []) (rest := [.int (nI i)]) (kc' := i) (ks' := (150 * i)) dL_runs_4 rfl (c_klength hi9) rfl kJ0_length_8abf5 lL_148 (fun U H h => (h.2.2.2.2.2.1.1 i9 hi9).1) rfl rfl ⟨by decide, by decide⟩ (Nat.le_of_ble_eq_true rfl) rfl rfl (by show _ ≤ (21 : Nat); omega) (by show _ ≤ (3006 : Nat); omega) ?_
    rw [hN9]
    refine zv_icmp_ge (n := 10) (tgt := 35) dL_runs_7 (by decide) rfl (fun h7 => False.elim (absurd h7 (nI_ge hlt (by omega)))) (fun h7 => ?_)
    refine zv_aload_n (n := 11) dL_runs_10 rfl rfl ?_
    refine zv_aload_n (n := 12) dL_runs_11 rfl rfl ?_
    refine zv_iload_n (n := 13) dL_runs_12 rfl rfl ?_
    refine zv_callVK (n := 16) (As := [.int (nI i)]) (rest := [.ref (b 0)]) (kc' := i) (ks' := (150 * i)) dL_runs_13 rfl (c_kcharAt hi9 (j := i) (by rw [hN9]; exact hlt)) rfl kJ0_charAt_5068e lL_153 (fun U H h => (h.2.2.2.2.2.1.1 i9 hi9).1) rfl rfl ⟨by decide, by decide⟩ (Nat.le_of_ble_eq_true rfl) rfl rfl (by show _ ≤ (21 : Nat); omega) (by show _ ≤ (3006 : Nat); omega) ?_
    refine zv_callSXF (n := 19) (As := [.ref (b 0), .int (nI ((fK i9) i))]) (rest := []) (kc' := (i + 1)) (ks' := ((150 * i) + 150)) dL_runs_16 rfl (c_L_type_1 hV (hok i hlt).1 (hok i hlt).2 (by omega)) rfl kL_type lL_156 rfl rfl ⟨by decide, by decide⟩ (Nat.le_of_ble_eq_true rfl) rfl rfl (by show _ ≤ (21 : Nat); omega) (by show _ ≤ (3006 : Nat); omega) (fun M1 hq => ?_)
    obtain ⟨hV1, hz1⟩ := hq
    rw [fTy_step] at hV1
    refine zv_iload_n (n := 20) dL_runs_19 rfl rfl ?_
    refine zv_iconst (n := 21) dL_runs_20 rfl (v := 1) (by decide) ?_
    refine zv_iadd (n := 22) dL_runs_21 rfl ?_
    rw [nI_1]
    refine zv_icmp_eq (n := 25) (tgt := 29) dL_runs_22 (by decide) rfl (fun h22 => ?_) (fun h22 => False.elim (h22 rfl))
    refine zv_iinc (n := 32) (v := nI (i + 1)) (lv' := [(2, .int (nI (i + 1))), (0, .ref (b 0)), (1, .ref (zK σ i9))]) dL_runs_29 rfl rfl (nI_1 i) (by decide) rfl ?_
    refine zv_goto (tgt := 2) dL_runs_32 (by decide) ?_
    refine zv_lvs (lv' := [(2, .int (nI (i + 1))), (0, .ref (b 0)), (1, .ref (zK σ i9))]) ⟨rfl, rfl, rfl, trivial⟩ ?_
    refine zv_wide (kc' := i + 1) (ks' := 150 * (i + 1)) (by omega) (by omega) ?_
    exact ih (i + 1) M1 (by omega) hV1 (hz.tr hz1) kk

set_option maxRecDepth 100000 in
set_option maxHeartbeats 4000000 in
theorem c_runsK {σ : zSg} {M : zM} {Z : Nat → Prop} {b : Nat → Nat} {C : Nat → Nat → Nat} {P : zS} {U : List zS} {X : Option zS} {ea fa : Int32} {t : Nat → Nat} {u : Nat → Nat} {k : Nat} {PW : Int32 → zM → Prop} (hV : zVw M Z b C P U X ea fa t 0 u k) {i9 N : Nat} (hi9 : i9 < 16) (hN9 : fKn i9 = N) (hok : ∀ j, j < N → 32 ≤ fK i9 j ∧ fK i9 j ≤ 126) (hN : N ≤ 20) (hR : ∀ M', zVw M' Z b C P U X ea fa (fTy (fK i9) t N) N u k → zKe M M' Z → zCon μL_run (13, 1, 6) σ [.ref (b 0)] M' (zI9 PW)) : zCon μL_runs (14, 21, 3006) σ [.ref (b 0), .ref (zK σ i9)] M (zI9 PW) := by
  refine zCon.of (plainFor_of_name (by decide)) rfl (Nat.le_of_ble_eq_true rfl) ?_
  change zV _ _ _ _ _ 0 0 0 [(0, .ref (b 0)), (1, .ref (zK σ i9))] []
  refine zv_iconst (n := 1) dL_runs_0 rfl (v := 0) (by decide) ?_
  refine zv_istore_n (n := 2) (lv' := [(2, .int 0), (0, .ref (b 0)), (1, .ref (zK σ i9))]) dL_runs_1 rfl (by decide) rfl ?_
  refine zv_lvs (lv' := [(2, .int 0), (0, .ref (b 0)), (1, .ref (zK σ i9))]) ⟨rfl, rfl, rfl, trivial⟩ ?_
  refine l_runsK hi9 hN9 hok hN N 0 _ (Nat.zero_add _) hV zKe.rf (fun M1 hV1 hz1 => ?_)
  refine zv_aload_n (n := 36) dL_runs_35 rfl rfl ?_
  refine zv_callSXI (n := 39) (As := [.ref (b 0)]) (rest := []) (kc' := 21) (ks' := 3006) dL_runs_36 rfl (hR M1 hV1 hz1) rfl kL_run lL_161 rfl rfl ⟨by decide, by decide⟩ (Nat.le_of_ble_eq_true rfl) rfl rfl (by decide) (by decide) (fun w2 M2 hq => ?_)
  refine zv_iret dL_runs_39 rfl (by decide) (by decide) ?_
  exact zIi hq

theorem zMs.obj {M : zM} {q v : Nat} {t : Nat → Nat} {n : Nat} (h : zMs M q v t n) : M q = some (.inr (0, [.ref v, .int 0, .int 0, .int 0])) := by
  obtain ⟨a, h1, -⟩ := h
  exact h1
set_option maxRecDepth 100000 in
set_option maxHeartbeats 4000000 in
theorem l_runsM {σ : zSg} {Z : Nat → Prop} {b : Nat → Nat} {C : Nat → Nat → Nat} {P : zS} {U : List zS} {X : Option zS} {ea fa : Int32} {t : Nat → Nat} {u : Nat → Nat} {k : Nat} {Q : zO → zM → Prop} {M0 : zM} {q9 v9 N : Nat} {K9 : Nat → Nat} (hq9 : zMs M0 q9 v9 K9 N) (hZq : Z q9) (hZv : Z v9) (hok : ∀ j, j < N → 32 ≤ K9 j ∧ K9 j ≤ 126) (hN : N ≤ 20) : ∀ (l i : Nat) (M : zM), i + l = N → zVw M Z b C P U X ea fa (fTy K9 t i) i u k → zKe M0 M Z → (∀ M', zVw M' Z b C P U X ea fa (fTy K9 t N) N u k → zKe M0 M' Z → zV μL_runs (14, 21, 3006) σ Q M' 20 3000 35 [(2, .int (nI N)), (0, .ref (b 0)), (1, .ref q9)] []) → zV μL_runs (14, 21, 3006) σ Q M i (150 * i) 2 [(2, .int (nI i)), (0, .ref (b 0)), (1, .ref q9)] [] := by
  intro l
  induction l with
  | zero =>
    intro i M hi hV hz kk
    obtain rfl : i = N := by omega
    have hms := hq9.keep (hz _ hZq) (hz _ hZv)
    refine zv_iload_n (n := 3) dL_runs_2 rfl rfl ?_
    refine zv_aload_n (n := 4) dL_runs_3 rfl rfl ?_
    refine zv_callVP (n := 7) (As := []) (rest := [.int (nI i)]) (kc' := i) (ks' := (150 * i)) dL_runs_4 rfl (c_mlength hms) rfl kJ0_length_8abf5 lL_148 hms.obj rfl rfl rfl ⟨by decide, by decide⟩ (Nat.le_of_ble_eq_true rfl) rfl rfl (by show _ ≤ (21 : Nat); omega) (by show _ ≤ (3006 : Nat); omega) ?_
    refine zv_icmp_ge (n := 10) (tgt := 35) dL_runs_7 (by decide) rfl (fun h7 => ?_) (fun h7 => False.elim (absurd (Int32.le_refl _) h7))
    exact zv_wide (by omega) (by omega) (kk M hV hz)
  | succ l ih =>
    intro i M hi hV hz kk
    have hlt : i < N := by omega
    have hms := hq9.keep (hz _ hZq) (hz _ hZv)
    refine zv_iload_n (n := 3) dL_runs_2 rfl rfl ?_
    refine zv_aload_n (n := 4) dL_runs_3 rfl rfl ?_
    refine zv_callVP (n := 7) (As := []) (rest := [.int (nI i)]) (kc' := i) (ks' := (150 * i)) dL_runs_4 rfl (c_mlength hms) rfl kJ0_length_8abf5 lL_148 hms.obj rfl rfl rfl ⟨by decide, by decide⟩ (Nat.le_of_ble_eq_true rfl) rfl rfl (by show _ ≤ (21 : Nat); omega) (by show _ ≤ (3006 : Nat); omega) ?_
    refine zv_icmp_ge (n := 10) (tgt := 35) dL_runs_7 (by decide) rfl (fun h7 => False.elim (absurd h7 (nI_ge hlt (by omega)))) (fun h7 => ?_)
    refine zv_aload_n (n := 11) dL_runs_10 rfl rfl ?_
    refine zv_aload_n (n := 12) dL_runs_11 rfl rfl ?_
    refine zv_iload_n (n := 13) dL_runs_12 rfl rfl ?_
    refine zv_callVP (n := 16) (As := [.int (nI i)]) (rest := [.ref (b 0)]) (kc' := i) (ks' := (150 * i)) dL_runs_13 rfl (c_mcharAt hms hlt) rfl kJ0_charAt_5068e lL_153 hms.obj rfl rfl rfl ⟨by decide, by decide⟩ (Nat.le_of_ble_eq_true rfl) rfl rfl (by show _ ≤ (21 : Nat); omega) (by show _ ≤ (3006 : Nat); omega) ?_
    refine zv_callSXF (n := 19) (As := [.ref (b 0), .int (nI (K9 i))]) (rest := []) (kc' := (i + 1)) (ks' := ((150 * i) + 150)) dL_runs_16 rfl (c_L_type_1 hV (hok i hlt).1 (hok i hlt).2 (by omega)) rfl kL_type lL_156 rfl rfl ⟨by decide, by decide⟩ (Nat.le_of_ble_eq_true rfl) rfl rfl (by show _ ≤ (21 : Nat); omega) (by show _ ≤ (3006 : Nat); omega) (fun M1 hq => ?_)
    obtain ⟨hV1, hz1⟩ := hq
    rw [fTy_step] at hV1
    refine zv_iload_n (n := 20) dL_runs_19 rfl rfl ?_
    refine zv_iconst (n := 21) dL_runs_20 rfl (v := 1) (by decide) ?_
    refine zv_iadd (n := 22) dL_runs_21 rfl ?_
    rw [nI_1]
    refine zv_icmp_eq (n := 25) (tgt := 29) dL_runs_22 (by decide) rfl (fun h22 => ?_) (fun h22 => False.elim (h22 rfl))
    refine zv_iinc (n := 32) (v := nI (i + 1)) (lv' := [(2, .int (nI (i + 1))), (0, .ref (b 0)), (1, .ref q9)]) dL_runs_29 rfl rfl (nI_1 i) (by decide) rfl ?_
    refine zv_goto (tgt := 2) dL_runs_32 (by decide) ?_
    refine zv_lvs (lv' := [(2, .int (nI (i + 1))), (0, .ref (b 0)), (1, .ref q9)]) ⟨rfl, rfl, rfl, trivial⟩ ?_
    refine zv_wide (kc' := i + 1) (ks' := 150 * (i + 1)) (by omega) (by omega) ?_
    exact ih (i + 1) M1 (by omega) hV1 (hz.tr hz1) kk

set_option maxRecDepth 100000 in
set_option maxHeartbeats 4000000 in
theorem c_runsM {σ : zSg} {M : zM} {Z : Nat → Prop} {b : Nat → Nat} {C : Nat → Nat → Nat} {P : zS} {U : List zS} {X : Option zS} {ea fa : Int32} {t : Nat → Nat} {u : Nat → Nat} {k : Nat} {PW : Int32 → zM → Prop} (hV : zVw M Z b C P U X ea fa t 0 u k) {q9 v9 N : Nat} {K9 : Nat → Nat} (hq9 : zMs M q9 v9 K9 N) (hZq : Z q9) (hZv : Z v9) (hok : ∀ j, j < N → 32 ≤ K9 j ∧ K9 j ≤ 126) (hN : N ≤ 20) (hR : ∀ M', zVw M' Z b C P U X ea fa (fTy K9 t N) N u k → zKe M M' Z → zCon μL_run (13, 1, 6) σ [.ref (b 0)] M' (zI9 PW)) : zCon μL_runs (14, 21, 3006) σ [.ref (b 0), .ref q9] M (zI9 PW) := by
  refine zCon.of (plainFor_of_name (by decide)) rfl (Nat.le_of_ble_eq_true rfl) ?_
  change zV _ _ _ _ _ 0 0 0 [(0, .ref (b 0)), (1, .ref q9)] []
  refine zv_iconst (n := 1) dL_runs_0 rfl (v := 0) (by decide) ?_
  refine zv_istore_n (n := 2) (lv' := [(2, .int 0), (0, .ref (b 0)), (1, .ref q9)]) dL_runs_1 rfl (by decide) rfl ?_
  refine zv_lvs (lv' := [(2, .int 0), (0, .ref (b 0)), (1, .ref q9)]) ⟨rfl, rfl, rfl, trivial⟩ ?_
  refine l_runsM hq9 hZq hZv hok hN N 0 _ (Nat.zero_add _) hV zKe.rf (fun M1 hV1 hz1 => ?_)
  refine zv_aload_n (n := 36) dL_runs_35 rfl rfl ?_
  refine zv_callSXI (n := 39) (As := [.ref (b 0)]) (rest := []) (kc' := 21) (ks' := 3006) dL_runs_36 rfl (hR M1 hV1 hz1) rfl kL_run lL_161 rfl rfl ⟨by decide, by decide⟩ (Nat.le_of_ble_eq_true rfl) rfl rfl (by decide) (by decide) (fun w2 M2 hq => ?_)
  refine zv_iret dL_runs_39 rfl (by decide) (by decide) ?_
  exact zIi hq


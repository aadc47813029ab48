/-! thrown: laid by wip/p53/m57.py. -/
theorem c_W_count {σ : zSg} {M : zM} {Z : Nat → Prop} {b : Nat → Nat} {C : Nat → Nat → Nat} {P : zS} {U : List zS} {X : Option zS} {ea fa : Int32} {t : Nat → Nat} {n : Nat} {u : Nat → Nat} {k : Nat} (hV : zVw M Z b C P U X ea fa t n u k) : zCon μX8_rackCount (5, 0, 0) σ [.ref (b 0)] M (zP (some (.int (P 0))) M) := by
  obtain ⟨S, nw, un, hs, hP, ho, rfl, rfl, rfl⟩ := hV
  exact c_X8_rackCount hP
theorem c_W_curve {σ : zSg} {M : zM} {Z : Nat → Prop} {b : Nat → Nat} {C : Nat → Nat → Nat} {P : zS} {U : List zS} {X : Option zS} {ea fa : Int32} {t : Nat → Nat} {n : Nat} {u : Nat → Nat} {k : Nat} (hV : zVw M Z b C P U X ea fa t n u k) {v : Int32} (hv : fBt v 0 2 = true) : zCon μL_curve (6, 1, 6) σ [.ref (b 0), .int v] M (zP (some (.int (fPt P v))) M) := by
  obtain ⟨S, nw, un, hs, hP, ho, rfl, rfl, rfl⟩ := hV
  exact c_L_curve hP hv
theorem c_W_aisleOf {σ : zSg} {M : zM} {Z : Nat → Prop} {b : Nat → Nat} {C : Nat → Nat → Nat} {P : zS} {U : List zS} {X : Option zS} {ea fa : Int32} {t : Nat → Nat} {n : Nat} {u : Nat → Nat} {k : Nat} (hV : zVw M Z b C P U X ea fa t n u k) {j : Nat} (hj : j < fCnt P) : zCon μL_aisleOf (7, 1, 6) σ [.ref (b 0), .int (nI j)] M (zP (some (.int (P (1 + 3 * j)))) M) := by
  obtain ⟨S, nw, un, hs, hP, ho, rfl, rfl, rfl⟩ := hV
  exact c_L_aisleOf hP hj
theorem c_W_placeOf {σ : zSg} {M : zM} {Z : Nat → Prop} {b : Nat → Nat} {C : Nat → Nat → Nat} {P : zS} {U : List zS} {X : Option zS} {ea fa : Int32} {t : Nat → Nat} {n : Nat} {u : Nat → Nat} {k : Nat} (hV : zVw M Z b C P U X ea fa t n u k) {j : Nat} (hj : j < fCnt P) : zCon μL_placeOf (7, 1, 6) σ [.ref (b 0), .int (nI j)] M (zP (some (.int (P (2 + 3 * j)))) M) := by
  obtain ⟨S, nw, un, hs, hP, ho, rfl, rfl, rfl⟩ := hV
  exact c_L_placeOf hP hj
theorem c_W_load {σ : zSg} {M : zM} {Z : Nat → Prop} {b : Nat → Nat} {C : Nat → Nat → Nat} {P : zS} {U : List zS} {X : Option zS} {ea fa : Int32} {t : Nat → Nat} {n : Nat} {u : Nat → Nat} {k : Nat} (hV : zVw M Z b C P U X ea fa t n u k) {j : Nat} (hj : j < fCnt P) : zCon μL_load (7, 1, 6) σ [.ref (b 0), .int (nI j)] M (zP (some (.int (P (3 + 3 * j)))) M) := by
  obtain ⟨S, nw, un, hs, hP, ho, rfl, rfl, rfl⟩ := hV
  exact c_L_load hP hj
theorem c_W_aisleOf_0 {σ : zSg} {M : zM} {Z : Nat → Prop} {b : Nat → Nat} {C : Nat → Nat → Nat} {P : zS} {U : List zS} {X : Option zS} {ea fa : Int32} {t : Nat → Nat} {n : Nat} {u : Nat → Nat} {k : Nat} (hV : zVw M Z b C P U X ea fa t n u k) {x : Int32} (hx : fBad P x) : zCon μL_aisleOf (7, 1, 6) σ [.ref (b 0), .int x] M (zP (some (.int (-1001))) M) := by
  obtain ⟨S, nw, un, hs, hP, ho, rfl, rfl, rfl⟩ := hV
  exact c_L_aisleOf_0 hP hx
theorem c_W_placeOf_0 {σ : zSg} {M : zM} {Z : Nat → Prop} {b : Nat → Nat} {C : Nat → Nat → Nat} {P : zS} {U : List zS} {X : Option zS} {ea fa : Int32} {t : Nat → Nat} {n : Nat} {u : Nat → Nat} {k : Nat} (hV : zVw M Z b C P U X ea fa t n u k) {x : Int32} (hx : fBad P x) : zCon μL_placeOf (7, 1, 6) σ [.ref (b 0), .int x] M (zP (some (.int (-1001))) M) := by
  obtain ⟨S, nw, un, hs, hP, ho, rfl, rfl, rfl⟩ := hV
  exact c_L_placeOf_0 hP hx
theorem c_W_load_0 {σ : zSg} {M : zM} {Z : Nat → Prop} {b : Nat → Nat} {C : Nat → Nat → Nat} {P : zS} {U : List zS} {X : Option zS} {ea fa : Int32} {t : Nat → Nat} {n : Nat} {u : Nat → Nat} {k : Nat} (hV : zVw M Z b C P U X ea fa t n u k) {x : Int32} (hx : fBad P x) : zCon μL_load (7, 1, 6) σ [.ref (b 0), .int x] M (zP (some (.int (-1001))) M) := by
  obtain ⟨S, nw, un, hs, hP, ho, rfl, rfl, rfl⟩ := hV
  exact c_L_load_0 hP hx
theorem c_W_isHot_0 {σ : zSg} {M : zM} {Z : Nat → Prop} {b : Nat → Nat} {C : Nat → Nat → Nat} {P : zS} {U : List zS} {X : Option zS} {ea fa : Int32} {t : Nat → Nat} {n : Nat} {u : Nat → Nat} {k : Nat} (hV : zVw M Z b C P U X ea fa t n u k) {x : Int32} (hx : fBad P x) : zCon μL_isHot (7, 2, 12) σ [.ref (b 0), .int x] M (zP (some (.int (-1001))) M) := by
  obtain ⟨S, nw, un, hs, hP, ho, rfl, rfl, rfl⟩ := hV
  exact c_L_isHot_0 hP hx
theorem c_W_untilHot_0 {σ : zSg} {M : zM} {Z : Nat → Prop} {b : Nat → Nat} {C : Nat → Nat → Nat} {P : zS} {U : List zS} {X : Option zS} {ea fa : Int32} {t : Nat → Nat} {n : Nat} {u : Nat → Nat} {k : Nat} (hV : zVw M Z b C P U X ea fa t n u k) {x : Int32} (hx : fBad P x) : zCon μL_untilHot (7, 2, 12) σ [.ref (b 0), .int x] M (zP (some (.int (-1001))) M) := by
  obtain ⟨S, nw, un, hs, hP, ho, rfl, rfl, rfl⟩ := hV
  exact c_L_untilHot_0 hP hx
theorem c_W_renderRack_0 {σ : zSg} {M : zM} {Z : Nat → Prop} {b : Nat → Nat} {C : Nat → Nat → Nat} {P : zS} {U : List zS} {X : Option zS} {ea fa : Int32} {t : Nat → Nat} {n : Nat} {u : Nat → Nat} {k : Nat} (hV : zVw M Z b C P U X ea fa t n u k) {x : Int32} (hx : fBad P x) : zCon μL_renderRack (8, 9, 1206) σ [.ref (b 0), .int x] M (zP (some (.int (-1001))) M) := by
  obtain ⟨S, nw, un, hs, hP, ho, rfl, rfl, rfl⟩ := hV
  exact c_L_renderRack_0 hP hx
theorem c_W_temperature_0 {σ : zSg} {M : zM} {Z : Nat → Prop} {b : Nat → Nat} {C : Nat → Nat → Nat} {P : zS} {U : List zS} {X : Option zS} {ea fa : Int32} {t : Nat → Nat} {n : Nat} {u : Nat → Nat} {k : Nat} (hV : zVw M Z b C P U X ea fa t n u k) {x : Int32} (hx : fBad P x) : zCon μL_temperature (7, 2, 12) σ [.ref (b 0), .int x] M (zP (some (.float 3296346112)) M) := by
  obtain ⟨S, nw, un, hs, hP, ho, rfl, rfl, rfl⟩ := hV
  exact c_L_temperature_0 hP hx
theorem c_W_heat_0 {σ : zSg} {M : zM} {Z : Nat → Prop} {b : Nat → Nat} {C : Nat → Nat → Nat} {P : zS} {U : List zS} {X : Option zS} {ea fa : Int32} {t : Nat → Nat} {n : Nat} {u : Nat → Nat} {k : Nat} (hV : zVw M Z b C P U X ea fa t n u k) {a : Int32} (ha : fBt a 0 3 = false) : zCon μL_heat (6, 1, 6) σ [.ref (b 0), .int a] M (zP (some (.int (-1001))) M) := by
  obtain ⟨S, nw, un, hs, hP, ho, rfl, rfl, rfl⟩ := hV
  exact c_L_heat_0 hP ha
theorem c_W_fan_0 {σ : zSg} {M : zM} {Z : Nat → Prop} {b : Nat → Nat} {C : Nat → Nat → Nat} {P : zS} {U : List zS} {X : Option zS} {ea fa : Int32} {t : Nat → Nat} {n : Nat} {u : Nat → Nat} {k : Nat} (hV : zVw M Z b C P U X ea fa t n u k) {a : Int32} (ha : fBt a 0 3 = false) : zCon μL_fan (6, 1, 6) σ [.ref (b 0), .int a] M (zP (some (.int (-1001))) M) := by
  obtain ⟨S, nw, un, hs, hP, ho, rfl, rfl, rfl⟩ := hV
  exact c_L_fan_0 hP ha
theorem c_W_inlet_0 {σ : zSg} {M : zM} {Z : Nat → Prop} {b : Nat → Nat} {C : Nat → Nat → Nat} {P : zS} {U : List zS} {X : Option zS} {ea fa : Int32} {t : Nat → Nat} {n : Nat} {u : Nat → Nat} {k : Nat} (hV : zVw M Z b C P U X ea fa t n u k) {a : Int32} (ha : fBt a 0 3 = false) : zCon μL_inlet (6, 1, 6) σ [.ref (b 0), .int a] M (zP (some (.float 3296346112)) M) := by
  obtain ⟨S, nw, un, hs, hP, ho, rfl, rfl, rfl⟩ := hV
  exact c_L_inlet_0 hP ha
theorem c_W_rise_0 {σ : zSg} {M : zM} {Z : Nat → Prop} {b : Nat → Nat} {C : Nat → Nat → Nat} {P : zS} {U : List zS} {X : Option zS} {ea fa : Int32} {t : Nat → Nat} {n : Nat} {u : Nat → Nat} {k : Nat} (hV : zVw M Z b C P U X ea fa t n u k) {a : Int32} (ha : fBt a 0 3 = false) : zCon μL_rise (6, 1, 6) σ [.ref (b 0), .int a] M (zP (some (.float 3296346112)) M) := by
  obtain ⟨S, nw, un, hs, hP, ho, rfl, rfl, rfl⟩ := hV
  exact c_L_rise_0 hP ha
theorem c_W_needed_0 {σ : zSg} {M : zM} {Z : Nat → Prop} {b : Nat → Nat} {C : Nat → Nat → Nat} {P : zS} {U : List zS} {X : Option zS} {ea fa : Int32} {t : Nat → Nat} {n : Nat} {u : Nat → Nat} {k : Nat} (hV : zVw M Z b C P U X ea fa t n u k) {a : Int32} (ha : fBt a 0 3 = false) : zCon μL_needed (7, 2, 12) σ [.ref (b 0), .int a] M (zP (some (.int (-1001))) M) := by
  obtain ⟨S, nw, un, hs, hP, ho, rfl, rfl, rfl⟩ := hV
  exact c_L_needed_0 hP ha
theorem c_W_neededBySearch_0 {σ : zSg} {M : zM} {Z : Nat → Prop} {b : Nat → Nat} {C : Nat → Nat → Nat} {P : zS} {U : List zS} {X : Option zS} {ea fa : Int32} {t : Nat → Nat} {n : Nat} {u : Nat → Nat} {k : Nat} (hV : zVw M Z b C P U X ea fa t n u k) {a : Int32} (ha : fBt a 0 3 = false) : zCon μL_neededBySearch (7, 2, 12) σ [.ref (b 0), .int a] M (zP (some (.int (-1001))) M) := by
  obtain ⟨S, nw, un, hs, hP, ho, rfl, rfl, rfl⟩ := hV
  exact c_L_neededBySearch_0 hP ha
theorem c_W_stored_0 {σ : zSg} {M : zM} {Z : Nat → Prop} {b : Nat → Nat} {C : Nat → Nat → Nat} {P : zS} {U : List zS} {X : Option zS} {ea fa : Int32} {t : Nat → Nat} {n : Nat} {u : Nat → Nat} {k : Nat} (hV : zVw M Z b C P U X ea fa t n u k) {a : Int32} (ha : fBt a 0 3 = false) : zCon μL_stored (6, 1, 6) σ [.ref (b 0), .int a] M (zP (some (.int (-1001))) M) := by
  obtain ⟨S, nw, un, hs, hP, ho, rfl, rfl, rfl⟩ := hV
  exact c_L_stored_0 hP ha
theorem c_W_renderAisle_0 {σ : zSg} {M : zM} {Z : Nat → Prop} {b : Nat → Nat} {C : Nat → Nat → Nat} {P : zS} {U : List zS} {X : Option zS} {ea fa : Int32} {t : Nat → Nat} {n : Nat} {u : Nat → Nat} {k : Nat} (hV : zVw M Z b C P U X ea fa t n u k) {a : Int32} (ha : fBt a 0 3 = false) : zCon μL_renderAisle (8, 15, 2106) σ [.ref (b 0), .int a] M (zP (some (.int (-1001))) M) := by
  obtain ⟨S, nw, un, hs, hP, ho, rfl, rfl, rfl⟩ := hV
  exact c_L_renderAisle_0 hP ha
theorem c_W_rackAt_0 {σ : zSg} {M : zM} {Z : Nat → Prop} {b : Nat → Nat} {C : Nat → Nat → Nat} {P : zS} {U : List zS} {X : Option zS} {ea fa : Int32} {t : Nat → Nat} {n : Nat} {u : Nat → Nat} {k : Nat} (hV : zVw M Z b C P U X ea fa t n u k) {a : Int32} (ha : fBt a 0 3 = false) (p : Int32) : zCon μL_rackAt (6, 2, 12) σ [.ref (b 0), .int a, .int p] M (zP (some (.int (-1001))) M) := by
  obtain ⟨S, nw, un, hs, hP, ho, rfl, rfl, rfl⟩ := hV
  exact c_L_rackAt_0 hP ha p
theorem c_W_rackAt_1 {σ : zSg} {M : zM} {Z : Nat → Prop} {b : Nat → Nat} {C : Nat → Nat → Nat} {P : zS} {U : List zS} {X : Option zS} {ea fa : Int32} {t : Nat → Nat} {n : Nat} {u : Nat → Nat} {k : Nat} (hV : zVw M Z b C P U X ea fa t n u k) {a : Int32} (ha : fBt a 0 3 = true) {p : Int32} (hp : fBt p 0 5 = false) : zCon μL_rackAt (6, 2, 12) σ [.ref (b 0), .int a, .int p] M (zP (some (.int (-1002))) M) := by
  obtain ⟨S, nw, un, hs, hP, ho, rfl, rfl, rfl⟩ := hV
  exact c_L_rackAt_1 hP ha hp
theorem c_W_curve_0 {σ : zSg} {M : zM} {Z : Nat → Prop} {b : Nat → Nat} {C : Nat → Nat → Nat} {P : zS} {U : List zS} {X : Option zS} {ea fa : Int32} {t : Nat → Nat} {n : Nat} {u : Nat → Nat} {k : Nat} (hV : zVw M Z b C P U X ea fa t n u k) {v : Int32} (hv : fBt v 0 2 = false) : zCon μL_curve (6, 1, 6) σ [.ref (b 0), .int v] M (zP (some (.int (-1001))) M) := by
  obtain ⟨S, nw, un, hs, hP, ho, rfl, rfl, rfl⟩ := hV
  exact c_L_curve_0 hP hv
theorem c_W_airflow_0 {σ : zSg} {M : zM} {Z : Nat → Prop} {b : Nat → Nat} {C : Nat → Nat → Nat} {P : zS} {U : List zS} {X : Option zS} {ea fa : Int32} {t : Nat → Nat} {n : Nat} {u : Nat → Nat} {k : Nat} (hV : zVw M Z b C P U X ea fa t n u k) {v : Int32} (hv : fBt v 0 10 = false) : zCon μL_airflow (6, 1, 6) σ [.ref (b 0), .int v] M (zP (some (.float 3296346112)) M) := by
  obtain ⟨S, nw, un, hs, hP, ho, rfl, rfl, rfl⟩ := hV
  exact c_L_airflow_0 hP hv
theorem c_W_outputAt_0 {σ : zSg} {M : zM} {Z : Nat → Prop} {b : Nat → Nat} {C : Nat → Nat → Nat} {P : zS} {U : List zS} {X : Option zS} {ea fa : Int32} {t : Nat → Nat} {n : Nat} {u : Nat → Nat} {k : Nat} (hV : zVw M Z b C P U X ea fa t n u k) {x : Int32} (hx : x < 0 ∨ nI k ≤ x) : zCon μL_outputAt (6, 1, 6) σ [.ref (b 0), .int x] M (zP (some (.int (-1001))) M) := by
  obtain ⟨S, nw, un, hs, hP, ho, rfl, rfl, rfl⟩ := hV
  exact c_L_outputAt_0 hP hx
theorem c_W_byHeat {σ : zSg} {M : zM} {Z : Nat → Prop} {b : Nat → Nat} {C : Nat → Nat → Nat} {P : zS} {U : List zS} {X : Option zS} {ea fa : Int32} {t : Nat → Nat} {n : Nat} {u : Nat → Nat} {k : Nat} (hV : zVw M Z b C P U X ea fa t n u k) (r : Int32) : zCon μL_byHeat (6, 1, 6) σ [.ref (b 0), .int r] M (zP (some (.int (fBh P r))) M) := by
  obtain ⟨S, nw, un, hs, hP, ho, rfl, rfl, rfl⟩ := hV
  exact c_L_byHeat hP r
theorem c_W_errorPosition {σ : zSg} {M : zM} {Z : Nat → Prop} {b : Nat → Nat} {C : Nat → Nat → Nat} {P : zS} {U : List zS} {X : Option zS} {ea fa : Int32} {t : Nat → Nat} {n : Nat} {u : Nat → Nat} {k : Nat} (hV : zVw M Z b C P U X ea fa t n u k) (hf : ¬ ea = -1) : zCon μL_errorPosition (6, 1, 6) σ [.ref (b 0)] M (zP (some (.int ea)) M) := by
  obtain ⟨S, nw, un, hs, hP, ho, rfl, rfl, rfl⟩ := hV
  exact w_errorPosition_r hP.2.2.1 ((c_X8_errorPosition_1 hP hf).post (fun _ _ h => h)) (by decide) (by decide) (by decide)
theorem c_W_failedCommand {σ : zSg} {M : zM} {Z : Nat → Prop} {b : Nat → Nat} {C : Nat → Nat → Nat} {P : zS} {U : List zS} {X : Option zS} {ea fa : Int32} {t : Nat → Nat} {n : Nat} {u : Nat → Nat} {k : Nat} (hV : zVw M Z b C P U X ea fa t n u k) (hf : ¬ fa = -1) : zCon μL_failedCommand (6, 1, 6) σ [.ref (b 0)] M (zP (some (.int fa)) M) := by
  obtain ⟨S, nw, un, hs, hP, ho, rfl, rfl, rfl⟩ := hV
  exact w_failedCommand_r hP.2.2.1 ((c_X8_failedCommand_1 hP hf).post (fun _ _ h => h)) (by decide) (by decide) (by decide)
theorem c_W_byTemp {σ : zSg} {M : zM} {Z : Nat → Prop} {b : Nat → Nat} {C : Nat → Nat → Nat} {P : zS} {U : List zS} {X : Option zS} {ea fa : Int32} {t : Nat → Nat} {n : Nat} {u : Nat → Nat} {k : Nat} (hV : zVw M Z b C P U X ea fa t n u k) (r : Int32) : zCon μL_byTemperature (8, 1, 6) σ [.ref (b 0), .int r] M (zF (some (.int (fBr P r))) (fun M' => zVw M' Z b C P U X ea fa t n u k ∧ zKe M M' Z)) := by
  obtain ⟨S, nw, un, hs, hP, ho, rfl, rfl, rfl⟩ := hV
  exact (c_L_byTemp hP r).post (fun o M' q => ⟨q.1, ⟨S, nw, un, hs, q.2.1, ho, rfl, rfl, rfl⟩, q.2.2⟩)

theorem c_W_q {σ : zSg} {M : zM} {Z : Nat → Prop} {b : Nat → Nat} {C : Nat → Nat → Nat} {P : zS} {U : List zS} {X : Option zS} {ea fa : Int32} {t : Nat → Nat} {u : Nat → Nat} {k : Nat} (hV : zVw M Z b C P U X ea fa t 0 u k) : zCon μL_runs (14, 21, 3006) σ [.ref (b 0), .ref (zK σ 3)] M (zF (some (.int (-1001))) (fun M' => (∃ t', zVw M' Z b C P U X (nI 0) fa t' 0 u k) ∧ zKe M M' Z)) := by
  refine (c_runsK hV (i9 := 3) (N := 1) (by decide) fKn_v.2.2.2.1 (fun j hj => fK_asc (by decide) (by rw [fKn_v.2.2.2.1]; exact hj)) (by decide) (PW := fun w M' => w = (-1001) ∧ (∃ t', zVw M' Z b C P U X (nI 0) fa t' 0 u k) ∧ zKe M M' Z) (fun M1 h1 hz1 => (c_L_run_p h1 cc_3).post (fun o M2 q => ?_))).post (fun o M' q => ?_)
  · obtain ⟨e, v, z⟩ := q
    exact ⟨_, e, rfl, ⟨_, v⟩, hz1.tr z⟩
  · obtain ⟨w9, e, rfl, h⟩ := q
    exact ⟨e, h⟩
theorem c_W_4 {σ : zSg} {M : zM} {Z : Nat → Prop} {b : Nat → Nat} {C : Nat → Nat → Nat} {P : zS} {U : List zS} {X : Option zS} {ea fa : Int32} {t : Nat → Nat} {u : Nat → Nat} {k : Nat} (hV : zVw M Z b C P U X ea fa t 0 u k) (hO : zOk P) : zCon μL_runs (14, 21, 3006) σ [.ref (b 0), .ref (zK σ 4)] M (zF (some (.int (-1002))) (fun M' => (∃ t', zVw M' Z b C P U X ea (nI 2) t' 0 u k) ∧ zKe M M' Z)) := by
  refine (c_runsK hV (i9 := 4) (N := 19) (by decide) fKn_v.2.2.2.2.1 (fun j hj => fK_asc (by decide) (by rw [fKn_v.2.2.2.2.1]; exact hj)) (by decide) (PW := fun w M' => w = (-1002) ∧ (∃ t', zVw M' Z b C P U X ea (nI 2) t' 0 u k) ∧ zKe M M' Z) (fun M1 h1 hz1 => (c_L_run_f h1 (N := 3) (d := 2) (by decide) cc_4 (po_4 hO) (by decide)).post (fun o M2 q => ?_))).post (fun o M' q => ?_)
  · obtain ⟨e, v, z⟩ := q
    exact ⟨_, e, rfl, ⟨_, v⟩, hz1.tr z⟩
  · obtain ⟨w9, e, rfl, h⟩ := q
    exact ⟨e, h⟩
theorem c_W_5 {σ : zSg} {M : zM} {Z : Nat → Prop} {b : Nat → Nat} {C : Nat → Nat → Nat} {P : zS} {U : List zS} {X : Option zS} {ea fa : Int32} {t : Nat → Nat} {u : Nat → Nat} {k : Nat} (hV : zVw M Z b C P U X ea fa t 0 u k) : zCon μL_runs (14, 21, 3006) σ [.ref (b 0), .ref (zK σ 5)] M (zF (some (.int (-1002))) (fun M' => (∃ t', zVw M' Z b C P U X ea (nI 0) t' 0 u k) ∧ zKe M M' Z)) := by
  refine (c_runsK hV (i9 := 5) (N := 8) (by decide) fKn_v.2.2.2.2.2 (fun j hj => fK_asc (by decide) (by rw [fKn_v.2.2.2.2.2]; exact hj)) (by decide) (PW := fun w M' => w = (-1002) ∧ (∃ t', zVw M' Z b C P U X ea (nI 0) t' 0 u k) ∧ zKe M M' Z) (fun M1 h1 hz1 => (c_L_run_f h1 (N := 1) (d := 0) (by decide) cc_5 po_5 (by decide)).post (fun o M2 q => ?_))).post (fun o M' q => ?_)
  · obtain ⟨e, v, z⟩ := q
    exact ⟨_, e, rfl, ⟨_, v⟩, hz1.tr z⟩
  · obtain ⟨w9, e, rfl, h⟩ := q
    exact ⟨e, h⟩
theorem lcmp_self {x : Int64} : lg_cmp x x = 0 := by
  unfold lg_cmp
  simp
set_option maxRecDepth 100000 in
set_option maxHeartbeats 4000000 in
theorem k_thr_1003 {σ : zSg} {M : zM} {Z : Nat → Prop} {b : Nat → Nat} {C : Nat → Nat → Nat} {P : zS} {U : List zS} {X : Option zS} {ea fa : Int32} {t : Nat → Nat} {u : Nat → Nat} {k : Nat} {M0 : zM} (hV : zVw M Z b C P U X ea fa t 0 u k) (hz : zKe M0 M Z) (hO : zOk P) (h2 : 2 ≤ fCnt P) (h40 : k ≤ 40) : zV μL_thrown (16, 4000, 80000) σ (zI9 (fun w M' => (w = 1 ∧ zVo M' Z b C P U X) ∧ zKe M0 M' Z)) M 2300 39000 1003 [(4, .int 1), (1, .long (fAsk P)), (3, .int (P 0)), (0, .ref (b 0))] [] := by
  refine zv_iload (n := 1005) dL_thrown_1003 rfl rfl ?_
  refine zv_if_eq (n := 1008) (tgt := 1089) dL_thrown_1005 (by decide) rfl (fun h1005 => False.elim (absurd h1005 (by decide))) (fun h1005 => ?_)
  refine zv_aload_n (n := 1009) dL_thrown_1008 rfl rfl ?_
  refine zv_ldcSW (n := 1012) (j := 3) dL_thrown_1009 rfl rfl rfl rfl ?_
  refine zv_callSF (n := 1015) (As := [.ref (b 0), .ref (zK σ 3)]) (rest := []) (kc' := 2321) (ks' := 42006) dL_thrown_1012 rfl (c_W_q hV) rfl kL_runs lL_285 rfl rfl ⟨by decide, by decide⟩ (Nat.le_of_ble_eq_true rfl) rfl rfl (by decide) (by decide) (fun M1 hq => ?_)
  obtain ⟨⟨t9, hV⟩, hz9⟩ := hq
  replace hz := hz.tr hz9
  refine zv_sipush (n := 1018) dL_thrown_1015 rfl (v := (-1001)) (by decide) ?_
  refine zv_icmp_ne (n := 1021) (tgt := 1089) dL_thrown_1018 (by decide) rfl (fun h1018 => False.elim (h1018 rfl)) (fun h1018 => ?_)
  refine zv_aload_n (n := 1022) dL_thrown_1021 rfl rfl ?_
  refine zv_callSXP (n := 1025) (As := [.ref (b 0)]) (rest := []) (kc' := 2322) (ks' := 42012) dL_thrown_1022 rfl (c_W_errorPosition hV (by decide)) rfl kL_errorPosition lL_319 rfl rfl ⟨by decide, by decide⟩ (Nat.le_of_ble_eq_true rfl) rfl rfl (by decide) (by decide) ?_
  refine zv_if_ne (n := 1028) (tgt := 1089) dL_thrown_1025 (by decide) rfl (fun h1025 => False.elim (absurd (by decide) h1025)) (fun h1025 => ?_)
  refine zv_aload_n (n := 1029) dL_thrown_1028 rfl rfl ?_
  refine zv_ldcSW (n := 1032) (j := 4) dL_thrown_1029 rfl rfl rfl rfl ?_
  refine zv_callSF (n := 1035) (As := [.ref (b 0), .ref (zK σ 4)]) (rest := []) (kc' := 2343) (ks' := 45018) dL_thrown_1032 rfl (c_W_4 hV hO) rfl kL_runs lL_285 rfl rfl ⟨by decide, by decide⟩ (Nat.le_of_ble_eq_true rfl) rfl rfl (by decide) (by decide) (fun M1 hq => ?_)
  obtain ⟨⟨t9, hV⟩, hz9⟩ := hq
  replace hz := hz.tr hz9
  refine zv_sipush (n := 1038) dL_thrown_1035 rfl (v := (-1002)) (by decide) ?_
  refine zv_icmp_ne (n := 1041) (tgt := 1089) dL_thrown_1038 (by decide) rfl (fun h1038 => False.elim (h1038 rfl)) (fun h1038 => ?_)
  refine zv_aload_n (n := 1042) dL_thrown_1041 rfl rfl ?_
  refine zv_callSXP (n := 1045) (As := [.ref (b 0)]) (rest := []) (kc' := 2344) (ks' := 45024) dL_thrown_1042 rfl (c_W_failedCommand hV (by decide)) rfl kL_failedCommand lL_323 rfl rfl ⟨by decide, by decide⟩ (Nat.le_of_ble_eq_true rfl) rfl rfl (by decide) (by decide) ?_
  refine zv_iconst (n := 1046) dL_thrown_1045 rfl (v := 2) (by decide) ?_
  refine zv_icmp_ne (n := 1049) (tgt := 1089) dL_thrown_1046 (by decide) rfl (fun h1046 => False.elim (absurd (by decide) h1046)) (fun h1046 => ?_)
  refine zv_aload_n (n := 1050) dL_thrown_1049 rfl rfl ?_
  refine zv_ldcSW (n := 1053) (j := 5) dL_thrown_1050 rfl rfl rfl rfl ?_
  refine zv_callSF (n := 1056) (As := [.ref (b 0), .ref (zK σ 5)]) (rest := []) (kc' := 2365) (ks' := 48030) dL_thrown_1053 rfl (c_W_5 hV) rfl kL_runs lL_285 rfl rfl ⟨by decide, by decide⟩ (Nat.le_of_ble_eq_true rfl) rfl rfl (by decide) (by decide) (fun M1 hq => ?_)
  obtain ⟨⟨t9, hV⟩, hz9⟩ := hq
  replace hz := hz.tr hz9
  refine zv_sipush (n := 1059) dL_thrown_1056 rfl (v := (-1002)) (by decide) ?_
  refine zv_icmp_ne (n := 1062) (tgt := 1089) dL_thrown_1059 (by decide) rfl (fun h1059 => False.elim (h1059 rfl)) (fun h1059 => ?_)
  refine zv_aload_n (n := 1063) dL_thrown_1062 rfl rfl ?_
  refine zv_callSXP (n := 1066) (As := [.ref (b 0)]) (rest := []) (kc' := 2366) (ks' := 48036) dL_thrown_1063 rfl (c_W_failedCommand hV (by decide)) rfl kL_failedCommand lL_323 rfl rfl ⟨by decide, by decide⟩ (Nat.le_of_ble_eq_true rfl) rfl rfl (by decide) (by decide) ?_
  refine zv_if_ne (n := 1069) (tgt := 1089) dL_thrown_1066 (by decide) rfl (fun h1066 => False.elim (absurd (by decide) h1066)) (fun h1066 => ?_)
  refine zv_aload_n (n := 1070) dL_thrown_1069 rfl rfl ?_
  refine zv_callSXP (n := 1073) (As := [.ref (b 0)]) (rest := []) (kc' := 2367) (ks' := 48042) dL_thrown_1070 rfl (c_W_errorPosition hV (by decide)) rfl kL_errorPosition lL_319 rfl rfl ⟨by decide, by decide⟩ (Nat.le_of_ble_eq_true rfl) rfl rfl (by decide) (by decide) ?_
  refine zv_if_ne (n := 1076) (tgt := 1089) dL_thrown_1073 (by decide) rfl (fun h1073 => False.elim (absurd (by decide) h1073)) (fun h1073 => ?_)
  refine zv_aload_n (n := 1077) dL_thrown_1076 rfl rfl ?_
  refine zv_callSF (n := 1080) (As := [.ref (b 0)]) (rest := []) (kc' := 3716) (ks' := 78024) dL_thrown_1077 rfl (c_V_asks hV) rfl kL_asks lL_289 rfl rfl ⟨by decide, by decide⟩ (Nat.le_of_ble_eq_true rfl) rfl rfl (by decide) (by decide) (fun M1 hq => ?_)
  obtain ⟨⟨u9, k9, hV, -⟩, hz9⟩ := hq
  replace hz := hz.tr hz9
  refine zv_lload_n (n := 1081) dL_thrown_1080 rfl rfl ?_
  refine zv_lcmp (n := 1082) dL_thrown_1081 rfl ?_
  refine zv_if_ne (n := 1085) (tgt := 1089) dL_thrown_1082 (by decide) rfl (fun h1082 => False.elim (absurd lcmp_self h1082)) (fun h1082 => ?_)
  refine zv_iconst (n := 1086) dL_thrown_1085 rfl (v := 1) (by decide) ?_
  refine zv_goto (tgt := 1090) dL_thrown_1086 (by decide) ?_
  refine zv_zret dL_thrown_1090 rfl rfl (by decide) (by decide) ?_
  exact zIi ⟨⟨rfl, _, _, _, _, _, hV⟩, hz⟩

set_option maxRecDepth 100000 in
set_option maxHeartbeats 4000000 in
theorem k_thr_699 {σ : zSg} {M : zM} {Z : Nat → Prop} {b : Nat → Nat} {C : Nat → Nat → Nat} {P : zS} {U : List zS} {X : Option zS} {ea fa : Int32} {t : Nat → Nat} {u : Nat → Nat} {k : Nat} {M0 : zM} (hV : zVw M Z b C P U X ea fa t 0 u k) (hz : zKe M0 M Z) (hO : zOk P) (h2 : 2 ≤ fCnt P) (h40 : k ≤ 40) : zV μL_thrown (16, 4000, 80000) σ (zI9 (fun w M' => (w = 1 ∧ zVo M' Z b C P U X) ∧ zKe M0 M' Z)) M 2202 35102 699 [(4, .int 1), (1, .long (fAsk P)), (3, .int (P 0)), (0, .ref (b 0))] [] := by
  refine zv_iload (n := 701) dL_thrown_699 rfl rfl ?_
  refine zv_if_eq (n := 704) (tgt := 1000) dL_thrown_701 (by decide) rfl (fun h701 => False.elim (absurd h701 (by decide))) (fun h701 => ?_)
  refine zv_aload_n (n := 705) dL_thrown_704 rfl rfl ?_
  refine zv_iload_n (n := 706) dL_thrown_705 rfl rfl ?_
  refine zv_callSXP (n := 709) (As := [.ref (b 0), .int (P 0)]) (rest := []) (kc' := 2203) (ks' := 35108) dL_thrown_706 rfl (c_W_aisleOf_0 hV fBad_n0) rfl kL_aisleOf lL_296 rfl rfl ⟨by decide, by decide⟩ (Nat.le_of_ble_eq_true rfl) rfl rfl (by decide) (by decide) ?_
  refine zv_sipush (n := 712) dL_thrown_709 rfl (v := (-1001)) (by decide) ?_
  refine zv_icmp_ne (n := 715) (tgt := 1000) dL_thrown_712 (by decide) rfl (fun h712 => False.elim (h712 rfl)) (fun h712 => ?_)
  refine zv_aload_n (n := 716) dL_thrown_715 rfl rfl ?_
  refine zv_iconst (n := 717) dL_thrown_716 rfl (v := (-1)) (by decide) ?_
  refine zv_callSXP (n := 720) (As := [.ref (b 0), .int (-1)]) (rest := []) (kc' := 2204) (ks' := 35114) dL_thrown_717 rfl (c_W_placeOf_0 hV fBad_m1) rfl kL_placeOf lL_298 rfl rfl ⟨by decide, by decide⟩ (Nat.le_of_ble_eq_true rfl) rfl rfl (by decide) (by decide) ?_
  refine zv_sipush (n := 723) dL_thrown_720 rfl (v := (-1001)) (by decide) ?_
  refine zv_icmp_ne (n := 726) (tgt := 1000) dL_thrown_723 (by decide) rfl (fun h723 => False.elim (h723 rfl)) (fun h723 => ?_)
  refine zv_aload_n (n := 727) dL_thrown_726 rfl rfl ?_
  refine zv_iload_n (n := 728) dL_thrown_727 rfl rfl ?_
  refine zv_callSXP (n := 731) (As := [.ref (b 0), .int (P 0)]) (rest := []) (kc' := 2205) (ks' := 35120) dL_thrown_728 rfl (c_W_load_0 hV fBad_n0) rfl kL_load lL_300 rfl rfl ⟨by decide, by decide⟩ (Nat.le_of_ble_eq_true rfl) rfl rfl (by decide) (by decide) ?_
  refine zv_sipush (n := 734) dL_thrown_731 rfl (v := (-1001)) (by decide) ?_
  refine zv_icmp_ne (n := 737) (tgt := 1000) dL_thrown_734 (by decide) rfl (fun h734 => False.elim (h734 rfl)) (fun h734 => ?_)
  refine zv_aload_n (n := 738) dL_thrown_737 rfl rfl ?_
  refine zv_iconst (n := 739) dL_thrown_738 rfl (v := 4) (by decide) ?_
  refine zv_iconst (n := 740) dL_thrown_739 rfl (v := 0) (by decide) ?_
  refine zv_callSXP (n := 743) (As := [.ref (b 0), .int 4, .int 0]) (rest := []) (kc' := 2207) (ks' := 35132) dL_thrown_740 rfl (c_W_rackAt_0 hV (by decide) _) rfl kL_rackAt lL_302 rfl rfl ⟨by decide, by decide⟩ (Nat.le_of_ble_eq_true rfl) rfl rfl (by decide) (by decide) ?_
  refine zv_sipush (n := 746) dL_thrown_743 rfl (v := (-1001)) (by decide) ?_
  refine zv_icmp_ne (n := 749) (tgt := 1000) dL_thrown_746 (by decide) rfl (fun h746 => False.elim (h746 rfl)) (fun h746 => ?_)
  refine zv_aload_n (n := 750) dL_thrown_749 rfl rfl ?_
  refine zv_iconst (n := 751) dL_thrown_750 rfl (v := 0) (by decide) ?_
  refine zv_iconst (n := 752) dL_thrown_751 rfl (v := (-1)) (by decide) ?_
  refine zv_callSXP (n := 755) (As := [.ref (b 0), .int 0, .int (-1)]) (rest := []) (kc' := 2209) (ks' := 35144) dL_thrown_752 rfl (c_W_rackAt_1 hV (by decide) (by decide)) rfl kL_rackAt lL_302 rfl rfl ⟨by decide, by decide⟩ (Nat.le_of_ble_eq_true rfl) rfl rfl (by decide) (by decide) ?_
  refine zv_sipush (n := 758) dL_thrown_755 rfl (v := (-1002)) (by decide) ?_
  refine zv_icmp_ne (n := 761) (tgt := 1000) dL_thrown_758 (by decide) rfl (fun h758 => False.elim (h758 rfl)) (fun h758 => ?_)
  refine zv_aload_n (n := 762) dL_thrown_761 rfl rfl ?_
  refine zv_iconst (n := 763) dL_thrown_762 rfl (v := (-1)) (by decide) ?_
  refine zv_callSXP (n := 766) (As := [.ref (b 0), .int (-1)]) (rest := []) (kc' := 2210) (ks' := 35150) dL_thrown_763 rfl (c_W_heat_0 hV (by decide)) rfl kL_heat lL_304 rfl rfl ⟨by decide, by decide⟩ (Nat.le_of_ble_eq_true rfl) rfl rfl (by decide) (by decide) ?_
  refine zv_sipush (n := 769) dL_thrown_766 rfl (v := (-1001)) (by decide) ?_
  refine zv_icmp_ne (n := 772) (tgt := 1000) dL_thrown_769 (by decide) rfl (fun h769 => False.elim (h769 rfl)) (fun h769 => ?_)
  refine zv_aload_n (n := 773) dL_thrown_772 rfl rfl ?_
  refine zv_iconst (n := 774) dL_thrown_773 rfl (v := 4) (by decide) ?_
  refine zv_callSXP (n := 777) (As := [.ref (b 0), .int 4]) (rest := []) (kc' := 2211) (ks' := 35156) dL_thrown_774 rfl (c_W_fan_0 hV (by decide)) rfl kL_fan lL_306 rfl rfl ⟨by decide, by decide⟩ (Nat.le_of_ble_eq_true rfl) rfl rfl (by decide) (by decide) ?_
  refine zv_sipush (n := 780) dL_thrown_777 rfl (v := (-1001)) (by decide) ?_
  refine zv_icmp_ne (n := 783) (tgt := 1000) dL_thrown_780 (by decide) rfl (fun h780 => False.elim (h780 rfl)) (fun h780 => ?_)
  refine zv_aload_n (n := 784) dL_thrown_783 rfl rfl ?_
  refine zv_iconst (n := 785) dL_thrown_784 rfl (v := 3) (by decide) ?_
  refine zv_callSXP (n := 788) (As := [.ref (b 0), .int 3]) (rest := []) (kc' := 2212) (ks' := 35162) dL_thrown_785 rfl (c_W_curve_0 hV (by decide)) rfl kL_curve lL_293 rfl rfl ⟨by decide, by decide⟩ (Nat.le_of_ble_eq_true rfl) rfl rfl (by decide) (by decide) ?_
  refine zv_sipush (n := 791) dL_thrown_788 rfl (v := (-1001)) (by decide) ?_
  refine zv_icmp_ne (n := 794) (tgt := 1000) dL_thrown_791 (by decide) rfl (fun h791 => False.elim (h791 rfl)) (fun h791 => ?_)
  refine zv_aload_n (n := 795) dL_thrown_794 rfl rfl ?_
  refine zv_bipush (n := 797) dL_thrown_795 rfl (v := 11) (by decide) ?_
  refine zv_callSXP (n := 800) (As := [.ref (b 0), .int 11]) (rest := []) (kc' := 2213) (ks' := 35168) dL_thrown_797 rfl (c_W_airflow_0 hV (by decide)) rfl kL_airflow lL_247 rfl rfl ⟨by decide, by decide⟩ (Nat.le_of_ble_eq_true rfl) rfl rfl (by decide) (by decide) ?_
  refine zv_ldcf (n := 802) dL_thrown_800 rfl qL_74 ?_
  refine zv_fcmp (n := 803) dL_thrown_802 rfl ?_
  refine zv_if_ne (n := 806) (tgt := 1000) dL_thrown_803 (by decide) rfl (fun h803 => False.elim (h803 (by decide +kernel))) (fun h803 => ?_)
  refine zv_aload_n (n := 807) dL_thrown_806 rfl rfl ?_
  refine zv_iconst (n := 808) dL_thrown_807 rfl (v := (-1)) (by decide) ?_
  refine zv_callSXP (n := 811) (As := [.ref (b 0), .int (-1)]) (rest := []) (kc' := 2214) (ks' := 35174) dL_thrown_808 rfl (c_W_airflow_0 hV (by decide)) rfl kL_airflow lL_247 rfl rfl ⟨by decide, by decide⟩ (Nat.le_of_ble_eq_true rfl) rfl rfl (by decide) (by decide) ?_
  refine zv_ldcf (n := 813) dL_thrown_811 rfl qL_74 ?_
  refine zv_fcmp (n := 814) dL_thrown_813 rfl ?_
  refine zv_if_ne (n := 817) (tgt := 1000) dL_thrown_814 (by decide) rfl (fun h814 => False.elim (h814 (by decide +kernel))) (fun h814 => ?_)
  refine zv_aload_n (n := 818) dL_thrown_817 rfl rfl ?_
  refine zv_iconst (n := 819) dL_thrown_818 rfl (v := 4) (by decide) ?_
  refine zv_callSXP (n := 822) (As := [.ref (b 0), .int 4]) (rest := []) (kc' := 2215) (ks' := 35180) dL_thrown_819 rfl (c_W_inlet_0 hV (by decide)) rfl kL_inlet lL_239 rfl rfl ⟨by decide, by decide⟩ (Nat.le_of_ble_eq_true rfl) rfl rfl (by decide) (by decide) ?_
  refine zv_ldcf (n := 824) dL_thrown_822 rfl qL_74 ?_
  refine zv_fcmp (n := 825) dL_thrown_824 rfl ?_
  refine zv_if_ne (n := 828) (tgt := 1000) dL_thrown_825 (by decide) rfl (fun h825 => False.elim (h825 (by decide +kernel))) (fun h825 => ?_)
  refine zv_aload_n (n := 829) dL_thrown_828 rfl rfl ?_
  refine zv_iconst (n := 830) dL_thrown_829 rfl (v := (-1)) (by decide) ?_
  refine zv_callSXP (n := 833) (As := [.ref (b 0), .int (-1)]) (rest := []) (kc' := 2216) (ks' := 35186) dL_thrown_830 rfl (c_W_rise_0 hV (by decide)) rfl kL_rise lL_243 rfl rfl ⟨by decide, by decide⟩ (Nat.le_of_ble_eq_true rfl) rfl rfl (by decide) (by decide) ?_
  refine zv_ldcf (n := 835) dL_thrown_833 rfl qL_74 ?_
  refine zv_fcmp (n := 836) dL_thrown_835 rfl ?_
  refine zv_if_ne (n := 839) (tgt := 1000) dL_thrown_836 (by decide) rfl (fun h836 => False.elim (h836 (by decide +kernel))) (fun h836 => ?_)
  refine zv_aload_n (n := 840) dL_thrown_839 rfl rfl ?_
  refine zv_iload_n (n := 841) dL_thrown_840 rfl rfl ?_
  refine zv_callSXP (n := 844) (As := [.ref (b 0), .int (P 0)]) (rest := []) (kc' := 2218) (ks' := 35198) dL_thrown_841 rfl (c_W_temperature_0 hV fBad_n0) rfl kL_temperature lL_253 rfl rfl ⟨by decide, by decide⟩ (Nat.le_of_ble_eq_true rfl) rfl rfl (by decide) (by decide) ?_
  refine zv_ldcf (n := 846) dL_thrown_844 rfl qL_74 ?_
  refine zv_fcmp (n := 847) dL_thrown_846 rfl ?_
  refine zv_if_ne (n := 850) (tgt := 1000) dL_thrown_847 (by decide) rfl (fun h847 => False.elim (h847 (by decide +kernel))) (fun h847 => ?_)
  refine zv_aload_n (n := 851) dL_thrown_850 rfl rfl ?_
  refine zv_iload_n (n := 852) dL_thrown_851 rfl rfl ?_
  refine zv_callSXP (n := 855) (As := [.ref (b 0), .int (P 0)]) (rest := []) (kc' := 2220) (ks' := 35210) dL_thrown_852 rfl (c_W_isHot_0 hV fBad_n0) rfl kL_isHot lL_309 rfl rfl ⟨by decide, by decide⟩ (Nat.le_of_ble_eq_true rfl) rfl rfl (by decide) (by decide) ?_
  refine zv_sipush (n := 858) dL_thrown_855 rfl (v := (-1001)) (by decide) ?_
  refine zv_icmp_ne (n := 861) (tgt := 1000) dL_thrown_858 (by decide) rfl (fun h858 => False.elim (h858 rfl)) (fun h858 => ?_)
  refine zv_aload_n (n := 862) dL_thrown_861 rfl rfl ?_
  refine zv_iconst (n := 863) dL_thrown_862 rfl (v := 4) (by decide) ?_
  refine zv_callSXP (n := 866) (As := [.ref (b 0), .int 4]) (rest := []) (kc' := 2222) (ks' := 35222) dL_thrown_863 rfl (c_W_needed_0 hV (by decide)) rfl kL_needed lL_230 rfl rfl ⟨by decide, by decide⟩ (Nat.le_of_ble_eq_true rfl) rfl rfl (by decide) (by decide) ?_
  refine zv_sipush (n := 869) dL_thrown_866 rfl (v := (-1001)) (by decide) ?_
  refine zv_icmp_ne (n := 872) (tgt := 1000) dL_thrown_869 (by decide) rfl (fun h869 => False.elim (h869 rfl)) (fun h869 => ?_)
  refine zv_aload_n (n := 873) dL_thrown_872 rfl rfl ?_
  refine zv_iconst (n := 874) dL_thrown_873 rfl (v := (-1)) (by decide) ?_
  refine zv_callSXP (n := 877) (As := [.ref (b 0), .int (-1)]) (rest := []) (kc' := 2224) (ks' := 35234) dL_thrown_874 rfl (c_W_neededBySearch_0 hV (by decide)) rfl kL_neededBySearch lL_311 rfl rfl ⟨by decide, by decide⟩ (Nat.le_of_ble_eq_true rfl) rfl rfl (by decide) (by decide) ?_
  refine zv_sipush (n := 880) dL_thrown_877 rfl (v := (-1001)) (by decide) ?_
  refine zv_icmp_ne (n := 883) (tgt := 1000) dL_thrown_880 (by decide) rfl (fun h880 => False.elim (h880 rfl)) (fun h880 => ?_)
  refine zv_aload_n (n := 884) dL_thrown_883 rfl rfl ?_
  refine zv_iload_n (n := 885) dL_thrown_884 rfl rfl ?_
  refine zv_callSXP (n := 888) (As := [.ref (b 0), .int (P 0)]) (rest := []) (kc' := 2226) (ks' := 35246) dL_thrown_885 rfl (c_W_untilHot_0 hV fBad_n0) rfl kL_untilHot lL_314 rfl rfl ⟨by decide, by decide⟩ (Nat.le_of_ble_eq_true rfl) rfl rfl (by decide) (by decide) ?_
  refine zv_sipush (n := 891) dL_thrown_888 rfl (v := (-1001)) (by decide) ?_
  refine zv_icmp_ne (n := 894) (tgt := 1000) dL_thrown_891 (by decide) rfl (fun h891 => False.elim (h891 rfl)) (fun h891 => ?_)
  refine zv_aload_n (n := 895) dL_thrown_894 rfl rfl ?_
  refine zv_iload_n (n := 896) dL_thrown_895 rfl rfl ?_
  refine zv_callSXF (n := 899) (As := [.ref (b 0), .int (P 0)]) (rest := []) (kc' := 2227) (ks' := 35252) dL_thrown_896 rfl (c_W_byTemp hV (P 0)) rfl kL_byTemperature lL_250 rfl rfl ⟨by decide, by decide⟩ (Nat.le_of_ble_eq_true rfl) rfl rfl (by decide) (by decide) (fun M1 hq => ?_)
  obtain ⟨hV, hz9⟩ := hq
  replace hz := hz.tr hz9
  rw [fBr_no hO]
  refine zv_sipush (n := 902) dL_thrown_899 rfl (v := (-1001)) (by decide) ?_
  refine zv_icmp_ne (n := 905) (tgt := 1000) dL_thrown_902 (by decide) rfl (fun h902 => False.elim (h902 rfl)) (fun h902 => ?_)
  refine zv_aload_n (n := 906) dL_thrown_905 rfl rfl ?_
  refine zv_iconst (n := 907) dL_thrown_906 rfl (v := 4) (by decide) ?_
  refine zv_callSXP (n := 910) (As := [.ref (b 0), .int 4]) (rest := []) (kc' := 2228) (ks' := 35258) dL_thrown_907 rfl (c_W_byHeat hV 4) rfl kL_byHeat lL_236 rfl rfl ⟨by decide, by decide⟩ (Nat.le_of_ble_eq_true rfl) rfl rfl (by decide) (by decide) ?_
  rw [fBh_4]
  refine zv_sipush (n := 913) dL_thrown_910 rfl (v := (-1001)) (by decide) ?_
  refine zv_icmp_ne (n := 916) (tgt := 1000) dL_thrown_913 (by decide) rfl (fun h913 => False.elim (h913 rfl)) (fun h913 => ?_)
  refine zv_aload_n (n := 917) dL_thrown_916 rfl rfl ?_
  refine zv_iconst (n := 918) dL_thrown_917 rfl (v := (-1)) (by decide) ?_
  refine zv_callSXP (n := 921) (As := [.ref (b 0), .int (-1)]) (rest := []) (kc' := 2229) (ks' := 35264) dL_thrown_918 rfl (c_W_byHeat hV (-1)) rfl kL_byHeat lL_236 rfl rfl ⟨by decide, by decide⟩ (Nat.le_of_ble_eq_true rfl) rfl rfl (by decide) (by decide) ?_
  rw [fBh_m]
  refine zv_sipush (n := 924) dL_thrown_921 rfl (v := (-1001)) (by decide) ?_
  refine zv_icmp_ne (n := 927) (tgt := 1000) dL_thrown_924 (by decide) rfl (fun h924 => False.elim (h924 rfl)) (fun h924 => ?_)
  refine zv_aload_n (n := 928) dL_thrown_927 rfl rfl ?_
  refine zv_iconst (n := 929) dL_thrown_928 rfl (v := 4) (by decide) ?_
  refine zv_callSXP (n := 932) (As := [.ref (b 0), .int 4]) (rest := []) (kc' := 2230) (ks' := 35270) dL_thrown_929 rfl (c_W_stored_0 hV (by decide)) rfl kL_stored lL_233 rfl rfl ⟨by decide, by decide⟩ (Nat.le_of_ble_eq_true rfl) rfl rfl (by decide) (by decide) ?_
  refine zv_sipush (n := 935) dL_thrown_932 rfl (v := (-1001)) (by decide) ?_
  refine zv_icmp_ne (n := 938) (tgt := 1000) dL_thrown_935 (by decide) rfl (fun h935 => False.elim (h935 rfl)) (fun h935 => ?_)
  refine zv_aload_n (n := 939) dL_thrown_938 rfl rfl ?_
  refine zv_iload_n (n := 940) dL_thrown_939 rfl rfl ?_
  refine zv_callSXP (n := 943) (As := [.ref (b 0), .int (P 0)]) (rest := []) (kc' := 2239) (ks' := 36476) dL_thrown_940 rfl (c_W_renderRack_0 hV fBad_n0) rfl kL_renderRack lL_255 rfl rfl ⟨by decide, by decide⟩ (Nat.le_of_ble_eq_true rfl) rfl rfl (by decide) (by decide) ?_
  refine zv_sipush (n := 946) dL_thrown_943 rfl (v := (-1001)) (by decide) ?_
  refine zv_icmp_ne (n := 949) (tgt := 1000) dL_thrown_946 (by decide) rfl (fun h946 => False.elim (h946 rfl)) (fun h946 => ?_)
  refine zv_aload_n (n := 950) dL_thrown_949 rfl rfl ?_
  refine zv_iconst (n := 951) dL_thrown_950 rfl (v := 4) (by decide) ?_
  refine zv_callSXP (n := 954) (As := [.ref (b 0), .int 4]) (rest := []) (kc' := 2254) (ks' := 38582) dL_thrown_951 rfl (c_W_renderAisle_0 hV (by decide)) rfl kL_renderAisle lL_245 rfl rfl ⟨by decide, by decide⟩ (Nat.le_of_ble_eq_true rfl) rfl rfl (by decide) (by decide) ?_
  refine zv_sipush (n := 957) dL_thrown_954 rfl (v := (-1001)) (by decide) ?_
  refine zv_icmp_ne (n := 960) (tgt := 1000) dL_thrown_957 (by decide) rfl (fun h957 => False.elim (h957 rfl)) (fun h957 => ?_)
  refine zv_aload_n (n := 961) dL_thrown_960 rfl rfl ?_
  refine zv_iconst (n := 962) dL_thrown_961 rfl (v := (-1)) (by decide) ?_
  refine zv_callSXP (n := 965) (As := [.ref (b 0), .int (-1)]) (rest := []) (kc' := 2255) (ks' := 38588) dL_thrown_962 rfl (c_W_outputAt_0 hV (Or.inl (by decide))) rfl kL_outputAt lL_165 rfl rfl ⟨by decide, by decide⟩ (Nat.le_of_ble_eq_true rfl) rfl rfl (by decide) (by decide) ?_
  refine zv_sipush (n := 968) dL_thrown_965 rfl (v := (-1001)) (by decide) ?_
  refine zv_icmp_ne (n := 971) (tgt := 1000) dL_thrown_968 (by decide) rfl (fun h968 => False.elim (h968 rfl)) (fun h968 => ?_)
  refine zv_aload_n (n := 972) dL_thrown_971 rfl rfl ?_
  refine zv_bipush (n := 974) dL_thrown_972 rfl (v := 40) (by decide) ?_
  refine zv_callSXP (n := 977) (As := [.ref (b 0), .int 40]) (rest := []) (kc' := 2256) (ks' := 38594) dL_thrown_974 rfl (c_W_outputAt_0 hV (Or.inr (nI_le (b := 40) h40 (by decide)))) rfl kL_outputAt lL_165 rfl rfl ⟨by decide, by decide⟩ (Nat.le_of_ble_eq_true rfl) rfl rfl (by decide) (by decide) ?_
  refine zv_sipush (n := 980) dL_thrown_977 rfl (v := (-1001)) (by decide) ?_
  refine zv_icmp_ne (n := 983) (tgt := 1000) dL_thrown_980 (by decide) rfl (fun h980 => False.elim (h980 rfl)) (fun h980 => ?_)
  refine zv_aload_n (n := 984) dL_thrown_983 rfl rfl ?_
  refine zv_sipush (n := 987) dL_thrown_984 rfl (v := 200) (by decide) ?_
  refine zv_callSXP (n := 990) (As := [.ref (b 0), .int 200]) (rest := []) (kc' := 2257) (ks' := 38744) dL_thrown_987 rfl ((show zCon μL_type (9, 1, 150) σ [.ref (b 0), .int 200] _ (zP (some (.int (-1001))) _) from c_L_type_b hV (c := 200) (by decide) (by decide))) rfl kL_type lL_156 rfl rfl ⟨by decide, by decide⟩ (Nat.le_of_ble_eq_true rfl) rfl rfl (by decide) (by decide) ?_
  refine zv_sipush (n := 993) dL_thrown_990 rfl (v := (-1001)) (by decide) ?_
  refine zv_icmp_ne (n := 996) (tgt := 1000) dL_thrown_993 (by decide) rfl (fun h993 => False.elim (h993 rfl)) (fun h993 => ?_)
  refine zv_iconst (n := 997) dL_thrown_996 rfl (v := 1) (by decide) ?_
  refine zv_goto (tgt := 1001) dL_thrown_997 (by decide) ?_
  refine zv_istore (n := 1003) (lv' := [(4, .int 1), (1, .long (fAsk P)), (3, .int (P 0)), (0, .ref (b 0))]) dL_thrown_1001 rfl (by decide) rfl ?_
  refine zv_lvs (lv' := [(4, .int 1), (1, .long (fAsk P)), (3, .int (P 0)), (0, .ref (b 0))]) ⟨rfl, rfl, rfl, rfl, trivial⟩ ?_
  refine zv_wide (kc' := 2300) (ks' := 39000) (by decide) (by decide) ?_
  exact k_thr_1003 hV hz hO h2 h40

set_option maxRecDepth 100000 in
set_option maxHeartbeats 4000000 in
theorem l_thrQ {σ : zSg} {Z : Nat → Prop} {b : Nat → Nat} {C : Nat → Nat → Nat} {P : zS} {U : List zS} {X : Option zS} {ea fa : Int32} {t : Nat → Nat} {u : Nat → Nat} {k : Nat} {Q : zO → zM → Prop} {M0 : zM} (hO : zOk P) {r : Nat} (hr : r < fCnt P) : ∀ (l q : Nat) (M : zM), q + l = fCnt P → zVw M Z b C P U X ea fa t 0 u k → zKe M0 M Z → (∀ M', zVw M' Z b C P U X ea fa t 0 u k → zKe M0 M' Z → zV μL_thrown (16, 4000, 80000) σ Q M' (1410 + 66 * (r + 1)) (30350 + 396 * (r + 1)) 693 [(5, .int (nI r)), (4, .int 1), (1, .long (fAsk P)), (3, .int (P 0)), (0, .ref (b 0))] []) → zV μL_thrown (16, 4000, 80000) σ Q M (1410 + 66 * r + 6 + 5 * q) (30350 + 396 * r + 36 + 30 * q) 584 [(6, .int (nI q)), (5, .int (nI r)), (4, .int 1), (1, .long (fAsk P)), (3, .int (P 0)), (0, .ref (b 0))] [] := by
  have h12 := hO.1.2
  intro l
  induction l with
  | zero =>
    intro q M hl hV hz kk
    obtain rfl : q = fCnt P := by omega
    refine zv_iload (n := 586) dL_thrown_584 rfl rfl ?_
    refine zv_iload_n (n := 587) dL_thrown_586 rfl rfl ?_
    refine zv_icmp_ge (n := 590) (tgt := 693) dL_thrown_587 (by decide) rfl (fun h587 => ?_) (fun h587 => False.elim (h587 (by rw [hO.1.1]; exact Int32.le_refl _)))
    refine zv_lvs (lv' := [(5, .int (nI r)), (4, .int 1), (1, .long (fAsk P)), (3, .int (P 0)), (0, .ref (b 0))]) ⟨rfl, rfl, rfl, rfl, rfl, trivial⟩ ?_
    exact zv_wide (by omega) (by omega) (kk M hV hz)
  | succ l ih =>
    intro q M hl hV hz kk
    have hq9 : q < fCnt P := by omega
    have k687 : ∀ M', zVw M' Z b C P U X ea fa t 0 u k → zKe M0 M' Z → zV μL_thrown (16, 4000, 80000) σ Q M' (1410 + 66 * r + 6 + 5 * q + 5) (30350 + 396 * r + 36 + 30 * q + 30) 687 [(6, .int (nI q)), (5, .int (nI r)), (4, .int 1), (1, .long (fAsk P)), (3, .int (P 0)), (0, .ref (b 0))] [] := by
      intro M' hV hz
      refine zv_iinc (n := 690) (v := nI (q + 1)) (lv' := [(6, .int (nI (q + 1))), (5, .int (nI r)), (4, .int 1), (1, .long (fAsk P)), (3, .int (P 0)), (0, .ref (b 0))]) dL_thrown_687 rfl rfl (nI_1 q) (by decide) rfl ?_
      refine zv_goto (tgt := 584) dL_thrown_690 (by decide) ?_
      refine zv_lvs (lv' := [(6, .int (nI (q + 1))), (5, .int (nI r)), (4, .int 1), (1, .long (fAsk P)), (3, .int (P 0)), (0, .ref (b 0))]) ⟨rfl, rfl, rfl, rfl, rfl, rfl, trivial⟩ ?_
      refine zv_wide (kc' := 1410 + 66 * r + 6 + 5 * (q + 1)) (ks' := 30350 + 396 * r + 36 + 30 * (q + 1)) (by omega) (by omega) ?_
      exact ih (q + 1) M' (by omega) hV hz kk
    have k642 : ∀ M', zVw M' Z b C P U X ea fa t 0 u k → zKe M0 M' Z → zV μL_thrown (16, 4000, 80000) σ Q M' (1410 + 66 * r + 6 + 5 * q + 3) (30350 + 396 * r + 36 + 30 * q + 18) 642 [(6, .int (nI q)), (5, .int (nI r)), (4, .int 1), (1, .long (fAsk P)), (3, .int (P 0)), (0, .ref (b 0))] [] := by
      intro M' hV hz
      refine zv_iload (n := 644) dL_thrown_642 rfl rfl ?_
      refine zv_iload (n := 646) dL_thrown_644 rfl rfl ?_
      refine zv_icmp_eq (n := 649) (tgt := 687) dL_thrown_646 (by decide) rfl (fun h646 => ?_) (fun h646 => ?_)
      · skip
        refine zv_lvs (lv' := [(6, .int (nI q)), (5, .int (nI r)), (4, .int 1), (1, .long (fAsk P)), (3, .int (P 0)), (0, .ref (b 0))]) ⟨rfl, rfl, rfl, rfl, rfl, rfl, trivial⟩ ?_
        exact zv_wide (by omega) (by omega) (k687 _ hV hz)
      · skip
        refine zv_aload_n (n := 650) dL_thrown_649 rfl rfl ?_
        refine zv_iload (n := 652) dL_thrown_650 rfl rfl ?_
        refine zv_callSXP (n := 655) (As := [.ref (b 0), .int (nI q)]) (rest := []) (kc' := ((1410 + 66 * r + 6 + 5 * q + 3) + 1)) (ks' := ((30350 + 396 * r + 36 + 30 * q + 18) + 6)) dL_thrown_652 rfl (c_W_load hV hq9) rfl kL_load lL_300 rfl rfl ⟨by decide, by decide⟩ (Nat.le_of_ble_eq_true rfl) rfl rfl (by show _ ≤ (4000 : Nat); omega) (by show _ ≤ (80000 : Nat); omega) ?_
        refine zv_bipush (n := 657) dL_thrown_655 rfl (v := 20) (by decide) ?_
        refine zv_icmp_ne (n := 660) (tgt := 687) dL_thrown_657 (by decide) rfl (fun h657 => ?_) (fun h657 => ?_)
        · skip
          refine zv_lvs (lv' := [(6, .int (nI q)), (5, .int (nI r)), (4, .int 1), (1, .long (fAsk P)), (3, .int (P 0)), (0, .ref (b 0))]) ⟨rfl, rfl, rfl, rfl, rfl, rfl, trivial⟩ ?_
          exact zv_wide (by omega) (by omega) (k687 _ hV hz)
        · skip
          refine zv_iload (n := 662) dL_thrown_660 rfl rfl ?_
          refine zv_if_eq (n := 665) (tgt := 684) dL_thrown_662 (by decide) rfl (fun h662 => False.elim (absurd h662 (by decide))) (fun h662 => ?_)
          refine zv_aload_n (n := 666) dL_thrown_665 rfl rfl ?_
          refine zv_iload (n := 668) dL_thrown_666 rfl rfl ?_
          refine zv_iload (n := 670) dL_thrown_668 rfl rfl ?_
          refine zv_iconst (n := 671) dL_thrown_670 rfl (v := 1) (by decide) ?_
          refine zv_callSXF (n := 674) (As := [.ref (b 0), .int (nI r), .int (nI q), .int 1]) (rest := []) (kc' := (((1410 + 66 * r + 6 + 5 * q + 3) + 1) + 1)) (ks' := (((30350 + 396 * r + 36 + 30 * q + 18) + 6) + 6)) dL_thrown_671 rfl (c_N_migrate_4 hV _ _ _ (r_snd_4 hO hr hq9 (fun e => h646 (by rw [e])) (by decide) (Or.inr (by rw [h657]; decide)))) rfl kL_migrate lL_263 rfl rfl ⟨by decide, by decide⟩ (Nat.le_of_ble_eq_true rfl) rfl rfl (by show _ ≤ (4000 : Nat); omega) (by show _ ≤ (80000 : Nat); omega) (fun M1 hq => ?_)
          obtain ⟨hV, hz9⟩ := hq
          replace hz := hz.tr hz9
          refine zv_sipush (n := 677) dL_thrown_674 rfl (v := (-1003)) (by decide) ?_
          refine zv_icmp_ne (n := 680) (tgt := 684) dL_thrown_677 (by decide) rfl (fun h677 => False.elim (h677 rfl)) (fun h677 => ?_)
          refine zv_iconst (n := 681) dL_thrown_680 rfl (v := 1) (by decide) ?_
          refine zv_goto (tgt := 685) dL_thrown_681 (by decide) ?_
          refine zv_istore (n := 687) (lv' := [(4, .int 1), (6, .int (nI q)), (5, .int (nI r)), (1, .long (fAsk P)), (3, .int (P 0)), (0, .ref (b 0))]) dL_thrown_685 rfl (by decide) rfl ?_
          refine zv_lvs (lv' := [(6, .int (nI q)), (5, .int (nI r)), (4, .int 1), (1, .long (fAsk P)), (3, .int (P 0)), (0, .ref (b 0))]) ⟨rfl, rfl, rfl, rfl, rfl, rfl, trivial⟩ ?_
          exact zv_wide (by omega) (by omega) (k687 _ hV hz)
    refine zv_iload (n := 586) dL_thrown_584 rfl rfl ?_
    refine zv_iload_n (n := 587) dL_thrown_586 rfl rfl ?_
    refine zv_icmp_ge (n := 590) (tgt := 693) dL_thrown_587 (by decide) rfl (fun h587 => False.elim (absurd h587 (by rw [hO.1.1]; exact nI_ge hq9 (by omega)))) (fun h587 => ?_)
    refine zv_iload (n := 592) dL_thrown_590 rfl rfl ?_
    refine zv_iload (n := 594) dL_thrown_592 rfl rfl ?_
    refine zv_icmp_eq (n := 597) (tgt := 642) dL_thrown_594 (by decide) rfl (fun h594 => ?_) (fun h594 => ?_)
    · skip
      refine zv_lvs (lv' := [(6, .int (nI q)), (5, .int (nI r)), (4, .int 1), (1, .long (fAsk P)), (3, .int (P 0)), (0, .ref (b 0))]) ⟨rfl, rfl, rfl, rfl, rfl, rfl, trivial⟩ ?_
      exact zv_wide (by omega) (by omega) (k642 _ hV hz)
    · skip
      refine zv_aload_n (n := 598) dL_thrown_597 rfl rfl ?_
      refine zv_iload (n := 600) dL_thrown_598 rfl rfl ?_
      refine zv_callSXP (n := 603) (As := [.ref (b 0), .int (nI r)]) (rest := []) (kc' := ((1410 + 66 * r + 6 + 5 * q) + 1)) (ks' := ((30350 + 396 * r + 36 + 30 * q) + 6)) dL_thrown_600 rfl (c_W_load hV hr) rfl kL_load lL_300 rfl rfl ⟨by decide, by decide⟩ (Nat.le_of_ble_eq_true rfl) rfl rfl (by show _ ≤ (4000 : Nat); omega) (by show _ ≤ (80000 : Nat); omega) ?_
      refine zv_bipush (n := 605) dL_thrown_603 rfl (v := 20) (by decide) ?_
      refine zv_icmp_ge (n := 608) (tgt := 642) dL_thrown_605 (by decide) rfl (fun h605 => ?_) (fun h605 => ?_)
      · skip
        refine zv_lvs (lv' := [(6, .int (nI q)), (5, .int (nI r)), (4, .int 1), (1, .long (fAsk P)), (3, .int (P 0)), (0, .ref (b 0))]) ⟨rfl, rfl, rfl, rfl, rfl, rfl, trivial⟩ ?_
        exact zv_wide (by omega) (by omega) (k642 _ hV hz)
      · skip
        refine zv_iload (n := 610) dL_thrown_608 rfl rfl ?_
        refine zv_if_eq (n := 613) (tgt := 639) dL_thrown_610 (by decide) rfl (fun h610 => False.elim (absurd h610 (by decide))) (fun h610 => ?_)
        refine zv_aload_n (n := 614) dL_thrown_613 rfl rfl ?_
        refine zv_iload (n := 616) dL_thrown_614 rfl rfl ?_
        refine zv_iload (n := 618) dL_thrown_616 rfl rfl ?_
        refine zv_aload_n (n := 619) dL_thrown_618 rfl rfl ?_
        refine zv_iload (n := 621) dL_thrown_619 rfl rfl ?_
        refine zv_callSXP (n := 624) (As := [.ref (b 0), .int (nI r)]) (rest := [.int (nI q), .int (nI r), .ref (b 0)]) (kc' := (((1410 + 66 * r + 6 + 5 * q) + 1) + 1)) (ks' := (((30350 + 396 * r + 36 + 30 * q) + 6) + 6)) dL_thrown_621 rfl (c_W_load hV hr) rfl kL_load lL_300 rfl rfl ⟨by decide, by decide⟩ (Nat.le_of_ble_eq_true rfl) rfl rfl (by show _ ≤ (4000 : Nat); omega) (by show _ ≤ (80000 : Nat); omega) ?_
        refine zv_iconst (n := 625) dL_thrown_624 rfl (v := 1) (by decide) ?_
        refine zv_iadd (n := 626) dL_thrown_625 rfl ?_
        refine zv_callSXF (n := 629) (As := [.ref (b 0), .int (nI r), .int (nI q), .int ((P (3 + 3 * r)) + 1)]) (rest := []) (kc' := ((((1410 + 66 * r + 6 + 5 * q) + 1) + 1) + 1)) (ks' := ((((30350 + 396 * r + 36 + 30 * q) + 6) + 6) + 6)) dL_thrown_626 rfl (c_N_migrate_4 hV _ _ _ (r_snd_4 hO hr hq9 (fun e => h594 (by rw [e])) (load_1 hO (by omega) h605).1 (Or.inl (load_1 hO (by omega) h605).2))) rfl kL_migrate lL_263 rfl rfl ⟨by decide, by decide⟩ (Nat.le_of_ble_eq_true rfl) rfl rfl (by show _ ≤ (4000 : Nat); omega) (by show _ ≤ (80000 : Nat); omega) (fun M1 hq => ?_)
        obtain ⟨hV, hz9⟩ := hq
        replace hz := hz.tr hz9
        refine zv_sipush (n := 632) dL_thrown_629 rfl (v := (-1003)) (by decide) ?_
        refine zv_icmp_ne (n := 635) (tgt := 639) dL_thrown_632 (by decide) rfl (fun h632 => False.elim (h632 rfl)) (fun h632 => ?_)
        refine zv_iconst (n := 636) dL_thrown_635 rfl (v := 1) (by decide) ?_
        refine zv_goto (tgt := 640) dL_thrown_636 (by decide) ?_
        refine zv_istore (n := 642) (lv' := [(4, .int 1), (6, .int (nI q)), (5, .int (nI r)), (1, .long (fAsk P)), (3, .int (P 0)), (0, .ref (b 0))]) dL_thrown_640 rfl (by decide) rfl ?_
        refine zv_lvs (lv' := [(6, .int (nI q)), (5, .int (nI r)), (4, .int 1), (1, .long (fAsk P)), (3, .int (P 0)), (0, .ref (b 0))]) ⟨rfl, rfl, rfl, rfl, rfl, rfl, trivial⟩ ?_
        exact zv_wide (by omega) (by omega) (k642 _ hV hz)

set_option maxRecDepth 100000 in
set_option maxHeartbeats 4000000 in
theorem l_thrR {σ : zSg} {Z : Nat → Prop} {b : Nat → Nat} {C : Nat → Nat → Nat} {P : zS} {U : List zS} {X : Option zS} {ea fa : Int32} {t : Nat → Nat} {u : Nat → Nat} {k : Nat} {Q : zO → zM → Prop} {M0 : zM} (hO : zOk P) : ∀ (l r : Nat) (M : zM), r + l = fCnt P → zVw M Z b C P U X ea fa t 0 u k → zKe M0 M Z → (∀ M', zVw M' Z b C P U X ea fa t 0 u k → zKe M0 M' Z → zV μL_thrown (16, 4000, 80000) σ Q M' (2202) (35102) 699 [(4, .int 1), (1, .long (fAsk P)), (3, .int (P 0)), (0, .ref (b 0))] []) → zV μL_thrown (16, 4000, 80000) σ Q M (1410 + 66 * r) (30350 + 396 * r) 510 [(5, .int (nI r)), (4, .int 1), (1, .long (fAsk P)), (3, .int (P 0)), (0, .ref (b 0))] [] := by
  have h12 := hO.1.2
  intro l
  induction l with
  | zero =>
    intro r M hl hV hz kk
    obtain rfl : r = fCnt P := by omega
    refine zv_iload (n := 512) dL_thrown_510 rfl rfl ?_
    refine zv_iload_n (n := 513) dL_thrown_512 rfl rfl ?_
    refine zv_icmp_ge (n := 516) (tgt := 699) dL_thrown_513 (by decide) rfl (fun h513 => ?_) (fun h513 => False.elim (h513 (by rw [hO.1.1]; exact Int32.le_refl _)))
    refine zv_lvs (lv' := [(4, .int 1), (1, .long (fAsk P)), (3, .int (P 0)), (0, .ref (b 0))]) ⟨rfl, rfl, rfl, rfl, trivial⟩ ?_
    exact zv_wide (by omega) (by omega) (kk M hV hz)
  | succ l ih =>
    intro r M hl hV hz kk
    have hr : r < fCnt P := by omega
    have hB := hO.2.1 r (by omega)
    have k574 : ∀ M', zVw M' Z b C P U X ea fa t 0 u k → zKe M0 M' Z → zV μL_thrown (16, 4000, 80000) σ Q M' (1410 + 66 * r + 6) (30350 + 396 * r + 36) 574 [(5, .int (nI r)), (4, .int 1), (1, .long (fAsk P)), (3, .int (P 0)), (0, .ref (b 0))] [] := by
      intro M' hV hz
      refine zv_iconst (n := 575) dL_thrown_574 rfl (v := 1) (by decide) ?_
      refine zv_goto (tgt := 579) dL_thrown_575 (by decide) ?_
      refine zv_istore (n := 581) (lv' := [(4, .int 1), (5, .int (nI r)), (1, .long (fAsk P)), (3, .int (P 0)), (0, .ref (b 0))]) dL_thrown_579 rfl (by decide) rfl ?_
      refine zv_iconst (n := 582) dL_thrown_581 rfl (v := 0) (by decide) ?_
      refine zv_istore (n := 584) (lv' := [(6, .int 0), (4, .int 1), (5, .int (nI r)), (1, .long (fAsk P)), (3, .int (P 0)), (0, .ref (b 0))]) dL_thrown_582 rfl (by decide) rfl ?_
      refine zv_lvs (lv' := [(6, .int 0), (5, .int (nI r)), (4, .int 1), (1, .long (fAsk P)), (3, .int (P 0)), (0, .ref (b 0))]) ⟨rfl, rfl, rfl, rfl, rfl, rfl, trivial⟩ ?_
      refine zv_wide (kc' := 1410 + 66 * r + 6 + 5 * 0) (ks' := 30350 + 396 * r + 36 + 30 * 0) (by omega) (by omega) ?_
      refine l_thrQ hO hr (fCnt P) 0 M' (Nat.zero_add _) hV hz (fun M2 hV hz => ?_)
      refine zv_iinc (n := 696) (v := nI (r + 1)) (lv' := [(5, .int (nI (r + 1))), (4, .int 1), (1, .long (fAsk P)), (3, .int (P 0)), (0, .ref (b 0))]) dL_thrown_693 rfl rfl (nI_1 r) (by decide) rfl ?_
      refine zv_goto (tgt := 510) dL_thrown_696 (by decide) ?_
      refine zv_lvs (lv' := [(5, .int (nI (r + 1))), (4, .int 1), (1, .long (fAsk P)), (3, .int (P 0)), (0, .ref (b 0))]) ⟨rfl, rfl, rfl, rfl, rfl, trivial⟩ ?_
      exact ih (r + 1) _ (by omega) hV hz kk
    refine zv_iload (n := 512) dL_thrown_510 rfl rfl ?_
    refine zv_iload_n (n := 513) dL_thrown_512 rfl rfl ?_
    refine zv_icmp_ge (n := 516) (tgt := 699) dL_thrown_513 (by decide) rfl (fun h513 => False.elim (absurd h513 (by rw [hO.1.1]; exact nI_ge hr (by omega)))) (fun h513 => ?_)
    refine zv_iload (n := 518) dL_thrown_516 rfl rfl ?_
    refine zv_if_eq (n := 521) (tgt := 578) dL_thrown_518 (by decide) rfl (fun h518 => False.elim (absurd h518 (by decide))) (fun h518 => ?_)
    refine zv_aload_n (n := 522) dL_thrown_521 rfl rfl ?_
    refine zv_iload (n := 524) dL_thrown_522 rfl rfl ?_
    refine zv_aload_n (n := 525) dL_thrown_524 rfl rfl ?_
    refine zv_iload (n := 527) dL_thrown_525 rfl rfl ?_
    refine zv_callSXP (n := 530) (As := [.ref (b 0), .int (nI r)]) (rest := [.int (nI r), .ref (b 0)]) (kc' := ((1410 + 66 * r) + 1)) (ks' := ((30350 + 396 * r) + 6)) dL_thrown_527 rfl (c_W_aisleOf hV hr) rfl kL_aisleOf lL_296 rfl rfl ⟨by decide, by decide⟩ (Nat.le_of_ble_eq_true rfl) rfl rfl (by show _ ≤ (4000 : Nat); omega) (by show _ ≤ (80000 : Nat); omega) ?_
    refine zv_aload_n (n := 531) dL_thrown_530 rfl rfl ?_
    refine zv_iload (n := 533) dL_thrown_531 rfl rfl ?_
    refine zv_callSXP (n := 536) (As := [.ref (b 0), .int (nI r)]) (rest := [.int (P (1 + 3 * r)), .int (nI r), .ref (b 0)]) (kc' := (((1410 + 66 * r) + 1) + 1)) (ks' := (((30350 + 396 * r) + 6) + 6)) dL_thrown_533 rfl (c_W_placeOf hV hr) rfl kL_placeOf lL_298 rfl rfl ⟨by decide, by decide⟩ (Nat.le_of_ble_eq_true rfl) rfl rfl (by show _ ≤ (4000 : Nat); omega) (by show _ ≤ (80000 : Nat); omega) ?_
    refine zv_callSXF (n := 539) (As := [.ref (b 0), .int (nI r), .int (P (1 + 3 * r)), .int (P (2 + 3 * r))]) (rest := []) (kc' := ((((1410 + 66 * r) + 1) + 1) + 1)) (ks' := ((((30350 + 396 * r) + 6) + 6) + 6)) dL_thrown_536 rfl (c_N_moveRack_4 hV _ _ _ (r_mov_4 (fBad_j hO.1 hr) hB.1 hB.2.1 (fFind_at hO hr))) rfl kL_moveRack lL_259 rfl rfl ⟨by decide, by decide⟩ (Nat.le_of_ble_eq_true rfl) rfl rfl (by show _ ≤ (4000 : Nat); omega) (by show _ ≤ (80000 : Nat); omega) (fun M1 hq => ?_)
    obtain ⟨hV, hz9⟩ := hq
    replace hz := hz.tr hz9
    refine zv_sipush (n := 542) dL_thrown_539 rfl (v := (-1003)) (by decide) ?_
    refine zv_icmp_ne (n := 545) (tgt := 578) dL_thrown_542 (by decide) rfl (fun h542 => False.elim (h542 rfl)) (fun h542 => ?_)
    refine zv_iload_n (n := 546) dL_thrown_545 rfl rfl ?_
    refine zv_bipush (n := 548) dL_thrown_546 rfl (v := 12) (by decide) ?_
    refine zv_icmp_eq (n := 551) (tgt := 574) dL_thrown_548 (by decide) rfl (fun h548 => ?_) (fun h548 => ?_)
    · skip
      refine zv_lvs (lv' := [(5, .int (nI r)), (4, .int 1), (1, .long (fAsk P)), (3, .int (P 0)), (0, .ref (b 0))]) ⟨rfl, rfl, rfl, rfl, rfl, trivial⟩ ?_
      exact zv_wide (by omega) (by omega) (k574 _ hV hz)
    · skip
      have h12c : ¬ 12 ≤ fCnt P := fun e => h548 (by rw [hO.1.1, show fCnt P = 12 by omega]; rfl)
      refine zv_aload_n (n := 552) dL_thrown_551 rfl rfl ?_
      refine zv_aload_n (n := 553) dL_thrown_552 rfl rfl ?_
      refine zv_iload (n := 555) dL_thrown_553 rfl rfl ?_
      refine zv_callSXP (n := 558) (As := [.ref (b 0), .int (nI r)]) (rest := [.ref (b 0)]) (kc' := (((((1410 + 66 * r) + 1) + 1) + 1) + 1)) (ks' := (((((30350 + 396 * r) + 6) + 6) + 6) + 6)) dL_thrown_555 rfl (c_W_aisleOf hV hr) rfl kL_aisleOf lL_296 rfl rfl ⟨by decide, by decide⟩ (Nat.le_of_ble_eq_true rfl) rfl rfl (by show _ ≤ (4000 : Nat); omega) (by show _ ≤ (80000 : Nat); omega) ?_
      refine zv_aload_n (n := 559) dL_thrown_558 rfl rfl ?_
      refine zv_iload (n := 561) dL_thrown_559 rfl rfl ?_
      refine zv_callSXP (n := 564) (As := [.ref (b 0), .int (nI r)]) (rest := [.int (P (1 + 3 * r)), .ref (b 0)]) (kc' := ((((((1410 + 66 * r) + 1) + 1) + 1) + 1) + 1)) (ks' := ((((((30350 + 396 * r) + 6) + 6) + 6) + 6) + 6)) dL_thrown_561 rfl (c_W_placeOf hV hr) rfl kL_placeOf lL_298 rfl rfl ⟨by decide, by decide⟩ (Nat.le_of_ble_eq_true rfl) rfl rfl (by show _ ≤ (4000 : Nat); omega) (by show _ ≤ (80000 : Nat); omega) ?_
      refine zv_iconst (n := 565) dL_thrown_564 rfl (v := 5) (by decide) ?_
      refine zv_callSXF (n := 568) (As := [.ref (b 0), .int (P (1 + 3 * r)), .int (P (2 + 3 * r)), .int 5]) (rest := []) (kc' := (((((((1410 + 66 * r) + 1) + 1) + 1) + 1) + 1) + 1)) (ks' := (((((((30350 + 396 * r) + 6) + 6) + 6) + 6) + 6) + 6)) dL_thrown_565 rfl (c_N_addRack_4 hV _ _ _ (r_add_4 hB.1 hB.2.1 (by decide) h12c (fFind_at hO hr))) rfl kL_addRack lL_175 rfl rfl ⟨by decide, by decide⟩ (Nat.le_of_ble_eq_true rfl) rfl rfl (by show _ ≤ (4000 : Nat); omega) (by show _ ≤ (80000 : Nat); omega) (fun M1 hq => ?_)
      obtain ⟨hV, hz9⟩ := hq
      replace hz := hz.tr hz9
      refine zv_sipush (n := 571) dL_thrown_568 rfl (v := (-1004)) (by decide) ?_
      refine zv_icmp_ne (n := 574) (tgt := 578) dL_thrown_571 (by decide) rfl (fun h571 => False.elim (h571 rfl)) (fun h571 => ?_)
      refine zv_lvs (lv' := [(5, .int (nI r)), (4, .int 1), (1, .long (fAsk P)), (3, .int (P 0)), (0, .ref (b 0))]) ⟨rfl, rfl, rfl, rfl, rfl, trivial⟩ ?_
      exact zv_wide (by omega) (by omega) (k574 _ hV hz)

set_option maxRecDepth 100000 in
set_option maxHeartbeats 4000000 in
theorem k_thr_453 {σ : zSg} {M : zM} {Z : Nat → Prop} {b : Nat → Nat} {C : Nat → Nat → Nat} {P : zS} {U : List zS} {X : Option zS} {ea fa : Int32} {t : Nat → Nat} {u : Nat → Nat} {k : Nat} {M0 : zM} (hV : zVw M Z b C P U X ea fa t 0 u k) (hz : zKe M0 M Z) (hO : zOk P) (h2 : 2 ≤ fCnt P) (h40 : k ≤ 40) : zV μL_thrown (16, 4000, 80000) σ (zI9 (fun w M' => (w = 1 ∧ zVo M' Z b C P U X) ∧ zKe M0 M' Z)) M 1400 30290 453 [(1, .long (fAsk P)), (3, .int (P 0)), (0, .ref (b 0))] [] := by
  refine zv_aload_n (n := 454) dL_thrown_453 rfl rfl ?_
  refine zv_bipush (n := 456) dL_thrown_454 rfl (v := 19) (by decide) ?_
  refine zv_callSXF (n := 459) (As := [.ref (b 0), .int 19]) (rest := []) (kc' := 1401) (ks' := 30296) dL_thrown_456 rfl (c_N_setLimit_2 hV _ (r_lim_2 (by decide))) rfl kL_setLimit lL_184 rfl rfl ⟨by decide, by decide⟩ (Nat.le_of_ble_eq_true rfl) rfl rfl (by decide) (by decide) (fun M1 hq => ?_)
  obtain ⟨hV, hz9⟩ := hq
  replace hz := hz.tr hz9
  refine zv_sipush (n := 462) dL_thrown_459 rfl (v := (-1001)) (by decide) ?_
  refine zv_icmp_ne (n := 465) (tgt := 504) dL_thrown_462 (by decide) rfl (fun h462 => False.elim (h462 rfl)) (fun h462 => ?_)
  refine zv_aload_n (n := 466) dL_thrown_465 rfl rfl ?_
  refine zv_bipush (n := 468) dL_thrown_466 rfl (v := 61) (by decide) ?_
  refine zv_callSXF (n := 471) (As := [.ref (b 0), .int 61]) (rest := []) (kc' := 1402) (ks' := 30302) dL_thrown_468 rfl (c_N_setLimit_2 hV _ (r_lim_2 (by decide))) rfl kL_setLimit lL_184 rfl rfl ⟨by decide, by decide⟩ (Nat.le_of_ble_eq_true rfl) rfl rfl (by decide) (by decide) (fun M1 hq => ?_)
  obtain ⟨hV, hz9⟩ := hq
  replace hz := hz.tr hz9
  refine zv_sipush (n := 474) dL_thrown_471 rfl (v := (-1001)) (by decide) ?_
  refine zv_icmp_ne (n := 477) (tgt := 504) dL_thrown_474 (by decide) rfl (fun h474 => False.elim (h474 rfl)) (fun h474 => ?_)
  refine zv_aload_n (n := 478) dL_thrown_477 rfl rfl ?_
  refine zv_iconst (n := 479) dL_thrown_478 rfl (v := 0) (by decide) ?_
  refine zv_callSXF (n := 482) (As := [.ref (b 0), .int 0]) (rest := []) (kc' := 1403) (ks' := 30308) dL_thrown_479 rfl (c_N_advance_2 hV _ (r_pas_2 (by decide))) rfl kL_advance lL_186 rfl rfl ⟨by decide, by decide⟩ (Nat.le_of_ble_eq_true rfl) rfl rfl (by decide) (by decide) (fun M1 hq => ?_)
  obtain ⟨hV, hz9⟩ := hq
  replace hz := hz.tr hz9
  refine zv_sipush (n := 485) dL_thrown_482 rfl (v := (-1001)) (by decide) ?_
  refine zv_icmp_ne (n := 488) (tgt := 504) dL_thrown_485 (by decide) rfl (fun h485 => False.elim (h485 rfl)) (fun h485 => ?_)
  refine zv_aload_n (n := 489) dL_thrown_488 rfl rfl ?_
  refine zv_bipush (n := 491) dL_thrown_489 rfl (v := 61) (by decide) ?_
  refine zv_callSXF (n := 494) (As := [.ref (b 0), .int 61]) (rest := []) (kc' := 1404) (ks' := 30314) dL_thrown_491 rfl (c_N_advance_2 hV _ (r_pas_2 (by decide))) rfl kL_advance lL_186 rfl rfl ⟨by decide, by decide⟩ (Nat.le_of_ble_eq_true rfl) rfl rfl (by decide) (by decide) (fun M1 hq => ?_)
  obtain ⟨hV, hz9⟩ := hq
  replace hz := hz.tr hz9
  refine zv_sipush (n := 497) dL_thrown_494 rfl (v := (-1001)) (by decide) ?_
  refine zv_icmp_ne (n := 500) (tgt := 504) dL_thrown_497 (by decide) rfl (fun h497 => False.elim (h497 rfl)) (fun h497 => ?_)
  refine zv_iconst (n := 501) dL_thrown_500 rfl (v := 1) (by decide) ?_
  refine zv_goto (tgt := 505) dL_thrown_501 (by decide) ?_
  refine zv_istore (n := 507) (lv' := [(4, .int 1), (1, .long (fAsk P)), (3, .int (P 0)), (0, .ref (b 0))]) dL_thrown_505 rfl (by decide) rfl ?_
  refine zv_iconst (n := 508) dL_thrown_507 rfl (v := 0) (by decide) ?_
  refine zv_istore (n := 510) (lv' := [(5, .int 0), (4, .int 1), (1, .long (fAsk P)), (3, .int (P 0)), (0, .ref (b 0))]) dL_thrown_508 rfl (by decide) rfl ?_
  refine zv_lvs (lv' := [(5, .int 0), (4, .int 1), (1, .long (fAsk P)), (3, .int (P 0)), (0, .ref (b 0))]) ⟨rfl, rfl, rfl, rfl, rfl, trivial⟩ ?_
  refine zv_wide (kc' := 1410 + 66 * 0) (ks' := 30350 + 396 * 0) (by decide) (by decide) ?_
  exact l_thrR hO (fCnt P) 0 _ (Nat.zero_add _) hV hz (fun M2 hV hz => k_thr_699 hV hz hO h2 h40)

set_option maxRecDepth 100000 in
set_option maxHeartbeats 4000000 in
theorem k_thr_424 {σ : zSg} {M : zM} {Z : Nat → Prop} {b : Nat → Nat} {C : Nat → Nat → Nat} {P : zS} {U : List zS} {X : Option zS} {ea fa : Int32} {t : Nat → Nat} {u : Nat → Nat} {k : Nat} {M0 : zM} (hV : zVw M Z b C P U X ea fa t 0 u k) (hz : zKe M0 M Z) (hO : zOk P) (h2 : 2 ≤ fCnt P) (h40 : k ≤ 40) : zV μL_thrown (16, 4000, 80000) σ (zI9 (fun w M' => (w = 1 ∧ zVo M' Z b C P U X) ∧ zKe M0 M' Z)) M 1395 30260 424 [(1, .long (fAsk P)), (3, .int (P 0)), (0, .ref (b 0))] [] := by
  refine zv_aload_n (n := 425) dL_thrown_424 rfl rfl ?_
  refine zv_iconst (n := 426) dL_thrown_425 rfl (v := 2) (by decide) ?_
  refine zv_callSXP (n := 429) (As := [.ref (b 0), .int 2]) (rest := []) (kc' := 1396) (ks' := 30266) dL_thrown_426 rfl (c_W_curve hV (v := 2) (by decide)) rfl kL_curve lL_293 rfl rfl ⟨by decide, by decide⟩ (Nat.le_of_ble_eq_true rfl) rfl rfl (by decide) (by decide) ?_
  refine zv_sipush (n := 432) dL_thrown_429 rfl (v := 200) (by decide) ?_
  refine zv_icmp_eq (n := 435) (tgt := 453) dL_thrown_432 (by decide) rfl (fun h432 => ?_) (fun h432 => ?_)
  · skip
    refine zv_lvs (lv' := [(1, .long (fAsk P)), (3, .int (P 0)), (0, .ref (b 0))]) ⟨rfl, rfl, rfl, trivial⟩ ?_
    refine zv_wide (kc' := 1400) (ks' := 30290) (by decide) (by decide) ?_
    exact k_thr_453 hV hz hO h2 h40
  · skip
    refine zv_aload_n (n := 436) dL_thrown_435 rfl rfl ?_
    refine zv_iconst (n := 437) dL_thrown_436 rfl (v := 1) (by decide) ?_
    refine zv_aload_n (n := 438) dL_thrown_437 rfl rfl ?_
    refine zv_iconst (n := 439) dL_thrown_438 rfl (v := 2) (by decide) ?_
    refine zv_callSXP (n := 442) (As := [.ref (b 0), .int 2]) (rest := [.int 1, .ref (b 0)]) (kc' := 1397) (ks' := 30272) dL_thrown_439 rfl (c_W_curve hV (v := 2) (by decide)) rfl kL_curve lL_293 rfl rfl ⟨by decide, by decide⟩ (Nat.le_of_ble_eq_true rfl) rfl rfl (by decide) (by decide) ?_
    refine zv_iconst (n := 443) dL_thrown_442 rfl (v := 1) (by decide) ?_
    refine zv_iadd (n := 444) dL_thrown_443 rfl ?_
    refine zv_callSXF (n := 447) (As := [.ref (b 0), .int 1, .int ((fPt P 2) + 1)]) (rest := []) (kc' := 1398) (ks' := 30278) dL_thrown_444 rfl (c_N_setCurve_4 hV _ _ (r_crv_c hO h432)) rfl kL_setCurve lL_181 rfl rfl ⟨by decide, by decide⟩ (Nat.le_of_ble_eq_true rfl) rfl rfl (by decide) (by decide) (fun M1 hq => ?_)
    obtain ⟨hV, hz9⟩ := hq
    replace hz := hz.tr hz9
    refine zv_sipush (n := 450) dL_thrown_447 rfl (v := (-1003)) (by decide) ?_
    refine zv_icmp_ne (n := 453) (tgt := 504) dL_thrown_450 (by decide) rfl (fun h450 => False.elim (h450 rfl)) (fun h450 => ?_)
    refine zv_lvs (lv' := [(1, .long (fAsk P)), (3, .int (P 0)), (0, .ref (b 0))]) ⟨rfl, rfl, rfl, trivial⟩ ?_
    refine zv_wide (kc' := 1400) (ks' := 30290) (by decide) (by decide) ?_
    exact k_thr_453 hV hz hO h2 h40

set_option maxRecDepth 100000 in
set_option maxHeartbeats 4000000 in
theorem k_thr_398 {σ : zSg} {M : zM} {Z : Nat → Prop} {b : Nat → Nat} {C : Nat → Nat → Nat} {P : zS} {U : List zS} {X : Option zS} {ea fa : Int32} {t : Nat → Nat} {u : Nat → Nat} {k : Nat} {M0 : zM} (hV : zVw M Z b C P U X ea fa t 0 u k) (hz : zKe M0 M Z) (hO : zOk P) (h2 : 2 ≤ fCnt P) (h40 : k ≤ 40) : zV μL_thrown (16, 4000, 80000) σ (zI9 (fun w M' => (w = 1 ∧ zVo M' Z b C P U X) ∧ zKe M0 M' Z)) M 1390 30230 398 [(1, .long (fAsk P)), (3, .int (P 0)), (0, .ref (b 0))] [] := by
  refine zv_aload_n (n := 399) dL_thrown_398 rfl rfl ?_
  refine zv_iconst (n := 400) dL_thrown_399 rfl (v := 1) (by decide) ?_
  refine zv_callSXP (n := 403) (As := [.ref (b 0), .int 1]) (rest := []) (kc' := 1391) (ks' := 30236) dL_thrown_400 rfl (c_W_curve hV (v := 1) (by decide)) rfl kL_curve lL_293 rfl rfl ⟨by decide, by decide⟩ (Nat.le_of_ble_eq_true rfl) rfl rfl (by decide) (by decide) ?_
  refine zv_if_eq (n := 406) (tgt := 424) dL_thrown_403 (by decide) rfl (fun h403 => ?_) (fun h403 => ?_)
  · skip
    refine zv_lvs (lv' := [(1, .long (fAsk P)), (3, .int (P 0)), (0, .ref (b 0))]) ⟨rfl, rfl, rfl, trivial⟩ ?_
    refine zv_wide (kc' := 1395) (ks' := 30260) (by decide) (by decide) ?_
    exact k_thr_424 hV hz hO h2 h40
  · skip
    refine zv_aload_n (n := 407) dL_thrown_406 rfl rfl ?_
    refine zv_iconst (n := 408) dL_thrown_407 rfl (v := 2) (by decide) ?_
    refine zv_aload_n (n := 409) dL_thrown_408 rfl rfl ?_
    refine zv_iconst (n := 410) dL_thrown_409 rfl (v := 1) (by decide) ?_
    refine zv_callSXP (n := 413) (As := [.ref (b 0), .int 1]) (rest := [.int 2, .ref (b 0)]) (kc' := 1392) (ks' := 30242) dL_thrown_410 rfl (c_W_curve hV (v := 1) (by decide)) rfl kL_curve lL_293 rfl rfl ⟨by decide, by decide⟩ (Nat.le_of_ble_eq_true rfl) rfl rfl (by decide) (by decide) ?_
    refine zv_iconst (n := 414) dL_thrown_413 rfl (v := 1) (by decide) ?_
    refine zv_isub (n := 415) dL_thrown_414 rfl ?_
    refine zv_callSXF (n := 418) (As := [.ref (b 0), .int 2, .int ((fPt P 1) - 1)]) (rest := []) (kc' := 1393) (ks' := 30248) dL_thrown_415 rfl (c_N_setCurve_4 hV _ _ (r_crv_b hO h403)) rfl kL_setCurve lL_181 rfl rfl ⟨by decide, by decide⟩ (Nat.le_of_ble_eq_true rfl) rfl rfl (by decide) (by decide) (fun M1 hq => ?_)
    obtain ⟨hV, hz9⟩ := hq
    replace hz := hz.tr hz9
    refine zv_sipush (n := 421) dL_thrown_418 rfl (v := (-1003)) (by decide) ?_
    refine zv_icmp_ne (n := 424) (tgt := 504) dL_thrown_421 (by decide) rfl (fun h421 => False.elim (h421 rfl)) (fun h421 => ?_)
    refine zv_lvs (lv' := [(1, .long (fAsk P)), (3, .int (P 0)), (0, .ref (b 0))]) ⟨rfl, rfl, rfl, trivial⟩ ?_
    refine zv_wide (kc' := 1395) (ks' := 30260) (by decide) (by decide) ?_
    exact k_thr_424 hV hz hO h2 h40

set_option maxRecDepth 100000 in
set_option maxHeartbeats 4000000 in
theorem k_thr_111 {σ : zSg} {M : zM} {Z : Nat → Prop} {b : Nat → Nat} {C : Nat → Nat → Nat} {P : zS} {U : List zS} {X : Option zS} {ea fa : Int32} {t : Nat → Nat} {u : Nat → Nat} {k : Nat} {M0 : zM} (hV : zVw M Z b C P U X ea fa t 0 u k) (hz : zKe M0 M Z) (hO : zOk P) (h2 : 2 ≤ fCnt P) (h40 : k ≤ 40) : zV μL_thrown (16, 4000, 80000) σ (zI9 (fun w M' => (w = 1 ∧ zVo M' Z b C P U X) ∧ zKe M0 M' Z)) M 1360 30050 111 [(1, .long (fAsk P)), (3, .int (P 0)), (0, .ref (b 0))] [] := by
  refine zv_aload_n (n := 112) dL_thrown_111 rfl rfl ?_
  refine zv_iload_n (n := 113) dL_thrown_112 rfl rfl ?_
  refine zv_callSXF (n := 116) (As := [.ref (b 0), .int (P 0)]) (rest := []) (kc' := 1361) (ks' := 30056) dL_thrown_113 rfl (c_N_removeRack_1 hV _ (r_rem_1 fBad_n0)) rfl kL_removeRack lL_257 rfl rfl ⟨by decide, by decide⟩ (Nat.le_of_ble_eq_true rfl) rfl rfl (by decide) (by decide) (fun M1 hq => ?_)
  obtain ⟨hV, hz9⟩ := hq
  replace hz := hz.tr hz9
  refine zv_sipush (n := 119) dL_thrown_116 rfl (v := (-1001)) (by decide) ?_
  refine zv_icmp_ne (n := 122) (tgt := 504) dL_thrown_119 (by decide) rfl (fun h119 => False.elim (h119 rfl)) (fun h119 => ?_)
  refine zv_aload_n (n := 123) dL_thrown_122 rfl rfl ?_
  refine zv_iconst (n := 124) dL_thrown_123 rfl (v := (-1)) (by decide) ?_
  refine zv_callSXF (n := 127) (As := [.ref (b 0), .int (-1)]) (rest := []) (kc' := 1362) (ks' := 30062) dL_thrown_124 rfl (c_N_removeRack_1 hV _ (r_rem_1 fBad_m1)) rfl kL_removeRack lL_257 rfl rfl ⟨by decide, by decide⟩ (Nat.le_of_ble_eq_true rfl) rfl rfl (by decide) (by decide) (fun M1 hq => ?_)
  obtain ⟨hV, hz9⟩ := hq
  replace hz := hz.tr hz9
  refine zv_sipush (n := 130) dL_thrown_127 rfl (v := (-1001)) (by decide) ?_
  refine zv_icmp_ne (n := 133) (tgt := 504) dL_thrown_130 (by decide) rfl (fun h130 => False.elim (h130 rfl)) (fun h130 => ?_)
  refine zv_aload_n (n := 134) dL_thrown_133 rfl rfl ?_
  refine zv_iload_n (n := 135) dL_thrown_134 rfl rfl ?_
  refine zv_iconst (n := 136) dL_thrown_135 rfl (v := 0) (by decide) ?_
  refine zv_bipush (n := 138) dL_thrown_136 rfl (v := 9) (by decide) ?_
  refine zv_callSXF (n := 141) (As := [.ref (b 0), .int (P 0), .int 0, .int 9]) (rest := []) (kc' := 1363) (ks' := 30068) dL_thrown_138 rfl (c_N_moveRack_1 hV _ _ _ (r_mov_1 fBad_n0)) rfl kL_moveRack lL_259 rfl rfl ⟨by decide, by decide⟩ (Nat.le_of_ble_eq_true rfl) rfl rfl (by decide) (by decide) (fun M1 hq => ?_)
  obtain ⟨hV, hz9⟩ := hq
  replace hz := hz.tr hz9
  refine zv_sipush (n := 144) dL_thrown_141 rfl (v := (-1001)) (by decide) ?_
  refine zv_icmp_ne (n := 147) (tgt := 504) dL_thrown_144 (by decide) rfl (fun h144 => False.elim (h144 rfl)) (fun h144 => ?_)
  refine zv_aload_n (n := 148) dL_thrown_147 rfl rfl ?_
  refine zv_iconst (n := 149) dL_thrown_148 rfl (v := 0) (by decide) ?_
  refine zv_iconst (n := 150) dL_thrown_149 rfl (v := 4) (by decide) ?_
  refine zv_bipush (n := 152) dL_thrown_150 rfl (v := 9) (by decide) ?_
  refine zv_callSXF (n := 155) (As := [.ref (b 0), .int 0, .int 4, .int 9]) (rest := []) (kc' := 1364) (ks' := 30074) dL_thrown_152 rfl (c_N_moveRack_1 hV _ _ _ (r_mov_1a (fBad_0 hO h2) (by decide))) rfl kL_moveRack lL_259 rfl rfl ⟨by decide, by decide⟩ (Nat.le_of_ble_eq_true rfl) rfl rfl (by decide) (by decide) (fun M1 hq => ?_)
  obtain ⟨hV, hz9⟩ := hq
  replace hz := hz.tr hz9
  refine zv_sipush (n := 158) dL_thrown_155 rfl (v := (-1001)) (by decide) ?_
  refine zv_icmp_ne (n := 161) (tgt := 504) dL_thrown_158 (by decide) rfl (fun h158 => False.elim (h158 rfl)) (fun h158 => ?_)
  refine zv_aload_n (n := 162) dL_thrown_161 rfl rfl ?_
  refine zv_iconst (n := 163) dL_thrown_162 rfl (v := 0) (by decide) ?_
  refine zv_iconst (n := 164) dL_thrown_163 rfl (v := 0) (by decide) ?_
  refine zv_bipush (n := 166) dL_thrown_164 rfl (v := 6) (by decide) ?_
  refine zv_callSXF (n := 169) (As := [.ref (b 0), .int 0, .int 0, .int 6]) (rest := []) (kc' := 1365) (ks' := 30080) dL_thrown_166 rfl (c_N_moveRack_2 hV _ _ _ (r_mov_2 (fBad_0 hO h2) (by decide) (by decide))) rfl kL_moveRack lL_259 rfl rfl ⟨by decide, by decide⟩ (Nat.le_of_ble_eq_true rfl) rfl rfl (by decide) (by decide) (fun M1 hq => ?_)
  obtain ⟨hV, hz9⟩ := hq
  replace hz := hz.tr hz9
  refine zv_sipush (n := 172) dL_thrown_169 rfl (v := (-1002)) (by decide) ?_
  refine zv_icmp_ne (n := 175) (tgt := 504) dL_thrown_172 (by decide) rfl (fun h172 => False.elim (h172 rfl)) (fun h172 => ?_)
  refine zv_aload_n (n := 176) dL_thrown_175 rfl rfl ?_
  refine zv_iload_n (n := 177) dL_thrown_176 rfl rfl ?_
  refine zv_bipush (n := 179) dL_thrown_177 rfl (v := 99) (by decide) ?_
  refine zv_callSXF (n := 182) (As := [.ref (b 0), .int (P 0), .int 99]) (rest := []) (kc' := 1366) (ks' := 30086) dL_thrown_179 rfl (c_N_setLoad_1 hV _ _ (r_lod_1 fBad_n0)) rfl kL_setLoad lL_261 rfl rfl ⟨by decide, by decide⟩ (Nat.le_of_ble_eq_true rfl) rfl rfl (by decide) (by decide) (fun M1 hq => ?_)
  obtain ⟨hV, hz9⟩ := hq
  replace hz := hz.tr hz9
  refine zv_sipush (n := 185) dL_thrown_182 rfl (v := (-1001)) (by decide) ?_
  refine zv_icmp_ne (n := 188) (tgt := 504) dL_thrown_185 (by decide) rfl (fun h185 => False.elim (h185 rfl)) (fun h185 => ?_)
  refine zv_aload_n (n := 189) dL_thrown_188 rfl rfl ?_
  refine zv_iconst (n := 190) dL_thrown_189 rfl (v := 0) (by decide) ?_
  refine zv_bipush (n := 192) dL_thrown_190 rfl (v := 21) (by decide) ?_
  refine zv_callSXF (n := 195) (As := [.ref (b 0), .int 0, .int 21]) (rest := []) (kc' := 1367) (ks' := 30092) dL_thrown_192 rfl (c_N_setLoad_2 hV _ _ (r_lod_2 (fBad_0 hO h2) (by decide))) rfl kL_setLoad lL_261 rfl rfl ⟨by decide, by decide⟩ (Nat.le_of_ble_eq_true rfl) rfl rfl (by decide) (by decide) (fun M1 hq => ?_)
  obtain ⟨hV, hz9⟩ := hq
  replace hz := hz.tr hz9
  refine zv_sipush (n := 198) dL_thrown_195 rfl (v := (-1002)) (by decide) ?_
  refine zv_icmp_ne (n := 201) (tgt := 504) dL_thrown_198 (by decide) rfl (fun h198 => False.elim (h198 rfl)) (fun h198 => ?_)
  refine zv_aload_n (n := 202) dL_thrown_201 rfl rfl ?_
  refine zv_iconst (n := 203) dL_thrown_202 rfl (v := 0) (by decide) ?_
  refine zv_iconst (n := 204) dL_thrown_203 rfl (v := (-1)) (by decide) ?_
  refine zv_callSXF (n := 207) (As := [.ref (b 0), .int 0, .int (-1)]) (rest := []) (kc' := 1368) (ks' := 30098) dL_thrown_204 rfl (c_N_setLoad_2 hV _ _ (r_lod_2 (fBad_0 hO h2) (by decide))) rfl kL_setLoad lL_261 rfl rfl ⟨by decide, by decide⟩ (Nat.le_of_ble_eq_true rfl) rfl rfl (by decide) (by decide) (fun M1 hq => ?_)
  obtain ⟨hV, hz9⟩ := hq
  replace hz := hz.tr hz9
  refine zv_sipush (n := 210) dL_thrown_207 rfl (v := (-1002)) (by decide) ?_
  refine zv_icmp_ne (n := 213) (tgt := 504) dL_thrown_210 (by decide) rfl (fun h210 => False.elim (h210 rfl)) (fun h210 => ?_)
  refine zv_aload_n (n := 214) dL_thrown_213 rfl rfl ?_
  refine zv_iload_n (n := 215) dL_thrown_214 rfl rfl ?_
  refine zv_iconst (n := 216) dL_thrown_215 rfl (v := 0) (by decide) ?_
  refine zv_iconst (n := 217) dL_thrown_216 rfl (v := 0) (by decide) ?_
  refine zv_callSXF (n := 220) (As := [.ref (b 0), .int (P 0), .int 0, .int 0]) (rest := []) (kc' := 1369) (ks' := 30104) dL_thrown_217 rfl (c_N_migrate_1 hV _ _ _ (r_snd_1 fBad_n0)) rfl kL_migrate lL_263 rfl rfl ⟨by decide, by decide⟩ (Nat.le_of_ble_eq_true rfl) rfl rfl (by decide) (by decide) (fun M1 hq => ?_)
  obtain ⟨hV, hz9⟩ := hq
  replace hz := hz.tr hz9
  refine zv_sipush (n := 223) dL_thrown_220 rfl (v := (-1001)) (by decide) ?_
  refine zv_icmp_ne (n := 226) (tgt := 504) dL_thrown_223 (by decide) rfl (fun h223 => False.elim (h223 rfl)) (fun h223 => ?_)
  refine zv_aload_n (n := 227) dL_thrown_226 rfl rfl ?_
  refine zv_iconst (n := 228) dL_thrown_227 rfl (v := 0) (by decide) ?_
  refine zv_iconst (n := 229) dL_thrown_228 rfl (v := (-1)) (by decide) ?_
  refine zv_iconst (n := 230) dL_thrown_229 rfl (v := 5) (by decide) ?_
  refine zv_callSXF (n := 233) (As := [.ref (b 0), .int 0, .int (-1), .int 5]) (rest := []) (kc' := 1370) (ks' := 30110) dL_thrown_230 rfl (c_N_migrate_1 hV _ _ _ (r_snd_1y (fBad_0 hO h2) fBad_m1)) rfl kL_migrate lL_263 rfl rfl ⟨by decide, by decide⟩ (Nat.le_of_ble_eq_true rfl) rfl rfl (by decide) (by decide) (fun M1 hq => ?_)
  obtain ⟨hV, hz9⟩ := hq
  replace hz := hz.tr hz9
  refine zv_sipush (n := 236) dL_thrown_233 rfl (v := (-1001)) (by decide) ?_
  refine zv_icmp_ne (n := 239) (tgt := 504) dL_thrown_236 (by decide) rfl (fun h236 => False.elim (h236 rfl)) (fun h236 => ?_)
  refine zv_aload_n (n := 240) dL_thrown_239 rfl rfl ?_
  refine zv_iconst (n := 241) dL_thrown_240 rfl (v := 0) (by decide) ?_
  refine zv_iconst (n := 242) dL_thrown_241 rfl (v := 0) (by decide) ?_
  refine zv_iconst (n := 243) dL_thrown_242 rfl (v := 5) (by decide) ?_
  refine zv_callSXF (n := 246) (As := [.ref (b 0), .int 0, .int 0, .int 5]) (rest := []) (kc' := 1371) (ks' := 30116) dL_thrown_243 rfl (c_N_migrate_2 hV _ _ _ (r_snd_2 (fBad_0 hO h2) (fBad_0 hO h2) rfl)) rfl kL_migrate lL_263 rfl rfl ⟨by decide, by decide⟩ (Nat.le_of_ble_eq_true rfl) rfl rfl (by decide) (by decide) (fun M1 hq => ?_)
  obtain ⟨hV, hz9⟩ := hq
  replace hz := hz.tr hz9
  refine zv_sipush (n := 249) dL_thrown_246 rfl (v := (-1002)) (by decide) ?_
  refine zv_icmp_ne (n := 252) (tgt := 504) dL_thrown_249 (by decide) rfl (fun h249 => False.elim (h249 rfl)) (fun h249 => ?_)
  refine zv_aload_n (n := 253) dL_thrown_252 rfl rfl ?_
  refine zv_iconst (n := 254) dL_thrown_253 rfl (v := 0) (by decide) ?_
  refine zv_iconst (n := 255) dL_thrown_254 rfl (v := 1) (by decide) ?_
  refine zv_iconst (n := 256) dL_thrown_255 rfl (v := 0) (by decide) ?_
  refine zv_callSXF (n := 259) (As := [.ref (b 0), .int 0, .int 1, .int 0]) (rest := []) (kc' := 1372) (ks' := 30122) dL_thrown_256 rfl (c_N_migrate_2 hV _ _ _ (r_snd_2l (fBad_0 hO h2) (fBad_1 hO h2) (by decide) (by decide))) rfl kL_migrate lL_263 rfl rfl ⟨by decide, by decide⟩ (Nat.le_of_ble_eq_true rfl) rfl rfl (by decide) (by decide) (fun M1 hq => ?_)
  obtain ⟨hV, hz9⟩ := hq
  replace hz := hz.tr hz9
  refine zv_sipush (n := 262) dL_thrown_259 rfl (v := (-1002)) (by decide) ?_
  refine zv_icmp_ne (n := 265) (tgt := 504) dL_thrown_262 (by decide) rfl (fun h262 => False.elim (h262 rfl)) (fun h262 => ?_)
  refine zv_aload_n (n := 266) dL_thrown_265 rfl rfl ?_
  refine zv_iconst (n := 267) dL_thrown_266 rfl (v := 0) (by decide) ?_
  refine zv_iconst (n := 268) dL_thrown_267 rfl (v := 1) (by decide) ?_
  refine zv_bipush (n := 270) dL_thrown_268 rfl (v := 21) (by decide) ?_
  refine zv_callSXF (n := 273) (As := [.ref (b 0), .int 0, .int 1, .int 21]) (rest := []) (kc' := 1373) (ks' := 30128) dL_thrown_270 rfl (c_N_migrate_2 hV _ _ _ (r_snd_2l (fBad_0 hO h2) (fBad_1 hO h2) (by decide) (by decide))) rfl kL_migrate lL_263 rfl rfl ⟨by decide, by decide⟩ (Nat.le_of_ble_eq_true rfl) rfl rfl (by decide) (by decide) (fun M1 hq => ?_)
  obtain ⟨hV, hz9⟩ := hq
  replace hz := hz.tr hz9
  refine zv_sipush (n := 276) dL_thrown_273 rfl (v := (-1002)) (by decide) ?_
  refine zv_icmp_ne (n := 279) (tgt := 504) dL_thrown_276 (by decide) rfl (fun h276 => False.elim (h276 rfl)) (fun h276 => ?_)
  refine zv_aload_n (n := 280) dL_thrown_279 rfl rfl ?_
  refine zv_iconst (n := 281) dL_thrown_280 rfl (v := 4) (by decide) ?_
  refine zv_bipush (n := 283) dL_thrown_281 rfl (v := 99) (by decide) ?_
  refine zv_callSXF (n := 286) (As := [.ref (b 0), .int 4, .int 99]) (rest := []) (kc' := 1374) (ks' := 30134) dL_thrown_283 rfl (c_N_setFan_1 hV _ _ (r_fan_1 (by decide))) rfl kL_setFan lL_178 rfl rfl ⟨by decide, by decide⟩ (Nat.le_of_ble_eq_true rfl) rfl rfl (by decide) (by decide) (fun M1 hq => ?_)
  obtain ⟨hV, hz9⟩ := hq
  replace hz := hz.tr hz9
  refine zv_sipush (n := 289) dL_thrown_286 rfl (v := (-1001)) (by decide) ?_
  refine zv_icmp_ne (n := 292) (tgt := 504) dL_thrown_289 (by decide) rfl (fun h289 => False.elim (h289 rfl)) (fun h289 => ?_)
  refine zv_aload_n (n := 293) dL_thrown_292 rfl rfl ?_
  refine zv_iconst (n := 294) dL_thrown_293 rfl (v := 0) (by decide) ?_
  refine zv_bipush (n := 296) dL_thrown_294 rfl (v := 11) (by decide) ?_
  refine zv_callSXF (n := 299) (As := [.ref (b 0), .int 0, .int 11]) (rest := []) (kc' := 1375) (ks' := 30140) dL_thrown_296 rfl (c_N_setFan_2 hV _ _ (r_fan_2 (by decide) (by decide))) rfl kL_setFan lL_178 rfl rfl ⟨by decide, by decide⟩ (Nat.le_of_ble_eq_true rfl) rfl rfl (by decide) (by decide) (fun M1 hq => ?_)
  obtain ⟨hV, hz9⟩ := hq
  replace hz := hz.tr hz9
  refine zv_sipush (n := 302) dL_thrown_299 rfl (v := (-1002)) (by decide) ?_
  refine zv_icmp_ne (n := 305) (tgt := 504) dL_thrown_302 (by decide) rfl (fun h302 => False.elim (h302 rfl)) (fun h302 => ?_)
  refine zv_aload_n (n := 306) dL_thrown_305 rfl rfl ?_
  refine zv_iconst (n := 307) dL_thrown_306 rfl (v := 0) (by decide) ?_
  refine zv_iconst (n := 308) dL_thrown_307 rfl (v := (-1)) (by decide) ?_
  refine zv_callSXF (n := 311) (As := [.ref (b 0), .int 0, .int (-1)]) (rest := []) (kc' := 1376) (ks' := 30146) dL_thrown_308 rfl (c_N_setFan_2 hV _ _ (r_fan_2 (by decide) (by decide))) rfl kL_setFan lL_178 rfl rfl ⟨by decide, by decide⟩ (Nat.le_of_ble_eq_true rfl) rfl rfl (by decide) (by decide) (fun M1 hq => ?_)
  obtain ⟨hV, hz9⟩ := hq
  replace hz := hz.tr hz9
  refine zv_sipush (n := 314) dL_thrown_311 rfl (v := (-1002)) (by decide) ?_
  refine zv_icmp_ne (n := 317) (tgt := 504) dL_thrown_314 (by decide) rfl (fun h314 => False.elim (h314 rfl)) (fun h314 => ?_)
  refine zv_aload_n (n := 318) dL_thrown_317 rfl rfl ?_
  refine zv_iconst (n := 319) dL_thrown_318 rfl (v := 3) (by decide) ?_
  refine zv_sipush (n := 322) dL_thrown_319 rfl (v := 999) (by decide) ?_
  refine zv_callSXF (n := 325) (As := [.ref (b 0), .int 3, .int 999]) (rest := []) (kc' := 1377) (ks' := 30152) dL_thrown_322 rfl (c_N_setCurve_1 hV _ _ (r_crv_1 (by decide))) rfl kL_setCurve lL_181 rfl rfl ⟨by decide, by decide⟩ (Nat.le_of_ble_eq_true rfl) rfl rfl (by decide) (by decide) (fun M1 hq => ?_)
  obtain ⟨hV, hz9⟩ := hq
  replace hz := hz.tr hz9
  refine zv_sipush (n := 328) dL_thrown_325 rfl (v := (-1001)) (by decide) ?_
  refine zv_icmp_ne (n := 331) (tgt := 504) dL_thrown_328 (by decide) rfl (fun h328 => False.elim (h328 rfl)) (fun h328 => ?_)
  refine zv_aload_n (n := 332) dL_thrown_331 rfl rfl ?_
  refine zv_iconst (n := 333) dL_thrown_332 rfl (v := (-1)) (by decide) ?_
  refine zv_iconst (n := 334) dL_thrown_333 rfl (v := 0) (by decide) ?_
  refine zv_callSXF (n := 337) (As := [.ref (b 0), .int (-1), .int 0]) (rest := []) (kc' := 1378) (ks' := 30158) dL_thrown_334 rfl (c_N_setCurve_1 hV _ _ (r_crv_1 (by decide))) rfl kL_setCurve lL_181 rfl rfl ⟨by decide, by decide⟩ (Nat.le_of_ble_eq_true rfl) rfl rfl (by decide) (by decide) (fun M1 hq => ?_)
  obtain ⟨hV, hz9⟩ := hq
  replace hz := hz.tr hz9
  refine zv_sipush (n := 340) dL_thrown_337 rfl (v := (-1001)) (by decide) ?_
  refine zv_icmp_ne (n := 343) (tgt := 504) dL_thrown_340 (by decide) rfl (fun h340 => False.elim (h340 rfl)) (fun h340 => ?_)
  refine zv_aload_n (n := 344) dL_thrown_343 rfl rfl ?_
  refine zv_iconst (n := 345) dL_thrown_344 rfl (v := 0) (by decide) ?_
  refine zv_sipush (n := 348) dL_thrown_345 rfl (v := 201) (by decide) ?_
  refine zv_callSXF (n := 351) (As := [.ref (b 0), .int 0, .int 201]) (rest := []) (kc' := 1379) (ks' := 30164) dL_thrown_348 rfl (c_N_setCurve_2 hV _ _ (r_crv_2 (by decide) (by decide))) rfl kL_setCurve lL_181 rfl rfl ⟨by decide, by decide⟩ (Nat.le_of_ble_eq_true rfl) rfl rfl (by decide) (by decide) (fun M1 hq => ?_)
  obtain ⟨hV, hz9⟩ := hq
  replace hz := hz.tr hz9
  refine zv_sipush (n := 354) dL_thrown_351 rfl (v := (-1002)) (by decide) ?_
  refine zv_icmp_ne (n := 357) (tgt := 504) dL_thrown_354 (by decide) rfl (fun h354 => False.elim (h354 rfl)) (fun h354 => ?_)
  refine zv_aload_n (n := 358) dL_thrown_357 rfl rfl ?_
  refine zv_iconst (n := 359) dL_thrown_358 rfl (v := 0) (by decide) ?_
  refine zv_iconst (n := 360) dL_thrown_359 rfl (v := (-1)) (by decide) ?_
  refine zv_callSXF (n := 363) (As := [.ref (b 0), .int 0, .int (-1)]) (rest := []) (kc' := 1380) (ks' := 30170) dL_thrown_360 rfl (c_N_setCurve_2 hV _ _ (r_crv_2 (by decide) (by decide))) rfl kL_setCurve lL_181 rfl rfl ⟨by decide, by decide⟩ (Nat.le_of_ble_eq_true rfl) rfl rfl (by decide) (by decide) (fun M1 hq => ?_)
  obtain ⟨hV, hz9⟩ := hq
  replace hz := hz.tr hz9
  refine zv_sipush (n := 366) dL_thrown_363 rfl (v := (-1002)) (by decide) ?_
  refine zv_icmp_ne (n := 369) (tgt := 504) dL_thrown_366 (by decide) rfl (fun h366 => False.elim (h366 rfl)) (fun h366 => ?_)
  refine zv_aload_n (n := 370) dL_thrown_369 rfl rfl ?_
  refine zv_iconst (n := 371) dL_thrown_370 rfl (v := 1) (by decide) ?_
  refine zv_callSXP (n := 374) (As := [.ref (b 0), .int 1]) (rest := []) (kc' := 1381) (ks' := 30176) dL_thrown_371 rfl (c_W_curve hV (v := 1) (by decide)) rfl kL_curve lL_293 rfl rfl ⟨by decide, by decide⟩ (Nat.le_of_ble_eq_true rfl) rfl rfl (by decide) (by decide) ?_
  refine zv_sipush (n := 377) dL_thrown_374 rfl (v := 200) (by decide) ?_
  refine zv_icmp_eq (n := 380) (tgt := 398) dL_thrown_377 (by decide) rfl (fun h377 => ?_) (fun h377 => ?_)
  · skip
    refine zv_lvs (lv' := [(1, .long (fAsk P)), (3, .int (P 0)), (0, .ref (b 0))]) ⟨rfl, rfl, rfl, trivial⟩ ?_
    refine zv_wide (kc' := 1390) (ks' := 30230) (by decide) (by decide) ?_
    exact k_thr_398 hV hz hO h2 h40
  · skip
    refine zv_aload_n (n := 381) dL_thrown_380 rfl rfl ?_
    refine zv_iconst (n := 382) dL_thrown_381 rfl (v := 0) (by decide) ?_
    refine zv_aload_n (n := 383) dL_thrown_382 rfl rfl ?_
    refine zv_iconst (n := 384) dL_thrown_383 rfl (v := 1) (by decide) ?_
    refine zv_callSXP (n := 387) (As := [.ref (b 0), .int 1]) (rest := [.int 0, .ref (b 0)]) (kc' := 1382) (ks' := 30182) dL_thrown_384 rfl (c_W_curve hV (v := 1) (by decide)) rfl kL_curve lL_293 rfl rfl ⟨by decide, by decide⟩ (Nat.le_of_ble_eq_true rfl) rfl rfl (by decide) (by decide) ?_
    refine zv_iconst (n := 388) dL_thrown_387 rfl (v := 1) (by decide) ?_
    refine zv_iadd (n := 389) dL_thrown_388 rfl ?_
    refine zv_callSXF (n := 392) (As := [.ref (b 0), .int 0, .int ((fPt P 1) + 1)]) (rest := []) (kc' := 1383) (ks' := 30188) dL_thrown_389 rfl (c_N_setCurve_4 hV _ _ (r_crv_a hO h377)) rfl kL_setCurve lL_181 rfl rfl ⟨by decide, by decide⟩ (Nat.le_of_ble_eq_true rfl) rfl rfl (by decide) (by decide) (fun M1 hq => ?_)
    obtain ⟨hV, hz9⟩ := hq
    replace hz := hz.tr hz9
    refine zv_sipush (n := 395) dL_thrown_392 rfl (v := (-1003)) (by decide) ?_
    refine zv_icmp_ne (n := 398) (tgt := 504) dL_thrown_395 (by decide) rfl (fun h395 => False.elim (h395 rfl)) (fun h395 => ?_)
    refine zv_lvs (lv' := [(1, .long (fAsk P)), (3, .int (P 0)), (0, .ref (b 0))]) ⟨rfl, rfl, rfl, trivial⟩ ?_
    refine zv_wide (kc' := 1390) (ks' := 30230) (by decide) (by decide) ?_
    exact k_thr_398 hV hz hO h2 h40

set_option maxRecDepth 100000 in
set_option maxHeartbeats 4000000 in
theorem c_thrown {σ : zSg} {M : zM} {Z : Nat → Prop} {b : Nat → Nat} {C : Nat → Nat → Nat} {P : zS} {U : List zS} {X : Option zS} {ea fa : Int32} {t : Nat → Nat} {u : Nat → Nat} {k : Nat} (hV : zVw M Z b C P U X ea fa t 0 u k) (h2 : 2 ≤ fCnt P) : zCon μL_thrown (16, 4000, 80000) σ [.ref (b 0)] M (zI9 (fun w M' => (w = 1 ∧ zVo M' Z b C P U X) ∧ zKe M M' Z)) := by
  have hO := hV.ok
  refine zCon.of (plainFor_of_name (by decide)) rfl (Nat.le_of_ble_eq_true rfl) ?_
  change zV _ _ _ _ _ 0 0 0 [(0, .ref (b 0))] []
  refine zv_aload_n (n := 1) dL_thrown_0 rfl rfl ?_
  refine zv_callSF (n := 4) (As := [.ref (b 0)]) (rest := []) (kc' := 1349) (ks' := 29982) dL_thrown_1 rfl (c_V_asks hV) rfl kL_asks lL_289 rfl rfl ⟨by decide, by decide⟩ (Nat.le_of_ble_eq_true rfl) rfl rfl (by decide) (by decide) (fun M1 hq => ?_)
  obtain ⟨⟨u9, k9, hV, h40⟩, hz⟩ := hq
  have h40 := h40 (by omega)
  obtain ⟨fs9, hb9⟩ := hV.o
  refine zv_lstore_n (n := 5) (lv' := [(1, .long (fAsk P)), (0, .ref (b 0))]) dL_thrown_4 rfl (by decide) rfl ?_
  refine zv_aload_n (n := 6) dL_thrown_5 rfl rfl ?_
  refine zv_callVP (n := 9) (As := []) (rest := []) (kc' := 1349) (ks' := 29982) dL_thrown_6 rfl (c_W_count hV) rfl kX8_rackCount lL_188 hb9 rfl rfl rfl ⟨by decide, by decide⟩ (Nat.le_of_ble_eq_true rfl) rfl rfl (by decide) (by decide) ?_
  refine zv_istore_n (n := 10) (lv' := [(3, .int (P 0)), (1, .long (fAsk P)), (0, .ref (b 0))]) dL_thrown_9 rfl (by decide) rfl ?_
  refine zv_aload_n (n := 11) dL_thrown_10 rfl rfl ?_
  refine zv_iconst (n := 12) dL_thrown_11 rfl (v := 4) (by decide) ?_
  refine zv_bipush (n := 14) dL_thrown_12 rfl (v := 9) (by decide) ?_
  refine zv_bipush (n := 16) dL_thrown_14 rfl (v := 99) (by decide) ?_
  refine zv_callSXF (n := 19) (As := [.ref (b 0), .int 4, .int 9, .int 99]) (rest := []) (kc' := 1350) (ks' := 29988) dL_thrown_16 rfl (c_N_addRack_1 hV _ _ _ (r_add_1 (by decide))) rfl kL_addRack lL_175 rfl rfl ⟨by decide, by decide⟩ (Nat.le_of_ble_eq_true rfl) rfl rfl (by decide) (by decide) (fun M1 hq => ?_)
  obtain ⟨hV, hz9⟩ := hq
  replace hz := hz.tr hz9
  refine zv_sipush (n := 22) dL_thrown_19 rfl (v := (-1001)) (by decide) ?_
  refine zv_icmp_ne (n := 25) (tgt := 504) dL_thrown_22 (by decide) rfl (fun h22 => False.elim (h22 rfl)) (fun h22 => ?_)
  refine zv_aload_n (n := 26) dL_thrown_25 rfl rfl ?_
  refine zv_iconst (n := 27) dL_thrown_26 rfl (v := (-1)) (by decide) ?_
  refine zv_iconst (n := 28) dL_thrown_27 rfl (v := 0) (by decide) ?_
  refine zv_iconst (n := 29) dL_thrown_28 rfl (v := 0) (by decide) ?_
  refine zv_callSXF (n := 32) (As := [.ref (b 0), .int (-1), .int 0, .int 0]) (rest := []) (kc' := 1351) (ks' := 29994) dL_thrown_29 rfl (c_N_addRack_1 hV _ _ _ (r_add_1 (by decide))) rfl kL_addRack lL_175 rfl rfl ⟨by decide, by decide⟩ (Nat.le_of_ble_eq_true rfl) rfl rfl (by decide) (by decide) (fun M1 hq => ?_)
  obtain ⟨hV, hz9⟩ := hq
  replace hz := hz.tr hz9
  refine zv_sipush (n := 35) dL_thrown_32 rfl (v := (-1001)) (by decide) ?_
  refine zv_icmp_ne (n := 38) (tgt := 504) dL_thrown_35 (by decide) rfl (fun h35 => False.elim (h35 rfl)) (fun h35 => ?_)
  refine zv_aload_n (n := 39) dL_thrown_38 rfl rfl ?_
  refine zv_iconst (n := 40) dL_thrown_39 rfl (v := 0) (by decide) ?_
  refine zv_bipush (n := 42) dL_thrown_40 rfl (v := 6) (by decide) ?_
  refine zv_iconst (n := 43) dL_thrown_42 rfl (v := 0) (by decide) ?_
  refine zv_callSXF (n := 46) (As := [.ref (b 0), .int 0, .int 6, .int 0]) (rest := []) (kc' := 1352) (ks' := 30000) dL_thrown_43 rfl (c_N_addRack_2 hV _ _ _ (r_add_2 (by decide) (by decide))) rfl kL_addRack lL_175 rfl rfl ⟨by decide, by decide⟩ (Nat.le_of_ble_eq_true rfl) rfl rfl (by decide) (by decide) (fun M1 hq => ?_)
  obtain ⟨hV, hz9⟩ := hq
  replace hz := hz.tr hz9
  refine zv_sipush (n := 49) dL_thrown_46 rfl (v := (-1002)) (by decide) ?_
  refine zv_icmp_ne (n := 52) (tgt := 504) dL_thrown_49 (by decide) rfl (fun h49 => False.elim (h49 rfl)) (fun h49 => ?_)
  refine zv_aload_n (n := 53) dL_thrown_52 rfl rfl ?_
  refine zv_iconst (n := 54) dL_thrown_53 rfl (v := 0) (by decide) ?_
  refine zv_iconst (n := 55) dL_thrown_54 rfl (v := (-1)) (by decide) ?_
  refine zv_iconst (n := 56) dL_thrown_55 rfl (v := 0) (by decide) ?_
  refine zv_callSXF (n := 59) (As := [.ref (b 0), .int 0, .int (-1), .int 0]) (rest := []) (kc' := 1353) (ks' := 30006) dL_thrown_56 rfl (c_N_addRack_2 hV _ _ _ (r_add_2 (by decide) (by decide))) rfl kL_addRack lL_175 rfl rfl ⟨by decide, by decide⟩ (Nat.le_of_ble_eq_true rfl) rfl rfl (by decide) (by decide) (fun M1 hq => ?_)
  obtain ⟨hV, hz9⟩ := hq
  replace hz := hz.tr hz9
  refine zv_sipush (n := 62) dL_thrown_59 rfl (v := (-1002)) (by decide) ?_
  refine zv_icmp_ne (n := 65) (tgt := 504) dL_thrown_62 (by decide) rfl (fun h62 => False.elim (h62 rfl)) (fun h62 => ?_)
  refine zv_aload_n (n := 66) dL_thrown_65 rfl rfl ?_
  refine zv_iconst (n := 67) dL_thrown_66 rfl (v := 0) (by decide) ?_
  refine zv_iconst (n := 68) dL_thrown_67 rfl (v := 0) (by decide) ?_
  refine zv_bipush (n := 70) dL_thrown_68 rfl (v := 21) (by decide) ?_
  refine zv_callSXF (n := 73) (As := [.ref (b 0), .int 0, .int 0, .int 21]) (rest := []) (kc' := 1354) (ks' := 30012) dL_thrown_70 rfl (c_N_addRack_2 hV _ _ _ (r_add_2l (by decide) (by decide) (by decide))) rfl kL_addRack lL_175 rfl rfl ⟨by decide, by decide⟩ (Nat.le_of_ble_eq_true rfl) rfl rfl (by decide) (by decide) (fun M1 hq => ?_)
  obtain ⟨hV, hz9⟩ := hq
  replace hz := hz.tr hz9
  refine zv_sipush (n := 76) dL_thrown_73 rfl (v := (-1002)) (by decide) ?_
  refine zv_icmp_ne (n := 79) (tgt := 504) dL_thrown_76 (by decide) rfl (fun h76 => False.elim (h76 rfl)) (fun h76 => ?_)
  refine zv_aload_n (n := 80) dL_thrown_79 rfl rfl ?_
  refine zv_iconst (n := 81) dL_thrown_80 rfl (v := 0) (by decide) ?_
  refine zv_iconst (n := 82) dL_thrown_81 rfl (v := 0) (by decide) ?_
  refine zv_iconst (n := 83) dL_thrown_82 rfl (v := (-1)) (by decide) ?_
  refine zv_callSXF (n := 86) (As := [.ref (b 0), .int 0, .int 0, .int (-1)]) (rest := []) (kc' := 1355) (ks' := 30018) dL_thrown_83 rfl (c_N_addRack_2 hV _ _ _ (r_add_2l (by decide) (by decide) (by decide))) rfl kL_addRack lL_175 rfl rfl ⟨by decide, by decide⟩ (Nat.le_of_ble_eq_true rfl) rfl rfl (by decide) (by decide) (fun M1 hq => ?_)
  obtain ⟨hV, hz9⟩ := hq
  replace hz := hz.tr hz9
  refine zv_sipush (n := 89) dL_thrown_86 rfl (v := (-1002)) (by decide) ?_
  refine zv_icmp_ne (n := 92) (tgt := 504) dL_thrown_89 (by decide) rfl (fun h89 => False.elim (h89 rfl)) (fun h89 => ?_)
  refine zv_iload_n (n := 93) dL_thrown_92 rfl rfl ?_
  refine zv_bipush (n := 95) dL_thrown_93 rfl (v := 12) (by decide) ?_
  refine zv_icmp_lt (n := 98) (tgt := 111) dL_thrown_95 (by decide) rfl (fun h95 => ?_) (fun h95 => ?_)
  · skip
    refine zv_lvs (lv' := [(1, .long (fAsk P)), (3, .int (P 0)), (0, .ref (b 0))]) ⟨rfl, rfl, rfl, trivial⟩ ?_
    refine zv_wide (kc' := 1360) (ks' := 30050) (by decide) (by decide) ?_
    exact k_thr_111 hV hz hO h2 h40
  · skip
    have h12 : 12 ≤ fCnt P := (nI12 (by have := hO.1.2; omega)).mp (by rw [← hO.1.1]; exact Int32.not_lt.mp h95)
    refine zv_aload_n (n := 99) dL_thrown_98 rfl rfl ?_
    refine zv_iconst (n := 100) dL_thrown_99 rfl (v := 0) (by decide) ?_
    refine zv_iconst (n := 101) dL_thrown_100 rfl (v := 0) (by decide) ?_
    refine zv_iconst (n := 102) dL_thrown_101 rfl (v := 0) (by decide) ?_
    refine zv_callSXF (n := 105) (As := [.ref (b 0), .int 0, .int 0, .int 0]) (rest := []) (kc' := 1356) (ks' := 30024) dL_thrown_102 rfl (c_N_addRack_3 hV _ _ _ (r_add_3 (by decide) (by decide) (by decide) h12)) rfl kL_addRack lL_175 rfl rfl ⟨by decide, by decide⟩ (Nat.le_of_ble_eq_true rfl) rfl rfl (by decide) (by decide) (fun M1 hq => ?_)
    obtain ⟨hV, hz9⟩ := hq
    replace hz := hz.tr hz9
    refine zv_sipush (n := 108) dL_thrown_105 rfl (v := (-1003)) (by decide) ?_
    refine zv_icmp_ne (n := 111) (tgt := 504) dL_thrown_108 (by decide) rfl (fun h108 => False.elim (h108 rfl)) (fun h108 => ?_)
    refine zv_lvs (lv' := [(1, .long (fAsk P)), (3, .int (P 0)), (0, .ref (b 0))]) ⟨rfl, rfl, rfl, trivial⟩ ?_
    refine zv_wide (kc' := 1360) (ks' := 30050) (by decide) (by decide) ?_
    exact k_thr_111 hV hz hO h2 h40


/-! Changes known to be made or refused, asks, undo, save, restore, at the law's view: laid by wip/p53/m54.py. -/
theorem c_M_addRack {σ : zSg} {M : zM} {Z : Nat → Prop} {b : Nat → Nat} {C : Nat → Nat → Nat} {P : zS} {U : List zS} {X : Option zS} (hV : zVo M Z b C P U X) (a p l : Int32) (h : 0 ≤ (fAdd P a p l).1) : zCon μL_addRack (7, 1, 6) σ [.ref (b 0), .int a, .int p, .int l] M (zF (some (.int ((fAdd P a p l).1))) (fun M' => zVo M' Z b C (fAdd P a p l).2 ((P :: U).take 8) X ∧ zKe M M' Z)) := by
  obtain ⟨ea, fa, t, u, k, hV⟩ := hV
  refine (c_L_addRack hV a p l).post (fun o M' q => ?_)
  obtain ⟨e, h1, h2⟩ := q
  rw [fNe_pos h] at h1
  rw [fGm_pos h] at e
  exact ⟨e, ⟨ea, fa, t, u, k, h1⟩, h2⟩
theorem c_N_addRack_1 {σ : zSg} {M : zM} {Z : Nat → Prop} {b : Nat → Nat} {C : Nat → Nat → Nat} {P : zS} {U : List zS} {X : Option zS} {ea fa : Int32} {t : Nat → Nat} {n : Nat} {u : Nat → Nat} {k : Nat} (hV : zVw M Z b C P U X ea fa t n u k) (a p l : Int32) (h : (fAdd P a p l).1 = -1) : zCon μL_addRack (7, 1, 6) σ [.ref (b 0), .int a, .int p, .int l] M (zF (some (.int (-1001))) (fun M' => zVw M' Z b C P U X ea fa t n u k ∧ zKe M M' Z)) := by
  refine (c_L_addRack hV a p l).post (fun o M' q => ?_)
  obtain ⟨e, h1, h2⟩ := q
  have hx := h ▸ fEx_1
  rw [fNe_x hx] at h1
  rw [h, fGm_1] at e
  exact ⟨e, h1, h2⟩
theorem c_N_addRack_2 {σ : zSg} {M : zM} {Z : Nat → Prop} {b : Nat → Nat} {C : Nat → Nat → Nat} {P : zS} {U : List zS} {X : Option zS} {ea fa : Int32} {t : Nat → Nat} {n : Nat} {u : Nat → Nat} {k : Nat} (hV : zVw M Z b C P U X ea fa t n u k) (a p l : Int32) (h : (fAdd P a p l).1 = -2) : zCon μL_addRack (7, 1, 6) σ [.ref (b 0), .int a, .int p, .int l] M (zF (some (.int (-1002))) (fun M' => zVw M' Z b C P U X ea fa t n u k ∧ zKe M M' Z)) := by
  refine (c_L_addRack hV a p l).post (fun o M' q => ?_)
  obtain ⟨e, h1, h2⟩ := q
  have hx := h ▸ fEx_2
  rw [fNe_x hx] at h1
  rw [h, fGm_2] at e
  exact ⟨e, h1, h2⟩
theorem c_N_addRack_3 {σ : zSg} {M : zM} {Z : Nat → Prop} {b : Nat → Nat} {C : Nat → Nat → Nat} {P : zS} {U : List zS} {X : Option zS} {ea fa : Int32} {t : Nat → Nat} {n : Nat} {u : Nat → Nat} {k : Nat} (hV : zVw M Z b C P U X ea fa t n u k) (a p l : Int32) (h : (fAdd P a p l).1 = -3) : zCon μL_addRack (7, 1, 6) σ [.ref (b 0), .int a, .int p, .int l] M (zF (some (.int (-1003))) (fun M' => zVw M' Z b C P U X ea fa t n u k ∧ zKe M M' Z)) := by
  refine (c_L_addRack hV a p l).post (fun o M' q => ?_)
  obtain ⟨e, h1, h2⟩ := q
  have hx := h ▸ fEx_3
  rw [fNe_x hx] at h1
  rw [h, fGm_3] at e
  exact ⟨e, h1, h2⟩
theorem c_N_addRack_4 {σ : zSg} {M : zM} {Z : Nat → Prop} {b : Nat → Nat} {C : Nat → Nat → Nat} {P : zS} {U : List zS} {X : Option zS} {ea fa : Int32} {t : Nat → Nat} {n : Nat} {u : Nat → Nat} {k : Nat} (hV : zVw M Z b C P U X ea fa t n u k) (a p l : Int32) (h : (fAdd P a p l).1 = -4) : zCon μL_addRack (7, 1, 6) σ [.ref (b 0), .int a, .int p, .int l] M (zF (some (.int (-1004))) (fun M' => zVw M' Z b C P U X ea fa t n u k ∧ zKe M M' Z)) := by
  refine (c_L_addRack hV a p l).post (fun o M' q => ?_)
  obtain ⟨e, h1, h2⟩ := q
  have hx := h ▸ fEx_4
  rw [fNe_x hx] at h1
  rw [h, fGm_4] at e
  exact ⟨e, h1, h2⟩
theorem c_M_removeRack {σ : zSg} {M : zM} {Z : Nat → Prop} {b : Nat → Nat} {C : Nat → Nat → Nat} {P : zS} {U : List zS} {X : Option zS} (hV : zVo M Z b C P U X) (x : Int32) (h : 0 ≤ (fRem P x).1) : zCon μL_removeRack (7, 1, 6) σ [.ref (b 0), .int x] M (zF (some (.int ((fRem P x).1))) (fun M' => zVo M' Z b C (fRem P x).2 ((P :: U).take 8) X ∧ zKe M M' Z)) := by
  obtain ⟨ea, fa, t, u, k, hV⟩ := hV
  refine (c_L_removeRack hV x).post (fun o M' q => ?_)
  obtain ⟨e, h1, h2⟩ := q
  rw [fNe_pos h] at h1
  rw [fGm_pos h] at e
  exact ⟨e, ⟨ea, fa, t, u, k, h1⟩, h2⟩
theorem c_N_removeRack_1 {σ : zSg} {M : zM} {Z : Nat → Prop} {b : Nat → Nat} {C : Nat → Nat → Nat} {P : zS} {U : List zS} {X : Option zS} {ea fa : Int32} {t : Nat → Nat} {n : Nat} {u : Nat → Nat} {k : Nat} (hV : zVw M Z b C P U X ea fa t n u k) (x : Int32) (h : (fRem P x).1 = -1) : zCon μL_removeRack (7, 1, 6) σ [.ref (b 0), .int x] M (zF (some (.int (-1001))) (fun M' => zVw M' Z b C P U X ea fa t n u k ∧ zKe M M' Z)) := by
  refine (c_L_removeRack hV x).post (fun o M' q => ?_)
  obtain ⟨e, h1, h2⟩ := q
  have hx := h ▸ fEx_1
  rw [fNe_x hx] at h1
  rw [h, fGm_1] at e
  exact ⟨e, h1, h2⟩
theorem c_M_moveRack {σ : zSg} {M : zM} {Z : Nat → Prop} {b : Nat → Nat} {C : Nat → Nat → Nat} {P : zS} {U : List zS} {X : Option zS} (hV : zVo M Z b C P U X) (x a p : Int32) (h : 0 ≤ (fMov P x a p).1) : zCon μL_moveRack (7, 1, 6) σ [.ref (b 0), .int x, .int a, .int p] M (zF (some (.int ((fMov P x a p).1))) (fun M' => zVo M' Z b C (fMov P x a p).2 ((P :: U).take 8) X ∧ zKe M M' Z)) := by
  obtain ⟨ea, fa, t, u, k, hV⟩ := hV
  refine (c_L_moveRack hV x a p).post (fun o M' q => ?_)
  obtain ⟨e, h1, h2⟩ := q
  rw [fNe_pos h] at h1
  rw [fGm_pos h] at e
  exact ⟨e, ⟨ea, fa, t, u, k, h1⟩, h2⟩
theorem c_N_moveRack_1 {σ : zSg} {M : zM} {Z : Nat → Prop} {b : Nat → Nat} {C : Nat → Nat → Nat} {P : zS} {U : List zS} {X : Option zS} {ea fa : Int32} {t : Nat → Nat} {n : Nat} {u : Nat → Nat} {k : Nat} (hV : zVw M Z b C P U X ea fa t n u k) (x a p : Int32) (h : (fMov P x a p).1 = -1) : zCon μL_moveRack (7, 1, 6) σ [.ref (b 0), .int x, .int a, .int p] M (zF (some (.int (-1001))) (fun M' => zVw M' Z b C P U X ea fa t n u k ∧ zKe M M' Z)) := by
  refine (c_L_moveRack hV x a p).post (fun o M' q => ?_)
  obtain ⟨e, h1, h2⟩ := q
  have hx := h ▸ fEx_1
  rw [fNe_x hx] at h1
  rw [h, fGm_1] at e
  exact ⟨e, h1, h2⟩
theorem c_N_moveRack_2 {σ : zSg} {M : zM} {Z : Nat → Prop} {b : Nat → Nat} {C : Nat → Nat → Nat} {P : zS} {U : List zS} {X : Option zS} {ea fa : Int32} {t : Nat → Nat} {n : Nat} {u : Nat → Nat} {k : Nat} (hV : zVw M Z b C P U X ea fa t n u k) (x a p : Int32) (h : (fMov P x a p).1 = -2) : zCon μL_moveRack (7, 1, 6) σ [.ref (b 0), .int x, .int a, .int p] M (zF (some (.int (-1002))) (fun M' => zVw M' Z b C P U X ea fa t n u k ∧ zKe M M' Z)) := by
  refine (c_L_moveRack hV x a p).post (fun o M' q => ?_)
  obtain ⟨e, h1, h2⟩ := q
  have hx := h ▸ fEx_2
  rw [fNe_x hx] at h1
  rw [h, fGm_2] at e
  exact ⟨e, h1, h2⟩
theorem c_N_moveRack_4 {σ : zSg} {M : zM} {Z : Nat → Prop} {b : Nat → Nat} {C : Nat → Nat → Nat} {P : zS} {U : List zS} {X : Option zS} {ea fa : Int32} {t : Nat → Nat} {n : Nat} {u : Nat → Nat} {k : Nat} (hV : zVw M Z b C P U X ea fa t n u k) (x a p : Int32) (h : (fMov P x a p).1 = -4) : zCon μL_moveRack (7, 1, 6) σ [.ref (b 0), .int x, .int a, .int p] M (zF (some (.int (-1003))) (fun M' => zVw M' Z b C P U X ea fa t n u k ∧ zKe M M' Z)) := by
  refine (c_L_moveRack hV x a p).post (fun o M' q => ?_)
  obtain ⟨e, h1, h2⟩ := q
  have hx := h ▸ fEx_4
  rw [fNe_x hx] at h1
  rw [h, fGm_4] at e
  exact ⟨e, h1, h2⟩
theorem c_M_setLoad {σ : zSg} {M : zM} {Z : Nat → Prop} {b : Nat → Nat} {C : Nat → Nat → Nat} {P : zS} {U : List zS} {X : Option zS} (hV : zVo M Z b C P U X) (x l : Int32) (h : 0 ≤ (fLod P x l).1) : zCon μL_setLoad (7, 1, 6) σ [.ref (b 0), .int x, .int l] M (zF (some (.int ((fLod P x l).1))) (fun M' => zVo M' Z b C (fLod P x l).2 ((P :: U).take 8) X ∧ zKe M M' Z)) := by
  obtain ⟨ea, fa, t, u, k, hV⟩ := hV
  refine (c_L_setLoad hV x l).post (fun o M' q => ?_)
  obtain ⟨e, h1, h2⟩ := q
  rw [fNe_pos h] at h1
  rw [fGm_pos h] at e
  exact ⟨e, ⟨ea, fa, t, u, k, h1⟩, h2⟩
theorem c_N_setLoad_1 {σ : zSg} {M : zM} {Z : Nat → Prop} {b : Nat → Nat} {C : Nat → Nat → Nat} {P : zS} {U : List zS} {X : Option zS} {ea fa : Int32} {t : Nat → Nat} {n : Nat} {u : Nat → Nat} {k : Nat} (hV : zVw M Z b C P U X ea fa t n u k) (x l : Int32) (h : (fLod P x l).1 = -1) : zCon μL_setLoad (7, 1, 6) σ [.ref (b 0), .int x, .int l] M (zF (some (.int (-1001))) (fun M' => zVw M' Z b C P U X ea fa t n u k ∧ zKe M M' Z)) := by
  refine (c_L_setLoad hV x l).post (fun o M' q => ?_)
  obtain ⟨e, h1, h2⟩ := q
  have hx := h ▸ fEx_1
  rw [fNe_x hx] at h1
  rw [h, fGm_1] at e
  exact ⟨e, h1, h2⟩
theorem c_N_setLoad_2 {σ : zSg} {M : zM} {Z : Nat → Prop} {b : Nat → Nat} {C : Nat → Nat → Nat} {P : zS} {U : List zS} {X : Option zS} {ea fa : Int32} {t : Nat → Nat} {n : Nat} {u : Nat → Nat} {k : Nat} (hV : zVw M Z b C P U X ea fa t n u k) (x l : Int32) (h : (fLod P x l).1 = -2) : zCon μL_setLoad (7, 1, 6) σ [.ref (b 0), .int x, .int l] M (zF (some (.int (-1002))) (fun M' => zVw M' Z b C P U X ea fa t n u k ∧ zKe M M' Z)) := by
  refine (c_L_setLoad hV x l).post (fun o M' q => ?_)
  obtain ⟨e, h1, h2⟩ := q
  have hx := h ▸ fEx_2
  rw [fNe_x hx] at h1
  rw [h, fGm_2] at e
  exact ⟨e, h1, h2⟩
theorem c_M_migrate {σ : zSg} {M : zM} {Z : Nat → Prop} {b : Nat → Nat} {C : Nat → Nat → Nat} {P : zS} {U : List zS} {X : Option zS} (hV : zVo M Z b C P U X) (x y l : Int32) (h : 0 ≤ (fSnd P x y l).1) : zCon μL_migrate (7, 1, 6) σ [.ref (b 0), .int x, .int y, .int l] M (zF (some (.int ((fSnd P x y l).1))) (fun M' => zVo M' Z b C (fSnd P x y l).2 ((P :: U).take 8) X ∧ zKe M M' Z)) := by
  obtain ⟨ea, fa, t, u, k, hV⟩ := hV
  refine (c_L_migrate hV x y l).post (fun o M' q => ?_)
  obtain ⟨e, h1, h2⟩ := q
  rw [fNe_pos h] at h1
  rw [fGm_pos h] at e
  exact ⟨e, ⟨ea, fa, t, u, k, h1⟩, h2⟩
theorem c_N_migrate_1 {σ : zSg} {M : zM} {Z : Nat → Prop} {b : Nat → Nat} {C : Nat → Nat → Nat} {P : zS} {U : List zS} {X : Option zS} {ea fa : Int32} {t : Nat → Nat} {n : Nat} {u : Nat → Nat} {k : Nat} (hV : zVw M Z b C P U X ea fa t n u k) (x y l : Int32) (h : (fSnd P x y l).1 = -1) : zCon μL_migrate (7, 1, 6) σ [.ref (b 0), .int x, .int y, .int l] M (zF (some (.int (-1001))) (fun M' => zVw M' Z b C P U X ea fa t n u k ∧ zKe M M' Z)) := by
  refine (c_L_migrate hV x y l).post (fun o M' q => ?_)
  obtain ⟨e, h1, h2⟩ := q
  have hx := h ▸ fEx_1
  rw [fNe_x hx] at h1
  rw [h, fGm_1] at e
  exact ⟨e, h1, h2⟩
theorem c_N_migrate_2 {σ : zSg} {M : zM} {Z : Nat → Prop} {b : Nat → Nat} {C : Nat → Nat → Nat} {P : zS} {U : List zS} {X : Option zS} {ea fa : Int32} {t : Nat → Nat} {n : Nat} {u : Nat → Nat} {k : Nat} (hV : zVw M Z b C P U X ea fa t n u k) (x y l : Int32) (h : (fSnd P x y l).1 = -2) : zCon μL_migrate (7, 1, 6) σ [.ref (b 0), .int x, .int y, .int l] M (zF (some (.int (-1002))) (fun M' => zVw M' Z b C P U X ea fa t n u k ∧ zKe M M' Z)) := by
  refine (c_L_migrate hV x y l).post (fun o M' q => ?_)
  obtain ⟨e, h1, h2⟩ := q
  have hx := h ▸ fEx_2
  rw [fNe_x hx] at h1
  rw [h, fGm_2] at e
  exact ⟨e, h1, h2⟩
theorem c_N_migrate_4 {σ : zSg} {M : zM} {Z : Nat → Prop} {b : Nat → Nat} {C : Nat → Nat → Nat} {P : zS} {U : List zS} {X : Option zS} {ea fa : Int32} {t : Nat → Nat} {n : Nat} {u : Nat → Nat} {k : Nat} (hV : zVw M Z b C P U X ea fa t n u k) (x y l : Int32) (h : (fSnd P x y l).1 = -4) : zCon μL_migrate (7, 1, 6) σ [.ref (b 0), .int x, .int y, .int l] M (zF (some (.int (-1003))) (fun M' => zVw M' Z b C P U X ea fa t n u k ∧ zKe M M' Z)) := by
  refine (c_L_migrate hV x y l).post (fun o M' q => ?_)
  obtain ⟨e, h1, h2⟩ := q
  have hx := h ▸ fEx_4
  rw [fNe_x hx] at h1
  rw [h, fGm_4] at e
  exact ⟨e, h1, h2⟩
theorem c_M_setFan {σ : zSg} {M : zM} {Z : Nat → Prop} {b : Nat → Nat} {C : Nat → Nat → Nat} {P : zS} {U : List zS} {X : Option zS} (hV : zVo M Z b C P U X) (a v : Int32) (h : 0 ≤ (fFan P a v).1) : zCon μL_setFan (7, 1, 6) σ [.ref (b 0), .int a, .int v] M (zF (some (.int ((fFan P a v).1))) (fun M' => zVo M' Z b C (fFan P a v).2 ((P :: U).take 8) X ∧ zKe M M' Z)) := by
  obtain ⟨ea, fa, t, u, k, hV⟩ := hV
  refine (c_L_setFan hV a v).post (fun o M' q => ?_)
  obtain ⟨e, h1, h2⟩ := q
  rw [fNe_pos h] at h1
  rw [fGm_pos h] at e
  exact ⟨e, ⟨ea, fa, t, u, k, h1⟩, h2⟩
theorem c_N_setFan_1 {σ : zSg} {M : zM} {Z : Nat → Prop} {b : Nat → Nat} {C : Nat → Nat → Nat} {P : zS} {U : List zS} {X : Option zS} {ea fa : Int32} {t : Nat → Nat} {n : Nat} {u : Nat → Nat} {k : Nat} (hV : zVw M Z b C P U X ea fa t n u k) (a v : Int32) (h : (fFan P a v).1 = -1) : zCon μL_setFan (7, 1, 6) σ [.ref (b 0), .int a, .int v] M (zF (some (.int (-1001))) (fun M' => zVw M' Z b C P U X ea fa t n u k ∧ zKe M M' Z)) := by
  refine (c_L_setFan hV a v).post (fun o M' q => ?_)
  obtain ⟨e, h1, h2⟩ := q
  have hx := h ▸ fEx_1
  rw [fNe_x hx] at h1
  rw [h, fGm_1] at e
  exact ⟨e, h1, h2⟩
theorem c_N_setFan_2 {σ : zSg} {M : zM} {Z : Nat → Prop} {b : Nat → Nat} {C : Nat → Nat → Nat} {P : zS} {U : List zS} {X : Option zS} {ea fa : Int32} {t : Nat → Nat} {n : Nat} {u : Nat → Nat} {k : Nat} (hV : zVw M Z b C P U X ea fa t n u k) (a v : Int32) (h : (fFan P a v).1 = -2) : zCon μL_setFan (7, 1, 6) σ [.ref (b 0), .int a, .int v] M (zF (some (.int (-1002))) (fun M' => zVw M' Z b C P U X ea fa t n u k ∧ zKe M M' Z)) := by
  refine (c_L_setFan hV a v).post (fun o M' q => ?_)
  obtain ⟨e, h1, h2⟩ := q
  have hx := h ▸ fEx_2
  rw [fNe_x hx] at h1
  rw [h, fGm_2] at e
  exact ⟨e, h1, h2⟩
theorem c_M_setCurve {σ : zSg} {M : zM} {Z : Nat → Prop} {b : Nat → Nat} {C : Nat → Nat → Nat} {P : zS} {U : List zS} {X : Option zS} (hV : zVo M Z b C P U X) (p v : Int32) (h : 0 ≤ (fCrv P p v).1) : zCon μL_setCurve (7, 1, 6) σ [.ref (b 0), .int p, .int v] M (zF (some (.int ((fCrv P p v).1))) (fun M' => zVo M' Z b C (fCrv P p v).2 ((P :: U).take 8) X ∧ zKe M M' Z)) := by
  obtain ⟨ea, fa, t, u, k, hV⟩ := hV
  refine (c_L_setCurve hV p v).post (fun o M' q => ?_)
  obtain ⟨e, h1, h2⟩ := q
  rw [fNe_pos h] at h1
  rw [fGm_pos h] at e
  exact ⟨e, ⟨ea, fa, t, u, k, h1⟩, h2⟩
theorem c_N_setCurve_1 {σ : zSg} {M : zM} {Z : Nat → Prop} {b : Nat → Nat} {C : Nat → Nat → Nat} {P : zS} {U : List zS} {X : Option zS} {ea fa : Int32} {t : Nat → Nat} {n : Nat} {u : Nat → Nat} {k : Nat} (hV : zVw M Z b C P U X ea fa t n u k) (p v : Int32) (h : (fCrv P p v).1 = -1) : zCon μL_setCurve (7, 1, 6) σ [.ref (b 0), .int p, .int v] M (zF (some (.int (-1001))) (fun M' => zVw M' Z b C P U X ea fa t n u k ∧ zKe M M' Z)) := by
  refine (c_L_setCurve hV p v).post (fun o M' q => ?_)
  obtain ⟨e, h1, h2⟩ := q
  have hx := h ▸ fEx_1
  rw [fNe_x hx] at h1
  rw [h, fGm_1] at e
  exact ⟨e, h1, h2⟩
theorem c_N_setCurve_2 {σ : zSg} {M : zM} {Z : Nat → Prop} {b : Nat → Nat} {C : Nat → Nat → Nat} {P : zS} {U : List zS} {X : Option zS} {ea fa : Int32} {t : Nat → Nat} {n : Nat} {u : Nat → Nat} {k : Nat} (hV : zVw M Z b C P U X ea fa t n u k) (p v : Int32) (h : (fCrv P p v).1 = -2) : zCon μL_setCurve (7, 1, 6) σ [.ref (b 0), .int p, .int v] M (zF (some (.int (-1002))) (fun M' => zVw M' Z b C P U X ea fa t n u k ∧ zKe M M' Z)) := by
  refine (c_L_setCurve hV p v).post (fun o M' q => ?_)
  obtain ⟨e, h1, h2⟩ := q
  have hx := h ▸ fEx_2
  rw [fNe_x hx] at h1
  rw [h, fGm_2] at e
  exact ⟨e, h1, h2⟩
theorem c_N_setCurve_4 {σ : zSg} {M : zM} {Z : Nat → Prop} {b : Nat → Nat} {C : Nat → Nat → Nat} {P : zS} {U : List zS} {X : Option zS} {ea fa : Int32} {t : Nat → Nat} {n : Nat} {u : Nat → Nat} {k : Nat} (hV : zVw M Z b C P U X ea fa t n u k) (p v : Int32) (h : (fCrv P p v).1 = -4) : zCon μL_setCurve (7, 1, 6) σ [.ref (b 0), .int p, .int v] M (zF (some (.int (-1003))) (fun M' => zVw M' Z b C P U X ea fa t n u k ∧ zKe M M' Z)) := by
  refine (c_L_setCurve hV p v).post (fun o M' q => ?_)
  obtain ⟨e, h1, h2⟩ := q
  have hx := h ▸ fEx_4
  rw [fNe_x hx] at h1
  rw [h, fGm_4] at e
  exact ⟨e, h1, h2⟩
theorem c_M_setLimit {σ : zSg} {M : zM} {Z : Nat → Prop} {b : Nat → Nat} {C : Nat → Nat → Nat} {P : zS} {U : List zS} {X : Option zS} (hV : zVo M Z b C P U X) (v : Int32) (h : 0 ≤ (fLim P v).1) : zCon μL_setLimit (7, 1, 6) σ [.ref (b 0), .int v] M (zF (some (.int ((fLim P v).1))) (fun M' => zVo M' Z b C (fLim P v).2 ((P :: U).take 8) X ∧ zKe M M' Z)) := by
  obtain ⟨ea, fa, t, u, k, hV⟩ := hV
  refine (c_L_setLimit hV v).post (fun o M' q => ?_)
  obtain ⟨e, h1, h2⟩ := q
  rw [fNe_pos h] at h1
  rw [fGm_pos h] at e
  exact ⟨e, ⟨ea, fa, t, u, k, h1⟩, h2⟩
theorem c_N_setLimit_2 {σ : zSg} {M : zM} {Z : Nat → Prop} {b : Nat → Nat} {C : Nat → Nat → Nat} {P : zS} {U : List zS} {X : Option zS} {ea fa : Int32} {t : Nat → Nat} {n : Nat} {u : Nat → Nat} {k : Nat} (hV : zVw M Z b C P U X ea fa t n u k) (v : Int32) (h : (fLim P v).1 = -2) : zCon μL_setLimit (7, 1, 6) σ [.ref (b 0), .int v] M (zF (some (.int (-1001))) (fun M' => zVw M' Z b C P U X ea fa t n u k ∧ zKe M M' Z)) := by
  refine (c_L_setLimit hV v).post (fun o M' q => ?_)
  obtain ⟨e, h1, h2⟩ := q
  have hx := h ▸ fEx_2
  rw [fNe_x hx] at h1
  rw [h, fGm_2] at e
  exact ⟨e, h1, h2⟩
theorem c_M_advance {σ : zSg} {M : zM} {Z : Nat → Prop} {b : Nat → Nat} {C : Nat → Nat → Nat} {P : zS} {U : List zS} {X : Option zS} (hV : zVo M Z b C P U X) (m : Int32) (h : 0 ≤ (fPas P m).1) : zCon μL_advance (8, 1, 6) σ [.ref (b 0), .int m] M (zF (some (.int (nI (fHts (fPas P m).2)))) (fun M' => zVo M' Z b C (fPas P m).2 ((P :: U).take 8) X ∧ zKe M M' Z)) := by
  obtain ⟨ea, fa, t, u, k, hV⟩ := hV
  refine (c_L_advance hV m).post (fun o M' q => ?_)
  obtain ⟨e, h1, h2⟩ := q
  rw [fNe_pos h] at h1
  rw [if_pos h] at e
  exact ⟨e, ⟨ea, fa, t, u, k, h1⟩, h2⟩
theorem c_N_advance_2 {σ : zSg} {M : zM} {Z : Nat → Prop} {b : Nat → Nat} {C : Nat → Nat → Nat} {P : zS} {U : List zS} {X : Option zS} {ea fa : Int32} {t : Nat → Nat} {n : Nat} {u : Nat → Nat} {k : Nat} (hV : zVw M Z b C P U X ea fa t n u k) (m : Int32) (h : (fPas P m).1 = -2) : zCon μL_advance (8, 1, 6) σ [.ref (b 0), .int m] M (zF (some (.int (-1001))) (fun M' => zVw M' Z b C P U X ea fa t n u k ∧ zKe M M' Z)) := by
  refine (c_L_advance hV m).post (fun o M' q => ?_)
  obtain ⟨e, h1, h2⟩ := q
  have hx := h ▸ fEx_2
  rw [fNe_x hx] at h1
  rw [if_neg (by rw [h]; decide)] at e
  exact ⟨e, h1, h2⟩
theorem c_O_asks {σ : zSg} {M : zM} {Z : Nat → Prop} {b : Nat → Nat} {C : Nat → Nat → Nat} {P : zS} {U : List zS} {X : Option zS} (hV : zVo M Z b C P U X) : zCon μL_asks (9, 1349, 29982) σ [.ref (b 0)] M (zF (some (.long (fAsk P))) (fun M' => zVo M' Z b C P U X ∧ zKe M M' Z)) := by
  obtain ⟨ea, fa, t, u, k, hV⟩ := hV
  refine (c_V_asks hV).post (fun o M' q => ?_)
  obtain ⟨e, ⟨u', k', h1, -⟩, h2⟩ := q
  exact ⟨e, ⟨ea, fa, t, u', k', h1⟩, h2⟩
theorem c_O_undo_0 {σ : zSg} {M : zM} {Z : Nat → Prop} {b : Nat → Nat} {C : Nat → Nat → Nat} {P : zS} {U : List zS} {X : Option zS} (hV : zVo M Z b C P U X) (h0 : U = []) : zCon μL_undo (4, 1, 6) σ [.ref (b 0)] M (zP (some (.int (-1001))) M) := by
  obtain ⟨ea, fa, t, u, k, S, nw, un, hs, hP, ho, rfl, h1, rfl⟩ := hV
  have hu : un = 0 := by
    have h2 := congrArg List.length h1
    rw [fUl_len, h0] at h2
    exact h2
  exact w_undo_x0 (P := fun M' => M' = M) hP.2.2.1 ((c_X8_undo_0 hP hu).post (fun _ _ h => h)) (by decide) (by decide) (by decide)
theorem c_O_undo_1 {σ : zSg} {M : zM} {Z : Nat → Prop} {b : Nat → Nat} {C : Nat → Nat → Nat} {P : zS} {U : List zS} {X : Option zS} (hV : zVo M Z b C P U X) {T : zS} {W : List zS} (h0 : U = T :: W) : zCon μL_undo (4, 1, 6) σ [.ref (b 0)] M (zF (some (.int (nI W.length))) (fun M' => zVo M' Z b C T W X ∧ zKe M M' Z)) := by
  obtain ⟨ea, fa, t, u, k, S, nw, un, hs, hP, ho, rfl, h1, rfl⟩ := hV
  have hl : un = W.length + 1 := by
    have h2 := congrArg List.length h1
    rw [fUl_len, h0] at h2
    exact h2
  have h3 := hP.2.1.1
  have h4 := hP.2.1.2.1
  rw [fUl_back h3 (by omega) h4, h0] at h1
  obtain ⟨h5, h6⟩ := List.cons.inj h1
  refine w_undo_r hP.2.2.1 ((c_X8_undo_1 hP (by omega)).post (fun o M' q => ?_)) (by decide) (by decide) (by decide)
  obtain ⟨e, h7, h8⟩ := q
  rw [show un - 1 = W.length by omega] at e
  exact ⟨e, ⟨ea, fa, t, u, k, S, pv nw, un - 1, hs, h7, ho, h5, h6, rfl⟩, h8⟩
theorem c_O_save {σ : zSg} {M : zM} {Z : Nat → Prop} {b : Nat → Nat} {C : Nat → Nat → Nat} {P : zS} {U : List zS} {X : Option zS} (hV : zVo M Z b C P U X) : zCon μX8_save (6, 0, 0) σ [.ref (b 0)] M (zF (some (.int (P 0))) (fun M' => zVo M' Z b C P U (some P) ∧ zKe M M' Z)) := by
  have hl := hV.ol
  obtain ⟨ea, fa, t, u, k, S, nw, un, hs, hP, ho, rfl, rfl, rfl⟩ := hV
  have h3 := hP.2.1.1
  refine (c_X8_save hP).post (fun o M' q => ?_)
  obtain ⟨e, h7, h8⟩ := q
  refine ⟨e, ⟨ea, fa, t, u, k, _, nw, un, 1, h7, fOl_up ho hl, va_up_ne _ _ (by omega), fUl_10 _, ?_⟩, h8⟩
  rw [if_neg (by decide), va_up_self]
theorem c_O_restore_0 {σ : zSg} {M : zM} {Z : Nat → Prop} {b : Nat → Nat} {C : Nat → Nat → Nat} {P : zS} {U : List zS} {X : Option zS} (hV : zVo M Z b C P U X) (h0 : X = none) : zCon μL_restore (7, 1, 6) σ [.ref (b 0)] M (zP (some (.int (-1001))) M) := by
  obtain ⟨ea, fa, t, u, k, S, nw, un, hs, hP, ho, rfl, h1, h2⟩ := hV
  have hh : hs = 0 := by
    by_cases q : hs = 0
    · exact q
    · rw [if_neg q, h0] at h2; cases h2
  exact w_restore_x0 (P := fun M' => M' = M) hP.2.2.1 ((c_X8_restore_0 hP hh).post (fun _ _ h => h)) (by decide) (by decide) (by decide)
theorem c_O_restore_1 {σ : zSg} {M : zM} {Z : Nat → Prop} {b : Nat → Nat} {C : Nat → Nat → Nat} {P : zS} {U : List zS} {X : Option zS} (hV : zVo M Z b C P U X) {T : zS} (h0 : X = some T) : zCon μL_restore (7, 1, 6) σ [.ref (b 0)] M (zF (some (.int (T 0))) (fun M' => zVo M' Z b C T [] (some T) ∧ zKe M M' Z)) := by
  obtain ⟨ea, fa, t, u, k, S, nw, un, hs, hP, ho, rfl, h1, h2⟩ := hV
  have hh : ¬ hs = 0 := fun q => by rw [if_pos q, h0] at h2; cases h2
  rw [if_neg hh, h0] at h2
  have h9 := Option.some.inj h2
  have h3 := hP.2.1.1
  refine w_restore_r hP.2.2.1 ((c_X8_restore_1 hP hh).post (fun o M' q => ?_)) (by decide) (by decide) (by decide)
  obtain ⟨e, h7, h8⟩ := q
  rw [h9] at e h7
  have hT : fOl T := h9 ▸ ho 10 (by decide)
  refine ⟨e, ⟨ea, fa, t, u, k, _, nw, 0, hs, h7, fOl_up ho hT, va_up_self _ _ _, rfl, ?_⟩, h8⟩
  rw [if_neg hh, va_up_ne _ _ (by omega), h9]
theorem c_O_init {σ : zSg} {M : zM} {Z : Nat → Prop} {h : Nat} (hh : M h = some (.inr (10, [.null, .null, .int 0, .null, .int 0, .int 0, .null]))) (hZ : ∀ a, Z a → M a ≠ none ∧ a ≠ h) : zCon μX8_init (5, 228, 986) σ [.ref h] M (zF none (fun M' => ∃ (b : Nat → Nat) (C : Nat → Nat → Nat), b 0 = h ∧ zVo M' Z b C zS0 [] none ∧ zKe M M' Z)) := by
  refine (c_X8_init hh hZ).post (fun o M' q => ?_)
  obtain ⟨e, b, C, h1, h2, h3⟩ := q
  exact ⟨e, b, C, h1, ⟨_, _, _, _, _, _, _, _, _, h2, (fun _ _ => (by decide +kernel : fBt (zS0 48) 20 60 = true)), rfl, rfl, rfl⟩, h3⟩


/-! The law's changes, made or refused: laid by wip/p53/m53.py. -/
theorem zPl.grow {M M' : zM} {Z Z' : Nat → Prop} {b : Nat → Nat} {C : Nat → Nat → Nat} {S : Nat → zS} {nw un : Nat} {hs ea fa : Int32} {t : Nat → Nat} {n : Nat} {u : Nat → Nat} {k : Nat} (h : zPl M Z b C S nw un hs ea fa t n u k) (hle : ∀ x e, M x = some e → M' x = some e) (hz : ∀ a, Z' a → Z a ∨ (M a = none ∧ M' a ≠ none)) : zPl M' Z' b C S nw un hs ea fa t n u k := by
  obtain ⟨g1, g2, g3, ⟨ps, re, nc, cm, g4⟩, ⟨f, g5⟩, g6, g7, v, N, v', N', g8, g9, g10, g11, g12, g13⟩ := h
  obtain ⟨-, -, k1, f2, k2, -⟩ := id g2
  obtain ⟨ml, a, s1, s2, s3⟩ := id g8
  obtain ⟨ml', a', s1', s2', s3'⟩ := id g10
  have hu : ∀ x e9, M x = some e9 → M' x = M x := fun x e9 hx => (hle x e9 hx).trans hx.symm
  have hne : ∀ x e9 y, M x = some e9 → M y = none → y ≠ x := fun x e9 y hx hy e => by rw [e, hx] at hy; cases hy
  refine ⟨g1.frame (fun i j hi hj => ?_), g2.keep (hu _ _ k1) (hu _ _ k2), hle _ _ g3, ⟨ps, re, nc, cm, hle _ _ g4⟩, ⟨f, hle _ _ g5⟩, g6, g7, v, N, v', N', g8.keep (hu _ _ s1) (hu _ _ s2), g9, g10.keep (hu _ _ s1') (hu _ _ s2'), g11, g12, fun x hx => ?_⟩
  · obtain ⟨e9, e1, -⟩ := (g1.cen hi).tag hj
    exact hu _ _ e1
  · rcases hz x hx with hx | ⟨hx, hx2⟩
    · obtain ⟨z1, z2⟩ := g13 x hx
      refine ⟨fun e => ?_, z2⟩
      cases hM : M x with
      | none => exact z1 hM
      | some e9 => rw [hle x e9 hM] at e; cases e
    · refine ⟨hx2, fun i hi => ?_, fun i j hi hj => ?_, hne _ _ _ s2 hx, hne _ _ _ s2' hx⟩
      · rcases (show i = 0 ∨ i = 1 ∨ i = 2 ∨ i = 3 ∨ i = 4 ∨ i = 5 ∨ i = 6 by omega) with rfl | rfl | rfl | rfl | rfl | rfl | rfl
        · exact hne _ _ _ g3 hx
        · exact hne _ _ _ k1 hx
        · exact hne _ _ _ k2 hx
        · exact hne _ _ _ g4 hx
        · exact hne _ _ _ s1 hx
        · exact hne _ _ _ g5 hx
        · exact hne _ _ _ s1' hx
      · obtain ⟨e9, e1, -⟩ := (g1.cen hi).tag hj
        exact hne _ _ _ e1 hx
/-- what the law sees between its steps: no character typed -/
def zVo (M : zM) (Z : Nat → Prop) (b : Nat → Nat) (C : Nat → Nat → Nat) (P : zS) (U : List zS) (X : Option zS) : Prop := ∃ ea fa t u k, zVw M Z b C P U X ea fa t 0 u k
theorem zVo.grow {M M' : zM} {Z Z' : Nat → Prop} {b : Nat → Nat} {C : Nat → Nat → Nat} {P : zS} {U : List zS} {X : Option zS} (h : zVo M Z b C P U X) (hle : ∀ x e, M x = some e → M' x = some e) (hz : ∀ a, Z' a → Z a ∨ (M a = none ∧ M' a ≠ none)) : zVo M' Z' b C P U X := by
  obtain ⟨ea, fa, t, u, k, S, nw, un, hs, hP, ho, h1, h2, h3⟩ := h
  exact ⟨ea, fa, t, u, k, S, nw, un, hs, hP.grow hle hz, ho, h1, h2, h3⟩
theorem zVo.ok {M : zM} {Z : Nat → Prop} {b : Nat → Nat} {C : Nat → Nat → Nat} {P : zS} {U : List zS} {X : Option zS} (h : zVo M Z b C P U X) : zOk P := by
  obtain ⟨ea, fa, t, u, k, h⟩ := h
  exact h.ok
theorem zVo.ol {M : zM} {Z : Nat → Prop} {b : Nat → Nat} {C : Nat → Nat → Nat} {P : zS} {U : List zS} {X : Option zS} (h : zVo M Z b C P U X) : fOl P := by
  obtain ⟨ea, fa, t, u, k, h⟩ := h
  exact h.ol
theorem zVo.o {M : zM} {Z : Nat → Prop} {b : Nat → Nat} {C : Nat → Nat → Nat} {P : zS} {U : List zS} {X : Option zS} (h : zVo M Z b C P U X) : ∃ fs, M (b 0) = some (.inr (10, fs)) := by
  obtain ⟨ea, fa, t, u, k, h⟩ := h
  exact h.o
theorem zVo.less {M : zM} {Z Z' : Nat → Prop} {b : Nat → Nat} {C : Nat → Nat → Nat} {P : zS} {U : List zS} {X : Option zS} (h : zVo M Z b C P U X) (hz : ∀ a, Z' a → Z a) : zVo M Z' b C P U X := h.grow (fun _ _ h => h) (fun a ha => Or.inl (hz a ha))
/-- made: the answer isn't negative, and the state before can come back; refused: all is as it was -/
def zCw (M : zM) (Z : Nat → Prop) (b : Nat → Nat) (C : Nat → Nat → Nat) (P : zS) (U : List zS) (X : Option zS) : Int32 → zM → Prop := fun w M' => ((0 ≤ w ∧ ∃ T, zVo M' Z b C T ((P :: U).take 8) X) ∨ (w < 0 ∧ zVo M' Z b C P U X)) ∧ zKe M M' Z

theorem c_C_addRack {σ : zSg} {M : zM} {Z : Nat → Prop} {b : Nat → Nat} {C : Nat → Nat → Nat} {P : zS} {U : List zS} {X : Option zS} (hV : zVo M Z b C P U X) (a p l : Int32) : zCon μL_addRack (7, 1, 6) σ [.ref (b 0), .int a, .int p, .int l] M (zI9 (zCw M Z b C P U X)) := by
  obtain ⟨ea, fa, t, u, k, hV⟩ := hV
  have hO := hV.ok
  have hl := hV.ol
  refine (c_L_addRack hV a p l).post (fun o M' h => ?_)
  obtain ⟨e, h1, h2⟩ := h
  have hi : fIn [-1, -2, -3, -4] (fAdd P a p l).1 := fAdd_in hO _ _ _
  refine ⟨_, e, ?_, h2⟩
  rcases hi with hi | hi
  · simp only [List.mem_cons, List.not_mem_nil, or_false] at hi
    refine Or.inr ⟨?_, ea, fa, t, u, k, ?_⟩
    · rcases hi with hi | hi | hi | hi
      · rw [hi, fGm_1]; decide
      · rw [hi, fGm_2]; decide
      · rw [hi, fGm_3]; decide
      · rw [hi, fGm_4]; decide
    · have hx : ∃ E, fEx (fAdd P a p l).1 = some E := by
        rcases hi with hi | hi | hi | hi
        · exact ⟨_, by rw [hi]; exact fEx_1⟩
        · exact ⟨_, by rw [hi]; exact fEx_2⟩
        · exact ⟨_, by rw [hi]; exact fEx_3⟩
        · exact ⟨_, by rw [hi]; exact fEx_4⟩
      obtain ⟨E, hx⟩ := hx
      rw [fNe_x hx] at h1
      exact h1
  · refine Or.inl ⟨?_, (fAdd P a p l).2, ea, fa, t, u, k, ?_⟩
    · rw [fGm_pos hi]; exact hi
    · rw [fNe_pos hi] at h1
      exact h1
theorem c_C_removeRack {σ : zSg} {M : zM} {Z : Nat → Prop} {b : Nat → Nat} {C : Nat → Nat → Nat} {P : zS} {U : List zS} {X : Option zS} (hV : zVo M Z b C P U X) (x : Int32) : zCon μL_removeRack (7, 1, 6) σ [.ref (b 0), .int x] M (zI9 (zCw M Z b C P U X)) := by
  obtain ⟨ea, fa, t, u, k, hV⟩ := hV
  have hO := hV.ok
  have hl := hV.ol
  refine (c_L_removeRack hV x).post (fun o M' h => ?_)
  obtain ⟨e, h1, h2⟩ := h
  have hi : fIn [-1] (fRem P x).1 := fRem_in hO _
  refine ⟨_, e, ?_, h2⟩
  rcases hi with hi | hi
  · simp only [List.mem_cons, List.not_mem_nil, or_false] at hi
    refine Or.inr ⟨?_, ea, fa, t, u, k, ?_⟩
    · rcases hi with hi
      · rw [hi, fGm_1]; decide
    · have hx : ∃ E, fEx (fRem P x).1 = some E := by
        rcases hi with hi
        · exact ⟨_, by rw [hi]; exact fEx_1⟩
      obtain ⟨E, hx⟩ := hx
      rw [fNe_x hx] at h1
      exact h1
  · refine Or.inl ⟨?_, (fRem P x).2, ea, fa, t, u, k, ?_⟩
    · rw [fGm_pos hi]; exact hi
    · rw [fNe_pos hi] at h1
      exact h1
theorem c_C_moveRack {σ : zSg} {M : zM} {Z : Nat → Prop} {b : Nat → Nat} {C : Nat → Nat → Nat} {P : zS} {U : List zS} {X : Option zS} (hV : zVo M Z b C P U X) (x a p : Int32) : zCon μL_moveRack (7, 1, 6) σ [.ref (b 0), .int x, .int a, .int p] M (zI9 (zCw M Z b C P U X)) := by
  obtain ⟨ea, fa, t, u, k, hV⟩ := hV
  have hO := hV.ok
  have hl := hV.ol
  refine (c_L_moveRack hV x a p).post (fun o M' h => ?_)
  obtain ⟨e, h1, h2⟩ := h
  have hi : fIn [-1, -2, -4] (fMov P x a p).1 := fMov_in hO _ _ _
  refine ⟨_, e, ?_, h2⟩
  rcases hi with hi | hi
  · simp only [List.mem_cons, List.not_mem_nil, or_false] at hi
    refine Or.inr ⟨?_, ea, fa, t, u, k, ?_⟩
    · rcases hi with hi | hi | hi
      · rw [hi, fGm_1]; decide
      · rw [hi, fGm_2]; decide
      · rw [hi, fGm_4]; decide
    · have hx : ∃ E, fEx (fMov P x a p).1 = some E := by
        rcases hi with hi | hi | hi
        · exact ⟨_, by rw [hi]; exact fEx_1⟩
        · exact ⟨_, by rw [hi]; exact fEx_2⟩
        · exact ⟨_, by rw [hi]; exact fEx_4⟩
      obtain ⟨E, hx⟩ := hx
      rw [fNe_x hx] at h1
      exact h1
  · refine Or.inl ⟨?_, (fMov P x a p).2, ea, fa, t, u, k, ?_⟩
    · rw [fGm_pos hi]; exact hi
    · rw [fNe_pos hi] at h1
      exact h1
theorem c_C_setLoad {σ : zSg} {M : zM} {Z : Nat → Prop} {b : Nat → Nat} {C : Nat → Nat → Nat} {P : zS} {U : List zS} {X : Option zS} (hV : zVo M Z b C P U X) (x l : Int32) : zCon μL_setLoad (7, 1, 6) σ [.ref (b 0), .int x, .int l] M (zI9 (zCw M Z b C P U X)) := by
  obtain ⟨ea, fa, t, u, k, hV⟩ := hV
  have hO := hV.ok
  have hl := hV.ol
  refine (c_L_setLoad hV x l).post (fun o M' h => ?_)
  obtain ⟨e, h1, h2⟩ := h
  have hi : fIn [-1, -2] (fLod P x l).1 := fLod_in hO _ _
  refine ⟨_, e, ?_, h2⟩
  rcases hi with hi | hi
  · simp only [List.mem_cons, List.not_mem_nil, or_false] at hi
    refine Or.inr ⟨?_, ea, fa, t, u, k, ?_⟩
    · rcases hi with hi | hi
      · rw [hi, fGm_1]; decide
      · rw [hi, fGm_2]; decide
    · have hx : ∃ E, fEx (fLod P x l).1 = some E := by
        rcases hi with hi | hi
        · exact ⟨_, by rw [hi]; exact fEx_1⟩
        · exact ⟨_, by rw [hi]; exact fEx_2⟩
      obtain ⟨E, hx⟩ := hx
      rw [fNe_x hx] at h1
      exact h1
  · refine Or.inl ⟨?_, (fLod P x l).2, ea, fa, t, u, k, ?_⟩
    · rw [fGm_pos hi]; exact hi
    · rw [fNe_pos hi] at h1
      exact h1
theorem c_C_migrate {σ : zSg} {M : zM} {Z : Nat → Prop} {b : Nat → Nat} {C : Nat → Nat → Nat} {P : zS} {U : List zS} {X : Option zS} (hV : zVo M Z b C P U X) (x y l : Int32) : zCon μL_migrate (7, 1, 6) σ [.ref (b 0), .int x, .int y, .int l] M (zI9 (zCw M Z b C P U X)) := by
  obtain ⟨ea, fa, t, u, k, hV⟩ := hV
  have hO := hV.ok
  have hl := hV.ol
  refine (c_L_migrate hV x y l).post (fun o M' h => ?_)
  obtain ⟨e, h1, h2⟩ := h
  have hi : fIn [-1, -2, -4] (fSnd P x y l).1 := fSnd_in hO _ _ _
  refine ⟨_, e, ?_, h2⟩
  rcases hi with hi | hi
  · simp only [List.mem_cons, List.not_mem_nil, or_false] at hi
    refine Or.inr ⟨?_, ea, fa, t, u, k, ?_⟩
    · rcases hi with hi | hi | hi
      · rw [hi, fGm_1]; decide
      · rw [hi, fGm_2]; decide
      · rw [hi, fGm_4]; decide
    · have hx : ∃ E, fEx (fSnd P x y l).1 = some E := by
        rcases hi with hi | hi | hi
        · exact ⟨_, by rw [hi]; exact fEx_1⟩
        · exact ⟨_, by rw [hi]; exact fEx_2⟩
        · exact ⟨_, by rw [hi]; exact fEx_4⟩
      obtain ⟨E, hx⟩ := hx
      rw [fNe_x hx] at h1
      exact h1
  · refine Or.inl ⟨?_, (fSnd P x y l).2, ea, fa, t, u, k, ?_⟩
    · rw [fGm_pos hi]; exact hi
    · rw [fNe_pos hi] at h1
      exact h1
theorem c_C_setFan {σ : zSg} {M : zM} {Z : Nat → Prop} {b : Nat → Nat} {C : Nat → Nat → Nat} {P : zS} {U : List zS} {X : Option zS} (hV : zVo M Z b C P U X) (a v : Int32) : zCon μL_setFan (7, 1, 6) σ [.ref (b 0), .int a, .int v] M (zI9 (zCw M Z b C P U X)) := by
  obtain ⟨ea, fa, t, u, k, hV⟩ := hV
  have hO := hV.ok
  have hl := hV.ol
  refine (c_L_setFan hV a v).post (fun o M' h => ?_)
  obtain ⟨e, h1, h2⟩ := h
  have hi : fIn [-1, -2] (fFan P a v).1 := fFan_in hO _ _
  refine ⟨_, e, ?_, h2⟩
  rcases hi with hi | hi
  · simp only [List.mem_cons, List.not_mem_nil, or_false] at hi
    refine Or.inr ⟨?_, ea, fa, t, u, k, ?_⟩
    · rcases hi with hi | hi
      · rw [hi, fGm_1]; decide
      · rw [hi, fGm_2]; decide
    · have hx : ∃ E, fEx (fFan P a v).1 = some E := by
        rcases hi with hi | hi
        · exact ⟨_, by rw [hi]; exact fEx_1⟩
        · exact ⟨_, by rw [hi]; exact fEx_2⟩
      obtain ⟨E, hx⟩ := hx
      rw [fNe_x hx] at h1
      exact h1
  · refine Or.inl ⟨?_, (fFan P a v).2, ea, fa, t, u, k, ?_⟩
    · rw [fGm_pos hi]; exact hi
    · rw [fNe_pos hi] at h1
      exact h1
theorem c_C_setCurve {σ : zSg} {M : zM} {Z : Nat → Prop} {b : Nat → Nat} {C : Nat → Nat → Nat} {P : zS} {U : List zS} {X : Option zS} (hV : zVo M Z b C P U X) (p v : Int32) : zCon μL_setCurve (7, 1, 6) σ [.ref (b 0), .int p, .int v] M (zI9 (zCw M Z b C P U X)) := by
  obtain ⟨ea, fa, t, u, k, hV⟩ := hV
  have hO := hV.ok
  have hl := hV.ol
  refine (c_L_setCurve hV p v).post (fun o M' h => ?_)
  obtain ⟨e, h1, h2⟩ := h
  have hi : fIn [-1, -2, -4] (fCrv P p v).1 := fCrv_in hO _ _
  refine ⟨_, e, ?_, h2⟩
  rcases hi with hi | hi
  · simp only [List.mem_cons, List.not_mem_nil, or_false] at hi
    refine Or.inr ⟨?_, ea, fa, t, u, k, ?_⟩
    · rcases hi with hi | hi | hi
      · rw [hi, fGm_1]; decide
      · rw [hi, fGm_2]; decide
      · rw [hi, fGm_4]; decide
    · have hx : ∃ E, fEx (fCrv P p v).1 = some E := by
        rcases hi with hi | hi | hi
        · exact ⟨_, by rw [hi]; exact fEx_1⟩
        · exact ⟨_, by rw [hi]; exact fEx_2⟩
        · exact ⟨_, by rw [hi]; exact fEx_4⟩
      obtain ⟨E, hx⟩ := hx
      rw [fNe_x hx] at h1
      exact h1
  · refine Or.inl ⟨?_, (fCrv P p v).2, ea, fa, t, u, k, ?_⟩
    · rw [fGm_pos hi]; exact hi
    · rw [fNe_pos hi] at h1
      exact h1
theorem c_C_setLimit {σ : zSg} {M : zM} {Z : Nat → Prop} {b : Nat → Nat} {C : Nat → Nat → Nat} {P : zS} {U : List zS} {X : Option zS} (hV : zVo M Z b C P U X) (v : Int32) : zCon μL_setLimit (7, 1, 6) σ [.ref (b 0), .int v] M (zI9 (zCw M Z b C P U X)) := by
  obtain ⟨ea, fa, t, u, k, hV⟩ := hV
  have hO := hV.ok
  have hl := hV.ol
  refine (c_L_setLimit hV v).post (fun o M' h => ?_)
  obtain ⟨e, h1, h2⟩ := h
  have hi : fIn [-2] (fLim P v).1 := fLim_in hl _
  refine ⟨_, e, ?_, h2⟩
  rcases hi with hi | hi
  · simp only [List.mem_cons, List.not_mem_nil, or_false] at hi
    refine Or.inr ⟨?_, ea, fa, t, u, k, ?_⟩
    · rcases hi with hi
      · rw [hi, fGm_2]; decide
    · have hx : ∃ E, fEx (fLim P v).1 = some E := by
        rcases hi with hi
        · exact ⟨_, by rw [hi]; exact fEx_2⟩
      obtain ⟨E, hx⟩ := hx
      rw [fNe_x hx] at h1
      exact h1
  · refine Or.inl ⟨?_, (fLim P v).2, ea, fa, t, u, k, ?_⟩
    · rw [fGm_pos hi]; exact hi
    · rw [fNe_pos hi] at h1
      exact h1
theorem c_C_advance {σ : zSg} {M : zM} {Z : Nat → Prop} {b : Nat → Nat} {C : Nat → Nat → Nat} {P : zS} {U : List zS} {X : Option zS} (hV : zVo M Z b C P U X) (m : Int32) : zCon μL_advance (8, 1, 6) σ [.ref (b 0), .int m] M (zI9 (zCw M Z b C P U X)) := by
  obtain ⟨ea, fa, t, u, k, hV⟩ := hV
  have hO := hV.ok
  have hl := hV.ol
  refine (c_L_advance hV m).post (fun o M' h => ?_)
  obtain ⟨e, h1, h2⟩ := h
  have hi : fIn [-2] (fPas P m).1 := fPas_in _
  refine ⟨_, e, ?_, h2⟩
  rcases hi with hi | hi
  · simp only [List.mem_cons, List.not_mem_nil, or_false] at hi
    refine Or.inr ⟨?_, ea, fa, t, u, k, ?_⟩
    · rcases hi with hi
      · rw [if_neg (by rw [hi]; decide)]; decide
    · have hx : ∃ E, fEx (fPas P m).1 = some E := by
        rcases hi with hi
        · exact ⟨_, by rw [hi]; exact fEx_2⟩
      obtain ⟨E, hx⟩ := hx
      rw [fNe_x hx] at h1
      exact h1
  · refine Or.inl ⟨?_, (fPas P m).2, ea, fa, t, u, k, ?_⟩
    · rw [if_pos hi]; exact nI_pos' (Nat.lt_of_le_of_lt (fCb_le _ _) (Nat.lt_of_le_of_lt (fPas_ok hO _).1.2 (by decide)))
    · rw [fNe_pos hi] at h1
      exact h1

/-- a builder that the law makes -/
def zBd (M0 M : zM) (s v : Nat) (t : Nat → Nat) (n N : Nat) : Prop := (∀ x e, M0 x = some e → M x = some e) ∧ M0 s = none ∧ M0 v = none ∧ zSB M s v t n N
theorem zBd.new {M M2 : zM} {s v : Nat} {e : zE} {t : Nat → Nat} {n N : Nat} (hs : M s = none) (hv : zup M s e v = none) (hB : zSB M2 s v t n N) (fr : ∀ a, a ≠ s → a ≠ v → M2 a = zup M s e a) : zBd M M2 s v t n N := by
  have hvs : v ≠ s := fun e9 => by rw [e9, zup_s] at hv; cases hv
  rw [zup_n hvs] at hv
  refine ⟨fun x e9 hx => ?_, hs, hv, hB⟩
  have h1 : x ≠ s := fun e9 => by rw [e9, hs] at hx; cases hx
  have h2 : x ≠ v := fun e9 => by rw [e9, hv] at hx; cases hx
  rw [fr x h1 h2, zup_n h1]
  exact hx
theorem zBd.gr {M0 M M' : zM} {s v v' : Nat} {t t' : Nat → Nat} {n n' N N' : Nat} (h : zBd M0 M s v t n N) (hB : zSB M' s v' t' n' N') (hG : zGr M M' s v v') : zBd M0 M' s v' t' n' N' := by
  obtain ⟨h1, h2, h3, h4⟩ := h
  have hv' : M0 v' = none := by
    rcases hG.1 with e | e
    · rw [e]; exact h3
    · cases hM : M0 v' with
      | none => rfl
      | some e9 => rw [h1 _ _ hM] at e; cases e
  refine ⟨fun x e9 hx => ?_, h2, hv', hB⟩
  rw [hG.2 x (fun e => by rw [e, h2] at hx; cases hx) (fun e => by rw [e, h3] at hx; cases hx) (fun e => by rw [e, hv'] at hx; cases hx)]
  exact h1 x e9 hx
theorem zBd.hb {M0 M : zM} {s v : Nat} {t : Nat → Nat} {n N : Nat} (h : zBd M0 M s v t n N) : ∃ fs, M s = some (.inr (1, fs)) := by
  obtain ⟨ml, a, h1, -⟩ := h.2.2.2
  exact ⟨_, h1⟩

set_option maxRecDepth 100000 in
set_option maxHeartbeats 4000000 in
theorem k_ch_128 {σ : zSg} {M : zM} {Z : Nat → Prop} {b : Nat → Nat} {C : Nat → Nat → Nat} {P : zS} {U : List zS} {X : Option zS} (hV : zVo M Z b C P U X) (y2 y3 y4 x : Int32) : zV μL_changes (15, 30, 4000) σ (zI9 (fun w M' => ((w = 1 ∧ ∃ T, zVo M' Z b C T ((P :: U).take 8) X) ∨ (w = 0 ∧ zVo M' Z b C P U X)) ∧ zKe M M' Z)) M 0 0 128 [(4, .int y4), (3, .int y3), (2, .int y2), (0, .ref (b 0)), (1, .int x)] [] := by
  refine zv_aload_n (n := 129) dL_changes_128 rfl rfl ?_
  refine zv_iload (n := 131) dL_changes_129 rfl rfl ?_
  refine zv_iload_n (n := 132) dL_changes_131 rfl rfl ?_
  refine zv_bipush (n := 134) dL_changes_132 rfl (v := 7) (by decide) ?_
  refine zv_ishr (n := 135) dL_changes_134 rfl ?_
  refine zv_bipush (n := 137) dL_changes_135 rfl (v := 7) (by decide) ?_
  refine zv_callSP (n := 140) (As := [.int (x >>> (7 &&& 31)), .int 7]) (rest := [.int y4, .ref (b 0)]) (kc' := 0) (ks' := 0) dL_changes_137 rfl (c_L_some _ _ (by decide)) rfl kL_some lL_172 rfl rfl ⟨by decide, by decide⟩ (Nat.le_of_ble_eq_true rfl) rfl rfl (by decide) (by decide) ?_
  refine zv_iload_n (n := 141) dL_changes_140 rfl rfl ?_
  refine zv_bipush (n := 143) dL_changes_141 rfl (v := 10) (by decide) ?_
  refine zv_ishr (n := 144) dL_changes_143 rfl ?_
  refine zv_bipush (n := 146) dL_changes_144 rfl (v := 22) (by decide) ?_
  refine zv_callSP (n := 149) (As := [.int (x >>> (10 &&& 31)), .int 22]) (rest := [.int (fSome (x >>> (7 &&& 31)) 7), .int y4, .ref (b 0)]) (kc' := 0) (ks' := 0) dL_changes_146 rfl (c_L_some _ _ (by decide)) rfl kL_some lL_172 rfl rfl ⟨by decide, by decide⟩ (Nat.le_of_ble_eq_true rfl) rfl rfl (by decide) (by decide) ?_
  refine zv_callSXI (n := 152) (As := [.ref (b 0), .int y4, .int (fSome (x >>> (7 &&& 31)) 7), .int (fSome (x >>> (10 &&& 31)) 22)]) (rest := []) (kc' := 1) (ks' := 6) dL_changes_149 rfl (c_C_addRack hV _ _ _) rfl kL_addRack lL_175 rfl rfl ⟨by decide, by decide⟩ (Nat.le_of_ble_eq_true rfl) rfl rfl (by decide) (by decide) (fun w1 M1 hq => ?_)
  obtain ⟨hw, hz⟩ := hq
  refine zv_if_lt (n := 155) (tgt := 159) dL_changes_152 (by decide) rfl (fun h152 => ?_) (fun h152 => ?_)
  · skip
    have hw2 : zVo M1 Z b C P U X := by
      rcases hw with hw | hw
      · exact absurd h152 (Int32.not_lt.mpr hw.1)
      · exact hw.2
    refine zv_iconst (n := 160) dL_changes_159 rfl (v := 0) (by decide) ?_
    refine zv_zret dL_changes_160 rfl rfl (by decide) (by decide) ?_
    exact zIi ⟨Or.inr ⟨rfl, hw2⟩, hz⟩
  · skip
    have hw2 : ∃ T, zVo M1 Z b C T ((P :: U).take 8) X := by
      rcases hw with hw | hw
      · exact hw.2
      · exact absurd hw.1 h152
    refine zv_iconst (n := 156) dL_changes_155 rfl (v := 1) (by decide) ?_
    refine zv_goto (tgt := 160) dL_changes_156 (by decide) ?_
    refine zv_zret dL_changes_160 rfl rfl (by decide) (by decide) ?_
    exact zIi ⟨Or.inl ⟨rfl, hw2⟩, hz⟩

set_option maxRecDepth 100000 in
set_option maxHeartbeats 4000000 in
theorem k_ch_161 {σ : zSg} {M : zM} {Z : Nat → Prop} {b : Nat → Nat} {C : Nat → Nat → Nat} {P : zS} {U : List zS} {X : Option zS} (hV : zVo M Z b C P U X) (y2 y3 y4 x : Int32) : zV μL_changes (15, 30, 4000) σ (zI9 (fun w M' => ((w = 1 ∧ ∃ T, zVo M' Z b C T ((P :: U).take 8) X) ∨ (w = 0 ∧ zVo M' Z b C P U X)) ∧ zKe M M' Z)) M 0 0 161 [(4, .int y4), (3, .int y3), (2, .int y2), (0, .ref (b 0)), (1, .int x)] [] := by
  refine zv_aload_n (n := 162) dL_changes_161 rfl rfl ?_
  refine zv_iload_n (n := 163) dL_changes_162 rfl rfl ?_
  refine zv_callSXI (n := 166) (As := [.ref (b 0), .int y2]) (rest := []) (kc' := 1) (ks' := 6) dL_changes_163 rfl (c_C_removeRack hV _) rfl kL_removeRack lL_257 rfl rfl ⟨by decide, by decide⟩ (Nat.le_of_ble_eq_true rfl) rfl rfl (by decide) (by decide) (fun w1 M1 hq => ?_)
  obtain ⟨hw, hz⟩ := hq
  refine zv_if_lt (n := 169) (tgt := 173) dL_changes_166 (by decide) rfl (fun h166 => ?_) (fun h166 => ?_)
  · skip
    have hw2 : zVo M1 Z b C P U X := by
      rcases hw with hw | hw
      · exact absurd h166 (Int32.not_lt.mpr hw.1)
      · exact hw.2
    refine zv_iconst (n := 174) dL_changes_173 rfl (v := 0) (by decide) ?_
    refine zv_zret dL_changes_174 rfl rfl (by decide) (by decide) ?_
    exact zIi ⟨Or.inr ⟨rfl, hw2⟩, hz⟩
  · skip
    have hw2 : ∃ T, zVo M1 Z b C T ((P :: U).take 8) X := by
      rcases hw with hw | hw
      · exact hw.2
      · exact absurd hw.1 h166
    refine zv_iconst (n := 170) dL_changes_169 rfl (v := 1) (by decide) ?_
    refine zv_goto (tgt := 174) dL_changes_170 (by decide) ?_
    refine zv_zret dL_changes_174 rfl rfl (by decide) (by decide) ?_
    exact zIi ⟨Or.inl ⟨rfl, hw2⟩, hz⟩

set_option maxRecDepth 100000 in
set_option maxHeartbeats 4000000 in
theorem k_ch_175 {σ : zSg} {M : zM} {Z : Nat → Prop} {b : Nat → Nat} {C : Nat → Nat → Nat} {P : zS} {U : List zS} {X : Option zS} (hV : zVo M Z b C P U X) (y2 y3 y4 x : Int32) : zV μL_changes (15, 30, 4000) σ (zI9 (fun w M' => ((w = 1 ∧ ∃ T, zVo M' Z b C T ((P :: U).take 8) X) ∨ (w = 0 ∧ zVo M' Z b C P U X)) ∧ zKe M M' Z)) M 0 0 175 [(4, .int y4), (3, .int y3), (2, .int y2), (0, .ref (b 0)), (1, .int x)] [] := by
  refine zv_aload_n (n := 176) dL_changes_175 rfl rfl ?_
  refine zv_iload_n (n := 177) dL_changes_176 rfl rfl ?_
  refine zv_iload_n (n := 178) dL_changes_177 rfl rfl ?_
  refine zv_bipush (n := 180) dL_changes_178 rfl (v := 8) (by decide) ?_
  refine zv_ishr (n := 181) dL_changes_180 rfl ?_
  refine zv_iconst (n := 182) dL_changes_181 rfl (v := 5) (by decide) ?_
  refine zv_callSP (n := 185) (As := [.int (x >>> (8 &&& 31)), .int 5]) (rest := [.int y2, .ref (b 0)]) (kc' := 0) (ks' := 0) dL_changes_182 rfl (c_L_some _ _ (by decide)) rfl kL_some lL_172 rfl rfl ⟨by decide, by decide⟩ (Nat.le_of_ble_eq_true rfl) rfl rfl (by decide) (by decide) ?_
  refine zv_iload_n (n := 186) dL_changes_185 rfl rfl ?_
  refine zv_bipush (n := 188) dL_changes_186 rfl (v := 11) (by decide) ?_
  refine zv_ishr (n := 189) dL_changes_188 rfl ?_
  refine zv_bipush (n := 191) dL_changes_189 rfl (v := 7) (by decide) ?_
  refine zv_callSP (n := 194) (As := [.int (x >>> (11 &&& 31)), .int 7]) (rest := [.int (fSome (x >>> (8 &&& 31)) 5), .int y2, .ref (b 0)]) (kc' := 0) (ks' := 0) dL_changes_191 rfl (c_L_some _ _ (by decide)) rfl kL_some lL_172 rfl rfl ⟨by decide, by decide⟩ (Nat.le_of_ble_eq_true rfl) rfl rfl (by decide) (by decide) ?_
  refine zv_callSXI (n := 197) (As := [.ref (b 0), .int y2, .int (fSome (x >>> (8 &&& 31)) 5), .int (fSome (x >>> (11 &&& 31)) 7)]) (rest := []) (kc' := 1) (ks' := 6) dL_changes_194 rfl (c_C_moveRack hV _ _ _) rfl kL_moveRack lL_259 rfl rfl ⟨by decide, by decide⟩ (Nat.le_of_ble_eq_true rfl) rfl rfl (by decide) (by decide) (fun w1 M1 hq => ?_)
  obtain ⟨hw, hz⟩ := hq
  refine zv_if_lt (n := 200) (tgt := 204) dL_changes_197 (by decide) rfl (fun h197 => ?_) (fun h197 => ?_)
  · skip
    have hw2 : zVo M1 Z b C P U X := by
      rcases hw with hw | hw
      · exact absurd h197 (Int32.not_lt.mpr hw.1)
      · exact hw.2
    refine zv_iconst (n := 205) dL_changes_204 rfl (v := 0) (by decide) ?_
    refine zv_zret dL_changes_205 rfl rfl (by decide) (by decide) ?_
    exact zIi ⟨Or.inr ⟨rfl, hw2⟩, hz⟩
  · skip
    have hw2 : ∃ T, zVo M1 Z b C T ((P :: U).take 8) X := by
      rcases hw with hw | hw
      · exact hw.2
      · exact absurd hw.1 h197
    refine zv_iconst (n := 201) dL_changes_200 rfl (v := 1) (by decide) ?_
    refine zv_goto (tgt := 205) dL_changes_201 (by decide) ?_
    refine zv_zret dL_changes_205 rfl rfl (by decide) (by decide) ?_
    exact zIi ⟨Or.inl ⟨rfl, hw2⟩, hz⟩

set_option maxRecDepth 100000 in
set_option maxHeartbeats 4000000 in
theorem k_ch_206 {σ : zSg} {M : zM} {Z : Nat → Prop} {b : Nat → Nat} {C : Nat → Nat → Nat} {P : zS} {U : List zS} {X : Option zS} (hV : zVo M Z b C P U X) (y2 y3 y4 x : Int32) : zV μL_changes (15, 30, 4000) σ (zI9 (fun w M' => ((w = 1 ∧ ∃ T, zVo M' Z b C T ((P :: U).take 8) X) ∨ (w = 0 ∧ zVo M' Z b C P U X)) ∧ zKe M M' Z)) M 0 0 206 [(4, .int y4), (3, .int y3), (2, .int y2), (0, .ref (b 0)), (1, .int x)] [] := by
  refine zv_aload_n (n := 207) dL_changes_206 rfl rfl ?_
  refine zv_iload_n (n := 208) dL_changes_207 rfl rfl ?_
  refine zv_iload_n (n := 209) dL_changes_208 rfl rfl ?_
  refine zv_bipush (n := 211) dL_changes_209 rfl (v := 8) (by decide) ?_
  refine zv_ishr (n := 212) dL_changes_211 rfl ?_
  refine zv_bipush (n := 214) dL_changes_212 rfl (v := 22) (by decide) ?_
  refine zv_callSP (n := 217) (As := [.int (x >>> (8 &&& 31)), .int 22]) (rest := [.int y2, .ref (b 0)]) (kc' := 0) (ks' := 0) dL_changes_214 rfl (c_L_some _ _ (by decide)) rfl kL_some lL_172 rfl rfl ⟨by decide, by decide⟩ (Nat.le_of_ble_eq_true rfl) rfl rfl (by decide) (by decide) ?_
  refine zv_callSXI (n := 220) (As := [.ref (b 0), .int y2, .int (fSome (x >>> (8 &&& 31)) 22)]) (rest := []) (kc' := 1) (ks' := 6) dL_changes_217 rfl (c_C_setLoad hV _ _) rfl kL_setLoad lL_261 rfl rfl ⟨by decide, by decide⟩ (Nat.le_of_ble_eq_true rfl) rfl rfl (by decide) (by decide) (fun w1 M1 hq => ?_)
  obtain ⟨hw, hz⟩ := hq
  refine zv_if_lt (n := 223) (tgt := 227) dL_changes_220 (by decide) rfl (fun h220 => ?_) (fun h220 => ?_)
  · skip
    have hw2 : zVo M1 Z b C P U X := by
      rcases hw with hw | hw
      · exact absurd h220 (Int32.not_lt.mpr hw.1)
      · exact hw.2
    refine zv_iconst (n := 228) dL_changes_227 rfl (v := 0) (by decide) ?_
    refine zv_zret dL_changes_228 rfl rfl (by decide) (by decide) ?_
    exact zIi ⟨Or.inr ⟨rfl, hw2⟩, hz⟩
  · skip
    have hw2 : ∃ T, zVo M1 Z b C T ((P :: U).take 8) X := by
      rcases hw with hw | hw
      · exact hw.2
      · exact absurd hw.1 h220
    refine zv_iconst (n := 224) dL_changes_223 rfl (v := 1) (by decide) ?_
    refine zv_goto (tgt := 228) dL_changes_224 (by decide) ?_
    refine zv_zret dL_changes_228 rfl rfl (by decide) (by decide) ?_
    exact zIi ⟨Or.inl ⟨rfl, hw2⟩, hz⟩

set_option maxRecDepth 100000 in
set_option maxHeartbeats 4000000 in
theorem k_ch_229 {σ : zSg} {M : zM} {Z : Nat → Prop} {b : Nat → Nat} {C : Nat → Nat → Nat} {P : zS} {U : List zS} {X : Option zS} (hV : zVo M Z b C P U X) (y2 y3 y4 x : Int32) : zV μL_changes (15, 30, 4000) σ (zI9 (fun w M' => ((w = 1 ∧ ∃ T, zVo M' Z b C T ((P :: U).take 8) X) ∨ (w = 0 ∧ zVo M' Z b C P U X)) ∧ zKe M M' Z)) M 0 0 229 [(4, .int y4), (3, .int y3), (2, .int y2), (0, .ref (b 0)), (1, .int x)] [] := by
  refine zv_aload_n (n := 230) dL_changes_229 rfl rfl ?_
  refine zv_iload_n (n := 231) dL_changes_230 rfl rfl ?_
  refine zv_iload_n (n := 232) dL_changes_231 rfl rfl ?_
  refine zv_iload_n (n := 233) dL_changes_232 rfl rfl ?_
  refine zv_bipush (n := 235) dL_changes_233 rfl (v := 12) (by decide) ?_
  refine zv_ishr (n := 236) dL_changes_235 rfl ?_
  refine zv_bipush (n := 238) dL_changes_236 rfl (v := 9) (by decide) ?_
  refine zv_callSP (n := 241) (As := [.int (x >>> (12 &&& 31)), .int 9]) (rest := [.int y3, .int y2, .ref (b 0)]) (kc' := 0) (ks' := 0) dL_changes_238 rfl (c_L_some _ _ (by decide)) rfl kL_some lL_172 rfl rfl ⟨by decide, by decide⟩ (Nat.le_of_ble_eq_true rfl) rfl rfl (by decide) (by decide) ?_
  refine zv_callSXI (n := 244) (As := [.ref (b 0), .int y2, .int y3, .int (fSome (x >>> (12 &&& 31)) 9)]) (rest := []) (kc' := 1) (ks' := 6) dL_changes_241 rfl (c_C_migrate hV _ _ _) rfl kL_migrate lL_263 rfl rfl ⟨by decide, by decide⟩ (Nat.le_of_ble_eq_true rfl) rfl rfl (by decide) (by decide) (fun w1 M1 hq => ?_)
  obtain ⟨hw, hz⟩ := hq
  refine zv_if_lt (n := 247) (tgt := 251) dL_changes_244 (by decide) rfl (fun h244 => ?_) (fun h244 => ?_)
  · skip
    have hw2 : zVo M1 Z b C P U X := by
      rcases hw with hw | hw
      · exact absurd h244 (Int32.not_lt.mpr hw.1)
      · exact hw.2
    refine zv_iconst (n := 252) dL_changes_251 rfl (v := 0) (by decide) ?_
    refine zv_zret dL_changes_252 rfl rfl (by decide) (by decide) ?_
    exact zIi ⟨Or.inr ⟨rfl, hw2⟩, hz⟩
  · skip
    have hw2 : ∃ T, zVo M1 Z b C T ((P :: U).take 8) X := by
      rcases hw with hw | hw
      · exact hw.2
      · exact absurd hw.1 h244
    refine zv_iconst (n := 248) dL_changes_247 rfl (v := 1) (by decide) ?_
    refine zv_goto (tgt := 252) dL_changes_248 (by decide) ?_
    refine zv_zret dL_changes_252 rfl rfl (by decide) (by decide) ?_
    exact zIi ⟨Or.inl ⟨rfl, hw2⟩, hz⟩

set_option maxRecDepth 100000 in
set_option maxHeartbeats 4000000 in
theorem k_ch_253 {σ : zSg} {M : zM} {Z : Nat → Prop} {b : Nat → Nat} {C : Nat → Nat → Nat} {P : zS} {U : List zS} {X : Option zS} (hV : zVo M Z b C P U X) (y2 y3 y4 x : Int32) : zV μL_changes (15, 30, 4000) σ (zI9 (fun w M' => ((w = 1 ∧ ∃ T, zVo M' Z b C T ((P :: U).take 8) X) ∨ (w = 0 ∧ zVo M' Z b C P U X)) ∧ zKe M M' Z)) M 0 0 253 [(4, .int y4), (3, .int y3), (2, .int y2), (0, .ref (b 0)), (1, .int x)] [] := by
  refine zv_aload_n (n := 254) dL_changes_253 rfl rfl ?_
  refine zv_iload (n := 256) dL_changes_254 rfl rfl ?_
  refine zv_iload_n (n := 257) dL_changes_256 rfl rfl ?_
  refine zv_bipush (n := 259) dL_changes_257 rfl (v := 7) (by decide) ?_
  refine zv_ishr (n := 260) dL_changes_259 rfl ?_
  refine zv_bipush (n := 262) dL_changes_260 rfl (v := 12) (by decide) ?_
  refine zv_callSP (n := 265) (As := [.int (x >>> (7 &&& 31)), .int 12]) (rest := [.int y4, .ref (b 0)]) (kc' := 0) (ks' := 0) dL_changes_262 rfl (c_L_some _ _ (by decide)) rfl kL_some lL_172 rfl rfl ⟨by decide, by decide⟩ (Nat.le_of_ble_eq_true rfl) rfl rfl (by decide) (by decide) ?_
  refine zv_callSXI (n := 268) (As := [.ref (b 0), .int y4, .int (fSome (x >>> (7 &&& 31)) 12)]) (rest := []) (kc' := 1) (ks' := 6) dL_changes_265 rfl (c_C_setFan hV _ _) rfl kL_setFan lL_178 rfl rfl ⟨by decide, by decide⟩ (Nat.le_of_ble_eq_true rfl) rfl rfl (by decide) (by decide) (fun w1 M1 hq => ?_)
  obtain ⟨hw, hz⟩ := hq
  refine zv_if_lt (n := 271) (tgt := 275) dL_changes_268 (by decide) rfl (fun h268 => ?_) (fun h268 => ?_)
  · skip
    have hw2 : zVo M1 Z b C P U X := by
      rcases hw with hw | hw
      · exact absurd h268 (Int32.not_lt.mpr hw.1)
      · exact hw.2
    refine zv_iconst (n := 276) dL_changes_275 rfl (v := 0) (by decide) ?_
    refine zv_zret dL_changes_276 rfl rfl (by decide) (by decide) ?_
    exact zIi ⟨Or.inr ⟨rfl, hw2⟩, hz⟩
  · skip
    have hw2 : ∃ T, zVo M1 Z b C T ((P :: U).take 8) X := by
      rcases hw with hw | hw
      · exact hw.2
      · exact absurd hw.1 h268
    refine zv_iconst (n := 272) dL_changes_271 rfl (v := 1) (by decide) ?_
    refine zv_goto (tgt := 276) dL_changes_272 (by decide) ?_
    refine zv_zret dL_changes_276 rfl rfl (by decide) (by decide) ?_
    exact zIi ⟨Or.inl ⟨rfl, hw2⟩, hz⟩

set_option maxRecDepth 100000 in
set_option maxHeartbeats 4000000 in
theorem k_ch_277 {σ : zSg} {M : zM} {Z : Nat → Prop} {b : Nat → Nat} {C : Nat → Nat → Nat} {P : zS} {U : List zS} {X : Option zS} (hV : zVo M Z b C P U X) (y2 y3 y4 x : Int32) : zV μL_changes (15, 30, 4000) σ (zI9 (fun w M' => ((w = 1 ∧ ∃ T, zVo M' Z b C T ((P :: U).take 8) X) ∨ (w = 0 ∧ zVo M' Z b C P U X)) ∧ zKe M M' Z)) M 0 0 277 [(4, .int y4), (3, .int y3), (2, .int y2), (0, .ref (b 0)), (1, .int x)] [] := by
  refine zv_aload_n (n := 278) dL_changes_277 rfl rfl ?_
  refine zv_iload_n (n := 279) dL_changes_278 rfl rfl ?_
  refine zv_iconst (n := 280) dL_changes_279 rfl (v := 4) (by decide) ?_
  refine zv_ishr (n := 281) dL_changes_280 rfl ?_
  refine zv_iconst (n := 282) dL_changes_281 rfl (v := 4) (by decide) ?_
  refine zv_callSP (n := 285) (As := [.int (x >>> (4 &&& 31)), .int 4]) (rest := [.ref (b 0)]) (kc' := 0) (ks' := 0) dL_changes_282 rfl (c_L_some _ _ (by decide)) rfl kL_some lL_172 rfl rfl ⟨by decide, by decide⟩ (Nat.le_of_ble_eq_true rfl) rfl rfl (by decide) (by decide) ?_
  refine zv_iload_n (n := 286) dL_changes_285 rfl rfl ?_
  refine zv_bipush (n := 288) dL_changes_286 rfl (v := 6) (by decide) ?_
  refine zv_ishr (n := 289) dL_changes_288 rfl ?_
  refine zv_sipush (n := 292) dL_changes_289 rfl (v := 202) (by decide) ?_
  refine zv_callSP (n := 295) (As := [.int (x >>> (6 &&& 31)), .int 202]) (rest := [.int (fSome (x >>> (4 &&& 31)) 4), .ref (b 0)]) (kc' := 0) (ks' := 0) dL_changes_292 rfl (c_L_some _ _ (by decide)) rfl kL_some lL_172 rfl rfl ⟨by decide, by decide⟩ (Nat.le_of_ble_eq_true rfl) rfl rfl (by decide) (by decide) ?_
  refine zv_callSXI (n := 298) (As := [.ref (b 0), .int (fSome (x >>> (4 &&& 31)) 4), .int (fSome (x >>> (6 &&& 31)) 202)]) (rest := []) (kc' := 1) (ks' := 6) dL_changes_295 rfl (c_C_setCurve hV _ _) rfl kL_setCurve lL_181 rfl rfl ⟨by decide, by decide⟩ (Nat.le_of_ble_eq_true rfl) rfl rfl (by decide) (by decide) (fun w1 M1 hq => ?_)
  obtain ⟨hw, hz⟩ := hq
  refine zv_if_lt (n := 301) (tgt := 305) dL_changes_298 (by decide) rfl (fun h298 => ?_) (fun h298 => ?_)
  · skip
    have hw2 : zVo M1 Z b C P U X := by
      rcases hw with hw | hw
      · exact absurd h298 (Int32.not_lt.mpr hw.1)
      · exact hw.2
    refine zv_iconst (n := 306) dL_changes_305 rfl (v := 0) (by decide) ?_
    refine zv_zret dL_changes_306 rfl rfl (by decide) (by decide) ?_
    exact zIi ⟨Or.inr ⟨rfl, hw2⟩, hz⟩
  · skip
    have hw2 : ∃ T, zVo M1 Z b C T ((P :: U).take 8) X := by
      rcases hw with hw | hw
      · exact hw.2
      · exact absurd hw.1 h298
    refine zv_iconst (n := 302) dL_changes_301 rfl (v := 1) (by decide) ?_
    refine zv_goto (tgt := 306) dL_changes_302 (by decide) ?_
    refine zv_zret dL_changes_306 rfl rfl (by decide) (by decide) ?_
    exact zIi ⟨Or.inl ⟨rfl, hw2⟩, hz⟩

set_option maxRecDepth 100000 in
set_option maxHeartbeats 4000000 in
theorem k_ch_307 {σ : zSg} {M : zM} {Z : Nat → Prop} {b : Nat → Nat} {C : Nat → Nat → Nat} {P : zS} {U : List zS} {X : Option zS} (hV : zVo M Z b C P U X) (y2 y3 y4 x : Int32) : zV μL_changes (15, 30, 4000) σ (zI9 (fun w M' => ((w = 1 ∧ ∃ T, zVo M' Z b C T ((P :: U).take 8) X) ∨ (w = 0 ∧ zVo M' Z b C P U X)) ∧ zKe M M' Z)) M 0 0 307 [(4, .int y4), (3, .int y3), (2, .int y2), (0, .ref (b 0)), (1, .int x)] [] := by
  refine zv_aload_n (n := 308) dL_changes_307 rfl rfl ?_
  refine zv_bipush (n := 310) dL_changes_308 rfl (v := 19) (by decide) ?_
  refine zv_iload_n (n := 311) dL_changes_310 rfl rfl ?_
  refine zv_iconst (n := 312) dL_changes_311 rfl (v := 4) (by decide) ?_
  refine zv_ishr (n := 313) dL_changes_312 rfl ?_
  refine zv_bipush (n := 315) dL_changes_313 rfl (v := 43) (by decide) ?_
  refine zv_callSP (n := 318) (As := [.int (x >>> (4 &&& 31)), .int 43]) (rest := [.int 19, .ref (b 0)]) (kc' := 0) (ks' := 0) dL_changes_315 rfl (c_L_some _ _ (by decide)) rfl kL_some lL_172 rfl rfl ⟨by decide, by decide⟩ (Nat.le_of_ble_eq_true rfl) rfl rfl (by decide) (by decide) ?_
  refine zv_iadd (n := 319) dL_changes_318 rfl ?_
  refine zv_callSXI (n := 322) (As := [.ref (b 0), .int ((19 : Int32) + (fSome (x >>> (4 &&& 31)) 43))]) (rest := []) (kc' := 1) (ks' := 6) dL_changes_319 rfl (c_C_setLimit hV _) rfl kL_setLimit lL_184 rfl rfl ⟨by decide, by decide⟩ (Nat.le_of_ble_eq_true rfl) rfl rfl (by decide) (by decide) (fun w1 M1 hq => ?_)
  obtain ⟨hw, hz⟩ := hq
  refine zv_if_lt (n := 325) (tgt := 329) dL_changes_322 (by decide) rfl (fun h322 => ?_) (fun h322 => ?_)
  · skip
    have hw2 : zVo M1 Z b C P U X := by
      rcases hw with hw | hw
      · exact absurd h322 (Int32.not_lt.mpr hw.1)
      · exact hw.2
    refine zv_iconst (n := 330) dL_changes_329 rfl (v := 0) (by decide) ?_
    refine zv_zret dL_changes_330 rfl rfl (by decide) (by decide) ?_
    exact zIi ⟨Or.inr ⟨rfl, hw2⟩, hz⟩
  · skip
    have hw2 : ∃ T, zVo M1 Z b C T ((P :: U).take 8) X := by
      rcases hw with hw | hw
      · exact hw.2
      · exact absurd hw.1 h322
    refine zv_iconst (n := 326) dL_changes_325 rfl (v := 1) (by decide) ?_
    refine zv_goto (tgt := 330) dL_changes_326 (by decide) ?_
    refine zv_zret dL_changes_330 rfl rfl (by decide) (by decide) ?_
    exact zIi ⟨Or.inl ⟨rfl, hw2⟩, hz⟩

set_option maxRecDepth 100000 in
set_option maxHeartbeats 4000000 in
theorem k_ch_416 {σ : zSg} {M : zM} {Z : Nat → Prop} {b : Nat → Nat} {C : Nat → Nat → Nat} {P : zS} {U : List zS} {X : Option zS} (hV : zVo M Z b C P U X) (y2 y3 y4 x : Int32) : zV μL_changes (15, 30, 4000) σ (zI9 (fun w M' => ((w = 1 ∧ ∃ T, zVo M' Z b C T ((P :: U).take 8) X) ∨ (w = 0 ∧ zVo M' Z b C P U X)) ∧ zKe M M' Z)) M 0 0 416 [(4, .int y4), (3, .int y3), (2, .int y2), (0, .ref (b 0)), (1, .int x)] [] := by
  refine zv_aload_n (n := 417) dL_changes_416 rfl rfl ?_
  refine zv_iload_n (n := 418) dL_changes_417 rfl rfl ?_
  refine zv_iconst (n := 419) dL_changes_418 rfl (v := 4) (by decide) ?_
  refine zv_ishr (n := 420) dL_changes_419 rfl ?_
  refine zv_bipush (n := 422) dL_changes_420 rfl (v := 20) (by decide) ?_
  refine zv_callSP (n := 425) (As := [.int (x >>> (4 &&& 31)), .int 20]) (rest := [.ref (b 0)]) (kc' := 0) (ks' := 0) dL_changes_422 rfl (c_L_some _ _ (by decide)) rfl kL_some lL_172 rfl rfl ⟨by decide, by decide⟩ (Nat.le_of_ble_eq_true rfl) rfl rfl (by decide) (by decide) ?_
  refine zv_callSXI (n := 428) (As := [.ref (b 0), .int (fSome (x >>> (4 &&& 31)) 20)]) (rest := []) (kc' := 1) (ks' := 6) dL_changes_425 rfl (c_C_advance hV _) rfl kL_advance lL_186 rfl rfl ⟨by decide, by decide⟩ (Nat.le_of_ble_eq_true rfl) rfl rfl (by decide) (by decide) (fun w1 M1 hq => ?_)
  obtain ⟨hw, hz⟩ := hq
  refine zv_if_lt (n := 431) (tgt := 435) dL_changes_428 (by decide) rfl (fun h428 => ?_) (fun h428 => ?_)
  · skip
    have hw2 : zVo M1 Z b C P U X := by
      rcases hw with hw | hw
      · exact absurd h428 (Int32.not_lt.mpr hw.1)
      · exact hw.2
    refine zv_iconst (n := 436) dL_changes_435 rfl (v := 0) (by decide) ?_
    refine zv_zret dL_changes_436 rfl rfl (by decide) (by decide) ?_
    exact zIi ⟨Or.inr ⟨rfl, hw2⟩, hz⟩
  · skip
    have hw2 : ∃ T, zVo M1 Z b C T ((P :: U).take 8) X := by
      rcases hw with hw | hw
      · exact hw.2
      · exact absurd hw.1 h428
    refine zv_iconst (n := 432) dL_changes_431 rfl (v := 1) (by decide) ?_
    refine zv_goto (tgt := 436) dL_changes_432 (by decide) ?_
    refine zv_zret dL_changes_436 rfl rfl (by decide) (by decide) ?_
    exact zIi ⟨Or.inl ⟨rfl, hw2⟩, hz⟩

theorem fKn_v : fKn 0 = 12 ∧ fKn 1 = 13 ∧ fKn 2 = 2 ∧ fKn 3 = 1 ∧ fKn 4 = 19 ∧ fKn 5 = 8 := by decide +kernel
theorem fK_asc {i j : Nat} (hi : i < 6) (hj : j < fKn i) : 32 ≤ fK i j ∧ fK i j ≤ 126 := by
  have key : ∀ i : Fin 6, ∀ j : Fin 20, j.1 < fKn i.1 → 32 ≤ fK i.1 j.1 ∧ fK i.1 j.1 ≤ 126 := by decide +kernel
  exact key ⟨i, hi⟩ ⟨j, Nat.lt_of_lt_of_le hj (fKn_le (by omega))⟩ hj
theorem sb_dec_asc {v j : Nat} : 32 ≤ sb_dec v j ∧ sb_dec v j ≤ 126 := by
  unfold sb_dec
  have := Nat.mod_lt (v / 10 ^ (sb_dg v - 1 - j)) (show 0 < 10 by decide)
  omega
def fAsc (t : Nat → Nat) (n : Nat) : Prop := ∀ j, j < n → 32 ≤ t j ∧ t j ≤ 126
theorem fAsc_cat {t s : Nat → Nat} {n m : Nat} (h : fAsc t n) (h2 : fAsc s m) : fAsc (sb_cat t n s) (n + m) := fun j hj => by
  unfold sb_cat
  split
  · exact h j (by assumption)
  · exact h2 _ (by omega)
theorem zCw_of {M : zM} {Z : Nat → Prop} {b : Nat → Nat} {C : Nat → Nat → Nat} {P : zS} {U : List zS} {X : Option zS} {t : Nat → Nat} {u : Nat → Nat} {k : Nat} {w : Int32} {M' M0 : zM} {Z0 : Nat → Prop} (h : zRw M Z b C P U X t u k w M') (hle : ∀ x e, M0 x = some e → M x = some e) (hZ : ∀ a, Z0 a → Z a ∧ M0 a ≠ none) : zCw M0 Z0 b C P U X w M' := by
  obtain ⟨ea, fa, h1, h2⟩ := h
  have hk : zKe M0 M' Z0 := fun a ha => by
    rw [h2 a (hZ a ha).1]
    cases hM : M0 a with
    | none => exact absurd hM (hZ a ha).2
    | some e9 => exact hle a e9 hM
  rcases h1 with ⟨h3, T, h4⟩ | ⟨h3, h4⟩
  · exact ⟨Or.inl ⟨h3, T, zVo.less ⟨_, _, _, _, _, h4⟩ (fun a ha => (hZ a ha).1)⟩, hk⟩
  · exact ⟨Or.inr ⟨h3, zVo.less ⟨_, _, _, _, _, h4⟩ (fun a ha => (hZ a ha).1)⟩, hk⟩
theorem zVo.nn {M : zM} {Z : Nat → Prop} {b : Nat → Nat} {C : Nat → Nat → Nat} {P : zS} {U : List zS} {X : Option zS} (h : zVo M Z b C P U X) {a : Nat} (ha : Z a) : M a ≠ none := by
  obtain ⟨ea, fa, t, u, k, S, nw, un, hs, hP, -⟩ := h
  obtain ⟨-, -, -, -, -, -, -, v, N, v', N', -, -, -, -, -, g13⟩ := hP
  exact (g13 a ha).1

theorem zRw_tr {M M6 : zM} {Z : Nat → Prop} {b : Nat → Nat} {C : Nat → Nat → Nat} {P : zS} {U : List zS} {X : Option zS} {t : Nat → Nat} {u : Nat → Nat} {k : Nat} {w : Int32} {M' : zM} (h : zRw M6 Z b C P U X t u k w M') (hz : zKe M M6 Z) : zRw M Z b C P U X t u k w M' := by
  obtain ⟨ea, fa, h1, h2⟩ := h
  exact ⟨ea, fa, h1, hz.tr h2⟩

set_option maxRecDepth 100000 in
set_option maxHeartbeats 4000000 in
theorem k_ch_331a {σ : zSg} {M : zM} {Z : Nat → Prop} {b : Nat → Nat} {C : Nat → Nat → Nat} {P : zS} {U : List zS} {X : Option zS} (hV : zVo M Z b C P U X) (y2 y3 y4 x : Int32) : zV μL_changes (15, 30, 4000) σ (zI9 (fun w M' => ((w = 1 ∧ ∃ T, zVo M' Z b C T ((P :: U).take 8) X) ∨ (w = 0 ∧ zVo M' Z b C P U X)) ∧ zKe M M' Z)) M 0 0 341 [(4, .int y4), (3, .int y3), (2, .int y2), (0, .ref (b 0)), (1, .int x)] [.ref (b 0)] := by
  refine zv_new (n := 344) (kc' := 1) (ks' := 4) dL_changes_341 rfl nL_265 rfl rfl (by decide) (by decide) (fun q0 hq0 => ?_)
  refine zv_dup (n := 345) dL_changes_344 rfl rfl ?_
  refine zv_callIF0 (n := 348) (As := []) (rest := [.ref q0, .ref (b 0)]) (kc' := 2) (ks' := 20) dL_changes_345 rfl (c_J4_init (h := q0) zup_s) rfl rfl kJ4_init_da8c8 lL_267 rfl rfl ⟨by decide, by decide⟩ (Nat.le_of_ble_eq_true rfl) rfl rfl (by decide) (by decide) (fun M2 hq => ?_)
  obtain ⟨v0, hv0, hB0, fr0⟩ := hq
  have hd2 := zBd.new hq0 hv0 hB0 fr0
  obtain ⟨fs2, hb2⟩ := hd2.hb
  refine zv_ldcSW (n := 351) (j := 0) dL_changes_348 rfl rfl rfl rfl ?_
  refine zv_callVF (n := 354) (As := [.ref (zK σ 0)]) (rest := [.ref (b 0)]) (kc' := 3) (ks' := 170) dL_changes_351 rfl (c_J4_appendS hd2.2.2.2 (i := 0) (by decide) (Or.inl (Nat.le_of_ble_eq_true rfl))) rfl kJ4_append_15ec4 lL_270 hb2 rfl rfl rfl ⟨by decide, by decide⟩ (Nat.le_of_ble_eq_true rfl) rfl rfl (by decide) (by decide) (fun M3 hq => ?_)
  obtain ⟨v1, hB1, hG1⟩ := hq
  have hd3 := hd2.gr hB1 hG1
  obtain ⟨fs3, hb3⟩ := hd3.hb
  obtain ⟨j, hj, ej⟩ := fSome_in (x >>> (4 &&& 31)) (n := 13) (by decide) (by decide)
  refine zv_iload_n (n := 355) dL_changes_354 rfl rfl ?_
  refine zv_iconst (n := 356) dL_changes_355 rfl (v := 4) (by decide) ?_
  refine zv_ishr (n := 357) dL_changes_356 rfl ?_
  refine zv_bipush (n := 359) dL_changes_357 rfl (v := 13) (by decide) ?_
  refine zv_callSP (n := 362) (As := [.int (x >>> (4 &&& 31)), .int 13]) (rest := [.ref q0, .ref (b 0)]) (kc' := 3) (ks' := 170) dL_changes_359 rfl (c_L_some _ _ (by decide)) rfl kL_some lL_172 rfl rfl ⟨by decide, by decide⟩ (Nat.le_of_ble_eq_true rfl) rfl rfl (by decide) (by decide) ?_
  rw [show fSome (x >>> (4 &&& 31)) 13 = nI j from ej]
  refine zv_callVF (n := 365) (As := [.int (nI j)]) (rest := [.ref (b 0)]) (kc' := 4) (ks' := 320) dL_changes_362 rfl (c_J4_appendI hd3.2.2.2 (k := j) (by omega) (Or.inl (by have := sb_dg3 (x := j) (by omega); rw [fKn_v.1]; show 0 + 12 + sb_dg j ≤ 16; omega))) rfl kJ4_append_bf812 lL_274 hb3 rfl rfl rfl ⟨by decide, by decide⟩ (Nat.le_of_ble_eq_true rfl) rfl rfl (by decide) (by decide) (fun M4 hq => ?_)
  obtain ⟨v2, hB2, hG2⟩ := hq
  have hd4 := hd3.gr hB2 hG2
  obtain ⟨fs4, hb4⟩ := hd4.hb
  refine zv_callVE (n := 368) (As := []) (rest := [.ref (b 0)]) (kc' := 6) (ks' := 474) dL_changes_365 rfl (c_J4_toString hd4.2.2.2 (by have := sb_dg3 (x := j) (by omega); rw [fKn_v.1]; omega)) rfl kJ4_toString_0e30d lL_277 hb4 rfl rfl rfl ⟨by decide, by decide⟩ (Nat.le_of_ble_eq_true rfl) rfl rfl (by decide) (by decide) (fun v9 M5 hq => ?_)
  obtain ⟨q5, v5, rfl, hq5, hv5, hm5, fr5⟩ := hq
  have hle5 : ∀ x e, M x = some e → M5 x = some e := fun x e hx => by
    have h9 := hd4.1 x e hx
    rw [fr5 x (fun e1 => by rw [e1, hq5] at h9; cases h9) (fun e1 => by rw [e1, hv5] at h9; cases h9)]
    exact h9
  have hq50 : M q5 = none := by
    cases hM : M q5 with
    | none => rfl
    | some e9 => rw [hd4.1 _ _ hM] at hq5; cases hq5
  have hv50 : M v5 = none := by
    cases hM : M v5 with
    | none => rfl
    | some e9 => rw [hd4.1 _ _ hM] at hv5; cases hv5
  have hV5 : zVo M5 (fun a => Z a ∨ a = q5 ∨ a = v5) b C P U X := hV.grow hle5 (fun a ha => by
    rcases ha with ha | rfl | rfl
    · exact Or.inl ha
    · exact Or.inr ⟨hq50, by rw [hm5.obj]; exact (fun e => nomatch e)⟩
    · obtain ⟨a5, -, m2, -⟩ := hm5
      exact Or.inr ⟨hv50, by rw [m2]; exact (fun e => nomatch e)⟩)
  obtain ⟨ea5, fa5, t5, u5, k5, hW5⟩ := hV5
  have hasc : fAsc (sb_cat (sb_cat (fun _ => 0) 0 (fK 0)) (0 + fKn 0) (sb_dec j)) (0 + fKn 0 + sb_dg j) := fAsc_cat (fAsc_cat (fun j hj => absurd hj (Nat.not_lt_zero _)) (fun j hj => fK_asc (by decide) hj)) (fun j _ => sb_dec_asc)
  refine zv_goto (tgt := 404) dL_changes_368 (by decide) ?_
  refine zv_callSI (n := 407) (As := [.ref (b 0), .ref q5]) (rest := []) (kc' := 27) (ks' := 3480) dL_changes_404 rfl (c_runsM hW5 hm5 (Or.inr (Or.inl rfl)) (Or.inr (Or.inr rfl)) hasc (by have := sb_dg3 (x := j) (by omega); rw [fKn_v.1]; omega) (fun M6 hV6 hz6 => (c_L_run_any hV6).post (fun o M7 h7 => (show zI9 (fun w M7 => zCw M Z b C P U X w M7) o M7 from by obtain ⟨w7, e7, f7⟩ := h7; exact ⟨w7, e7, zCw_of (zRw_tr f7 hz6) hle5 (fun a ha => ⟨Or.inl ha, hV.nn ha⟩)⟩)))) rfl kL_runs lL_285 rfl rfl ⟨by decide, by decide⟩ (Nat.le_of_ble_eq_true rfl) rfl rfl (by decide) (by decide) (fun w1 M8 hq => ?_)
  obtain ⟨hw, hz⟩ := hq
  refine zv_if_lt (n := 410) (tgt := 414) dL_changes_407 (by decide) rfl (fun h407 => ?_) (fun h407 => ?_)
  · skip
    have hw2 : zVo M8 Z b C P U X := by
      rcases hw with hw | hw
      · exact absurd h407 (Int32.not_lt.mpr hw.1)
      · exact hw.2
    refine zv_iconst (n := 415) dL_changes_414 rfl (v := 0) (by decide) ?_
    refine zv_zret dL_changes_415 rfl rfl (by decide) (by decide) ?_
    exact zIi ⟨Or.inr ⟨rfl, hw2⟩, hz⟩
  · skip
    have hw2 : ∃ T, zVo M8 Z b C T ((P :: U).take 8) X := by
      rcases hw with hw | hw
      · exact hw.2
      · exact absurd hw.1 h407
    refine zv_iconst (n := 411) dL_changes_410 rfl (v := 1) (by decide) ?_
    refine zv_goto (tgt := 415) dL_changes_411 (by decide) ?_
    refine zv_zret dL_changes_415 rfl rfl (by decide) (by decide) ?_
    exact zIi ⟨Or.inl ⟨rfl, hw2⟩, hz⟩

set_option maxRecDepth 100000 in
set_option maxHeartbeats 4000000 in
theorem k_ch_331b {σ : zSg} {M : zM} {Z : Nat → Prop} {b : Nat → Nat} {C : Nat → Nat → Nat} {P : zS} {U : List zS} {X : Option zS} (hV : zVo M Z b C P U X) (y2 y3 y4 x : Int32) : zV μL_changes (15, 30, 4000) σ (zI9 (fun w M' => ((w = 1 ∧ ∃ T, zVo M' Z b C T ((P :: U).take 8) X) ∨ (w = 0 ∧ zVo M' Z b C P U X)) ∧ zKe M M' Z)) M 0 0 371 [(4, .int y4), (3, .int y3), (2, .int y2), (0, .ref (b 0)), (1, .int x)] [.ref (b 0)] := by
  refine zv_new (n := 374) (kc' := 1) (ks' := 4) dL_changes_371 rfl nL_265 rfl rfl (by decide) (by decide) (fun q0 hq0 => ?_)
  refine zv_dup (n := 375) dL_changes_374 rfl rfl ?_
  refine zv_callIF0 (n := 378) (As := []) (rest := [.ref q0, .ref (b 0)]) (kc' := 2) (ks' := 20) dL_changes_375 rfl (c_J4_init (h := q0) zup_s) rfl rfl kJ4_init_da8c8 lL_267 rfl rfl ⟨by decide, by decide⟩ (Nat.le_of_ble_eq_true rfl) rfl rfl (by decide) (by decide) (fun M2 hq => ?_)
  obtain ⟨v0, hv0, hB0, fr0⟩ := hq
  have hd2 := zBd.new hq0 hv0 hB0 fr0
  obtain ⟨fs2, hb2⟩ := hd2.hb
  refine zv_ldcSW (n := 381) (j := 1) dL_changes_378 rfl rfl rfl rfl ?_
  refine zv_callVF (n := 384) (As := [.ref (zK σ 1)]) (rest := [.ref (b 0)]) (kc' := 3) (ks' := 170) dL_changes_381 rfl (c_J4_appendS hd2.2.2.2 (i := 1) (by decide) (Or.inl (Nat.le_of_ble_eq_true rfl))) rfl kJ4_append_15ec4 lL_270 hb2 rfl rfl rfl ⟨by decide, by decide⟩ (Nat.le_of_ble_eq_true rfl) rfl rfl (by decide) (by decide) (fun M3 hq => ?_)
  obtain ⟨v1, hB1, hG1⟩ := hq
  have hd3 := hd2.gr hB1 hG1
  obtain ⟨fs3, hb3⟩ := hd3.hb
  obtain ⟨j, hj, ej⟩ := fSome_in (x >>> (4 &&& 31)) (n := 6) (by decide) (by decide)
  refine zv_iload_n (n := 385) dL_changes_384 rfl rfl ?_
  refine zv_iconst (n := 386) dL_changes_385 rfl (v := 4) (by decide) ?_
  refine zv_ishr (n := 387) dL_changes_386 rfl ?_
  refine zv_bipush (n := 389) dL_changes_387 rfl (v := 6) (by decide) ?_
  refine zv_callSP (n := 392) (As := [.int (x >>> (4 &&& 31)), .int 6]) (rest := [.ref q0, .ref (b 0)]) (kc' := 3) (ks' := 170) dL_changes_389 rfl (c_L_some _ _ (by decide)) rfl kL_some lL_172 rfl rfl ⟨by decide, by decide⟩ (Nat.le_of_ble_eq_true rfl) rfl rfl (by decide) (by decide) ?_
  rw [show fSome (x >>> (4 &&& 31)) 6 = nI j from ej]
  refine zv_callVF (n := 395) (As := [.int (nI j)]) (rest := [.ref (b 0)]) (kc' := 4) (ks' := 320) dL_changes_392 rfl (c_J4_appendI hd3.2.2.2 (k := j) (by omega) (Or.inl (by rw [fKn_v.2.1, dg1 (by omega)]; exact Nat.le_of_ble_eq_true rfl))) rfl kJ4_append_bf812 lL_274 hb3 rfl rfl rfl ⟨by decide, by decide⟩ (Nat.le_of_ble_eq_true rfl) rfl rfl (by decide) (by decide) (fun M4 hq => ?_)
  obtain ⟨v2, hB2, hG2⟩ := hq
  have hd4 := hd3.gr hB2 hG2
  obtain ⟨fs4, hb4⟩ := hd4.hb
  refine zv_ldcSW (n := 398) (j := 2) dL_changes_395 rfl rfl rfl rfl ?_
  refine zv_callVF (n := 401) (As := [.ref (zK σ 2)]) (rest := [.ref (b 0)]) (kc' := 5) (ks' := 470) dL_changes_398 rfl (c_J4_appendS hd4.2.2.2 (i := 2) (by decide) (Or.inl (by rw [fKn_v.2.1, fKn_v.2.2.1, dg1 (by omega)]; exact Nat.le_of_ble_eq_true rfl))) rfl kJ4_append_15ec4 lL_270 hb4 rfl rfl rfl ⟨by decide, by decide⟩ (Nat.le_of_ble_eq_true rfl) rfl rfl (by decide) (by decide) (fun M44 hq => ?_)
  obtain ⟨v3, hB3, hG3⟩ := hq
  have hd5 := hd4.gr hB3 hG3
  obtain ⟨fs5, hb5⟩ := hd5.hb
  refine zv_callVE (n := 404) (As := []) (rest := [.ref (b 0)]) (kc' := 7) (ks' := 624) dL_changes_401 rfl (c_J4_toString hd5.2.2.2 (by rw [fKn_v.2.1, fKn_v.2.2.1, dg1 (by omega)]; decide)) rfl kJ4_toString_0e30d lL_277 hb5 rfl rfl rfl ⟨by decide, by decide⟩ (Nat.le_of_ble_eq_true rfl) rfl rfl (by decide) (by decide) (fun v9 M5 hq => ?_)
  obtain ⟨q5, v5, rfl, hq5, hv5, hm5, fr5⟩ := hq
  have hle5 : ∀ x e, M x = some e → M5 x = some e := fun x e hx => by
    have h9 := hd5.1 x e hx
    rw [fr5 x (fun e1 => by rw [e1, hq5] at h9; cases h9) (fun e1 => by rw [e1, hv5] at h9; cases h9)]
    exact h9
  have hq50 : M q5 = none := by
    cases hM : M q5 with
    | none => rfl
    | some e9 => rw [hd5.1 _ _ hM] at hq5; cases hq5
  have hv50 : M v5 = none := by
    cases hM : M v5 with
    | none => rfl
    | some e9 => rw [hd5.1 _ _ hM] at hv5; cases hv5
  have hV5 : zVo M5 (fun a => Z a ∨ a = q5 ∨ a = v5) b C P U X := hV.grow hle5 (fun a ha => by
    rcases ha with ha | rfl | rfl
    · exact Or.inl ha
    · exact Or.inr ⟨hq50, by rw [hm5.obj]; exact (fun e => nomatch e)⟩
    · obtain ⟨a5, -, m2, -⟩ := hm5
      exact Or.inr ⟨hv50, by rw [m2]; exact (fun e => nomatch e)⟩)
  obtain ⟨ea5, fa5, t5, u5, k5, hW5⟩ := hV5
  have hasc : fAsc (sb_cat (sb_cat (sb_cat (fun _ => 0) 0 (fK 1)) (0 + fKn 1) (sb_dec j)) (0 + fKn 1 + sb_dg j) (fK 2)) (0 + fKn 1 + sb_dg j + fKn 2) := fAsc_cat (fAsc_cat (fAsc_cat (fun j hj => absurd hj (Nat.not_lt_zero _)) (fun j hj => fK_asc (by decide) hj)) (fun j _ => sb_dec_asc)) (fun j hj => fK_asc (by decide) hj)
  refine zv_callSI (n := 407) (As := [.ref (b 0), .ref q5]) (rest := []) (kc' := 28) (ks' := 3630) dL_changes_404 rfl (c_runsM hW5 hm5 (Or.inr (Or.inl rfl)) (Or.inr (Or.inr rfl)) hasc (by rw [fKn_v.2.1, fKn_v.2.2.1, dg1 (by omega)]; decide) (fun M6 hV6 hz6 => (c_L_run_any hV6).post (fun o M7 h7 => (show zI9 (fun w M7 => zCw M Z b C P U X w M7) o M7 from by obtain ⟨w7, e7, f7⟩ := h7; exact ⟨w7, e7, zCw_of (zRw_tr f7 hz6) hle5 (fun a ha => ⟨Or.inl ha, hV.nn ha⟩)⟩)))) rfl kL_runs lL_285 rfl rfl ⟨by decide, by decide⟩ (Nat.le_of_ble_eq_true rfl) rfl rfl (by decide) (by decide) (fun w1 M8 hq => ?_)
  obtain ⟨hw, hz⟩ := hq
  refine zv_if_lt (n := 410) (tgt := 414) dL_changes_407 (by decide) rfl (fun h407 => ?_) (fun h407 => ?_)
  · skip
    have hw2 : zVo M8 Z b C P U X := by
      rcases hw with hw | hw
      · exact absurd h407 (Int32.not_lt.mpr hw.1)
      · exact hw.2
    refine zv_iconst (n := 415) dL_changes_414 rfl (v := 0) (by decide) ?_
    refine zv_zret dL_changes_415 rfl rfl (by decide) (by decide) ?_
    exact zIi ⟨Or.inr ⟨rfl, hw2⟩, hz⟩
  · skip
    have hw2 : ∃ T, zVo M8 Z b C T ((P :: U).take 8) X := by
      rcases hw with hw | hw
      · exact hw.2
      · exact absurd hw.1 h407
    refine zv_iconst (n := 411) dL_changes_410 rfl (v := 1) (by decide) ?_
    refine zv_goto (tgt := 415) dL_changes_411 (by decide) ?_
    refine zv_zret dL_changes_415 rfl rfl (by decide) (by decide) ?_
    exact zIi ⟨Or.inl ⟨rfl, hw2⟩, hz⟩

set_option maxRecDepth 100000 in
set_option maxHeartbeats 4000000 in
theorem k_ch_331 {σ : zSg} {M : zM} {Z : Nat → Prop} {b : Nat → Nat} {C : Nat → Nat → Nat} {P : zS} {U : List zS} {X : Option zS} (hV : zVo M Z b C P U X) (y2 y3 y4 x : Int32) : zV μL_changes (15, 30, 4000) σ (zI9 (fun w M' => ((w = 1 ∧ ∃ T, zVo M' Z b C T ((P :: U).take 8) X) ∨ (w = 0 ∧ zVo M' Z b C P U X)) ∧ zKe M M' Z)) M 0 0 331 [(4, .int y4), (3, .int y3), (2, .int y2), (0, .ref (b 0)), (1, .int x)] [] := by
  refine zv_aload_n (n := 332) dL_changes_331 rfl rfl ?_
  refine zv_iload_n (n := 333) dL_changes_332 rfl rfl ?_
  refine zv_bipush (n := 335) dL_changes_333 rfl (v := 6) (by decide) ?_
  refine zv_ishr (n := 336) dL_changes_335 rfl ?_
  refine zv_iconst (n := 337) dL_changes_336 rfl (v := 1) (by decide) ?_
  refine zv_iand (n := 338) dL_changes_337 rfl ?_
  refine zv_if_ne (n := 341) (tgt := 371) dL_changes_338 (by decide) rfl (fun h338 => ?_) (fun h338 => ?_)
  · skip
    exact k_ch_331b hV y2 y3 y4 x
  · skip
    exact k_ch_331a hV y2 y3 y4 x

theorem c_V_count {σ : zSg} {M : zM} {Z : Nat → Prop} {b : Nat → Nat} {C : Nat → Nat → Nat} {P : zS} {U : List zS} {X : Option zS} (hV : zVo M Z b C P U X) : zCon μX8_rackCount (5, 0, 0) σ [.ref (b 0)] M (zP (some (.int (P 0))) M) := by
  obtain ⟨ea, fa, t, u, k, S, nw, un, hs, hP, ho, rfl, rfl, rfl⟩ := hV
  exact c_X8_rackCount hP

set_option maxRecDepth 100000 in
set_option maxHeartbeats 4000000 in
theorem c_changes {σ : zSg} {M : zM} {Z : Nat → Prop} {b : Nat → Nat} {C : Nat → Nat → Nat} {P : zS} {U : List zS} {X : Option zS} (hV : zVo M Z b C P U X) (x : Int32) : zCon μL_changes (15, 30, 4000) σ [.ref (b 0), .int x] M (zI9 (fun w M' => ((w = 1 ∧ ∃ T, zVo M' Z b C T ((P :: U).take 8) X) ∨ (w = 0 ∧ zVo M' Z b C P U X)) ∧ zKe M M' Z)) := by
  obtain ⟨fs, hb⟩ := hV.o
  have hO := hV.ok
  obtain ⟨j, hj, ej⟩ := fSome_in x (n := 24) (by decide) (by decide)
  have hcp : ¬ P 0 + 1 = 0 := fun e => by
    have h2 := hO.1.2
    rw [hO.1.1, nI_1] at e
    exact nI_ne0 (by omega) (by omega) e
  refine zCon.of (plainFor_of_name (by decide)) rfl (Nat.le_of_ble_eq_true rfl) ?_
  change zV _ _ _ _ _ 0 0 0 [(0, .ref (b 0)), (1, .int x)] []
  refine zv_iload_n (n := 1) dL_changes_0 rfl rfl ?_
  refine zv_iconst (n := 2) dL_changes_1 rfl (v := 4) (by decide) ?_
  refine zv_ishr (n := 3) dL_changes_2 rfl ?_
  refine zv_aload_n (n := 4) dL_changes_3 rfl rfl ?_
  refine zv_callVP (n := 7) (As := []) (rest := [.int (x >>> (4 &&& 31))]) (kc' := 0) (ks' := 0) dL_changes_4 rfl (c_V_count hV) rfl kX8_rackCount lL_188 hb rfl rfl rfl ⟨by decide, by decide⟩ (Nat.le_of_ble_eq_true rfl) rfl rfl (by decide) (by decide) ?_
  refine zv_iconst (n := 8) dL_changes_7 rfl (v := 1) (by decide) ?_
  refine zv_iadd (n := 9) dL_changes_8 rfl ?_
  refine zv_callSP (n := 12) (As := [.int (x >>> (4 &&& 31)), .int ((P 0) + 1)]) (rest := []) (kc' := 0) (ks' := 0) dL_changes_9 rfl (c_L_some _ _ hcp) rfl kL_some lL_172 rfl rfl ⟨by decide, by decide⟩ (Nat.le_of_ble_eq_true rfl) rfl rfl (by decide) (by decide) ?_
  refine zv_istore_n (n := 13) (lv' := [(2, .int (fSome (x >>> (4 &&& 31)) ((P 0) + 1))), (0, .ref (b 0)), (1, .int x)]) dL_changes_12 rfl (by decide) rfl ?_
  refine zv_iload_n (n := 14) dL_changes_13 rfl rfl ?_
  refine zv_bipush (n := 16) dL_changes_14 rfl (v := 8) (by decide) ?_
  refine zv_ishr (n := 17) dL_changes_16 rfl ?_
  refine zv_aload_n (n := 18) dL_changes_17 rfl rfl ?_
  refine zv_callVP (n := 21) (As := []) (rest := [.int (x >>> (8 &&& 31))]) (kc' := 0) (ks' := 0) dL_changes_18 rfl (c_V_count hV) rfl kX8_rackCount lL_188 hb rfl rfl rfl ⟨by decide, by decide⟩ (Nat.le_of_ble_eq_true rfl) rfl rfl (by decide) (by decide) ?_
  refine zv_iconst (n := 22) dL_changes_21 rfl (v := 1) (by decide) ?_
  refine zv_iadd (n := 23) dL_changes_22 rfl ?_
  refine zv_callSP (n := 26) (As := [.int (x >>> (8 &&& 31)), .int ((P 0) + 1)]) (rest := []) (kc' := 0) (ks' := 0) dL_changes_23 rfl (c_L_some _ _ hcp) rfl kL_some lL_172 rfl rfl ⟨by decide, by decide⟩ (Nat.le_of_ble_eq_true rfl) rfl rfl (by decide) (by decide) ?_
  refine zv_istore_n (n := 27) (lv' := [(3, .int (fSome (x >>> (8 &&& 31)) ((P 0) + 1))), (2, .int (fSome (x >>> (4 &&& 31)) ((P 0) + 1))), (0, .ref (b 0)), (1, .int x)]) dL_changes_26 rfl (by decide) rfl ?_
  refine zv_iload_n (n := 28) dL_changes_27 rfl rfl ?_
  refine zv_iconst (n := 29) dL_changes_28 rfl (v := 4) (by decide) ?_
  refine zv_ishr (n := 30) dL_changes_29 rfl ?_
  refine zv_iconst (n := 31) dL_changes_30 rfl (v := 5) (by decide) ?_
  refine zv_callSP (n := 34) (As := [.int (x >>> (4 &&& 31)), .int 5]) (rest := []) (kc' := 0) (ks' := 0) dL_changes_31 rfl (c_L_some _ _ (by decide)) rfl kL_some lL_172 rfl rfl ⟨by decide, by decide⟩ (Nat.le_of_ble_eq_true rfl) rfl rfl (by decide) (by decide) ?_
  refine zv_istore (n := 36) (lv' := [(4, .int (fSome (x >>> (4 &&& 31)) 5)), (3, .int (fSome (x >>> (8 &&& 31)) ((P 0) + 1))), (2, .int (fSome (x >>> (4 &&& 31)) ((P 0) + 1))), (0, .ref (b 0)), (1, .int x)]) dL_changes_34 rfl (by decide) rfl ?_
  refine zv_iload_n (n := 37) dL_changes_36 rfl rfl ?_
  refine zv_bipush (n := 39) dL_changes_37 rfl (v := 24) (by decide) ?_
  refine zv_callSP (n := 42) (As := [.int x, .int 24]) (rest := []) (kc' := 0) (ks' := 0) dL_changes_39 rfl (c_L_some _ _ (by decide)) rfl kL_some lL_172 rfl rfl ⟨by decide, by decide⟩ (Nat.le_of_ble_eq_true rfl) rfl rfl (by decide) (by decide) ?_
  rw [show fSome x 24 = nI j from ej]
  have hsw : ∀ (tgt : Nat), (tgt = 128 ∨ tgt = 161 ∨ tgt = 175 ∨ tgt = 206 ∨ tgt = 229 ∨ tgt = 253 ∨ tgt = 277 ∨ tgt = 307 ∨ tgt = 331 ∨ tgt = 416) → zV μL_changes (15, 30, 4000) σ (zI9 (fun w M' => ((w = 1 ∧ ∃ T, zVo M' Z b C T ((P :: U).take 8) X) ∨ (w = 0 ∧ zVo M' Z b C P U X)) ∧ zKe M M' Z)) M 0 0 tgt [(4, .int (fSome (x >>> (4 &&& 31)) 5)), (3, .int (fSome (x >>> (8 &&& 31)) ((P 0) + 1))), (2, .int (fSome (x >>> (4 &&& 31)) ((P 0) + 1))), (0, .ref (b 0)), (1, .int x)] [] := fun tgt ht => by
    rcases ht with rfl | rfl | rfl | rfl | rfl | rfl | rfl | rfl | rfl | rfl
    · exact k_ch_128 hV _ _ _ x
    · exact k_ch_161 hV _ _ _ x
    · exact k_ch_175 hV _ _ _ x
    · exact k_ch_206 hV _ _ _ x
    · exact k_ch_229 hV _ _ _ x
    · exact k_ch_253 hV _ _ _ x
    · exact k_ch_277 hV _ _ _ x
    · exact k_ch_307 hV _ _ _ x
    · exact k_ch_331 hV _ _ _ x
    · exact k_ch_416 hV _ _ _ x
  by_cases hj18 : j < 18
  · rcases (show j = 0 ∨ j = 1 ∨ j = 2 ∨ j = 3 ∨ j = 4 ∨ j = 5 ∨ j = 6 ∨ j = 7 ∨ j = 8 ∨ j = 9 ∨ j = 10 ∨ j = 11 ∨ j = 12 ∨ j = 13 ∨ j = 14 ∨ j = 15 ∨ j = 16 ∨ j = 17 by omega) with rfl | rfl | rfl | rfl | rfl | rfl | rfl | rfl | rfl | rfl | rfl | rfl | rfl | rfl | rfl | rfl | rfl | rfl
    · exact zv_switchIn (tgt := 128) (off := 86) dL_changes_42 (by decide) (by decide) (by decide) (by decide) (hsw _ (by decide))
    · exact zv_switchIn (tgt := 128) (off := 86) dL_changes_42 (by decide) (by decide) (by decide) (by decide) (hsw _ (by decide))
    · exact zv_switchIn (tgt := 128) (off := 86) dL_changes_42 (by decide) (by decide) (by decide) (by decide) (hsw _ (by decide))
    · exact zv_switchIn (tgt := 161) (off := 119) dL_changes_42 (by decide) (by decide) (by decide) (by decide) (hsw _ (by decide))
    · exact zv_switchIn (tgt := 175) (off := 133) dL_changes_42 (by decide) (by decide) (by decide) (by decide) (hsw _ (by decide))
    · exact zv_switchIn (tgt := 175) (off := 133) dL_changes_42 (by decide) (by decide) (by decide) (by decide) (hsw _ (by decide))
    · exact zv_switchIn (tgt := 206) (off := 164) dL_changes_42 (by decide) (by decide) (by decide) (by decide) (hsw _ (by decide))
    · exact zv_switchIn (tgt := 206) (off := 164) dL_changes_42 (by decide) (by decide) (by decide) (by decide) (hsw _ (by decide))
    · exact zv_switchIn (tgt := 229) (off := 187) dL_changes_42 (by decide) (by decide) (by decide) (by decide) (hsw _ (by decide))
    · exact zv_switchIn (tgt := 229) (off := 187) dL_changes_42 (by decide) (by decide) (by decide) (by decide) (hsw _ (by decide))
    · exact zv_switchIn (tgt := 229) (off := 187) dL_changes_42 (by decide) (by decide) (by decide) (by decide) (hsw _ (by decide))
    · exact zv_switchIn (tgt := 253) (off := 211) dL_changes_42 (by decide) (by decide) (by decide) (by decide) (hsw _ (by decide))
    · exact zv_switchIn (tgt := 253) (off := 211) dL_changes_42 (by decide) (by decide) (by decide) (by decide) (hsw _ (by decide))
    · exact zv_switchIn (tgt := 277) (off := 235) dL_changes_42 (by decide) (by decide) (by decide) (by decide) (hsw _ (by decide))
    · exact zv_switchIn (tgt := 277) (off := 235) dL_changes_42 (by decide) (by decide) (by decide) (by decide) (hsw _ (by decide))
    · exact zv_switchIn (tgt := 307) (off := 265) dL_changes_42 (by decide) (by decide) (by decide) (by decide) (hsw _ (by decide))
    · exact zv_switchIn (tgt := 331) (off := 289) dL_changes_42 (by decide) (by decide) (by decide) (by decide) (hsw _ (by decide))
    · exact zv_switchIn (tgt := 331) (off := 289) dL_changes_42 (by decide) (by decide) (by decide) (by decide) (hsw _ (by decide))
  · exact zv_switchOut (tgt := 416) dL_changes_42 (Or.inr (by rw [nI_toInt (by omega)]; omega)) (by decide) (hsw _ (by decide))


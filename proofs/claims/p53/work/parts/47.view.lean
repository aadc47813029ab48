/-! What the law sees of a planner: laid by wip/p53/m47.py. -/
/-- what undo gives back, the latest first -/
def fUl (S : Nat → zS) (nw un : Nat) : List zS := (List.range un).map (fun k => S ((nw + 9 - k) % 10))
def fOl (S : zS) : Prop := fBt (S 48) 20 60 = true
/-- the present state P, what undo gives back, the snapshot -/
def zVw (M : zM) (Z : Nat → Prop) (b : Nat → Nat) (C : Nat → Nat → Nat) (P : zS) (U : List zS) (X : Option zS) (ea fa : Int32) (t : Nat → Nat) (n : Nat) (u : Nat → Nat) (k : Nat) : Prop :=
  ∃ S nw un hs, zPl M Z b C S nw un hs ea fa t n u k ∧ (∀ i, i < 11 → fOl (S i)) ∧ S nw = P ∧ fUl S nw un = U ∧ (if hs = 0 then none else some (S 10)) = X
theorem fUl_chg {S : Nat → zS} {nw un : Nat} (hn : nw < 10) (hu : un ≤ 8) (T : zS) : fUl (va_up S (nx nw) T) (nx nw) (if un < 8 then un + 1 else 8) = (S nw :: fUl S nw un).take 8 := by
  unfold fUl
  apply List.ext_getElem
  · simp only [List.length_map, List.length_range, List.length_take, List.length_cons]
    split <;> omega
  · intro i h1 h2
    simp only [List.length_map, List.length_range] at h1
    have hi : i < 8 := by split at h1 <;> omega
    rw [List.getElem_take, List.getElem_map, List.getElem_range]
    rcases i with _ | i
    · show va_up S (nx nw) T ((nx nw + 9 - 0) % 10) = S nw
      rw [show (nx nw + 9 - 0) % 10 = nw by unfold nx; omega, va_up_ne _ _ (fun e => nx_ne hn e.symm)]
    · rw [List.getElem_cons_succ, List.getElem_map, List.getElem_range]
      rw [show (nx nw + 9 - (i + 1)) % 10 = (nw + 9 - i) % 10 by unfold nx; omega, va_up_ne _ _ (by unfold nx; omega)]
theorem fUl_keep {S : Nat → zS} {nw un : Nat} (hn : nw < 10) (hu : un ≤ 8) (T : zS) : fUl (va_up S (nx nw) T) nw un = fUl S nw un := by
  unfold fUl
  refine List.map_congr_left (fun i hi => ?_)
  have h8 := List.mem_range.mp hi
  rw [va_up_ne _ _ (by unfold nx; omega)]
theorem fUl_10 {S : Nat → zS} {nw un : Nat} (T : zS) : fUl (va_up S 10 T) nw un = fUl S nw un := by
  unfold fUl
  refine List.map_congr_left (fun i hi => ?_)
  rw [va_up_ne _ _ (by omega)]
theorem fUl_back {S : Nat → zS} {nw un : Nat} (hn : nw < 10) (h0 : 0 < un) (hu : un ≤ 8) : fUl S nw un = S (pv nw) :: fUl S (pv nw) (un - 1) := by
  obtain ⟨m, rfl⟩ : ∃ m, un = m + 1 := ⟨un - 1, by omega⟩
  unfold fUl
  apply List.ext_getElem
  · simp
  · intro i h1 h2
    simp only [List.length_map, List.length_range] at h1
    rw [List.getElem_map, List.getElem_range]
    rcases i with _ | i
    · rfl
    · rw [List.getElem_cons_succ, List.getElem_map, List.getElem_range]
      rw [show (nw + 9 - (i + 1)) % 10 = (pv nw + 9 - i) % 10 by unfold pv; omega]
theorem fUl_len {S : Nat → zS} {nw un : Nat} : (fUl S nw un).length = un := by unfold fUl; simp
/-- the state and what undo gives back behind a change -/
def fNe (r : Int32 × zS) (P : zS) (U : List zS) : zS × List zS := if fEx r.1 = none then (r.2, (P :: U).take 8) else (P, U)
theorem fEx_pos {a : Int32} (h : 0 ≤ a) : fEx a = none := by
  unfold fEx
  rw [if_neg (fun e => absurd (e ▸ h) (by decide)), if_neg (fun e => absurd (e ▸ h) (by decide)), if_neg (fun e => absurd (e ▸ h) (by decide)), if_neg (fun e => absurd (e ▸ h) (by decide))]
def fGm (a b c d x : Int32) : Int32 := if x = -1 then a else if x = -2 then b else if x = -3 then c else if x = -4 then d else x
theorem fGm_pos {a b c d x : Int32} (h : 0 ≤ x) : fGm a b c d x = x := by
  unfold fGm
  rw [if_neg (fun e => absurd (e ▸ h) (by decide)), if_neg (fun e => absurd (e ▸ h) (by decide)), if_neg (fun e => absurd (e ▸ h) (by decide)), if_neg (fun e => absurd (e ▸ h) (by decide))]
theorem fGm_1 {a b c d : Int32} : fGm a b c d (-1) = a := by unfold fGm; rw [if_pos rfl]
theorem fGm_2 {a b c d : Int32} : fGm a b c d (-2) = b := by unfold fGm; rw [if_neg (by decide), if_pos rfl]
theorem fGm_3 {a b c d : Int32} : fGm a b c d (-3) = c := by unfold fGm; rw [if_neg (by decide), if_neg (by decide), if_pos rfl]
theorem fGm_4 {a b c d : Int32} : fGm a b c d (-4) = d := by unfold fGm; rw [if_neg (by decide), if_neg (by decide), if_neg (by decide), if_pos rfl]
theorem fEx_1 : fEx (-1) = some "java/lang/IndexOutOfBoundsException" := by unfold fEx; rw [if_pos rfl]
theorem fEx_2 : fEx (-2) = some "java/lang/IllegalArgumentException" := by unfold fEx; rw [if_neg (by decide), if_pos rfl]
theorem fEx_3 : fEx (-3) = some "java/lang/IllegalStateException" := by unfold fEx; rw [if_neg (by decide), if_neg (by decide), if_pos rfl]
theorem fEx_4 : fEx (-4) = some "java/lang/UnsupportedOperationException" := by unfold fEx; rw [if_neg (by decide), if_neg (by decide), if_neg (by decide), if_pos rfl]
theorem fNe_pos {r : Int32 × zS} {P : zS} {U : List zS} (h : 0 ≤ r.1) : fNe r P U = (r.2, (P :: U).take 8) := if_pos (fEx_pos h)
theorem fNe_x {r : Int32 × zS} {P : zS} {U : List zS} {E : String} (h : fEx r.1 = some E) : fNe r P U = (P, U) := if_neg (by rw [h]; exact (fun e => nomatch e))

/-- what a change answers -/
def fIn (L : List Int32) (x : Int32) : Prop := x ∈ L ∨ 0 ≤ x
theorem fBt0 {x lo hi : Int32} (h : fBt x lo hi = true) (h0 : 0 ≤ lo.toInt) : 0 ≤ x := by
  have := (fBt_iff.mp h).1
  rw [Int32.le_iff_toInt_le]
  exact Int.le_trans h0 this
theorem fSpd_0 {S : zS} (h : zOk S) (a : Int32) : 0 ≤ fSpd S a := by
  unfold fSpd fAt
  split
  · decide
  · split
    · decide
    · rename_i h1 h2
      have h4 := vp_of h1 h2 (by decide)
      obtain ⟨j, hj, rfl⟩ := nI_of h1
      have hj4 : j < 4 := Nat.lt_of_not_le (fun q => h2 (nI_le q hj))
      rw [nI_clamp hj]
      exact fBt0 (h.2.2.1 j hj4) (by decide)
theorem fPt_nn {S : zS} (h : zOk S) (a : Int32) : 0 ≤ fPt S a := by
  unfold fPt fAt
  split
  · decide
  · split
    · decide
    · rename_i h1 h2
      obtain ⟨j, hj, rfl⟩ := nI_of h1
      have hj3 : j < 3 := Nat.lt_of_not_le (fun q => h2 (nI_le q hj))
      rw [nI_clamp hj]
      have g1 := fBt_iff.mp h.2.2.2.1
      have g2 := fBt_iff.mp h.2.2.2.2.1
      have g3 := fBt_iff.mp h.2.2.2.2.2
      have e0 : (0 : Int32).toInt = 0 := by decide
      rw [Int32.le_iff_toInt_le, e0]
      rw [e0] at g1
      rcases (show j = 0 ∨ j = 1 ∨ j = 2 by omega) with rfl | rfl | rfl
      · exact g1.1
      · exact Int.le_trans g1.1 g2.1
      · exact Int.le_trans g1.1 (Int.le_trans g2.1 g3.1)
theorem fAdd_in {S : zS} (h : zOk S) (a p l : Int32) : fIn [-1, -2, -3, -4] (fAdd S a p l).1 := by
  unfold fAdd
  split
  · exact Or.inl (show (-1 : Int32) ∈ [-1, -2, -3, -4] by decide)
  · split
    · exact Or.inl (show (-2 : Int32) ∈ [-1, -2, -3, -4] by decide)
    · split
      · exact Or.inl (show (-2 : Int32) ∈ [-1, -2, -3, -4] by decide)
      · split
        · exact Or.inl (show (-3 : Int32) ∈ [-1, -2, -3, -4] by decide)
        · split
          · refine Or.inr (show 0 ≤ S 0 from ?_)
            have h2 := h.1.2
            rw [h.1.1]
            exact nI_pos' (by omega)
          · exact Or.inl (show (-4 : Int32) ∈ [-1, -2, -3, -4] by decide)
theorem fRem_in {S : zS} (h : zOk S) (x : Int32) : fIn [-1] (fRem S x).1 := by
  unfold fRem
  split
  · exact Or.inl (show (-1 : Int32) ∈ [-1] by decide)
  · rename_i hb
    obtain ⟨j, hj, rfl⟩ := fBad_n h.1 hb
    refine Or.inr (show 0 ≤ S 0 - 1 from ?_)
    have h2 := h.1.2
    rw [h.1.1, show fCnt S = (fCnt S - 1) + 1 by omega, nI_pred]
    exact nI_pos' (by omega)
theorem fMov_in {S : zS} (h : zOk S) (x a p : Int32) : fIn [-1, -2, -4] (fMov S x a p).1 := by
  unfold fMov
  split
  · exact Or.inl (show (-1 : Int32) ∈ [-1, -2, -4] by decide)
  · rename_i hb
    split
    · exact Or.inl (show (-1 : Int32) ∈ [-1, -2, -4] by decide)
    · split
      · exact Or.inl (show (-2 : Int32) ∈ [-1, -2, -4] by decide)
      · split
        · obtain ⟨j, hj, rfl⟩ := fBad_n h.1 hb
          have h2 := h.1.2
          refine Or.inr (show 0 ≤ S (1 + 3 * (nI j).toNatClampNeg) from ?_)
          rw [nI_clamp (by omega)]
          exact fBt0 (h.2.1 j (by omega)).1 (by decide)
        · exact Or.inl (show (-4 : Int32) ∈ [-1, -2, -4] by decide)
theorem fLod_in {S : zS} (h : zOk S) (x l : Int32) : fIn [-1, -2] (fLod S x l).1 := by
  unfold fLod
  split
  · exact Or.inl (show (-1 : Int32) ∈ [-1, -2] by decide)
  · rename_i hb
    split
    · exact Or.inl (show (-2 : Int32) ∈ [-1, -2] by decide)
    · obtain ⟨j, hj, rfl⟩ := fBad_n h.1 hb
      have h2 := h.1.2
      refine Or.inr (show 0 ≤ S (3 + 3 * (nI j).toNatClampNeg) from ?_)
      rw [nI_clamp (by omega)]
      exact fBt0 (h.2.1 j (by omega)).2.2 (by decide)
theorem fSnd_in {S : zS} (h : zOk S) (x y l : Int32) : fIn [-1, -2, -4] (fSnd S x y l).1 := by
  unfold fSnd
  split
  · exact Or.inl (show (-1 : Int32) ∈ [-1, -2, -4] by decide)
  · split
    · exact Or.inl (show (-1 : Int32) ∈ [-1, -2, -4] by decide)
    · rename_i hb
      split
      · exact Or.inl (show (-2 : Int32) ∈ [-1, -2, -4] by decide)
      · split
        · exact Or.inl (show (-2 : Int32) ∈ [-1, -2, -4] by decide)
        · rename_i hl
          split
          · exact Or.inl (show (-4 : Int32) ∈ [-1, -2, -4] by decide)
          · split
            · exact Or.inl (show (-4 : Int32) ∈ [-1, -2, -4] by decide)
            · obtain ⟨j, hj, rfl⟩ := fBad_n h.1 hb
              have h2 := h.1.2
              refine Or.inr (show 0 ≤ S (3 + 3 * (nI j).toNatClampNeg) + l from ?_)
              rw [nI_clamp (by omega)]
              have g1 := fBt_iff.mp (h.2.1 j (by omega)).2.2
              have g2 := fBt_iff.mp (bt_f hl)
              have e0 : (0 : Int32).toInt = 0 := by decide
              have e1 : (1 : Int32).toInt = 1 := by decide
              have e2 : (20 : Int32).toInt = 20 := by decide
              rw [e0, e2] at g1
              rw [e1, e2] at g2
              rw [Int32.le_iff_toInt_le, e0, t_add (by omega) (by omega)]
              omega
theorem fLim_in {S : zS} (h : fOl S) (v : Int32) : fIn [-2] (fLim S v).1 := by
  unfold fLim
  split
  · exact Or.inl (show (-2 : Int32) ∈ [-2] by decide)
  · exact Or.inr (show 0 ≤ S 48 from fBt0 h (by decide))
theorem fFan_in {S : zS} (h : zOk S) (a v : Int32) : fIn [-1, -2] (fFan S a v).1 := by
  unfold fFan
  split
  · exact Or.inl (show (-1 : Int32) ∈ [-1, -2] by decide)
  · split
    · exact Or.inl (show (-2 : Int32) ∈ [-1, -2] by decide)
    · exact Or.inr (fSpd_0 h a)
theorem fCrv_in {S : zS} (h : zOk S) (p v : Int32) : fIn [-1, -2, -4] (fCrv S p v).1 := by
  unfold fCrv
  split
  · exact Or.inl (show (-1 : Int32) ∈ [-1, -2, -4] by decide)
  · split
    · exact Or.inl (show (-2 : Int32) ∈ [-1, -2, -4] by decide)
    · split
      · exact Or.inl (show (-4 : Int32) ∈ [-1, -2, -4] by decide)
      · exact Or.inr (fPt_nn h p)
theorem fPas_in {S : zS} (m : Int32) : fIn [-2] (fPas S m).1 := by
  unfold fPas
  split
  · exact Or.inl (show (-2 : Int32) ∈ [-2] by decide)
  · rename_i hb
    exact Or.inr (show 0 ≤ m from fBt0 (bt_f hb) (by decide))
/-! the limit stays in its bounds -/
theorem fOl_eq {S T : zS} (h : fOl S) (e : T 48 = S 48) : fOl T := by
  unfold fOl
  rw [e]
  exact h
theorem fAdd_ol {S : zS} (hN : zNn S) (h : fOl S) (a p l : Int32) : fOl (fAdd S a p l).2 := by
  have h2 := hN.2
  refine fOl_eq h ?_
  unfold fAdd
  split
  · rfl
  · split
    · rfl
    · split
      · rfl
      · split
        · rfl
        · split
          · show fApp S a p l 48 = S 48
            unfold fApp
            rw [u_n (by decide), u_n (by omega), u_n (by omega), u_n (by omega)]
          · rfl
theorem fDelF_48 : ∀ (k i : Nat) (S : zS), i + k < 12 → fDelF S k i 48 = S 48 := by
  intro k
  induction k with
  | zero => intro i S _; rfl
  | succ k ih =>
    intro i S h
    show fDelF (fCpR S i (i + 1)) k (i + 1) 48 = S 48
    rw [ih (i + 1) _ (by omega)]
    unfold fCpR
    rw [u_n (by omega), u_n (by omega), u_n (by omega)]
theorem fRem_ol {S : zS} (hN : zNn S) (h : fOl S) (x : Int32) : fOl (fRem S x).2 := by
  have h2 := hN.2
  refine fOl_eq h ?_
  unfold fRem
  split
  · rfl
  · rename_i hb
    obtain ⟨j, hj, rfl⟩ := fBad_n hN hb
    show fDel S (nI j).toNatClampNeg 48 = S 48
    rw [nI_clamp (by omega)]
    unfold fDel
    rw [u_n (by decide), fDelF_48 _ _ _ (by omega)]
theorem fMov_ol {S : zS} (hN : zNn S) (h : fOl S) (x a p : Int32) : fOl (fMov S x a p).2 := by
  have h2 := hN.2
  refine fOl_eq h ?_
  unfold fMov
  split
  · rfl
  · rename_i hb
    split
    · rfl
    · split
      · rfl
      · split
        · obtain ⟨j, hj, rfl⟩ := fBad_n hN hb
          show upd (upd S (1 + 3 * (nI j).toNatClampNeg) a) (2 + 3 * (nI j).toNatClampNeg) p 48 = S 48
          rw [nI_clamp (by omega), u_n (by omega), u_n (by omega)]
        · rfl
theorem fLod_ol {S : zS} (hN : zNn S) (h : fOl S) (x l : Int32) : fOl (fLod S x l).2 := by
  have h2 := hN.2
  refine fOl_eq h ?_
  unfold fLod
  split
  · rfl
  · rename_i hb
    split
    · rfl
    · obtain ⟨j, hj, rfl⟩ := fBad_n hN hb
      show upd S (3 + 3 * (nI j).toNatClampNeg) l 48 = S 48
      rw [nI_clamp (by omega), u_n (by omega)]
theorem fSnd_ol {S : zS} (hN : zNn S) (h : fOl S) (x y l : Int32) : fOl (fSnd S x y l).2 := by
  have h2 := hN.2
  refine fOl_eq h ?_
  unfold fSnd
  split
  · rfl
  · rename_i ha
    split
    · rfl
    · rename_i hb
      split
      · rfl
      · split
        · rfl
        · split
          · rfl
          · split
            · rfl
            · obtain ⟨i, hi, rfl⟩ := fBad_n hN ha
              obtain ⟨j, hj, rfl⟩ := fBad_n hN hb
              show upd (upd S (3 + 3 * (nI i).toNatClampNeg) _) (3 + 3 * (nI j).toNatClampNeg) _ 48 = S 48
              rw [nI_clamp (by omega), nI_clamp (by omega), u_n (by omega), u_n (by omega)]
theorem fLim_ol {S : zS} (h : fOl S) (v : Int32) : fOl (fLim S v).2 := by
  unfold fLim
  split
  · exact h
  · rename_i hb
    show fBt (upd S 48 v 48) 20 60 = true
    rw [u_s]
    exact bt_f hb
theorem fFan_ol {S : zS} (h : fOl S) (a v : Int32) : fOl (fFan S a v).2 := by
  refine fOl_eq h ?_
  unfold fFan
  split
  · rfl
  · rename_i ha
    split
    · rfl
    · obtain ⟨j, hj, rfl⟩ := fBt_n (n := 3) (by decide) (bt_f ha)
      show upd S (37 + (nI j).toNatClampNeg) v 48 = S 48
      rw [nI_clamp (by omega), u_n (by omega)]
theorem fCrv_ol {S : zS} (h : fOl S) (p v : Int32) : fOl (fCrv S p v).2 := by
  refine fOl_eq h ?_
  unfold fCrv
  split
  · rfl
  · rename_i ha
    split
    · rfl
    · split
      · rfl
      · obtain ⟨j, hj, rfl⟩ := fBt_n (n := 2) (by decide) (bt_f ha)
        show upd S (41 + (nI j).toNatClampNeg) v 48 = S 48
        rw [nI_clamp (by omega), u_n (by omega)]
theorem fPsI_48 {S : zS} {j n : Nat} (hj : j < 4) : fPsI S j n 48 = S 48 := by
  unfold fPsI
  rw [u_n (by omega)]
  unfold fPsR
  rw [fPsF_n (by decide)]
theorem fPas_ol {S : zS} (h : fOl S) (m : Int32) : fOl (fPas S m).2 := by
  refine fOl_eq h ?_
  unfold fPas
  split
  · rfl
  · show upd (fPs4 S m.toNatClampNeg) 49 (fPs4 S m.toNatClampNeg 49 + m) 48 = S 48
    rw [u_n (by decide)]
    unfold fPs4
    rw [fPsI_48 (by decide), fPsI_48 (by decide), fPsI_48 (by decide), fPsI_48 (by decide)]
theorem fPer_ol {S : zS} (hO : zOk S) (h : fOl S) (f : Nat → Int32) (q : Nat) : fOl (fPer S f q).2 := by
  unfold fPer
  split
  · exact fAdd_ol hO.1 h _ _ _
  · exact fRem_ol hO.1 h _
  · exact fMov_ol hO.1 h _ _ _
  · exact fLod_ol hO.1 h _ _
  · exact fSnd_ol hO.1 h _ _ _
  · exact fFan_ol h _ _
  · exact fCrv_ol h _ _
  · exact fLim_ol h _
  · exact fPas_ol h _
  · exact fPas_ol h _
theorem fPo_ol {t : Nat → Nat} {n : Nat} : ∀ (l d p r nc : Nat) (f : Nat → Int32) (T : zS), zOk T → fOl T → fOl (fPo t n l d p r nc f T).2 := by
  intro l
  induction l with
  | zero => intro d p r nc f T _ h; exact h
  | succ l ih =>
    intro d p r nc f T hO h
    rw [fPo]
    split
    · split
      · exact fPer_ol hO h _ _
      · exact ih _ _ _ _ _ _ (fPer_ok hO _ _) (fPer_ol hO h _ _)
    · exact h

section
variable {M : zM} {Z : Nat → Prop} {b : Nat → Nat} {C : Nat → Nat → Nat} {S : Nat → zS} {nw un : Nat} {hs ea fa : Int32} {t : Nat → Nat} {n : Nat} {u : Nat → Nat} {k : Nat}
theorem zVw.of (h : zPl M Z b C S nw un hs ea fa t n u k) (ho : ∀ i, i < 11 → fOl (S i)) : zVw M Z b C (S nw) (fUl S nw un) (if hs = 0 then none else some (S 10)) ea fa t n u k := ⟨S, nw, un, hs, h, ho, rfl, rfl, rfl⟩
theorem fOl_up {T : zS} {j : Nat} (ho : ∀ i, i < 11 → fOl (S i)) (hT : fOl T) : ∀ i, i < 11 → fOl (va_up S j T i) := fun i hi => by
  by_cases e : i = j
  · rw [e, va_up_self]; exact hT
  · rw [va_up_ne _ _ e]; exact ho i hi
/-- a change made -/
theorem vw_made {T : zS} {M' : zM} {ea' fa' : Int32} {t' : Nat → Nat} {n' : Nat} {u' : Nat → Nat} {k' : Nat} (h0 : zPl M Z b C S nw un hs ea fa t n u k) (ho : ∀ i, i < 11 → fOl (S i)) (hT : fOl T) (h : zPl M' Z b C (va_up S (nx nw) T) (nx nw) (if un < 8 then un + 1 else 8) hs ea' fa' t' n' u' k') : zVw M' Z b C T ((S nw :: fUl S nw un).take 8) (if hs = 0 then none else some (S 10)) ea' fa' t' n' u' k' := by
  have h1 := h0.2.1.1
  have h2 := h0.2.1.2.1
  have hx := nx_lt nw
  refine ⟨_, _, _, _, h, fOl_up ho hT, va_up_self _ _ _, fUl_chg h1 h2 T, ?_⟩
  rw [va_up_ne _ _ (by omega)]
/-- a draft left -/
theorem vw_left {T : zS} {M' : zM} {ea' fa' : Int32} {t' : Nat → Nat} {n' : Nat} {u' : Nat → Nat} {k' : Nat} (h0 : zPl M Z b C S nw un hs ea fa t n u k) (ho : ∀ i, i < 11 → fOl (S i)) (hT : fOl T) (h : zPl M' Z b C (va_up S (nx nw) T) nw un hs ea' fa' t' n' u' k') : zVw M' Z b C (S nw) (fUl S nw un) (if hs = 0 then none else some (S 10)) ea' fa' t' n' u' k' := by
  have h1 := h0.2.1.1
  have h2 := h0.2.1.2.1
  have hx := nx_lt nw
  refine ⟨_, _, _, _, h, fOl_up ho hT, va_up_ne _ _ (fun e => nx_ne h1 e.symm), fUl_keep h1 h2 T, ?_⟩
  rw [va_up_ne _ _ (by omega)]
abbrev zNv (M : zM) (Z : Nat → Prop) (b : Nat → Nat) (C : Nat → Nat → Nat) (P : zS) (U : List zS) (X : Option zS) (ea fa : Int32) (t : Nat → Nat) (n : Nat) (u : Nat → Nat) (k : Nat) (r : Int32 × zS) : zM → Prop := fun M' => zVw M' Z b C (fNe r P U).1 (fNe r P U).2 X ea fa t n u k ∧ zKe M M' Z
theorem chg_x {r : Int32 × zS} {E : String} (h0 : zPl M Z b C S nw un hs ea fa t n u k) (ho : ∀ i, i < 11 → fOl (S i)) (hT : fOl r.2) (h : fEx r.1 = some E) (o : zO) (M' : zM) (hc : zChg M Z b C S nw un hs ea fa t n u k r o M') : zX9 E (zNv M Z b C (S nw) (fUl S nw un) (if hs = 0 then none else some (S 10)) ea fa t n u k r) o M' := by
  obtain ⟨e, hq⟩ := hc.2.1 E h
  refine ⟨e, ?_, hc.1⟩
  rw [fNe_x h]
  exact vw_left h0 ho hT hq
theorem chg_n {r : Int32 × zS} (h0 : zPl M Z b C S nw un hs ea fa t n u k) (ho : ∀ i, i < 11 → fOl (S i)) (hT : fOl r.2) (h : 0 ≤ r.1) (o : zO) (M' : zM) (hc : zChg M Z b C S nw un hs ea fa t n u k r o M') : zF (some (.int r.1)) (zNv M Z b C (S nw) (fUl S nw un) (if hs = 0 then none else some (S 10)) ea fa t n u k r) o M' := by
  obtain ⟨e, hq⟩ := hc.2.2 (fEx_pos h)
  refine ⟨e, ?_, hc.1⟩
  rw [fNe_pos h]
  exact vw_made h0 ho hT hq
theorem adv_x {r : Int32 × zS} {E : String} (h0 : zPl M Z b C S nw un hs ea fa t n u k) (ho : ∀ i, i < 11 → fOl (S i)) (hT : fOl r.2) (h : fEx r.1 = some E) (o : zO) (M' : zM) (hc : zAdv M Z b C S nw un hs ea fa t n u k r o M') : zX9 E (zNv M Z b C (S nw) (fUl S nw un) (if hs = 0 then none else some (S 10)) ea fa t n u k r) o M' := by
  obtain ⟨e, hq⟩ := hc.2.1 E h
  refine ⟨e, ?_, hc.1⟩
  rw [fNe_x h]
  exact vw_left h0 ho hT hq
theorem adv_n {r : Int32 × zS} (h0 : zPl M Z b C S nw un hs ea fa t n u k) (ho : ∀ i, i < 11 → fOl (S i)) (hT : fOl r.2) (h : 0 ≤ r.1) (o : zO) (M' : zM) (hc : zAdv M Z b C S nw un hs ea fa t n u k r o M') : zF (some (.int (nI (fHts r.2)))) (zNv M Z b C (S nw) (fUl S nw un) (if hs = 0 then none else some (S 10)) ea fa t n u k r) o M' := by
  obtain ⟨e, hq⟩ := hc.2.2 (fEx_pos h)
  refine ⟨e, ?_, hc.1⟩
  rw [fNe_pos h]
  exact vw_made h0 ho hT hq
end
theorem zVw.ok {M : zM} {Z : Nat → Prop} {b : Nat → Nat} {C : Nat → Nat → Nat} {P : zS} {U : List zS} {X : Option zS} {ea fa : Int32} {t : Nat → Nat} {n : Nat} {u : Nat → Nat} {k : Nat} (h : zVw M Z b C P U X ea fa t n u k) : zOk P := by
  obtain ⟨S, nw, un, hs, hP, -, rfl, -, -⟩ := h
  exact hP.1.ok (by have := hP.2.1.1; omega)
theorem zVw.ol {M : zM} {Z : Nat → Prop} {b : Nat → Nat} {C : Nat → Nat → Nat} {P : zS} {U : List zS} {X : Option zS} {ea fa : Int32} {t : Nat → Nat} {n : Nat} {u : Nat → Nat} {k : Nat} (h : zVw M Z b C P U X ea fa t n u k) : fOl P := by
  obtain ⟨S, nw, un, hs, hP, ho, rfl, -, -⟩ := h
  exact ho _ (by have := hP.2.1.1; omega)
theorem zVw.o {M : zM} {Z : Nat → Prop} {b : Nat → Nat} {C : Nat → Nat → Nat} {P : zS} {U : List zS} {X : Option zS} {ea fa : Int32} {t : Nat → Nat} {n : Nat} {u : Nat → Nat} {k : Nat} (h : zVw M Z b C P U X ea fa t n u k) : ∃ fs, M (b 0) = some (.inr (10, fs)) := by
  obtain ⟨S, nw, un, hs, hP, -⟩ := h
  exact ⟨_, hP.2.2.1⟩

theorem c_L_addRack {σ : zSg} {M : zM} {Z : Nat → Prop} {b : Nat → Nat} {C : Nat → Nat → Nat} {P : zS} {U : List zS} {X : Option zS} {ea fa : Int32} {t : Nat → Nat} {n : Nat} {u : Nat → Nat} {k : Nat} (hV : zVw M Z b C P U X ea fa t n u k) (a p l : Int32) : zCon μL_addRack (7, 1, 6) σ [.ref (b 0), .int a, .int p, .int l] M (zF (some (.int (fGm (-1001) (-1002) (-1003) (-1004) (fAdd P a p l).1))) (zNv M Z b C P U X ea fa t n u k (fAdd P a p l))) := by
  have hO := hV.ok
  have hl := hV.ol
  obtain ⟨S, nw, un, hs, hP, ho, rfl, rfl, rfl⟩ := hV
  have hc := c_X8_addRack (σ := σ) hP a p l
  have hT : fOl (fAdd (S nw) a p l).2 := fAdd_ol hO.1 hl _ _ _
  have hi : fIn [-1, -2, -3, -4] (fAdd (S nw) a p l).1 := fAdd_in hO _ _ _
  generalize hr : (fAdd (S nw) a p l) = r at hc hT hi ⊢
  rcases hi with hi | hi
  · simp only [List.mem_cons, List.not_mem_nil, or_false] at hi
    rcases hi with hi | hi | hi | hi
    · rw [hi, fGm_1]
      exact w_addRack_x0 hP.2.2.1 (hc.post (chg_x (E := "java/lang/IndexOutOfBoundsException") hP ho hT (by rw [hi]; exact fEx_1))) (by decide) (by decide) (by decide)
    · rw [hi, fGm_2]
      exact w_addRack_x1 hP.2.2.1 (hc.post (chg_x (E := "java/lang/IllegalArgumentException") hP ho hT (by rw [hi]; exact fEx_2))) (by decide) (by decide) (by decide)
    · rw [hi, fGm_3]
      exact w_addRack_x2 hP.2.2.1 (hc.post (chg_x (E := "java/lang/IllegalStateException") hP ho hT (by rw [hi]; exact fEx_3))) (by decide) (by decide) (by decide)
    · rw [hi, fGm_4]
      exact w_addRack_x3 hP.2.2.1 (hc.post (chg_x (E := "java/lang/UnsupportedOperationException") hP ho hT (by rw [hi]; exact fEx_4))) (by decide) (by decide) (by decide)
  · rw [fGm_pos hi]
    exact w_addRack_r hP.2.2.1 (hc.post (chg_n hP ho hT hi)) (by decide) (by decide) (by decide)
theorem c_L_removeRack {σ : zSg} {M : zM} {Z : Nat → Prop} {b : Nat → Nat} {C : Nat → Nat → Nat} {P : zS} {U : List zS} {X : Option zS} {ea fa : Int32} {t : Nat → Nat} {n : Nat} {u : Nat → Nat} {k : Nat} (hV : zVw M Z b C P U X ea fa t n u k) (x : Int32) : zCon μL_removeRack (7, 1, 6) σ [.ref (b 0), .int x] M (zF (some (.int (fGm (-1001) 0 0 0 (fRem P x).1))) (zNv M Z b C P U X ea fa t n u k (fRem P x))) := by
  have hO := hV.ok
  have hl := hV.ol
  obtain ⟨S, nw, un, hs, hP, ho, rfl, rfl, rfl⟩ := hV
  have hc := c_X8_removeRack (σ := σ) hP x
  have hT : fOl (fRem (S nw) x).2 := fRem_ol hO.1 hl _
  have hi : fIn [-1] (fRem (S nw) x).1 := fRem_in hO _
  generalize hr : (fRem (S nw) x) = r at hc hT hi ⊢
  rcases hi with hi | hi
  · simp only [List.mem_cons, List.not_mem_nil, or_false] at hi
    rcases hi with hi
    · rw [hi, fGm_1]
      exact w_removeRack_x0 hP.2.2.1 (hc.post (chg_x (E := "java/lang/IndexOutOfBoundsException") hP ho hT (by rw [hi]; exact fEx_1))) (by decide) (by decide) (by decide)
  · rw [fGm_pos hi]
    exact w_removeRack_r hP.2.2.1 (hc.post (chg_n hP ho hT hi)) (by decide) (by decide) (by decide)
theorem c_L_moveRack {σ : zSg} {M : zM} {Z : Nat → Prop} {b : Nat → Nat} {C : Nat → Nat → Nat} {P : zS} {U : List zS} {X : Option zS} {ea fa : Int32} {t : Nat → Nat} {n : Nat} {u : Nat → Nat} {k : Nat} (hV : zVw M Z b C P U X ea fa t n u k) (x a p : Int32) : zCon μL_moveRack (7, 1, 6) σ [.ref (b 0), .int x, .int a, .int p] M (zF (some (.int (fGm (-1001) (-1002) 0 (-1003) (fMov P x a p).1))) (zNv M Z b C P U X ea fa t n u k (fMov P x a p))) := by
  have hO := hV.ok
  have hl := hV.ol
  obtain ⟨S, nw, un, hs, hP, ho, rfl, rfl, rfl⟩ := hV
  have hc := c_X8_moveRack (σ := σ) hP x a p
  have hT : fOl (fMov (S nw) x a p).2 := fMov_ol hO.1 hl _ _ _
  have hi : fIn [-1, -2, -4] (fMov (S nw) x a p).1 := fMov_in hO _ _ _
  generalize hr : (fMov (S nw) x a p) = r at hc hT hi ⊢
  rcases hi with hi | hi
  · simp only [List.mem_cons, List.not_mem_nil, or_false] at hi
    rcases hi with hi | hi | hi
    · rw [hi, fGm_1]
      exact w_moveRack_x0 hP.2.2.1 (hc.post (chg_x (E := "java/lang/IndexOutOfBoundsException") hP ho hT (by rw [hi]; exact fEx_1))) (by decide) (by decide) (by decide)
    · rw [hi, fGm_2]
      exact w_moveRack_x1 hP.2.2.1 (hc.post (chg_x (E := "java/lang/IllegalArgumentException") hP ho hT (by rw [hi]; exact fEx_2))) (by decide) (by decide) (by decide)
    · rw [hi, fGm_4]
      exact w_moveRack_x2 hP.2.2.1 (hc.post (chg_x (E := "java/lang/UnsupportedOperationException") hP ho hT (by rw [hi]; exact fEx_4))) (by decide) (by decide) (by decide)
  · rw [fGm_pos hi]
    exact w_moveRack_r hP.2.2.1 (hc.post (chg_n hP ho hT hi)) (by decide) (by decide) (by decide)
theorem c_L_setLoad {σ : zSg} {M : zM} {Z : Nat → Prop} {b : Nat → Nat} {C : Nat → Nat → Nat} {P : zS} {U : List zS} {X : Option zS} {ea fa : Int32} {t : Nat → Nat} {n : Nat} {u : Nat → Nat} {k : Nat} (hV : zVw M Z b C P U X ea fa t n u k) (x l : Int32) : zCon μL_setLoad (7, 1, 6) σ [.ref (b 0), .int x, .int l] M (zF (some (.int (fGm (-1001) (-1002) 0 0 (fLod P x l).1))) (zNv M Z b C P U X ea fa t n u k (fLod P x l))) := by
  have hO := hV.ok
  have hl := hV.ol
  obtain ⟨S, nw, un, hs, hP, ho, rfl, rfl, rfl⟩ := hV
  have hc := c_X8_setLoad (σ := σ) hP x l
  have hT : fOl (fLod (S nw) x l).2 := fLod_ol hO.1 hl _ _
  have hi : fIn [-1, -2] (fLod (S nw) x l).1 := fLod_in hO _ _
  generalize hr : (fLod (S nw) x l) = r at hc hT hi ⊢
  rcases hi with hi | hi
  · simp only [List.mem_cons, List.not_mem_nil, or_false] at hi
    rcases hi with hi | hi
    · rw [hi, fGm_1]
      exact w_setLoad_x0 hP.2.2.1 (hc.post (chg_x (E := "java/lang/IndexOutOfBoundsException") hP ho hT (by rw [hi]; exact fEx_1))) (by decide) (by decide) (by decide)
    · rw [hi, fGm_2]
      exact w_setLoad_x1 hP.2.2.1 (hc.post (chg_x (E := "java/lang/IllegalArgumentException") hP ho hT (by rw [hi]; exact fEx_2))) (by decide) (by decide) (by decide)
  · rw [fGm_pos hi]
    exact w_setLoad_r hP.2.2.1 (hc.post (chg_n hP ho hT hi)) (by decide) (by decide) (by decide)
theorem c_L_migrate {σ : zSg} {M : zM} {Z : Nat → Prop} {b : Nat → Nat} {C : Nat → Nat → Nat} {P : zS} {U : List zS} {X : Option zS} {ea fa : Int32} {t : Nat → Nat} {n : Nat} {u : Nat → Nat} {k : Nat} (hV : zVw M Z b C P U X ea fa t n u k) (x y l : Int32) : zCon μL_migrate (7, 1, 6) σ [.ref (b 0), .int x, .int y, .int l] M (zF (some (.int (fGm (-1001) (-1002) 0 (-1003) (fSnd P x y l).1))) (zNv M Z b C P U X ea fa t n u k (fSnd P x y l))) := by
  have hO := hV.ok
  have hl := hV.ol
  obtain ⟨S, nw, un, hs, hP, ho, rfl, rfl, rfl⟩ := hV
  have hc := c_X8_migrate (σ := σ) hP x y l
  have hT : fOl (fSnd (S nw) x y l).2 := fSnd_ol hO.1 hl _ _ _
  have hi : fIn [-1, -2, -4] (fSnd (S nw) x y l).1 := fSnd_in hO _ _ _
  generalize hr : (fSnd (S nw) x y l) = r at hc hT hi ⊢
  rcases hi with hi | hi
  · simp only [List.mem_cons, List.not_mem_nil, or_false] at hi
    rcases hi with hi | hi | hi
    · rw [hi, fGm_1]
      exact w_migrate_x0 hP.2.2.1 (hc.post (chg_x (E := "java/lang/IndexOutOfBoundsException") hP ho hT (by rw [hi]; exact fEx_1))) (by decide) (by decide) (by decide)
    · rw [hi, fGm_2]
      exact w_migrate_x1 hP.2.2.1 (hc.post (chg_x (E := "java/lang/IllegalArgumentException") hP ho hT (by rw [hi]; exact fEx_2))) (by decide) (by decide) (by decide)
    · rw [hi, fGm_4]
      exact w_migrate_x2 hP.2.2.1 (hc.post (chg_x (E := "java/lang/UnsupportedOperationException") hP ho hT (by rw [hi]; exact fEx_4))) (by decide) (by decide) (by decide)
  · rw [fGm_pos hi]
    exact w_migrate_r hP.2.2.1 (hc.post (chg_n hP ho hT hi)) (by decide) (by decide) (by decide)
theorem c_L_setFan {σ : zSg} {M : zM} {Z : Nat → Prop} {b : Nat → Nat} {C : Nat → Nat → Nat} {P : zS} {U : List zS} {X : Option zS} {ea fa : Int32} {t : Nat → Nat} {n : Nat} {u : Nat → Nat} {k : Nat} (hV : zVw M Z b C P U X ea fa t n u k) (a v : Int32) : zCon μL_setFan (7, 1, 6) σ [.ref (b 0), .int a, .int v] M (zF (some (.int (fGm (-1001) (-1002) 0 0 (fFan P a v).1))) (zNv M Z b C P U X ea fa t n u k (fFan P a v))) := by
  have hO := hV.ok
  have hl := hV.ol
  obtain ⟨S, nw, un, hs, hP, ho, rfl, rfl, rfl⟩ := hV
  have hc := c_X8_setFan (σ := σ) hP a v
  have hT : fOl (fFan (S nw) a v).2 := fFan_ol hl _ _
  have hi : fIn [-1, -2] (fFan (S nw) a v).1 := fFan_in hO _ _
  generalize hr : (fFan (S nw) a v) = r at hc hT hi ⊢
  rcases hi with hi | hi
  · simp only [List.mem_cons, List.not_mem_nil, or_false] at hi
    rcases hi with hi | hi
    · rw [hi, fGm_1]
      exact w_setFan_x0 hP.2.2.1 (hc.post (chg_x (E := "java/lang/IndexOutOfBoundsException") hP ho hT (by rw [hi]; exact fEx_1))) (by decide) (by decide) (by decide)
    · rw [hi, fGm_2]
      exact w_setFan_x1 hP.2.2.1 (hc.post (chg_x (E := "java/lang/IllegalArgumentException") hP ho hT (by rw [hi]; exact fEx_2))) (by decide) (by decide) (by decide)
  · rw [fGm_pos hi]
    exact w_setFan_r hP.2.2.1 (hc.post (chg_n hP ho hT hi)) (by decide) (by decide) (by decide)
theorem c_L_setCurve {σ : zSg} {M : zM} {Z : Nat → Prop} {b : Nat → Nat} {C : Nat → Nat → Nat} {P : zS} {U : List zS} {X : Option zS} {ea fa : Int32} {t : Nat → Nat} {n : Nat} {u : Nat → Nat} {k : Nat} (hV : zVw M Z b C P U X ea fa t n u k) (p v : Int32) : zCon μL_setCurve (7, 1, 6) σ [.ref (b 0), .int p, .int v] M (zF (some (.int (fGm (-1001) (-1002) 0 (-1003) (fCrv P p v).1))) (zNv M Z b C P U X ea fa t n u k (fCrv P p v))) := by
  have hO := hV.ok
  have hl := hV.ol
  obtain ⟨S, nw, un, hs, hP, ho, rfl, rfl, rfl⟩ := hV
  have hc := c_X8_setCurvePoint (σ := σ) hP p v
  have hT : fOl (fCrv (S nw) p v).2 := fCrv_ol hl _ _
  have hi : fIn [-1, -2, -4] (fCrv (S nw) p v).1 := fCrv_in hO _ _
  generalize hr : (fCrv (S nw) p v) = r at hc hT hi ⊢
  rcases hi with hi | hi
  · simp only [List.mem_cons, List.not_mem_nil, or_false] at hi
    rcases hi with hi | hi | hi
    · rw [hi, fGm_1]
      exact w_setCurve_x0 hP.2.2.1 (hc.post (chg_x (E := "java/lang/IndexOutOfBoundsException") hP ho hT (by rw [hi]; exact fEx_1))) (by decide) (by decide) (by decide)
    · rw [hi, fGm_2]
      exact w_setCurve_x1 hP.2.2.1 (hc.post (chg_x (E := "java/lang/IllegalArgumentException") hP ho hT (by rw [hi]; exact fEx_2))) (by decide) (by decide) (by decide)
    · rw [hi, fGm_4]
      exact w_setCurve_x2 hP.2.2.1 (hc.post (chg_x (E := "java/lang/UnsupportedOperationException") hP ho hT (by rw [hi]; exact fEx_4))) (by decide) (by decide) (by decide)
  · rw [fGm_pos hi]
    exact w_setCurve_r hP.2.2.1 (hc.post (chg_n hP ho hT hi)) (by decide) (by decide) (by decide)
theorem c_L_setLimit {σ : zSg} {M : zM} {Z : Nat → Prop} {b : Nat → Nat} {C : Nat → Nat → Nat} {P : zS} {U : List zS} {X : Option zS} {ea fa : Int32} {t : Nat → Nat} {n : Nat} {u : Nat → Nat} {k : Nat} (hV : zVw M Z b C P U X ea fa t n u k) (v : Int32) : zCon μL_setLimit (7, 1, 6) σ [.ref (b 0), .int v] M (zF (some (.int (fGm 0 (-1001) 0 0 (fLim P v).1))) (zNv M Z b C P U X ea fa t n u k (fLim P v))) := by
  have hO := hV.ok
  have hl := hV.ol
  obtain ⟨S, nw, un, hs, hP, ho, rfl, rfl, rfl⟩ := hV
  have hc := c_X8_setLimit (σ := σ) hP v
  have hT : fOl (fLim (S nw) v).2 := fLim_ol hl _
  have hi : fIn [-2] (fLim (S nw) v).1 := fLim_in hl _
  generalize hr : (fLim (S nw) v) = r at hc hT hi ⊢
  rcases hi with hi | hi
  · simp only [List.mem_cons, List.not_mem_nil, or_false] at hi
    rcases hi with hi
    · rw [hi, fGm_2]
      exact w_setLimit_x0 hP.2.2.1 (hc.post (chg_x (E := "java/lang/IllegalArgumentException") hP ho hT (by rw [hi]; exact fEx_2))) (by decide) (by decide) (by decide)
  · rw [fGm_pos hi]
    exact w_setLimit_r hP.2.2.1 (hc.post (chg_n hP ho hT hi)) (by decide) (by decide) (by decide)
theorem c_L_advance {σ : zSg} {M : zM} {Z : Nat → Prop} {b : Nat → Nat} {C : Nat → Nat → Nat} {P : zS} {U : List zS} {X : Option zS} {ea fa : Int32} {t : Nat → Nat} {n : Nat} {u : Nat → Nat} {k : Nat} (hV : zVw M Z b C P U X ea fa t n u k) (m : Int32) : zCon μL_advance (8, 1, 6) σ [.ref (b 0), .int m] M (zF (some (.int (if 0 ≤ (fPas P m).1 then nI (fHts (fPas P m).2) else -1001))) (zNv M Z b C P U X ea fa t n u k (fPas P m))) := by
  have hO := hV.ok
  have hl := hV.ol
  obtain ⟨S, nw, un, hs, hP, ho, rfl, rfl, rfl⟩ := hV
  have hc := c_X8_advance (σ := σ) hP m
  have hT : fOl (fPas (S nw) m).2 := fPas_ol hl _
  have hi : fIn [-2] (fPas (S nw) m).1 := fPas_in _
  generalize hr : (fPas (S nw) m) = r at hc hT hi ⊢
  rcases hi with hi | hi
  · simp only [List.mem_cons, List.not_mem_nil, or_false] at hi
    rcases hi with hi
    · rw [if_neg (by rw [hi]; decide)]
      exact w_advance_x0 hP.2.2.1 (hc.post (adv_x (E := "java/lang/IllegalArgumentException") hP ho hT (by rw [hi]; exact fEx_2))) (by decide) (by decide) (by decide)
  · rw [if_pos hi]
    exact w_advance_r hP.2.2.1 (hc.post (adv_n hP ho hT hi)) (by decide) (by decide) (by decide)

/-! Facts: scripts read, ranks that are none, what is refused: laid by wip/p53/m56.py. -/
/-- two readings that differ in what is left of older numbers alone -/
def zAg (Y Y' : Bool × Nat × Nat × Nat × (Nat → Int32)) : Prop := Y.1 = Y'.1 ∧ Y.2.1 = Y'.2.1 ∧ Y.2.2.1 = Y'.2.2.1 ∧ Y.2.2.2.1 = Y'.2.2.2.1 ∧ ∀ j, j < Y.2.2.2.1 → Y.2.2.2.2 j = Y'.2.2.2.2 j
theorem upd_ag {f f' : Nat → Int32} {nc : Nat} {v : Int32} (h : ∀ j, j < nc → f j = f' j) : ∀ j, j < nc + 1 → upd f nc v j = upd f' nc v j := fun j hj => by
  by_cases e : j = nc
  · rw [e, u_s, u_s]
  · rw [u_n e, u_n e]
    exact h j (by omega)
theorem fSgn_ag {t : Nat → Nat} {n c p r nc : Nat} {f f' : Nat → Int32} (h : ∀ j, j < nc → f j = f' j) : zAg (fSgn t n c p r nc f) (fSgn t n c p r nc f') := by
  unfold fSgn
  by_cases h1 : c = 35
  · rw [if_pos h1, if_pos h1]
    exact ⟨rfl, rfl, rfl, rfl, upd_ag h⟩
  · rw [if_neg h1, if_neg h1]
    by_cases h2 : c = 42
    · rw [if_pos h2, if_pos h2]
      exact ⟨rfl, rfl, rfl, rfl, upd_ag h⟩
    · rw [if_neg h2, if_neg h2]
      exact ⟨rfl, rfl, rfl, rfl, h⟩
theorem fFm_ag {t : Nat → Nat} {n i : Nat} : ∀ (l j p r nc : Nat) (f f' : Nat → Int32), (∀ j, j < nc → f j = f' j) → zAg (fFm t n i l j p r nc f) (fFm t n i l j p r nc f') := by
  intro l
  induction l with
  | zero => intro j p r nc f f' h; exact ⟨rfl, rfl, rfl, rfl, h⟩
  | succ l ih =>
    intro j p r nc f f' h
    have g := fSgn_ag (t := t) (n := n) (c := fK i j) (p := p) (r := r) h
    rw [fFm, fFm]
    generalize fSgn t n (fK i j) p r nc f = A at g ⊢
    generalize fSgn t n (fK i j) p r nc f' = A' at g ⊢
    obtain ⟨a1, a2, a3, a4, a5⟩ := A
    obtain ⟨b1, b2, b3, b4, b5⟩ := A'
    obtain ⟨g1, g2, g3, g4, g5⟩ := g
    dsimp only at g1 g2 g3 g4 g5 ⊢
    subst g1 g2 g3 g4
    by_cases hb : a1 = true
    · rw [if_pos hb, if_pos hb]
      exact ih _ _ _ _ _ _ g5
    · rw [if_neg hb, if_neg hb]
      exact ⟨rfl, rfl, rfl, rfl, g5⟩
def zAh (Y Y' : Bool × Nat × Nat × Nat × Nat × (Nat → Int32)) : Prop := Y.1 = Y'.1 ∧ Y.2.1 = Y'.2.1 ∧ Y.2.2.1 = Y'.2.2.1 ∧ Y.2.2.2.1 = Y'.2.2.2.1 ∧ (Y.1 = true → Y.2.2.2.2.1 = Y'.2.2.2.2.1 ∧ ∀ j, j < Y.2.2.2.2.1 → Y.2.2.2.2.2 j = Y'.2.2.2.2.2 j)
theorem fCm_ag {t : Nat → Nat} {n st : Nat} : ∀ (l q p r nc nc' : Nat) (f f' : Nat → Int32), zAh (fCm t n st l q p r nc f) (fCm t n st l q p r nc' f') := by
  intro l
  induction l with
  | zero => intro q p r nc nc' f f'; exact ⟨rfl, rfl, rfl, rfl, fun h => nomatch h⟩
  | succ l ih =>
    intro q p r nc nc' f f'
    have g := fFm_ag (t := t) (n := n) (i := 6 + q) (fKn (6 + q)) 0 st r 0 f f' (fun j hj => absurd hj (Nat.not_lt_zero j))
    rw [fCm, fCm]
    generalize fFm t n (6 + q) (fKn (6 + q)) 0 st r 0 f = A at g ⊢
    generalize fFm t n (6 + q) (fKn (6 + q)) 0 st r 0 f' = A' at g ⊢
    obtain ⟨a1, a2, a3, a4, a5⟩ := A
    obtain ⟨b1, b2, b3, b4, b5⟩ := A'
    obtain ⟨g1, g2, g3, g4, g5⟩ := g
    dsimp only at g1 g2 g3 g4 g5 ⊢
    subst g1 g2 g3 g4
    by_cases hb : a1 = true
    · rw [if_pos hb, if_pos hb]
      exact ⟨rfl, rfl, rfl, rfl, fun _ => ⟨rfl, g5⟩⟩
    · rw [if_neg hb, if_neg hb]
      exact ih _ _ _ _ _ _ _
theorem fCc_ag {t : Nat → Nat} {n : Nat} : ∀ (l k p r nc nc' : Nat) (f f' : Nat → Int32), fCc t n l k p r nc f = fCc t n l k p r nc' f' := by
  intro l
  induction l with
  | zero => intro k p r nc nc' f f'; rfl
  | succ l ih =>
    intro k p r nc nc' f f'
    have g := fCm_ag (t := t) (n := n) (st := p) 10 0 p r nc nc' f f'
    rw [fCc, fCc]
    generalize fCm t n p 10 0 p r nc f = A at g ⊢
    generalize fCm t n p 10 0 p r nc' f' = A' at g ⊢
    obtain ⟨a1, a2, a3, a4, a5, a6⟩ := A
    obtain ⟨b1, b2, b3, b4, b5, b6⟩ := A'
    obtain ⟨g1, g2, g3, g4, -⟩ := g
    dsimp only at g1 g2 g3 g4 ⊢
    subst g1 g2 g3 g4
    by_cases hb : a1 = true
    · rw [if_pos hb, if_pos hb]
      by_cases hc : n ≤ a3
      · rw [if_pos hc, if_pos hc]
      · rw [if_neg hc, if_neg hc]
        by_cases hd : (fRc t n a3 a4 59).1 = true
        · rw [if_pos hd, if_pos hd]
          exact ih _ _ _ _ _ _ _
        · rw [if_neg hd, if_neg hd]
    · rw [if_neg hb, if_neg hb]
theorem fTy_cl {K t : Nat → Nat} {i : Nat} (h : i ≠ 0) : fTy K t i = fTy K (fun _ => 0) i := by
  unfold fTy
  rw [if_neg h, if_neg h]
theorem cc_3 {t : Nat → Nat} (nc : Nat) (f : Nat → Int32) : fCc (fTy (fK 3) t 1) 1 60 1 0 0 nc f = (-1, 0) := by
  rw [fTy_cl (by decide), fCc_ag 60 1 0 0 nc 0 f (fun _ => 0)]
  decide +kernel
theorem cc_4 {t : Nat → Nat} (nc : Nat) (f : Nat → Int32) : fCc (fTy (fK 4) t 19) 19 60 1 0 0 nc f = (nI 3, 19) := by
  rw [fTy_cl (by decide), fCc_ag 60 1 0 0 nc 0 f (fun _ => 0)]
  decide +kernel
theorem cc_5 {t : Nat → Nat} (nc : Nat) (f : Nat → Int32) : fCc (fTy (fK 5) t 8) 8 60 1 0 0 nc f = (nI 1, 8) := by
  rw [fTy_cl (by decide), fCc_ag 60 1 0 0 nc 0 f (fun _ => 0)]
  decide +kernel
/-- the letters that the law types at first -/
def fKe (k : Nat) : Nat := 65 + k
theorem cc_e {t : Nat → Nat} (nc : Nat) (f : Nat → Int32) : fCc (fTy fKe t 60) 60 60 1 0 0 nc f = (-1, 0) := by
  rw [fTy_cl (by decide), fCc_ag 60 1 0 0 nc 0 f (fun _ => 0)]
  decide +kernel
theorem cc_w {t : Nat → Nat} (nc : Nat) (f : Nat → Int32) : fCc (tcC (t, 0) 119).1 1 60 1 0 0 nc f = (-1, 1) := by
  have e : (tcC (t, 0) 119).1 = (fun _ => 119) := by
    funext j
    show sb_cat t 0 (fun _ => 119) j = 119
    unfold sb_cat
    rw [if_neg (Nat.not_lt_zero j)]
  rw [e, fCc_ag 60 1 0 0 nc 0 f (fun _ => 0)]
  decide +kernel
/-- a command read, its number -/
def zCmP (Y : Bool × Nat × Nat × Nat × Nat × (Nat → Int32)) (q p' r' k : Nat) (v : Int32) : Prop := Y.1 = true ∧ Y.2.1 = q ∧ Y.2.2.1 = p' ∧ Y.2.2.2.1 = r' ∧ (0 < k → Y.2.2.2.2.2 0 = v)
theorem cm_at {t : Nat → Nat} {n st p r q p' r' k : Nat} {v : Int32} (h : (fCm t n st 10 0 p r 0 (fun _ => 0)).1 = true ∧ (fCm t n st 10 0 p r 0 (fun _ => 0)).2.1 = q ∧ (fCm t n st 10 0 p r 0 (fun _ => 0)).2.2.1 = p' ∧ (fCm t n st 10 0 p r 0 (fun _ => 0)).2.2.2.1 = r' ∧ (0 < k → 0 < (fCm t n st 10 0 p r 0 (fun _ => 0)).2.2.2.2.1 ∧ (fCm t n st 10 0 p r 0 (fun _ => 0)).2.2.2.2.2 0 = v)) (nc : Nat) (f : Nat → Int32) : zCmP (fCm t n st 10 0 p r nc f) q p' r' k v := by
  have g := fCm_ag (t := t) (n := n) (st := st) 10 0 p r nc 0 f (fun _ => 0)
  obtain ⟨g1, g2, g3, g4, g5⟩ := g
  obtain ⟨h1, h2, h3, h4, h5⟩ := h
  refine ⟨g1.trans h1, g2.trans h2, g3.trans h3, g4.trans h4, fun hk => ?_⟩
  obtain ⟨e1, e2⟩ := g5 (g1.trans h1)
  exact (e2 0 (by rw [e1]; exact (h5 hk).1)).trans (h5 hk).2
def fT4 : Nat → Nat := fTy (fK 4) (fun _ => 0) 19
def fT5 : Nat → Nat := fTy (fK 5) (fun _ => 0) 8
theorem cm_41 (nc : Nat) (f : Nat → Int32) : zCmP (fCm fT4 19 0 10 0 0 19 nc f) 9 4 19 0 0 := cm_at (by decide +kernel) nc f
theorem cm_42 (nc : Nat) (f : Nat → Int32) : zCmP (fCm fT4 19 5 10 0 5 19 nc f) 8 11 19 1 2 := cm_at (by decide +kernel) nc f
theorem cm_43 (nc : Nat) (f : Nat → Int32) : zCmP (fCm fT4 19 12 10 0 12 19 nc f) 1 19 19 1 99 := cm_at (by decide +kernel) nc f
theorem cm_51 (nc : Nat) (f : Nat → Int32) : zCmP (fCm fT5 8 0 10 0 0 8 nc f) 7 8 8 1 99 := cm_at (by decide +kernel) nc f
theorem fAt3 {f : Nat → Int32} : fAt 3 f 0 = f 0 := rfl
theorem po_4 {t : Nat → Nat} {P : zS} (hO : zOk P) (nc : Nat) (f : Nat → Int32) : (fPo (fTy (fK 4) t 19) 19 3 0 0 19 nc f P).1 = 2 := by
  rw [fTy_cl (by decide)]
  change (fPo fT4 19 3 0 0 19 nc f P).1 = 2
  obtain ⟨a1, a2, a3, a4, -⟩ := cm_41 nc f
  rw [fPo, if_pos a1, a2, a3, a4]
  have e1 : (fPer P (fCm fT4 19 0 10 0 0 19 nc f).2.2.2.2.2 9) = fPas P 1 := rfl
  rw [e1, if_neg (by rw [show (fPas P 1).1 = 1 from fPas_1 (v := 0) (by decide)]; decide), show fRc fT4 19 4 19 59 = (true, 5, 19) from by decide +kernel]
  generalize (fCm fT4 19 0 10 0 0 19 nc f).2.2.2.2.1 = nc1
  generalize (fCm fT4 19 0 10 0 0 19 nc f).2.2.2.2.2 = f1
  dsimp only
  obtain ⟨b1, b2, b3, b4, b5⟩ := cm_42 nc1 f1
  rw [fPo, if_pos b1, b2, b3, b4]
  have e2 : (fPer (fPas P 1).2 (fCm fT4 19 5 10 0 5 19 nc1 f1).2.2.2.2.2 8) = fPas (fPas P 1).2 2 := by
    show fPas (fPas P 1).2 (fAt 3 _ 0) = _
    rw [fAt3, b5 (by decide)]
  rw [e2, if_neg (by rw [show (fPas (fPas P 1).2 2).1 = 2 from fPas_1 (v := 1) (by decide)]; decide), show fRc fT4 19 11 19 59 = (true, 12, 19) from by decide +kernel]
  generalize (fCm fT4 19 5 10 0 5 19 nc1 f1).2.2.2.2.1 = nc2
  generalize (fCm fT4 19 5 10 0 5 19 nc1 f1).2.2.2.2.2 = f2
  dsimp only
  obtain ⟨c1, c2, c3, c4, c5⟩ := cm_43 nc2 f2
  rw [fPo, if_pos c1, c2, c3, c4]
  have e3 : (fPer (fPas (fPas P 1).2 2).2 (fCm fT4 19 12 10 0 12 19 nc2 f2).2.2.2.2.2 1).1 = -1 := by
    show (fRem (fPas (fPas P 1).2 2).2 (fAt 3 _ 0)).1 = -1
    rw [fAt3, c5 (by decide)]
    unfold fRem
    rw [if_pos (Or.inr ?_)]
    have h1 := (fPas_ok (fPas_ok hO 1) 2).1
    rw [h1.1]
    exact nI_le (b := 99) (by have := h1.2; omega) (by decide)
  rw [if_pos (by rw [e3]; decide)]
theorem po_5 {t : Nat → Nat} {P : zS} (nc : Nat) (f : Nat → Int32) : (fPo (fTy (fK 5) t 8) 8 1 0 0 8 nc f P).1 = 0 := by
  rw [fTy_cl (by decide)]
  change (fPo fT5 8 1 0 0 8 nc f P).1 = 0
  obtain ⟨a1, a2, a3, a4, a5⟩ := cm_51 nc f
  rw [fPo, if_pos a1, a2, a3, a4]
  have e1 : (fPer P (fCm fT5 8 0 10 0 0 8 nc f).2.2.2.2.2 7).1 = -2 := by
    show (fLim P (fAt 3 _ 0)).1 = -2
    rw [fAt3, a5 (by decide)]
    unfold fLim
    rw [if_pos (by decide)]
  rw [if_pos (by rw [e1]; decide)]
/-! ranks that are none -/
theorem fFst_no {p : Nat → Bool} : ∀ (k i : Nat), (∀ j, i ≤ j → j < i + k → p j = false) → fFst p k i = -1 := by
  intro k
  induction k with
  | zero => intro i _; rfl
  | succ k ih =>
    intro i h
    rw [fFst, if_neg (by rw [h i (Nat.le_refl _) (by omega)]; decide)]
    exact ih (i + 1) (fun j h1 h2 => h j (by omega) (by omega))
theorem fCmR_self {S : zS} (hO : zOk S) {j : Nat} (hj : j < fCnt S) : fCmR S j j = false := by
  have e1 : fMs S j = fTmp S j := if_pos hj
  have e2 : FP.fcmp (fTmp S j) (fTmp S j) = some .eq := Jvm.FP.Core.fcmp_self ((hO.tmp j).fin (by decide)).ne_nan
  unfold fCmR
  rw [e1, e2, if_pos (by decide), if_pos rfl]
  exact decide_eq_false (Nat.lt_irrefl j)
theorem fBr_no {S : zS} (hO : zOk S) : fBr S (S 0) = -1001 := by
  have h12 := hO.1.2
  have e : fRkR S (S 0) = -1 := by
    unfold fRkR
    refine fFst_no _ _ (fun j _ hj => decide_eq_false (fun e => ?_))
    rw [Nat.zero_add] at hj
    have h1 : fRkB S j < fCnt S := fCb_lt (b := fun i => fCmR S i j) (fCmR_self hO hj) _ hj
    rw [hO.1.1] at e
    exact absurd ((nI_eq (by omega) (by omega)).mp e) (by omega)
  exact if_pos e
theorem fCmA_self {S : zS} {j : Nat} : fCmA S j j = false := by
  unfold fCmA
  rw [if_pos rfl, if_pos rfl]
  exact decide_eq_false (Nat.lt_irrefl j)
theorem fBh_no {S : zS} {r : Int32} (h : ∀ j, j < 4 → nI j ≠ r) : fBh S r = -1001 := by
  have e : fAiR S r = -1 := by
    unfold fAiR
    refine fFst_no _ _ (fun j _ hj => decide_eq_false (fun e => ?_))
    exact h _ (fCb_lt (b := fun i => fCmA S i j) fCmA_self 4 (by omega)) e
  exact if_pos e
theorem fBh_4 {S : zS} : fBh S 4 = -1001 := fBh_no (fun j hj e => absurd ((nI_eq (b := 4) (by omega) (by decide)).mp e) (by omega))
theorem fBh_m {S : zS} : fBh S (-1) = -1001 := fBh_no (fun j hj e => nI_pos (n := j) (by omega) (by rw [e]; decide))
/-! what is refused -/
section
variable {P : zS}
theorem fBad_n0 : fBad P (P 0) := Or.inr (Int32.le_refl _)
theorem fBad_m1 : fBad P (-1) := Or.inl (by decide)
theorem fBad_0 (hO : zOk P) (h : 2 ≤ fCnt P) : ¬ fBad P 0 := fBad_j (j := 0) hO.1 (by omega)
theorem fBad_1 (hO : zOk P) (h : 2 ≤ fCnt P) : ¬ fBad P 1 := fBad_j (j := 1) hO.1 (by omega)
theorem r_add_1 {a p l : Int32} (h : fBt a 0 3 = false) : (fAdd P a p l).1 = -1 := by unfold fAdd; rw [if_pos h]
theorem r_add_2 {a p l : Int32} (h : fBt a 0 3 = true) (h2 : fBt p 0 5 = false) : (fAdd P a p l).1 = -2 := by unfold fAdd; rw [if_neg (by rw [h]; decide), if_pos h2]
theorem r_add_2l {a p l : Int32} (h : fBt a 0 3 = true) (h2 : fBt p 0 5 = true) (h3 : fBt l 0 20 = false) : (fAdd P a p l).1 = -2 := by unfold fAdd; rw [if_neg (by rw [h]; decide), if_neg (by rw [h2]; decide), if_pos h3]
theorem r_add_3 {a p l : Int32} (h : fBt a 0 3 = true) (h2 : fBt p 0 5 = true) (h3 : fBt l 0 20 = true) (h4 : 12 ≤ fCnt P) : (fAdd P a p l).1 = -3 := by unfold fAdd; rw [if_neg (by rw [h]; decide), if_neg (by rw [h2]; decide), if_neg (by rw [h3]; decide), if_pos h4]
theorem r_add_4 {a p l : Int32} (h : fBt a 0 3 = true) (h2 : fBt p 0 5 = true) (h3 : fBt l 0 20 = true) (h4 : ¬ 12 ≤ fCnt P) (h5 : ¬ fFind P a p = -1) : (fAdd P a p l).1 = -4 := by unfold fAdd; rw [if_neg (by rw [h]; decide), if_neg (by rw [h2]; decide), if_neg (by rw [h3]; decide), if_neg h4, if_neg h5]
theorem r_rem_1 {x : Int32} (h : fBad P x) : (fRem P x).1 = -1 := by unfold fRem; rw [if_pos h]
theorem r_mov_1 {x a p : Int32} (h : fBad P x) : (fMov P x a p).1 = -1 := by unfold fMov; rw [if_pos h]
theorem r_mov_1a {x a p : Int32} (h : ¬ fBad P x) (h2 : fBt a 0 3 = false) : (fMov P x a p).1 = -1 := by unfold fMov; rw [if_neg h, if_pos h2]
theorem r_mov_2 {x a p : Int32} (h : ¬ fBad P x) (h2 : fBt a 0 3 = true) (h3 : fBt p 0 5 = false) : (fMov P x a p).1 = -2 := by unfold fMov; rw [if_neg h, if_neg (by rw [h2]; decide), if_pos h3]
theorem r_mov_4 {x a p : Int32} (h : ¬ fBad P x) (h2 : fBt a 0 3 = true) (h3 : fBt p 0 5 = true) (h4 : ¬ fFind P a p = -1) : (fMov P x a p).1 = -4 := by unfold fMov; rw [if_neg h, if_neg (by rw [h2]; decide), if_neg (by rw [h3]; decide), if_neg h4]
theorem r_lod_1 {x l : Int32} (h : fBad P x) : (fLod P x l).1 = -1 := by unfold fLod; rw [if_pos h]
theorem r_lod_2 {x l : Int32} (h : ¬ fBad P x) (h2 : fBt l 0 20 = false) : (fLod P x l).1 = -2 := by unfold fLod; rw [if_neg h, if_pos h2]
theorem r_snd_1 {x y l : Int32} (h : fBad P x) : (fSnd P x y l).1 = -1 := by unfold fSnd; rw [if_pos h]
theorem r_snd_1y {x y l : Int32} (h : ¬ fBad P x) (h2 : fBad P y) : (fSnd P x y l).1 = -1 := by unfold fSnd; rw [if_neg h, if_pos h2]
theorem r_snd_2 {x y l : Int32} (h : ¬ fBad P x) (h2 : ¬ fBad P y) (h3 : x = y) : (fSnd P x y l).1 = -2 := by unfold fSnd; rw [if_neg h, if_neg h2, if_pos h3]
theorem r_snd_2l {x y l : Int32} (h : ¬ fBad P x) (h2 : ¬ fBad P y) (h3 : ¬ x = y) (h4 : fBt l 1 20 = false) : (fSnd P x y l).1 = -2 := by unfold fSnd; rw [if_neg h, if_neg h2, if_neg h3, if_pos h4]
theorem r_snd_4 {i j : Nat} {l : Int32} (hO : zOk P) (hi : i < fCnt P) (hj : j < fCnt P) (h3 : ¬ i = j) (h4 : fBt l 1 20 = true) (h5 : P (3 + 3 * i) < l ∨ 20 < P (3 + 3 * j) + l) : (fSnd P (nI i) (nI j) l).1 = -4 := by
  have h12 := hO.1.2
  unfold fSnd
  rw [if_neg (fBad_j hO.1 hi), if_neg (fBad_j hO.1 hj), if_neg (fun e => h3 ((nI_eq (by omega) (by omega)).mp e)), if_neg (by rw [h4]; decide), nI_clamp (by omega), nI_clamp (by omega)]
  by_cases h6 : P (3 + 3 * i) < l
  · rw [if_pos h6]
  · rw [if_neg h6, if_pos (h5.resolve_left h6)]
theorem r_fan_1 {a v : Int32} (h : fBt a 0 3 = false) : (fFan P a v).1 = -1 := by unfold fFan; rw [if_pos h]
theorem r_fan_2 {a v : Int32} (h : fBt a 0 3 = true) (h2 : fBt v 0 10 = false) : (fFan P a v).1 = -2 := by unfold fFan; rw [if_neg (by rw [h]; decide), if_pos h2]
theorem r_crv_1 {p v : Int32} (h : fBt p 0 2 = false) : (fCrv P p v).1 = -1 := by unfold fCrv; rw [if_pos h]
theorem r_crv_2 {p v : Int32} (h : fBt p 0 2 = true) (h2 : fBt v 0 200 = false) : (fCrv P p v).1 = -2 := by unfold fCrv; rw [if_neg (by rw [h]; decide), if_pos h2]
theorem r_crv_4 {p v : Int32} (h : fBt p 0 2 = true) (h2 : fBt v 0 200 = true) (h3 : fBt v (fLow P p) (fHigh P p) = false) : (fCrv P p v).1 = -4 := by unfold fCrv; rw [if_neg (by rw [h]; decide), if_neg (by rw [h2]; decide), if_pos h3]
theorem r_lim_2 {v : Int32} (h : fBt v 20 60 = false) : (fLim P v).1 = -2 := by unfold fLim; rw [if_pos h]
theorem r_pas_2 {m : Int32} (h : fBt m 1 60 = false) : (fPas P m).1 = -2 := by unfold fPas; rw [if_pos h]
theorem fBt_hi {v lo hi : Int32} (h : hi < v) : fBt v lo hi = false := by
  unfold fBt
  rw [decide_eq_false (Int32.not_le.mpr h), Bool.and_false]
theorem fBt_lo {v lo hi : Int32} (h : v < lo) : fBt v lo hi = false := by
  unfold fBt
  rw [decide_eq_false (Int32.not_le.mpr h), Bool.false_and]
theorem fPt_b (hO : zOk P) {p : Nat} (hp : p < 3) : 0 ≤ (fPt P (nI p)).toInt ∧ (fPt P (nI p)).toInt ≤ 200 := by
  obtain ⟨h1, h2, h3, h4⟩ := hO.pt
  rw [fPt_j hp]
  rcases (show p = 0 ∨ p = 1 ∨ p = 2 by omega) with rfl | rfl | rfl
  · exact ⟨h1, show (P 41).toInt ≤ 200 by omega⟩
  · exact ⟨show 0 ≤ (P 42).toInt by omega, show (P 42).toInt ≤ 200 by omega⟩
  · exact ⟨show 0 ≤ (P 43).toInt by omega, h4⟩
theorem up_1 {v : Int32} (h0 : 0 ≤ v.toInt) (h1 : v.toInt ≤ 200) (h2 : ¬ v = 200) : fBt (v + 1) 0 200 = true ∧ v < v + 1 := by
  have e1 : (1 : Int32).toInt = 1 := by decide
  have e2 : (200 : Int32).toInt = 200 := by decide
  have e0 : (0 : Int32).toInt = 0 := by decide
  have h3 : v.toInt ≠ 200 := fun e => h2 (Int32.toInt.inj (e.trans e2.symm))
  have h4 : (v + 1).toInt = v.toInt + 1 := by rw [t_add (by omega) (by omega), e1]
  refine ⟨fBt_iff.mpr ⟨by omega, by omega⟩, ?_⟩
  rw [Int32.lt_iff_toInt_lt]
  omega
theorem down_1 {v : Int32} (h0 : 0 ≤ v.toInt) (h1 : v.toInt ≤ 200) (h2 : ¬ v = 0) : fBt (v - 1) 0 200 = true ∧ v - 1 < v := by
  have e1 : (1 : Int32).toInt = 1 := by decide
  have e2 : (200 : Int32).toInt = 200 := by decide
  have e0 : (0 : Int32).toInt = 0 := by decide
  have h3 : v.toInt ≠ 0 := fun e => h2 (Int32.toInt.inj (e.trans e0.symm))
  have h4 : (v - 1).toInt = v.toInt - 1 := by rw [t_sub (by omega) (by omega), e1]
  refine ⟨fBt_iff.mpr ⟨by omega, by omega⟩, ?_⟩
  rw [Int32.lt_iff_toInt_lt]
  omega
theorem r_crv_a (hO : zOk P) (h : ¬ fPt P 1 = 200) : (fCrv P 0 (fPt P 1 + 1)).1 = -4 := by
  obtain ⟨b0, b1⟩ := fPt_b hO (p := 1) (by decide)
  obtain ⟨u1, u2⟩ := up_1 (v := fPt P 1) b0 b1 h
  refine r_crv_4 (by decide) u1 (fBt_hi ?_)
  unfold fHigh
  rw [if_neg (by decide)]
  exact u2
theorem r_crv_b (hO : zOk P) (h : ¬ fPt P 1 = 0) : (fCrv P 2 (fPt P 1 - 1)).1 = -4 := by
  obtain ⟨b0, b1⟩ := fPt_b hO (p := 1) (by decide)
  obtain ⟨u1, u2⟩ := down_1 (v := fPt P 1) b0 b1 h
  refine r_crv_4 (by decide) u1 (fBt_lo ?_)
  unfold fLow
  rw [if_neg (by decide)]
  exact u2
theorem r_crv_c (hO : zOk P) (h : ¬ fPt P 2 = 200) : (fCrv P 1 (fPt P 2 + 1)).1 = -4 := by
  obtain ⟨b0, b1⟩ := fPt_b hO (p := 2) (by decide)
  obtain ⟨u1, u2⟩ := up_1 (v := fPt P 2) b0 b1 h
  refine r_crv_4 (by decide) u1 (fBt_hi ?_)
  unfold fHigh
  rw [if_neg (by decide)]
  exact u2
theorem fFindF_at {a p : Int32} {r : Nat} (ha : P (1 + 3 * r) = a) (hp : P (2 + 3 * r) = p) : ∀ (k i : Nat), i ≤ r → r < i + k → i + k < 2 ^ 31 → ¬ fFindF P a p k i = -1 := by
  intro k
  induction k with
  | zero => intro i h1 h2; omega
  | succ k ih =>
    intro i h1 h2 h3
    rw [fFindF]
    have hn : ¬ nI i = -1 := fun e => nI_pos (n := i) (by omega) (by rw [e]; decide)
    by_cases e : i = r
    · subst e
      rw [if_pos ha, if_pos hp]
      exact hn
    · split
      · split
        · exact hn
        · exact ih (i + 1) (by omega) (by omega) (by omega)
      · exact ih (i + 1) (by omega) (by omega) (by omega)
theorem fFind_at (hO : zOk P) {r : Nat} (hr : r < fCnt P) : ¬ fFind P (P (1 + 3 * r)) (P (2 + 3 * r)) = -1 := fFindF_at rfl rfl _ _ (Nat.zero_le _) (by omega) (by have := hO.1.2; omega)
theorem load_1 (hO : zOk P) {r : Nat} (hr : r < 12) (h : ¬ 20 ≤ P (3 + 3 * r)) : fBt (P (3 + 3 * r) + 1) 1 20 = true ∧ P (3 + 3 * r) < P (3 + 3 * r) + 1 := by
  have h1 := fBt_iff.mp (hO.2.1 r hr).2.2
  have e1 : (1 : Int32).toInt = 1 := by decide
  have e2 : (20 : Int32).toInt = 20 := by decide
  have e0 : (0 : Int32).toInt = 0 := by decide
  rw [Int32.le_iff_toInt_le, e2] at h
  rw [e0, e2] at h1
  have h4 : (P (3 + 3 * r) + 1).toInt = (P (3 + 3 * r)).toInt + 1 := by rw [t_add (by omega) (by omega), e1]
  refine ⟨fBt_iff.mpr ⟨by omega, by omega⟩, ?_⟩
  rw [Int32.lt_iff_toInt_lt]
  omega
end


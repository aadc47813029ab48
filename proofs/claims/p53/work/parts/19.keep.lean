/-! A state's bounds are kept by every change: laid by wip/p53/m19.py. -/
theorem zNn_u {S : zS} (h : zNn S) {k : Nat} (hk : k ≠ 0) (v : Int32) : zNn (upd S k v) := zNn_eq h (u_n (fun e => hk e.symm))
theorem zOk.u1 {S : zS} (h : zOk S) {i : Nat} (hi : i < 12) {v : Int32} (hv : fBt v 0 3 = true) : zOk (upd S (1 + 3 * i) v) := by
  obtain ⟨h1, h2, h3, h4, h5, h6⟩ := h
  refine ⟨zNn_u h1 (by omega) v, fun j hj => ⟨?_, ?_, ?_⟩, fun j hj => ?_, ?_, ?_, ?_⟩
  · by_cases e : j = i
    · subst e; rw [u_s]; exact hv
    · rw [u_n (by omega)]; exact (h2 j hj).1
  · rw [u_n (by omega)]; exact (h2 j hj).2.1
  · rw [u_n (by omega)]; exact (h2 j hj).2.2
  · rw [u_n (by omega)]; exact h3 j hj
  · rw [u_n (by omega)]; exact h4
  · rw [u_n (by omega), u_n (by omega)]; exact h5
  · rw [u_n (by omega), u_n (by omega)]; exact h6
theorem zOk.u2 {S : zS} (h : zOk S) {i : Nat} (hi : i < 12) {v : Int32} (hv : fBt v 0 5 = true) : zOk (upd S (2 + 3 * i) v) := by
  obtain ⟨h1, h2, h3, h4, h5, h6⟩ := h
  refine ⟨zNn_u h1 (by omega) v, fun j hj => ⟨?_, ?_, ?_⟩, fun j hj => ?_, ?_, ?_, ?_⟩
  · rw [u_n (by omega)]; exact (h2 j hj).1
  · by_cases e : j = i
    · subst e; rw [u_s]; exact hv
    · rw [u_n (by omega)]; exact (h2 j hj).2.1
  · rw [u_n (by omega)]; exact (h2 j hj).2.2
  · rw [u_n (by omega)]; exact h3 j hj
  · rw [u_n (by omega)]; exact h4
  · rw [u_n (by omega), u_n (by omega)]; exact h5
  · rw [u_n (by omega), u_n (by omega)]; exact h6
theorem zOk.u3 {S : zS} (h : zOk S) {i : Nat} (hi : i < 12) {v : Int32} (hv : fBt v 0 20 = true) : zOk (upd S (3 + 3 * i) v) := by
  obtain ⟨h1, h2, h3, h4, h5, h6⟩ := h
  refine ⟨zNn_u h1 (by omega) v, fun j hj => ⟨?_, ?_, ?_⟩, fun j hj => ?_, ?_, ?_, ?_⟩
  · rw [u_n (by omega)]; exact (h2 j hj).1
  · rw [u_n (by omega)]; exact (h2 j hj).2.1
  · by_cases e : j = i
    · subst e; rw [u_s]; exact hv
    · rw [u_n (by omega)]; exact (h2 j hj).2.2
  · rw [u_n (by omega)]; exact h3 j hj
  · rw [u_n (by omega)]; exact h4
  · rw [u_n (by omega), u_n (by omega)]; exact h5
  · rw [u_n (by omega), u_n (by omega)]; exact h6
theorem zOk.u0 {S : zS} (h : zOk S) {n : Nat} (hn : n ≤ 12) : zOk (upd S 0 (nI n)) := by
  obtain ⟨h1, h2, h3, h4, h5, h6⟩ := h
  refine ⟨⟨?_, ?_⟩, fun j hj => ⟨?_, ?_, ?_⟩, fun j hj => ?_, ?_, ?_, ?_⟩
  · unfold fCnt; rw [u_s, nI_clamp (by omega)]
  · unfold fCnt; rw [u_s, nI_clamp (by omega)]; exact hn
  · rw [u_n (by omega)]; exact (h2 j hj).1
  · rw [u_n (by omega)]; exact (h2 j hj).2.1
  · rw [u_n (by omega)]; exact (h2 j hj).2.2
  · rw [u_n (by omega)]; exact h3 j hj
  · rw [u_n (by omega)]; exact h4
  · rw [u_n (by omega), u_n (by omega)]; exact h5
  · rw [u_n (by omega), u_n (by omega)]; exact h6
theorem zOk.uf {S : zS} (h : zOk S) {i : Nat} (hi : i < 4) {v : Int32} (hv : fBt v 0 10 = true) : zOk (upd S (37 + i) v) := by
  obtain ⟨h1, h2, h3, h4, h5, h6⟩ := h
  refine ⟨zNn_u h1 (by omega) v, fun j hj => ⟨?_, ?_, ?_⟩, fun j hj => ?_, ?_, ?_, ?_⟩
  · rw [u_n (by omega)]; exact (h2 j hj).1
  · rw [u_n (by omega)]; exact (h2 j hj).2.1
  · rw [u_n (by omega)]; exact (h2 j hj).2.2
  · by_cases e : j = i
    · subst e; rw [u_s]; exact hv
    · rw [u_n (by omega)]; exact h3 j hj
  · rw [u_n (by omega)]; exact h4
  · rw [u_n (by omega), u_n (by omega)]; exact h5
  · rw [u_n (by omega), u_n (by omega)]; exact h6
theorem zOk.uh {S : zS} (h : zOk S) {k : Nat} (hk : 44 ≤ k) (v : Int32) : zOk (upd S k v) := by
  obtain ⟨h1, h2, h3, h4, h5, h6⟩ := h
  refine ⟨zNn_u h1 (by omega) v, fun j hj => ⟨?_, ?_, ?_⟩, fun j hj => ?_, ?_, ?_, ?_⟩
  · rw [u_n (by omega)]; exact (h2 j hj).1
  · rw [u_n (by omega)]; exact (h2 j hj).2.1
  · rw [u_n (by omega)]; exact (h2 j hj).2.2
  · rw [u_n (by omega)]; exact h3 j hj
  · rw [u_n (by omega)]; exact h4
  · rw [u_n (by omega), u_n (by omega)]; exact h5
  · rw [u_n (by omega), u_n (by omega)]; exact h6
theorem zOk.uc {S : zS} (h : zOk S) {v : Int32} {k : Nat} (hk : k < 3) (h1 : 0 ≤ v.toInt) (h2 : v.toInt ≤ 200) (h3 : 0 < k → (S (40 + k)).toInt ≤ v.toInt) (h4 : k < 2 → v.toInt ≤ (S (42 + k)).toInt) : zOk (upd S (41 + k) v) := by
  have hp := h.pt
  obtain ⟨g1, g2, g3, _, _, _⟩ := h
  have e0 : (0 : Int32).toInt = 0 := rfl
  have e2 : (200 : Int32).toInt = 200 := rfl
  refine ⟨zNn_u g1 (by omega) v, fun j hj => ⟨?_, ?_, ?_⟩, fun j hj => ?_, ?_⟩
  · rw [u_n (by omega)]; exact (g2 j hj).1
  · rw [u_n (by omega)]; exact (g2 j hj).2.1
  · rw [u_n (by omega)]; exact (g2 j hj).2.2
  · rw [u_n (by omega)]; exact g3 j hj
  · rcases (show k = 0 ∨ k = 1 ∨ k = 2 by omega) with rfl | rfl | rfl
    · have h4 := h4 (by decide)
      rw [show 41 + 0 = 41 from rfl, u_s, u_n (by decide), u_n (by decide)]
      rw [show 42 + 0 = 42 from rfl] at h4
      exact ⟨fBt_iff.mpr (by omega), fBt_iff.mpr (by omega), fBt_iff.mpr (by omega)⟩
    · have h3 := h3 (by decide)
      have h4 := h4 (by decide)
      rw [show 41 + 1 = 42 from rfl, u_s, u_n (by decide), u_n (by decide)]
      rw [show 42 + 1 = 43 from rfl] at h4
      rw [show 40 + 1 = 41 from rfl] at h3
      exact ⟨fBt_iff.mpr (by omega), fBt_iff.mpr (by omega), fBt_iff.mpr (by omega)⟩
    · have h3 := h3 (by decide)
      rw [show 41 + 2 = 43 from rfl, u_s, u_n (by decide), u_n (by decide)]
      rw [show 40 + 2 = 42 from rfl] at h3
      exact ⟨fBt_iff.mpr (by omega), fBt_iff.mpr (by omega), fBt_iff.mpr (by omega)⟩
theorem zOk.cpr {S : zS} (h : zOk S) {i j : Nat} (hi : i < 12) (hj : j < 12) : zOk (fCpR S i j) := by
  obtain ⟨h1, h2, h3⟩ := h.2.1 j hj
  exact ((h.u1 hi h1).u2 hi h2).u3 hi h3
theorem zOk.delF : ∀ (k i : Nat) {S : zS}, zOk S → i + k < 12 → zOk (fDelF S k i) := by
  intro k
  induction k with
  | zero => intro i S h _; exact h
  | succ k ih => intro i S h hk; rw [fDelF]; exact ih (i + 1) (h.cpr (by omega) (by omega)) (by omega)
theorem bt_f {b : Bool} (h : ¬ b = false) : b = true := by
  cases b
  · exact absurd rfl h
  · rfl
theorem fAdd_ok {S : zS} (h : zOk S) (a p l : Int32) : zOk (fAdd S a p l).2 := by
  unfold fAdd
  split
  · exact h
  · split
    · exact h
    · split
      · exact h
      · split
        · exact h
        · split
          · rename_i h1 h2 h3 h4 h5
            have h12 : fCnt S < 12 := by omega
            have := ((h.u1 h12 (bt_f h1)).u2 h12 (bt_f h2)).u3 h12 (bt_f h3)
            have h9 := this.u0 (n := fCnt S + 1) (by omega)
            rw [← nI_1, ← h.1.1] at h9
            exact h9
          · exact h
theorem fRem_ok {S : zS} (h : zOk S) (x : Int32) : zOk (fRem S x).2 := by
  unfold fRem
  split
  · exact h
  · rename_i hx
    obtain ⟨j, hj, rfl⟩ := fBad_n h.1 hx
    have h12 := h.1.2
    rw [nI_clamp (by omega)]
    have h9 := (zOk.delF (fCnt S - 1 - j) j h (by omega)).u0 (n := fCnt S - 1) (by omega)
    show zOk (upd (fDelF S (fCnt S - 1 - j) j) 0 (S 0 - 1))
    rw [h.1.1]
    rw [show nI (fCnt S) - 1 = nI (fCnt S - 1) from pk_sub (a := fCnt S) (b := 1) (by omega)]
    exact h9
theorem fMov_ok {S : zS} (h : zOk S) (x a p : Int32) : zOk (fMov S x a p).2 := by
  unfold fMov
  split
  · exact h
  · split
    · exact h
    · split
      · exact h
      · split
        · rename_i hx h1 h2 h3
          obtain ⟨j, hj, rfl⟩ := fBad_n h.1 hx
          have h12 := h.1.2
          rw [nI_clamp (by omega)]
          exact (h.u1 (by omega) (bt_f h1)).u2 (by omega) (bt_f h2)
        · exact h
theorem fLod_ok {S : zS} (h : zOk S) (x l : Int32) : zOk (fLod S x l).2 := by
  unfold fLod
  split
  · exact h
  · split
    · exact h
    · rename_i hx h1
      obtain ⟨j, hj, rfl⟩ := fBad_n h.1 hx
      have h12 := h.1.2
      rw [nI_clamp (by omega)]
      exact h.u3 (by omega) (bt_f h1)
theorem fSnd_ok {S : zS} (h : zOk S) (x y l : Int32) : zOk (fSnd S x y l).2 := by
  unfold fSnd
  split
  · exact h
  · split
    · exact h
    · split
      · exact h
      · split
        · exact h
        · split
          · exact h
          · split
            · exact h
            · rename_i hx hy hxy hl h5 h6
              obtain ⟨i, hi, rfl⟩ := fBad_n h.1 hx
              obtain ⟨j, hj, rfl⟩ := fBad_n h.1 hy
              have h12 := h.1.2
              rw [nI_clamp (by omega), nI_clamp (by omega)] at *
              have e0 : (0 : Int32).toInt = 0 := rfl
              have e1 : (1 : Int32).toInt = 1 := rfl
              have e20 : (20 : Int32).toInt = 20 := rfl
              have b1 := fBt_iff.mp (bt_f hl)
              have b2 := fBt_iff.mp (h.2.1 i (by omega)).2.2
              have b3 := fBt_iff.mp (h.2.1 j (by omega)).2.2
              rw [Int32.lt_iff_toInt_lt] at h5 h6
              rw [t_add (by omega) (by omega)] at h6
              refine (h.u3 (by omega) (fBt_iff.mpr ?_)).u3 (by omega) (fBt_iff.mpr ?_)
              · rw [t_sub (by omega) (by omega)]; omega
              · rw [t_add (by omega) (by omega)]; omega
theorem fLim_ok {S : zS} (h : zOk S) (v : Int32) : zOk (fLim S v).2 := by
  unfold fLim
  split
  · exact h
  · exact h.uh (by decide) v
theorem fFan_ok {S : zS} (h : zOk S) (a v : Int32) : zOk (fFan S a v).2 := by
  unfold fFan
  split
  · exact h
  · split
    · exact h
    · rename_i h1 h2
      obtain ⟨j, hj, rfl⟩ := fBt_n (n := 3) (by decide) (bt_f h1)
      rw [nI_clamp (by omega)]
      exact h.uf (by omega) (bt_f h2)
theorem fCrv_ok {S : zS} (h : zOk S) (p v : Int32) : zOk (fCrv S p v).2 := by
  unfold fCrv
  split
  · exact h
  · split
    · exact h
    · split
      · exact h
      · rename_i h1 h2 h3
        obtain ⟨j, hj, rfl⟩ := fBt_n (n := 2) (by decide) (bt_f h1)
        rw [nI_clamp (by omega)]
        have e0 : (0 : Int32).toInt = 0 := rfl
        have e200 : (200 : Int32).toInt = 200 := rfl
        have b2 := fBt_iff.mp (bt_f h2)
        have b3 := fBt_iff.mp (bt_f h3)
        refine h.uc (by omega) (by omega) (by omega) ?_ ?_
        · intro hj0
          rcases (show j = 1 ∨ j = 2 by omega) with rfl | rfl
          · exact b3.1
          · exact b3.1
        · intro hj0
          rcases (show j = 0 ∨ j = 1 by omega) with rfl | rfl
          · exact b3.2
          · exact b3.2
theorem fPs1_ok {S : zS} (h : zOk S) (x k v u : Int32) : zOk (fPs1 x k v u S) := ((h.uh (by decide) _).uh (by decide) _).uh (by decide) _
theorem fPsF_ok (x k v : Int32) : ∀ (n : Nat) (u : Int32) {S : zS}, zOk S → zOk (fPsF x k v n u S).2 := by
  intro n
  induction n with
  | zero => intro u S h; exact h
  | succ n ih => intro u S h; rw [fPsF]; exact ih _ (fPs1_ok h x k v u)
theorem fPsI_ok {S : zS} (h : zOk S) (j n : Nat) : zOk (fPsI S j n) := (fPsF_ok _ _ _ _ _ h).uh (by omega) _
theorem fPs4_ok {S : zS} (h : zOk S) (n : Nat) : zOk (fPs4 S n) := fPsI_ok (fPsI_ok (fPsI_ok (fPsI_ok h 0 n) 1 n) 2 n) 3 n
theorem fPas_ok {S : zS} (h : zOk S) (m : Int32) : zOk (fPas S m).2 := by
  unfold fPas
  split
  · exact h
  · exact (fPs4_ok h _).uh (by decide) _
/-- a centre as it is made -/
def zS0 : zS := fun k => if 37 ≤ k ∧ k < 41 then 5 else if k = 42 then 50 else if k = 43 then 80 else if k = 48 then 27 else 0
theorem zS0_ok : zOk zS0 := by
  refine ⟨⟨rfl, by decide⟩, fun i hi => ?_, fun i hi => ?_, by decide, by decide, by decide⟩
  · unfold zS0
    rw [if_neg (by omega), if_neg (by omega), if_neg (by omega), if_neg (by omega), if_neg (by omega), if_neg (by omega), if_neg (by omega), if_neg (by omega), if_neg (by omega), if_neg (by omega), if_neg (by omega), if_neg (by omega)]
    decide
  · unfold zS0
    rw [if_pos (by omega)]
    decide

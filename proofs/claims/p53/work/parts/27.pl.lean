/-! A planner's picture: laid by wip/p53/m27.py. -/
def zNN (N : Nat) : Prop := N = 16 ∨ N = 34 ∨ N = 70
/-- what the law keeps beside the planner -/
def zZz (M : zM) (Z : Nat → Prop) (b : Nat → Nat) (C : Nat → Nat → Nat) (v v' : Nat) : Prop := ∀ a, Z a → M a ≠ none ∧ (∀ i, i < 7 → a ≠ b i) ∧ (∀ i j, i < 11 → j < 20 → a ≠ C i j) ∧ a ≠ v ∧ a ≠ v'
/-- a planner: book b (0 itself, 1 timeline, 2 ring, 3 script, 4 text, 5 numbers, 6 output), centres C in the states S, newest, undoable, snapshot?, error, failed, text t to n, output u to k -/
def zPl (M : zM) (Z : Nat → Prop) (b : Nat → Nat) (C : Nat → Nat → Nat) (S : Nat → zS) (nw un : Nat) (hs ea fa : Int32) (t : Nat → Nat) (n : Nat) (u : Nat → Nat) (k : Nat) : Prop :=
  zAll M C S ∧ zTl M (b 1) (b 2) C nw un ∧ M (b 0) = some (.inr (10, [.ref (b 1), .ref (C 10 0), .int hs, .ref (b 3), .int ea, .int fa, .ref (b 6)])) ∧
  (∃ ps re nc cm, M (b 3) = some (.inr (8, [.ref (b 4), .int ps, .int re, .ref cm, .ref (b 5), .int nc]))) ∧
  (∃ f, M (b 5) = some (zAI 3 f)) ∧ (∀ i j, i < 11 → j < 20 → b 5 ≠ C i j) ∧ b 4 ≠ b 6 ∧
  ∃ v N v' N', zSB M (b 4) v t n N ∧ zNN N ∧ zSB M (b 6) v' u k N' ∧ zNN N' ∧ v ≠ v' ∧ zZz M Z b C v v'
/-- what a call keeps -/
def zKe (M M' : zM) (Z : Nat → Prop) : Prop := ∀ a, Z a → M' a = M a
theorem zKe.rf {M : zM} {Z : Nat → Prop} : zKe M M Z := fun _ _ => rfl
theorem zKe.tr {M M' M2 : zM} {Z : Nat → Prop} (h : zKe M M' Z) (h2 : zKe M' M2 Z) : zKe M M2 Z := fun a ha => (h2 a ha).trans (h a ha)
theorem zNN.ok {N : Nat} (h : zNN N) {a : Nat → Int32} : okTag (ztag (zAB N a)) = true := by
  rcases h with rfl | rfl | rfl <;> rfl
theorem zNN.le {N : Nat} (h : zNN N) : 16 ≤ N ∧ N ≤ 70 := by
  rcases h with rfl | rfl | rfl <;> omega
theorem zSB.keep {M M' : zM} {s v : Nat} {t : Nat → Nat} {n m : Nat} (h : zSB M s v t n m) (e1 : M' s = M s) (e2 : M' v = M v) : zSB M' s v t n m := by
  obtain ⟨ml, a, h1, h2, h3⟩ := h
  exact ⟨ml, a, e1.trans h1, e2.trans h2, h3⟩
theorem zZz.keep {M M' : zM} {Z : Nat → Prop} {b : Nat → Nat} {C : Nat → Nat → Nat} {v v' : Nat} (h : zZz M Z b C v v') (hk : zKe M M' Z) : zZz M' Z b C v v' := fun a ha => by
  obtain ⟨h1, h2⟩ := h a ha
  exact ⟨by rw [hk a ha]; exact h1, h2⟩
/-- centres and timeline change -/
theorem zPl.out {M M' : zM} {Z : Nat → Prop} {b : Nat → Nat} {C : Nat → Nat → Nat} {S : Nat → zS} {nw un : Nat} {hs ea fa : Int32} {t : Nat → Nat} {n : Nat} {u : Nat → Nat} {k : Nat} {S' : Nat → zS} {nw' un' : Nat} (h : zPl M Z b C S nw un hs ea fa t n u k) (hA : zAll M' C S') (hT : zTl M' (b 1) (b 2) C nw' un') (ho : zOut M M' C (b 1)) : zPl M' Z b C S' nw' un' hs ea fa t n u k ∧ zKe M M' Z := by
  obtain ⟨g1, g2, g3, ⟨ps, re, nc, cm, g4⟩, ⟨f, g5⟩, g6, g7, v, N, v', N', g8, g9, g10, g11, g12, g13⟩ := h
  obtain ⟨-, -, k1, -⟩ := g2
  have hk : ∀ x e, M x = some e → ztag e ≠ 9 → (∀ i j, i < 11 → j < 20 → x ≠ C i j) → M' x = M x := fun x e hx h9 hc => ho x (zne_d k1 hx (fun q => h9 q.symm)) hc
  have hz : zKe M M' Z := fun a ha => ho a ((g13 a ha).2.1 1 (by decide)) (g13 a ha).2.2.1
  have e0 := hk _ _ g3 (show (10 : Nat) ≠ 9 by decide) (g1.out g3 rfl)
  have e3 := hk _ _ g4 (show (8 : Nat) ≠ 9 by decide) (g1.out g4 rfl)
  have e5 := hk _ _ g5 (show (303 : Nat) ≠ 9 by decide) g6
  have sb : ∀ s v t n N, zSB M s v t n N → zNN N → zSB M' s v t n N := fun s v t n N hs hN => by
    obtain ⟨ml, a, s1, s2, s3⟩ := id hs
    refine hs.keep (hk _ _ s1 (show (1 : Nat) ≠ 9 by decide) (g1.out s1 rfl)) (hk _ _ s2 ?_ (g1.out s2 hN.ok))
    rcases hN with rfl | rfl | rfl
    · exact (show (116 : Nat) ≠ 9 by decide)
    · exact (show (134 : Nat) ≠ 9 by decide)
    · exact (show (170 : Nat) ≠ 9 by decide)
  exact ⟨⟨hA, hT, e0.trans g3, ⟨ps, re, nc, cm, e3.trans g4⟩, ⟨f, e5.trans g5⟩, g6, g7, v, N, v', N', sb _ _ _ _ _ g8 g9, g9, sb _ _ _ _ _ g10 g11, g11, g12, g13.keep hz⟩, hz⟩
/-- a centre changes -/
theorem zPl.cen {M M' : zM} {Z : Nat → Prop} {b : Nat → Nat} {C : Nat → Nat → Nat} {S : Nat → zS} {nw un : Nat} {hs ea fa : Int32} {t : Nat → Nat} {n : Nat} {u : Nat → Nat} {k : Nat} (h : zPl M Z b C S nw un hs ea fa t n u k) {j : Nat} (hj : j < 11) {T : zS} (hT : zCen M' (C j) T) (hO : zOk T) (ho : zOff M M' (C j)) : zPl M' Z b C (va_up S j T) nw un hs ea fa t n u k ∧ zKe M M' Z :=
  h.out (h.1.upd hj hT hO ho) (h.2.1.off h.1 hj ho) (ho.out hj)
/-- the timeline changes -/
theorem zPl.tl {M M' : zM} {Z : Nat → Prop} {b : Nat → Nat} {C : Nat → Nat → Nat} {S : Nat → zS} {nw un : Nat} {hs ea fa : Int32} {t : Nat → Nat} {n : Nat} {u : Nat → Nat} {k : Nat} {nw' un' : Nat} (h : zPl M Z b C S nw un hs ea fa t n u k) (hT : zTl M' (b 1) (b 2) C nw' un') (ho : ∀ a, a ≠ b 1 → M' a = M a) : zPl M' Z b C S nw' un' hs ea fa t n u k ∧ zKe M M' Z := by
  obtain ⟨-, -, k1, -⟩ := id h.2.1
  exact h.out (h.1.frame (fun i j hi hj => ho _ (h.1.out k1 rfl i j hi hj).symm)) hT (fun a h1 _ => ho a h1)
/-- the planner's own fields change -/
theorem zPl.own {M M' : zM} {Z : Nat → Prop} {b : Nat → Nat} {C : Nat → Nat → Nat} {S : Nat → zS} {nw un : Nat} {hs ea fa : Int32} {t : Nat → Nat} {n : Nat} {u : Nat → Nat} {k : Nat} (h : zPl M Z b C S nw un hs ea fa t n u k) (hs' ea' fa' : Int32) : zPl (zup M (b 0) (.inr (10, [.ref (b 1), .ref (C 10 0), .int hs', .ref (b 3), .int ea', .int fa', .ref (b 6)]))) Z b C S nw un hs' ea' fa' t n u k ∧ zKe M (zup M (b 0) (.inr (10, [.ref (b 1), .ref (C 10 0), .int hs', .ref (b 3), .int ea', .int fa', .ref (b 6)]))) Z := by
  obtain ⟨g1, g2, g3, ⟨ps, re, nc, cm, g4⟩, ⟨f, g5⟩, g6, g7, v, N, v', N', g8, g9, g10, g11, g12, g13⟩ := h
  obtain ⟨-, -, k1, f2, k2, -⟩ := id g2
  have hk : ∀ x e, M x = some e → ztag e ≠ 10 → zup M (b 0) (.inr (10, [.ref (b 1), .ref (C 10 0), .int hs', .ref (b 3), .int ea', .int fa', .ref (b 6)])) x = M x := fun x e hx h9 => zup_n (zne_d g3 hx (fun q => h9 q.symm))
  have hz : zKe M (zup M (b 0) (.inr (10, [.ref (b 1), .ref (C 10 0), .int hs', .ref (b 3), .int ea', .int fa', .ref (b 6)]))) Z := fun a ha => zup_n ((g13 a ha).2.1 0 (by decide))
  have sb : ∀ s v t n N, zSB M s v t n N → zNN N → zSB (zup M (b 0) (.inr (10, [.ref (b 1), .ref (C 10 0), .int hs', .ref (b 3), .int ea', .int fa', .ref (b 6)]))) s v t n N := fun s v t n N hs hN => by
    obtain ⟨ml, a, s1, s2, s3⟩ := id hs
    refine hs.keep (hk _ _ s1 (show (1 : Nat) ≠ 10 by decide)) (hk _ _ s2 ?_)
    rcases hN with rfl | rfl | rfl
    · exact (show (116 : Nat) ≠ 10 by decide)
    · exact (show (134 : Nat) ≠ 10 by decide)
    · exact (show (170 : Nat) ≠ 10 by decide)
  exact ⟨⟨g1.frame (fun i j hi hj => zup_n (g1.out g3 rfl i j hi hj).symm), g2.keep (hk _ _ k1 (show (9 : Nat) ≠ 10 by decide)) (hk _ _ k2 (show (410 : Nat) ≠ 10 by decide)), zup_s, ⟨ps, re, nc, cm, (hk _ _ g4 (show (8 : Nat) ≠ 10 by decide)).trans g4⟩, ⟨f, (hk _ _ g5 (show (303 : Nat) ≠ 10 by decide)).trans g5⟩, g6, g7, v, N, v', N', sb _ _ _ _ _ g8 g9, g9, sb _ _ _ _ _ g10 g11, g11, g12, g13.keep hz⟩, hz⟩
/-- the script's own fields change -/
theorem zPl.scr {M M' : zM} {Z : Nat → Prop} {b : Nat → Nat} {C : Nat → Nat → Nat} {S : Nat → zS} {nw un : Nat} {hs ea fa : Int32} {t : Nat → Nat} {n : Nat} {u : Nat → Nat} {k : Nat} (h : zPl M Z b C S nw un hs ea fa t n u k) {ps re nc : Int32} {cm : Nat} : zPl (zup M (b 3) (.inr (8, [.ref (b 4), .int ps, .int re, .ref cm, .ref (b 5), .int nc]))) Z b C S nw un hs ea fa t n u k ∧ zKe M (zup M (b 3) (.inr (8, [.ref (b 4), .int ps, .int re, .ref cm, .ref (b 5), .int nc]))) Z := by
  obtain ⟨g1, g2, g3, ⟨ps', re', nc', cm', g4⟩, ⟨f, g5⟩, g6, g7, v, N, v', N', g8, g9, g10, g11, g12, g13⟩ := h
  obtain ⟨-, -, k1, f2, k2, -⟩ := id g2
  have hk : ∀ x e, M x = some e → ztag e ≠ 8 → zup M (b 3) (.inr (8, [.ref (b 4), .int ps, .int re, .ref cm, .ref (b 5), .int nc])) x = M x := fun x e hx h9 => zup_n (zne_d g4 hx (fun q => h9 q.symm))
  have hz : zKe M (zup M (b 3) (.inr (8, [.ref (b 4), .int ps, .int re, .ref cm, .ref (b 5), .int nc]))) Z := fun a ha => zup_n ((g13 a ha).2.1 3 (by decide))
  have sb : ∀ s v t n N, zSB M s v t n N → zNN N → zSB (zup M (b 3) (.inr (8, [.ref (b 4), .int ps, .int re, .ref cm, .ref (b 5), .int nc]))) s v t n N := fun s v t n N hs hN => by
    obtain ⟨ml, a, s1, s2, s3⟩ := id hs
    refine hs.keep (hk _ _ s1 (show (1 : Nat) ≠ 8 by decide)) (hk _ _ s2 ?_)
    rcases hN with rfl | rfl | rfl
    · exact (show (116 : Nat) ≠ 8 by decide)
    · exact (show (134 : Nat) ≠ 8 by decide)
    · exact (show (170 : Nat) ≠ 8 by decide)
  exact ⟨⟨g1.frame (fun i j hi hj => zup_n (g1.out g4 rfl i j hi hj).symm), g2.keep (hk _ _ k1 (show (9 : Nat) ≠ 8 by decide)) (hk _ _ k2 (show (410 : Nat) ≠ 8 by decide)), (hk _ _ g3 (show (10 : Nat) ≠ 8 by decide)).trans g3, ⟨ps, re, nc, cm, zup_s⟩, ⟨f, (hk _ _ g5 (show (303 : Nat) ≠ 8 by decide)).trans g5⟩, g6, g7, v, N, v', N', sb _ _ _ _ _ g8 g9, g9, sb _ _ _ _ _ g10 g11, g11, g12, g13.keep hz⟩, hz⟩
/-- the script's numbers change -/
theorem zPl.num {M M' : zM} {Z : Nat → Prop} {b : Nat → Nat} {C : Nat → Nat → Nat} {S : Nat → zS} {nw un : Nat} {hs ea fa : Int32} {t : Nat → Nat} {n : Nat} {u : Nat → Nat} {k : Nat} (h : zPl M Z b C S nw un hs ea fa t n u k) (f9 : Nat → Int32) : zPl (zup M (b 5) (zAI 3 f9)) Z b C S nw un hs ea fa t n u k ∧ zKe M (zup M (b 5) (zAI 3 f9)) Z := by
  obtain ⟨g1, g2, g3, ⟨ps, re, nc, cm, g4⟩, ⟨f, g5⟩, g6, g7, v, N, v', N', g8, g9, g10, g11, g12, g13⟩ := h
  obtain ⟨-, -, k1, f2, k2, -⟩ := id g2
  have hk : ∀ x e, M x = some e → ztag e ≠ 303 → zup M (b 5) (zAI 3 f9) x = M x := fun x e hx h9 => zup_n (zne_d g5 hx (fun q => h9 q.symm))
  have hz : zKe M (zup M (b 5) (zAI 3 f9)) Z := fun a ha => zup_n ((g13 a ha).2.1 5 (by decide))
  have sb : ∀ s v t n N, zSB M s v t n N → zNN N → zSB (zup M (b 5) (zAI 3 f9)) s v t n N := fun s v t n N hs hN => by
    obtain ⟨ml, a, s1, s2, s3⟩ := id hs
    refine hs.keep (hk _ _ s1 (show (1 : Nat) ≠ 303 by decide)) (hk _ _ s2 ?_)
    rcases hN with rfl | rfl | rfl
    · exact (show (116 : Nat) ≠ 303 by decide)
    · exact (show (134 : Nat) ≠ 303 by decide)
    · exact (show (170 : Nat) ≠ 303 by decide)
  exact ⟨⟨g1.frame (fun i j hi hj => zup_n (g6 i j hi hj).symm), g2.keep (hk _ _ k1 (show (9 : Nat) ≠ 303 by decide)) (hk _ _ k2 (show (410 : Nat) ≠ 303 by decide)), (hk _ _ g3 (show (10 : Nat) ≠ 303 by decide)).trans g3, ⟨ps, re, nc, cm, (hk _ _ g4 (show (8 : Nat) ≠ 303 by decide)).trans g4⟩, ⟨f9, zup_s⟩, g6, g7, v, N, v', N', sb _ _ _ _ _ g8 g9, g9, sb _ _ _ _ _ g10 g11, g11, g12, g13.keep hz⟩, hz⟩

/-- the builder 4 changes -/
theorem zPl.txt {M M' : zM} {Z : Nat → Prop} {b : Nat → Nat} {C : Nat → Nat → Nat} {S : Nat → zS} {nw un : Nat} {hs ea fa : Int32} {t : Nat → Nat} {n : Nat} {u : Nat → Nat} {k : Nat} (h : zPl M Z b C S nw un hs ea fa t n u k) {t' : Nat → Nat} {n' : Nat} (hq : ∀ v N, zSB M (b 4) v t n N → zNN N → ∃ v2 N2, zSB M' (b 4) v2 t' n' N2 ∧ zNN N2 ∧ zGr M M' (b 4) v v2) : zPl M' Z b C S nw un hs ea fa t' n' u k ∧ zKe M M' Z := by
  obtain ⟨g1, g2, g3, ⟨ps, re, nc, cm, g4⟩, ⟨f, g5⟩, g6, g7, v, N, v', N', g8, g9, g10, g11, g12, g13⟩ := h
  obtain ⟨-, -, k1, f2, k2, -⟩ := id g2
  obtain ⟨v2, N2, q1, q2, q3, q4⟩ := hq _ _ g8 g9
  obtain ⟨ml, a, s1, s2, s3⟩ := id g8
  obtain ⟨ml', a', s1', s2', s3'⟩ := id g10
  have hk : ∀ x e, M x = some e → x ≠ b 4 → x ≠ v → M' x = M x := fun x e hx h1 h2 => q4 x h1 h2 (fun e9 => by
    rcases q3 with q3 | q3
    · rw [e9] at h2; exact h2 q3
    · rw [e9, q3] at hx; cases hx)
  have ht : ∀ x e, M x = some e → ztag e ≠ 1 → ztag e ≠ ztag (zAB N a) → M' x = M x := fun x e hx h1 h2 => hk x e hx (zne_d s1 hx (fun q => h1 q.symm)) (zne_d s2 hx (fun q => h2 q.symm))
  have hN : ∀ y : Nat, okTag y = false ∨ y ≤ 10 ∨ y = 410 ∨ y = 303 → y ≠ ztag (zAB N a) := fun y hy e => by
    have h9 : y = 100 + 100 * 0 + N := e
    have h8 := g9.le
    rcases hy with hy | hy | hy | hy
    · rw [e, g9.ok] at hy; cases hy
    · omega
    · omega
    · omega
  have hz : zKe M M' Z := fun x hx => by
    obtain ⟨z1, z2, z3, z4, z5⟩ := g13 x hx
    cases hy : M x with
    | none => exact absurd hy z1
    | some e => rw [hk x e hy (z2 4 (by decide)) z4]; exact hy
  have hC : zAll M' C S := g1.frame (fun i j hi hj => by
    obtain ⟨e, e1, e2⟩ := (g1.cen hi).tag hj
    have e3 := ctag_ok j hj
    refine ht _ _ e1 (fun q => ?_) (hN _ (Or.inl (by rw [e2]; exact e3)))
    rw [← e2, q] at e3
    cases e3)
  have hv : v2 ≠ v' := fun e => by
    rcases q3 with q3 | q3
    · exact g12 (q3.symm.trans e)
    · rw [e, s2'] at q3; cases q3
  have other := g10.keep (hk _ _ s1' g7.symm (zne_d s2 s1' (show _ ≠ (1 : Nat) by have := g9.le; show 100 + 100 * 0 + N ≠ 1; omega))) (hk _ _ s2' (zne_d s1 s2' (show (1 : Nat) ≠ _ by have := g11.le; show 1 ≠ 100 + 100 * 0 + N'; omega)) g12.symm)
  refine ⟨⟨hC, g2.keep (ht _ _ k1 (show (9 : Nat) ≠ 1 by decide) (hN 9 (by decide))) (ht _ _ k2 (show (410 : Nat) ≠ 1 by decide) (hN 410 (by decide))), (ht _ _ g3 (show (10 : Nat) ≠ 1 by decide) (hN 10 (by decide))).trans g3, ⟨ps, re, nc, cm, (ht _ _ g4 (show (8 : Nat) ≠ 1 by decide) (hN 8 (by decide))).trans g4⟩, ⟨f, (ht _ _ g5 (show (303 : Nat) ≠ 1 by decide) (hN 303 (by decide))).trans g5⟩, g6, g7, v2, N2, v', N', q1, q2, other, g11, hv, fun x hx => ?_⟩, hz⟩
  obtain ⟨z1, z2, z3, z4, z5⟩ := g13 x hx
  have hx2 : x ≠ v2 := fun e => by
    rcases q3 with q3 | q3
    · exact z4 (e.trans q3)
    · rw [← e] at q3; exact z1 q3
  exact ⟨by rw [hz x hx]; exact z1, z2, z3, hx2, z5⟩

/-- the builder 6 changes -/
theorem zPl.outp {M M' : zM} {Z : Nat → Prop} {b : Nat → Nat} {C : Nat → Nat → Nat} {S : Nat → zS} {nw un : Nat} {hs ea fa : Int32} {t : Nat → Nat} {n : Nat} {u : Nat → Nat} {k : Nat} (h : zPl M Z b C S nw un hs ea fa t n u k) {t' : Nat → Nat} {n' : Nat} (hq : ∀ v N, zSB M (b 6) v u k N → zNN N → ∃ v2 N2, zSB M' (b 6) v2 t' n' N2 ∧ zNN N2 ∧ zGr M M' (b 6) v v2) : zPl M' Z b C S nw un hs ea fa t n t' n' ∧ zKe M M' Z := by
  obtain ⟨g1, g2, g3, ⟨ps, re, nc, cm, g4⟩, ⟨f, g5⟩, g6, g7, v, N, v', N', g8, g9, g10, g11, g12, g13⟩ := h
  obtain ⟨-, -, k1, f2, k2, -⟩ := id g2
  obtain ⟨v2, N2, q1, q2, q3, q4⟩ := hq _ _ g10 g11
  obtain ⟨ml, a, s1, s2, s3⟩ := id g10
  obtain ⟨ml', a', s1', s2', s3'⟩ := id g8
  have hk : ∀ x e, M x = some e → x ≠ b 6 → x ≠ v' → M' x = M x := fun x e hx h1 h2 => q4 x h1 h2 (fun e9 => by
    rcases q3 with q3 | q3
    · rw [e9] at h2; exact h2 q3
    · rw [e9, q3] at hx; cases hx)
  have ht : ∀ x e, M x = some e → ztag e ≠ 1 → ztag e ≠ ztag (zAB N' a) → M' x = M x := fun x e hx h1 h2 => hk x e hx (zne_d s1 hx (fun q => h1 q.symm)) (zne_d s2 hx (fun q => h2 q.symm))
  have hN : ∀ y : Nat, okTag y = false ∨ y ≤ 10 ∨ y = 410 ∨ y = 303 → y ≠ ztag (zAB N' a) := fun y hy e => by
    have h9 : y = 100 + 100 * 0 + N' := e
    have h8 := g11.le
    rcases hy with hy | hy | hy | hy
    · rw [e, g11.ok] at hy; cases hy
    · omega
    · omega
    · omega
  have hz : zKe M M' Z := fun x hx => by
    obtain ⟨z1, z2, z3, z4, z5⟩ := g13 x hx
    cases hy : M x with
    | none => exact absurd hy z1
    | some e => rw [hk x e hy (z2 6 (by decide)) z5]; exact hy
  have hC : zAll M' C S := g1.frame (fun i j hi hj => by
    obtain ⟨e, e1, e2⟩ := (g1.cen hi).tag hj
    have e3 := ctag_ok j hj
    refine ht _ _ e1 (fun q => ?_) (hN _ (Or.inl (by rw [e2]; exact e3)))
    rw [← e2, q] at e3
    cases e3)
  have hv : v2 ≠ v := fun e => by
    rcases q3 with q3 | q3
    · exact g12 (q3.symm.trans e).symm
    · rw [e, s2'] at q3; cases q3
  have other := g8.keep (hk _ _ s1' g7 (zne_d s2 s1' (show _ ≠ (1 : Nat) by have := g11.le; show 100 + 100 * 0 + N' ≠ 1; omega))) (hk _ _ s2' (zne_d s1 s2' (show (1 : Nat) ≠ _ by have := g9.le; show 1 ≠ 100 + 100 * 0 + N; omega)) g12)
  refine ⟨⟨hC, g2.keep (ht _ _ k1 (show (9 : Nat) ≠ 1 by decide) (hN 9 (by decide))) (ht _ _ k2 (show (410 : Nat) ≠ 1 by decide) (hN 410 (by decide))), (ht _ _ g3 (show (10 : Nat) ≠ 1 by decide) (hN 10 (by decide))).trans g3, ⟨ps, re, nc, cm, (ht _ _ g4 (show (8 : Nat) ≠ 1 by decide) (hN 8 (by decide))).trans g4⟩, ⟨f, (ht _ _ g5 (show (303 : Nat) ≠ 1 by decide) (hN 303 (by decide))).trans g5⟩, g6, g7, v, N, v2, N2, other, g9, q1, q2, hv.symm, fun x hx => ?_⟩, hz⟩
  obtain ⟨z1, z2, z3, z4, z5⟩ := g13 x hx
  have hx2 : x ≠ v2 := fun e => by
    rcases q3 with q3 | q3
    · exact z5 (e.trans q3)
    · rw [← e] at q3; exact z1 q3
  exact ⟨by rw [hz x hx]; exact z1, z2, z3, z4, hx2⟩

/-- the law makes something new -/
theorem zPl.add {M : zM} {Z : Nat → Prop} {b : Nat → Nat} {C : Nat → Nat → Nat} {S : Nat → zS} {nw un : Nat} {hs ea fa : Int32} {t : Nat → Nat} {n : Nat} {u : Nat → Nat} {k : Nat} (h : zPl M Z b C S nw un hs ea fa t n u k) {q : Nat} {e : zE} (hq : M q = none) : zPl (zup M q e) (fun a => Z a ∨ a = q) b C S nw un hs ea fa t n u k := by
  obtain ⟨g1, g2, g3, ⟨ps, re, nc, cm, g4⟩, ⟨f, g5⟩, g6, g7, v, N, v', N', g8, g9, g10, g11, g12, g13⟩ := h
  obtain ⟨-, -, k1, f2, k2, -⟩ := id g2
  have hk : ∀ x e9, M x = some e9 → x ≠ q := fun x e9 hx e1 => by rw [e1, hq] at hx; cases hx
  have hu : ∀ x e9, M x = some e9 → zup M q e x = M x := fun x e9 hx => zup_n (hk x e9 hx)
  obtain ⟨ml, a, s1, s2, s3⟩ := id g8
  obtain ⟨ml', a', s1', s2', s3'⟩ := id g10
  have hC : ∀ i j, i < 11 → j < 20 → C i j ≠ q := fun i j hi hj => by
    obtain ⟨e9, e1, -⟩ := (g1.cen hi).tag hj
    exact hk _ _ e1
  refine ⟨g1.frame (fun i j hi hj => zup_n (hC i j hi hj)), g2.keep (hu _ _ k1) (hu _ _ k2), (hu _ _ g3).trans g3, ⟨ps, re, nc, cm, (hu _ _ g4).trans g4⟩, ⟨f, (hu _ _ g5).trans g5⟩, g6, g7, v, N, v', N', g8.keep (hu _ _ s1) (hu _ _ s2), g9, g10.keep (hu _ _ s1') (hu _ _ s2'), g11, g12, fun x hx => ?_⟩
  rcases hx with hx | rfl
  · obtain ⟨z1, z2⟩ := g13 x hx
    refine ⟨?_, z2⟩
    rw [zup_n (fun e1 => z1 (by rw [e1]; exact hq))]
    exact z1
  · refine ⟨(by rw [zup_s]; exact (fun h => nomatch h)), fun i hi => ?_, fun i j hi hj => (hC i j hi hj).symm, (hk _ _ s2).symm, (hk _ _ s2').symm⟩
    rcases (show i = 0 ∨ i = 1 ∨ i = 2 ∨ i = 3 ∨ i = 4 ∨ i = 5 ∨ i = 6 by omega) with rfl | rfl | rfl | rfl | rfl | rfl | rfl
    · exact (hk _ _ g3).symm
    · exact (hk _ _ k1).symm
    · exact (hk _ _ k2).symm
    · exact (hk _ _ g4).symm
    · exact (hk _ _ s1).symm
    · exact (hk _ _ g5).symm
    · exact (hk _ _ s1').symm

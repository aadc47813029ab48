/-! The state in words of its own: a centre is 53 ints. 0: how many racks; 1 + 3 i ..: aisle, place, load of rack i; 37 ..: speeds; 41 ..: the curve; 44 ..: stored; 48 limit, 49 minute, 50 made, 51 carried, 52 energy. Its 20 cells: c 0 the centre, 1 racks, 2 fans, 3 stored, 4 measured, 5 row, 6 speeds, 7 curve, 8 .. 19 the racks. -/
abbrev zS : Type := Nat → Int32
def zCen (M : zM) (c : Nat → Nat) (S : zS) : Prop :=
  (∀ i j, i < 20 → j < 20 → c i = c j → i = j) ∧
  M (c 0) = some (.inr (4, [.ref (c 1), .ref (c 2), .ref (c 3), .int (S 48), .int (S 49), .int (S 50), .int (S 51), .int (S 52), .ref (c 4)])) ∧
  M (c 1) = some (.inr (7, [.ref (c 5), .int (S 0)])) ∧
  M (c 2) = some (.inr (5, [.ref (c 6), .ref (c 7)])) ∧
  (∃ f, M (c 3) = some (zAI 4 f) ∧ ∀ j, j < 4 → f j = S (44 + j)) ∧
  (∃ g, M (c 4) = some (zAF 12 g)) ∧
  (∃ f, M (c 5) = some (zAR 12 f) ∧ ∀ j, j < 12 → f j = some (c (8 + j))) ∧
  (∃ f, M (c 6) = some (zAI 4 f) ∧ ∀ j, j < 4 → f j = S (37 + j)) ∧
  (∃ f, M (c 7) = some (zAI 3 f) ∧ ∀ j, j < 3 → f j = S (41 + j)) ∧
  (∀ i, i < 12 → M (c (8 + i)) = some (.inr (6, [.int (S (1 + 3 * i)), .int (S (2 + 3 * i)), .int (S (3 + 3 * i))])))
section ZC
variable {M M' : zM} {c : Nat → Nat} {S S' : zS}
theorem zCen.inj (h : zCen M c S) : ∀ i j, i < 20 → j < 20 → c i = c j → i = j := h.1
theorem zCen.ne (h : zCen M c S) {i j : Nat} (hi : i < 20) (hj : j < 20) (hn : i ≠ j) : c i ≠ c j := fun e => hn (h.1 i j hi hj e)
theorem zCen.c0 (h : zCen M c S) : M (c 0) = some (.inr (4, [.ref (c 1), .ref (c 2), .ref (c 3), .int (S 48), .int (S 49), .int (S 50), .int (S 51), .int (S 52), .ref (c 4)])) := h.2.1
theorem zCen.c1 (h : zCen M c S) : M (c 1) = some (.inr (7, [.ref (c 5), .int (S 0)])) := h.2.2.1
theorem zCen.c2 (h : zCen M c S) : M (c 2) = some (.inr (5, [.ref (c 6), .ref (c 7)])) := h.2.2.2.1
theorem zCen.c3 (h : zCen M c S) : ∃ f, M (c 3) = some (zAI 4 f) ∧ ∀ j, j < 4 → f j = S (44 + j) := h.2.2.2.2.1
theorem zCen.c4 (h : zCen M c S) : ∃ g, M (c 4) = some (zAF 12 g) := h.2.2.2.2.2.1
theorem zCen.c5 (h : zCen M c S) : ∃ f, M (c 5) = some (zAR 12 f) ∧ ∀ j, j < 12 → f j = some (c (8 + j)) := h.2.2.2.2.2.2.1
theorem zCen.c6 (h : zCen M c S) : ∃ f, M (c 6) = some (zAI 4 f) ∧ ∀ j, j < 4 → f j = S (37 + j) := h.2.2.2.2.2.2.2.1
theorem zCen.c7 (h : zCen M c S) : ∃ f, M (c 7) = some (zAI 3 f) ∧ ∀ j, j < 3 → f j = S (41 + j) := h.2.2.2.2.2.2.2.2.1
theorem zCen.rk (h : zCen M c S) {i : Nat} (hi : i < 12) : M (c (8 + i)) = some (.inr (6, [.int (S (1 + 3 * i)), .int (S (2 + 3 * i)), .int (S (3 + 3 * i))])) := h.2.2.2.2.2.2.2.2.2 i hi
/-- what lies elsewhere may change -/
theorem zCen.frame (h : zCen M c S) (hf : ∀ i, i < 20 → M' (c i) = M (c i)) : zCen M' c S := by
  obtain ⟨h0, h1, h2, h3, h4, h5, h6, h7, h8, h9⟩ := h
  refine ⟨h0, by rw [hf 0 (by decide)]; exact h1, by rw [hf 1 (by decide)]; exact h2, by rw [hf 2 (by decide)]; exact h3, by rw [hf 3 (by decide)]; exact h4, by rw [hf 4 (by decide)]; exact h5, by rw [hf 5 (by decide)]; exact h6, by rw [hf 6 (by decide)]; exact h7, by rw [hf 7 (by decide)]; exact h8, fun i hi => by rw [hf (8 + i) (by omega)]; exact h9 i hi⟩
/-- only the 53 count -/
theorem zCen.ext (h : zCen M c S) (hs : ∀ k, k < 53 → S' k = S k) : zCen M c S' := by
  obtain ⟨h0, h1, h2, h3, ⟨f4, h4, g4⟩, h5, h6, ⟨f7, h7, g7⟩, ⟨f8, h8, g8⟩, h9⟩ := h
  refine ⟨h0, ?_, by rw [hs 0 (by decide)]; exact h2, h3, ⟨f4, h4, fun j hj => by rw [hs (44 + j) (by omega)]; exact g4 j hj⟩, h5, h6, ⟨f7, h7, fun j hj => by rw [hs (37 + j) (by omega)]; exact g7 j hj⟩, ⟨f8, h8, fun j hj => by rw [hs (41 + j) (by omega)]; exact g8 j hj⟩, fun i hi => ?_⟩
  · rw [hs 48 (by decide), hs 49 (by decide), hs 50 (by decide), hs 51 (by decide), hs 52 (by decide)]; exact h1
  · rw [hs (1 + 3 * i) (by omega), hs (2 + 3 * i) (by omega), hs (3 + 3 * i) (by omega)]; exact h9 i hi
/-- everything but the centre's cells is as it was -/
def zOff (M M' : zM) (c : Nat → Nat) : Prop := ∀ a, (∀ i, i < 20 → a ≠ c i) → M' a = M a
theorem zOff.rf : zOff M M c := fun _ _ => rfl
theorem zOff.tr {M2 : zM} (h : zOff M M' c) (h2 : zOff M' M2 c) : zOff M M2 c := fun a ha => (h2 a ha).trans (h a ha)
theorem zOff.up {e : zE} {k : Nat} (hk : k < 20) : zOff M (zup M (c k) e) c := fun a ha => zup_n (ha k hk)
theorem u_s {f : Nat → Int32} {k : Nat} {x : Int32} : upd f k x k = x := pk_us
theorem u_n {f : Nat → Int32} {k j : Nat} {x : Int32} (h : j ≠ k) : upd f k x j = f j := pk_un h
/-- a store to one of the five ints of the centre -/
theorem zCen.put0 (h : zCen M c S) {k : Nat} (hk : 3 ≤ k) (hk2 : k < 8) (v : Int32) : zCen (zup M (c 0) (.inr (4, ([.ref (c 1), .ref (c 2), .ref (c 3), .int (S 48), .int (S 49), .int (S 50), .int (S 51), .int (S 52), .ref (c 4)] : List Value).set k (.int v)))) c (upd S (45 + k) v) := by
  have hn : ∀ j, 0 < j → j < 20 → c j ≠ c 0 := fun j h1 h2 => h.ne h2 (by decide) (by omega)
  obtain ⟨h0, h1, h2, h3, ⟨f4, h4, g4⟩, ⟨f5, h5⟩, ⟨f6, h6, g6⟩, ⟨f7, h7, g7⟩, ⟨f8, h8, g8⟩, h9⟩ := h
  refine ⟨h0, ?_, ?_, ?_, ⟨f4, ?_, fun j hj => ?_⟩, ⟨f5, ?_⟩, ⟨f6, ?_, g6⟩, ⟨f7, ?_, fun j hj => ?_⟩, ⟨f8, ?_, fun j hj => ?_⟩, fun i hi => ?_⟩
  · rw [zup_s]
    rcases (show k = 3 ∨ k = 4 ∨ k = 5 ∨ k = 6 ∨ k = 7 by omega) with rfl | rfl | rfl | rfl | rfl <;> rfl
  · rw [zup_n (hn 1 (by decide) (by decide)), u_n (by omega)]; exact h2
  · rw [zup_n (hn 2 (by decide) (by decide))]; exact h3
  · rw [zup_n (hn 3 (by decide) (by decide))]; exact h4
  · rw [u_n (by omega)]; exact g4 j hj
  · rw [zup_n (hn 4 (by decide) (by decide))]; exact h5
  · rw [zup_n (hn 5 (by decide) (by decide))]; exact h6
  · rw [zup_n (hn 6 (by decide) (by decide))]; exact h7
  · rw [u_n (by omega)]; exact g7 j hj
  · rw [zup_n (hn 7 (by decide) (by decide))]; exact h8
  · rw [u_n (by omega)]; exact g8 j hj
  · rw [zup_n (hn (8 + i) (by omega) (by omega)), u_n (by omega), u_n (by omega), u_n (by omega)]; exact h9 i hi
/-- a store of the number of racks -/
theorem zCen.putN (h : zCen M c S) (v : Int32) : zCen (zup M (c 1) (.inr (7, ([.ref (c 5), .int (S 0)] : List Value).set 1 (.int v)))) c (upd S 0 v) := by
  have hn : ∀ j, j ≠ 1 → j < 20 → c j ≠ c 1 := fun j h1 h2 => h.ne h2 (by decide) h1
  obtain ⟨h0, h1, h2, h3, ⟨f4, h4, g4⟩, ⟨f5, h5⟩, ⟨f6, h6, g6⟩, ⟨f7, h7, g7⟩, ⟨f8, h8, g8⟩, h9⟩ := h
  refine ⟨h0, ?_, ?_, ?_, ⟨f4, ?_, fun j hj => ?_⟩, ⟨f5, ?_⟩, ⟨f6, ?_, g6⟩, ⟨f7, ?_, fun j hj => ?_⟩, ⟨f8, ?_, fun j hj => ?_⟩, fun i hi => ?_⟩
  · rw [zup_n (hn 0 (by decide) (by decide)), u_n (by decide), u_n (by decide), u_n (by decide), u_n (by decide), u_n (by decide)]; exact h1
  · rw [zup_s]; rfl
  · rw [zup_n (hn 2 (by decide) (by decide))]; exact h3
  · rw [zup_n (hn 3 (by decide) (by decide))]; exact h4
  · rw [u_n (by omega)]; exact g4 j hj
  · rw [zup_n (hn 4 (by decide) (by decide))]; exact h5
  · rw [zup_n (hn 5 (by decide) (by decide))]; exact h6
  · rw [zup_n (hn 6 (by decide) (by decide))]; exact h7
  · rw [u_n (by omega)]; exact g7 j hj
  · rw [zup_n (hn 7 (by decide) (by decide))]; exact h8
  · rw [u_n (by omega)]; exact g8 j hj
  · rw [zup_n (hn (8 + i) (by omega) (by omega)), u_n (by omega), u_n (by omega), u_n (by omega)]; exact h9 i hi
/-- a store to field j of rack i -/
theorem zCen.putR (h : zCen M c S) {i j : Nat} (hi : i < 12) (hj : j < 3) (v : Int32) : zCen (zup M (c (8 + i)) (.inr (6, ([.int (S (1 + 3 * i)), .int (S (2 + 3 * i)), .int (S (3 + 3 * i))] : List Value).set j (.int v)))) c (upd S (1 + 3 * i + j) v) := by
  have hn : ∀ k, k ≠ 8 + i → k < 20 → c k ≠ c (8 + i) := fun k h1 h2 => h.ne h2 (by omega) h1
  obtain ⟨h0, h1, h2, h3, ⟨f4, h4, g4⟩, ⟨f5, h5⟩, ⟨f6, h6, g6⟩, ⟨f7, h7, g7⟩, ⟨f8, h8, g8⟩, h9⟩ := h
  refine ⟨h0, ?_, ?_, ?_, ⟨f4, ?_, fun k hk => ?_⟩, ⟨f5, ?_⟩, ⟨f6, ?_, g6⟩, ⟨f7, ?_, fun k hk => ?_⟩, ⟨f8, ?_, fun k hk => ?_⟩, fun k hk => ?_⟩
  · rw [zup_n (hn 0 (by omega) (by decide)), u_n (by omega), u_n (by omega), u_n (by omega), u_n (by omega), u_n (by omega)]; exact h1
  · rw [zup_n (hn 1 (by omega) (by decide)), u_n (by omega)]; exact h2
  · rw [zup_n (hn 2 (by omega) (by decide))]; exact h3
  · rw [zup_n (hn 3 (by omega) (by decide))]; exact h4
  · rw [u_n (by omega)]; exact g4 k hk
  · rw [zup_n (hn 4 (by omega) (by decide))]; exact h5
  · rw [zup_n (hn 5 (by omega) (by decide))]; exact h6
  · rw [zup_n (hn 6 (by omega) (by decide))]; exact h7
  · rw [u_n (by omega)]; exact g7 k hk
  · rw [zup_n (hn 7 (by omega) (by decide))]; exact h8
  · rw [u_n (by omega)]; exact g8 k hk
  · by_cases hki : k = i
    · subst hki
      rw [zup_s]
      rcases (show j = 0 ∨ j = 1 ∨ j = 2 by omega) with rfl | rfl | rfl
      · rw [show 1 + 3 * k + 0 = 1 + 3 * k from rfl, u_s, u_n (by omega), u_n (by omega)]; rfl
      · rw [show 1 + 3 * k + 1 = 2 + 3 * k by omega, u_s, u_n (by omega), u_n (by omega)]; rfl
      · rw [show 1 + 3 * k + 2 = 3 + 3 * k by omega, u_s, u_n (by omega), u_n (by omega)]; rfl
    · rw [zup_n (hn (8 + k) (by omega) (by omega)), u_n (by omega), u_n (by omega), u_n (by omega)]; exact h9 k hk
/-- a store to one of the three rows of ints -/
theorem zCen.put3 (h : zCen M c S) {k : Nat} {f : Nat → Int32} (hk : k < 4) (hf : ∀ j, j < 4 → f j = S (44 + j)) (v : Int32) : zCen (zup M (c 3) (zAI 4 (upd f k v))) c (upd S (44 + k) v) := by
  have hn : ∀ j, j ≠ 3 → j < 20 → c j ≠ c 3 := fun j h1 h2 => h.ne h2 (by decide) h1
  obtain ⟨h0, h1, h2, h3, ⟨f4, h4, g4⟩, ⟨f5, h5⟩, ⟨f6, h6, g6⟩, ⟨f7, h7, g7⟩, ⟨f8, h8, g8⟩, h9⟩ := h
  refine ⟨h0, ?_, ?_, ?_, ⟨_, zup_s, fun j hj => ?_⟩, ⟨f5, ?_⟩, ⟨f6, ?_, g6⟩, ⟨f7, ?_, fun j hj => ?_⟩, ⟨f8, ?_, fun j hj => ?_⟩, fun i hi => ?_⟩
  · rw [zup_n (hn 0 (by decide) (by decide)), u_n (by omega), u_n (by omega), u_n (by omega), u_n (by omega), u_n (by omega)]; exact h1
  · rw [zup_n (hn 1 (by decide) (by decide)), u_n (by omega)]; exact h2
  · rw [zup_n (hn 2 (by decide) (by decide))]; exact h3
  · by_cases hjk : j = k
    · subst hjk; rw [u_s, u_s]
    · rw [u_n hjk, u_n (by omega)]; exact hf j hj
  · rw [zup_n (hn 4 (by decide) (by decide))]; exact h5
  · rw [zup_n (hn 5 (by decide) (by decide))]; exact h6
  · rw [zup_n (hn 6 (by decide) (by decide))]; exact h7
  · rw [u_n (by omega)]; exact g7 j hj
  · rw [zup_n (hn 7 (by decide) (by decide))]; exact h8
  · rw [u_n (by omega)]; exact g8 j hj
  · rw [zup_n (hn (8 + i) (by omega) (by omega)), u_n (by omega), u_n (by omega), u_n (by omega)]; exact h9 i hi
theorem zCen.put6 (h : zCen M c S) {k : Nat} {f : Nat → Int32} (hk : k < 4) (hf : ∀ j, j < 4 → f j = S (37 + j)) (v : Int32) : zCen (zup M (c 6) (zAI 4 (upd f k v))) c (upd S (37 + k) v) := by
  have hn : ∀ j, j ≠ 6 → j < 20 → c j ≠ c 6 := fun j h1 h2 => h.ne h2 (by decide) h1
  obtain ⟨h0, h1, h2, h3, ⟨f4, h4, g4⟩, ⟨f5, h5⟩, ⟨f6, h6, g6⟩, ⟨f7, h7, g7⟩, ⟨f8, h8, g8⟩, h9⟩ := h
  refine ⟨h0, ?_, ?_, ?_, ⟨f4, ?_, fun j hj => ?_⟩, ⟨f5, ?_⟩, ⟨f6, ?_, g6⟩, ⟨_, zup_s, fun j hj => ?_⟩, ⟨f8, ?_, fun j hj => ?_⟩, fun i hi => ?_⟩
  · rw [zup_n (hn 0 (by decide) (by decide)), u_n (by omega), u_n (by omega), u_n (by omega), u_n (by omega), u_n (by omega)]; exact h1
  · rw [zup_n (hn 1 (by decide) (by decide)), u_n (by omega)]; exact h2
  · rw [zup_n (hn 2 (by decide) (by decide))]; exact h3
  · rw [zup_n (hn 3 (by decide) (by decide))]; exact h4
  · rw [u_n (by omega)]; exact g4 j hj
  · rw [zup_n (hn 4 (by decide) (by decide))]; exact h5
  · rw [zup_n (hn 5 (by decide) (by decide))]; exact h6
  · by_cases hjk : j = k
    · subst hjk; rw [u_s, u_s]
    · rw [u_n hjk, u_n (by omega)]; exact hf j hj
  · rw [zup_n (hn 7 (by decide) (by decide))]; exact h8
  · rw [u_n (by omega)]; exact g8 j hj
  · rw [zup_n (hn (8 + i) (by omega) (by omega)), u_n (by omega), u_n (by omega), u_n (by omega)]; exact h9 i hi
theorem zCen.put7 (h : zCen M c S) {k : Nat} {f : Nat → Int32} (hk : k < 3) (hf : ∀ j, j < 3 → f j = S (41 + j)) (v : Int32) : zCen (zup M (c 7) (zAI 3 (upd f k v))) c (upd S (41 + k) v) := by
  have hn : ∀ j, j ≠ 7 → j < 20 → c j ≠ c 7 := fun j h1 h2 => h.ne h2 (by decide) h1
  obtain ⟨h0, h1, h2, h3, ⟨f4, h4, g4⟩, ⟨f5, h5⟩, ⟨f6, h6, g6⟩, ⟨f7, h7, g7⟩, ⟨f8, h8, g8⟩, h9⟩ := h
  refine ⟨h0, ?_, ?_, ?_, ⟨f4, ?_, fun j hj => ?_⟩, ⟨f5, ?_⟩, ⟨f6, ?_, g6⟩, ⟨f7, ?_, fun j hj => ?_⟩, ⟨_, zup_s, fun j hj => ?_⟩, fun i hi => ?_⟩
  · rw [zup_n (hn 0 (by decide) (by decide)), u_n (by omega), u_n (by omega), u_n (by omega), u_n (by omega), u_n (by omega)]; exact h1
  · rw [zup_n (hn 1 (by decide) (by decide)), u_n (by omega)]; exact h2
  · rw [zup_n (hn 2 (by decide) (by decide))]; exact h3
  · rw [zup_n (hn 3 (by decide) (by decide))]; exact h4
  · rw [u_n (by omega)]; exact g4 j hj
  · rw [zup_n (hn 4 (by decide) (by decide))]; exact h5
  · rw [zup_n (hn 5 (by decide) (by decide))]; exact h6
  · rw [zup_n (hn 6 (by decide) (by decide))]; exact h7
  · rw [u_n (by omega)]; exact g7 j hj
  · by_cases hjk : j = k
    · subst hjk; rw [u_s, u_s]
    · rw [u_n hjk, u_n (by omega)]; exact hf j hj
  · rw [zup_n (hn (8 + i) (by omega) (by omega)), u_n (by omega), u_n (by omega), u_n (by omega)]; exact h9 i hi
/-- the row of measured temperatures is no part of the state -/
theorem zCen.put4 (h : zCen M c S) (g : Nat → UInt32) : zCen (zup M (c 4) (zAF 12 g)) c S := by
  have hn : ∀ j, j ≠ 4 → j < 20 → c j ≠ c 4 := fun j h1 h2 => h.ne h2 (by decide) h1
  obtain ⟨h0, h1, h2, h3, ⟨f4, h4, g4⟩, ⟨f5, h5⟩, ⟨f6, h6, g6⟩, ⟨f7, h7, g7⟩, ⟨f8, h8, g8⟩, h9⟩ := h
  exact ⟨h0, by rw [zup_n (hn 0 (by decide) (by decide))]; exact h1, by rw [zup_n (hn 1 (by decide) (by decide))]; exact h2, by rw [zup_n (hn 2 (by decide) (by decide))]; exact h3, ⟨f4, by rw [zup_n (hn 3 (by decide) (by decide))]; exact h4, g4⟩, ⟨g, zup_s⟩, ⟨f6, by rw [zup_n (hn 5 (by decide) (by decide))]; exact h6, g6⟩, ⟨f7, by rw [zup_n (hn 6 (by decide) (by decide))]; exact h7, g7⟩, ⟨f8, by rw [zup_n (hn 7 (by decide) (by decide))]; exact h8, g8⟩, fun i hi => by rw [zup_n (hn (8 + i) (by omega) (by omega))]; exact h9 i hi⟩
end ZC

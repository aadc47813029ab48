/-! The law: laid by wip/p53/m58.py. -/
abbrev μL_law : zMeth := (yL_law, cL_law, 11, (some .boolean), [])
/-- the law's own cells may change -/
theorem zPl.putZ {M : zM} {Z : Nat → Prop} {b : Nat → Nat} {C : Nat → Nat → Nat} {S : Nat → zS} {nw un : Nat} {hs ea fa : Int32} {t : Nat → Nat} {n : Nat} {u : Nat → Nat} {k : Nat} (h : zPl M Z b C S nw un hs ea fa t n u k) {q : Nat} (hq : Z q) (e : zE) : zPl (zup M q e) Z b C S nw un hs ea fa t n u k := by
  obtain ⟨g1, g2, g3, ⟨ps, re, nc, cm, g4⟩, ⟨f, g5⟩, g6, g7, v, N, v', N', g8, g9, g10, g11, g12, g13⟩ := h
  obtain ⟨z1, z2, z3, z4, z5⟩ := g13 q hq
  refine ⟨g1.frame (fun i j hi hj => zup_n (z3 i j hi hj).symm), g2.keep (zup_n (z2 1 (by decide)).symm) (zup_n (z2 2 (by decide)).symm), (zup_n (z2 0 (by decide)).symm).trans g3, ⟨ps, re, nc, cm, (zup_n (z2 3 (by decide)).symm).trans g4⟩, ⟨f, (zup_n (z2 5 (by decide)).symm).trans g5⟩, g6, g7, v, N, v', N', g8.keep (zup_n (z2 4 (by decide)).symm) (zup_n z4.symm), g9, g10.keep (zup_n (z2 6 (by decide)).symm) (zup_n z5.symm), g11, g12, fun x hx => ?_⟩
  obtain ⟨y1, y2⟩ := g13 x hx
  refine ⟨fun e9 => ?_, y2⟩
  by_cases ex : x = q
  · rw [ex, zup_s] at e9; cases e9
  · rw [zup_n ex] at e9; exact y1 e9
theorem zVo.putZ {M : zM} {Z : Nat → Prop} {b : Nat → Nat} {C : Nat → Nat → Nat} {P : zS} {U : List zS} {X : Option zS} (h : zVo M Z b C P U X) {q : Nat} (hq : Z q) (e : zE) : zVo (zup M q e) Z b C P U X := by
  obtain ⟨ea, fa, t, u, k, S, nw, un, hs, hP, ho, h1, h2, h3⟩ := h
  exact ⟨ea, fa, t, u, k, S, nw, un, hs, hP.putZ hq e, ho, h1, h2, h3⟩
theorem zVo.len {M : zM} {Z : Nat → Prop} {b : Nat → Nat} {C : Nat → Nat → Nat} {P : zS} {U : List zS} {X : Option zS} (h : zVo M Z b C P U X) : U.length ≤ 8 := by
  obtain ⟨ea, fa, t, u, k, S, nw, un, hs, hP, ho, h1, h2, h3⟩ := h
  rw [← h2, fUl_len]
  exact hP.2.1.2.1

theorem c_O_minute {σ : zSg} {M : zM} {Z : Nat → Prop} {b : Nat → Nat} {C : Nat → Nat → Nat} {P : zS} {U : List zS} {X : Option zS} (hV : zVo M Z b C P U X) : zCon μX8_minute (5, 0, 0) σ [.ref (b 0)] M (zP (some (.int (P 49))) M) := by
  obtain ⟨ea, fa, t, u, k, S, nw, un, hs, hP, ho, rfl, rfl, rfl⟩ := hV
  exact c_X8_minute hP
theorem c_O_energy {σ : zSg} {M : zM} {Z : Nat → Prop} {b : Nat → Nat} {C : Nat → Nat → Nat} {P : zS} {U : List zS} {X : Option zS} (hV : zVo M Z b C P U X) : zCon μX8_energyTotal (5, 0, 0) σ [.ref (b 0)] M (zP (some (.int (P 52))) M) := by
  obtain ⟨ea, fa, t, u, k, S, nw, un, hs, hP, ho, rfl, rfl, rfl⟩ := hV
  exact c_X8_energyTotal hP
theorem c_O_totalLoad {σ : zSg} {M : zM} {Z : Nat → Prop} {b : Nat → Nat} {C : Nat → Nat → Nat} {P : zS} {U : List zS} {X : Option zS} (hV : zVo M Z b C P U X) : zCon μX8_totalLoad (5, 0, 0) σ [.ref (b 0)] M (zP (some (.int (fSum P))) M) := by
  obtain ⟨ea, fa, t, u, k, S, nw, un, hs, hP, ho, rfl, rfl, rfl⟩ := hV
  exact c_X8_totalLoad hP
theorem c_O_stored {σ : zSg} {M : zM} {Z : Nat → Prop} {b : Nat → Nat} {C : Nat → Nat → Nat} {P : zS} {U : List zS} {X : Option zS} (hV : zVo M Z b C P U X) {a : Int32} (ha : fBt a 0 3 = true) : zCon μL_stored (6, 1, 6) σ [.ref (b 0), .int a] M (zP (some (.int (fSto P a))) M) := by
  obtain ⟨ea, fa, t, u, k, S, nw, un, hs, hP, ho, rfl, rfl, rfl⟩ := hV
  exact c_L_stored hP ha
theorem c_O_fan {σ : zSg} {M : zM} {Z : Nat → Prop} {b : Nat → Nat} {C : Nat → Nat → Nat} {P : zS} {U : List zS} {X : Option zS} (hV : zVo M Z b C P U X) {a : Int32} (ha : fBt a 0 3 = true) : zCon μL_fan (6, 1, 6) σ [.ref (b 0), .int a] M (zP (some (.int (fSpd P a))) M) := by
  obtain ⟨ea, fa, t, u, k, S, nw, un, hs, hP, ho, rfl, rfl, rfl⟩ := hV
  exact c_L_fan hP ha
theorem c_O_load {σ : zSg} {M : zM} {Z : Nat → Prop} {b : Nat → Nat} {C : Nat → Nat → Nat} {P : zS} {U : List zS} {X : Option zS} (hV : zVo M Z b C P U X) {j : Nat} (hj : j < fCnt P) : zCon μL_load (7, 1, 6) σ [.ref (b 0), .int (nI j)] M (zP (some (.int (P (3 + 3 * j)))) M) := by
  obtain ⟨ea, fa, t, u, k, S, nw, un, hs, hP, ho, rfl, rfl, rfl⟩ := hV
  exact c_L_load hP hj
theorem c_O_thrown {σ : zSg} {M : zM} {Z : Nat → Prop} {b : Nat → Nat} {C : Nat → Nat → Nat} {P : zS} {U : List zS} {X : Option zS} (hV : zVo M Z b C P U X) (h2 : 2 ≤ fCnt P) : zCon μL_thrown (16, 4000, 80000) σ [.ref (b 0)] M (zF (some (.int 1)) (fun M' => zVo M' Z b C P U X ∧ zKe M M' Z)) := by
  obtain ⟨ea, fa, t, u, k, hV⟩ := hV
  refine (c_thrown hV h2).post (fun o M' q => ?_)
  obtain ⟨w9, e, ⟨rfl, h1⟩, h3⟩ := q
  exact ⟨e, h1, h3⟩
/-! the first planner's states -/
def e1 : zS := (fPas zS0 60).2
def eS : Nat → zS
  | 0 => e1
  | k + 1 => (fAdd (eS k) (nI (k % 4)) (nI (k / 4)) (nI k)).2
def eU : Nat → List zS
  | 0 => [zS0]
  | k + 1 => (eS k :: eU k).take 8
def e13 : zS := (fFan (eS 12) 2 0).2
def e14 : zS := (fPas e13 1).2
def e15 : zS := (fSnd e14 11 10 9).2
def e16 : zS := (fRem e15 0).2
theorem eA {k : Nat} (h : k < 12) : (fAdd (eS k) (nI (k % 4)) (nI (k / 4)) (nI k)).1 = nI k := by
  have key : ∀ k : Fin 12, (fAdd (eS k.1) (nI (k.1 % 4)) (nI (k.1 / 4)) (nI k.1)).1 = nI k.1 := by decide +kernel
  exact key ⟨k, h⟩
theorem eD {k : Nat} (h : k < 12) : nI k / 4 = nI (k / 4) ∧ nI k - nI (k / 4) * 4 = nI (k % 4) := by
  have key : ∀ k : Fin 12, nI k.1 / 4 = nI (k.1 / 4) ∧ nI k.1 - nI (k.1 / 4) * 4 = nI (k.1 % 4) := by decide +kernel
  exact key ⟨k, h⟩
theorem eC {k : Nat} (h : k < 60) : (((65 : Int32) + nI k).toUInt32 % 65536).toInt32 = nI (fKe k) := by
  have key : ∀ k : Fin 60, (((65 : Int32) + nI k.1).toUInt32 % 65536).toInt32 = nI (fKe k.1) := by decide +kernel
  exact key ⟨k, h⟩
theorem eF1 : (fPas zS0 60).1 = 60 ∧ nI (fHts e1) = 0 ∧ e1 49 = 60 ∧ e1 52 = 30000 ∧ zS0 0 = 0 ∧ zS0 49 = 0 ∧ zS0 52 = 0 := by decide +kernel
theorem eF2 : 12 ≤ fCnt (eS 12) ∧ fSum (eS 12) = 66 ∧ (fFan (eS 12) 2 0).1 = 5 ∧ (fPas e13 1).1 = 1 ∧ fSpd (eS 12) 2 = 5 ∧ eS 11 0 = 11 ∧ eS 8 0 = 8 := by decide +kernel
theorem eF3 : fSto e14 2 = 18 ∧ (fSnd e14 11 10 9).1 = 19 ∧ (fRem e15 0).1 = 11 ∧ 10 < fCnt e16 ∧ e16 (3 + 3 * 10) = 2 := by decide +kernel
theorem eF4 : e15 0 = 12 ∧ 11 < fCnt e14 ∧ e14 (3 + 3 * 11) = 11 ∧ fSto e13 2 = 0 ∧ e13 49 = 60 := by decide +kernel

set_option maxRecDepth 100000 in
set_option maxHeartbeats 4000000 in
theorem l_lawT {σ : zSg} {b : Nat → Nat} {C : Nat → Nat → Nat} {Q : zO → zM → Prop} {ea fa : Int32} {t u : Nat → Nat} {k : Nat} : ∀ (l i : Nat) (M : zM), i + l = 60 → zVw M (fun _ => False) b C e1 [zS0] (some zS0) ea fa (fTy fKe t i) i u k → (∀ M', zVw M' (fun _ => False) b C e1 [zS0] (some zS0) ea fa (fTy fKe t 60) 60 u k → zV μL_law (17, 50000, 1100000) σ Q M' (292) (10017) 96 [(1, .ref (b 0)), (0, .ref (σ.1 1))] []) → zV μL_law (17, 50000, 1100000) σ Q M (232 + i) (1017 + 150 * i) 67 [(2, .int (nI i)), (1, .ref (b 0)), (0, .ref (σ.1 1))] [] := by
  intro l
  induction l with
  | zero =>
    intro i M hi hV kk
    obtain rfl : i = 60 := by omega
    refine zv_iload_n (n := 68) dL_law_67 rfl rfl ?_
    refine zv_bipush (n := 70) dL_law_68 rfl (v := 60) (by decide) ?_
    refine zv_icmp_ge (n := 73) (tgt := 96) dL_law_70 (by decide) rfl (fun h70 => ?_) (fun h70 => False.elim (absurd (show nI 60 ≤ nI 60 from Int32.le_refl _) h70))
    refine zv_lvs (lv' := [(1, .ref (b 0)), (0, .ref (σ.1 1))]) ⟨rfl, rfl, trivial⟩ ?_
    exact kk M hV
  | succ l ih =>
    intro i M hi hV kk
    have hlt : i < 60 := by omega
    refine zv_iload_n (n := 68) dL_law_67 rfl rfl ?_
    refine zv_bipush (n := 70) dL_law_68 rfl (v := 60) (by decide) ?_
    refine zv_icmp_ge (n := 73) (tgt := 96) dL_law_70 (by decide) rfl (fun h70 => False.elim (absurd h70 (nI_ge (b := 60) hlt (by decide)))) (fun h70 => ?_)
    refine zv_aload_n (n := 74) dL_law_73 rfl rfl ?_
    refine zv_bipush (n := 76) dL_law_74 rfl (v := 65) (by decide) ?_
    refine zv_iload_n (n := 77) dL_law_76 rfl rfl ?_
    refine zv_iadd (n := 78) dL_law_77 rfl ?_
    refine zv_i2c (n := 79) dL_law_78 rfl ?_
    rw [eC hlt]
    refine zv_callSXF (n := 82) (As := [.ref (b 0), .int (nI (fKe i))]) (rest := []) (kc' := ((232 + i) + 1)) (ks' := ((1017 + 150 * i) + 150)) dL_law_79 rfl (c_L_type_1 hV (c := fKe i) (by unfold fKe; omega) (by unfold fKe; omega) (by omega)) rfl kL_type lL_156 rfl rfl ⟨by decide, by decide⟩ (Nat.le_of_ble_eq_true rfl) rfl rfl (by show _ ≤ (50000 : Nat); omega) (by show _ ≤ (1100000 : Nat); omega) (fun M1 hq => ?_)
    obtain ⟨hV, -⟩ := hq
    rw [fTy_step] at hV
    refine zv_iload_n (n := 83) dL_law_82 rfl rfl ?_
    refine zv_iconst (n := 84) dL_law_83 rfl (v := 1) (by decide) ?_
    refine zv_iadd (n := 85) dL_law_84 rfl ?_
    rw [nI_1]
    refine zv_icmp_eq (n := 88) (tgt := 90) dL_law_85 (by decide) rfl (fun h85 => ?_) (fun h85 => False.elim (h85 rfl))
    refine zv_iinc (n := 93) (v := nI (i + 1)) (lv' := [(2, .int (nI (i + 1))), (1, .ref (b 0)), (0, .ref (σ.1 1))]) dL_law_90 rfl rfl (nI_1 i) (by decide) rfl ?_
    refine zv_goto (tgt := 67) dL_law_93 (by decide) ?_
    refine zv_lvs (lv' := [(2, .int (nI (i + 1))), (1, .ref (b 0)), (0, .ref (σ.1 1))]) ⟨rfl, rfl, rfl, trivial⟩ ?_
    refine zv_wide (kc' := 232 + (i + 1)) (ks' := 1017 + 150 * (i + 1)) (by omega) (by omega) ?_
    exact ih (i + 1) M1 (by omega) hV kk

set_option maxRecDepth 100000 in
set_option maxHeartbeats 4000000 in
theorem l_lawA {σ : zSg} {b : Nat → Nat} {C : Nat → Nat → Nat} {Q : zO → zM → Prop} : ∀ (l i : Nat) (M : zM), i + l = 12 → zVo M (fun _ => False) b C (eS i) (eU i) (some zS0) → (∀ M', zVo M' (fun _ => False) b C (eS 12) (eU 12) (some zS0) → zV μL_law (17, 50000, 1100000) σ Q M' (310) (10413) 186 [(1, .ref (b 0)), (0, .ref (σ.1 1))] []) → zV μL_law (17, 50000, 1100000) σ Q M (298 + i) (10341 + 6 * i) 157 [(2, .int (nI i)), (1, .ref (b 0)), (0, .ref (σ.1 1))] [] := by
  intro l
  induction l with
  | zero =>
    intro i M hi hV kk
    obtain rfl : i = 12 := by omega
    refine zv_iload_n (n := 158) dL_law_157 rfl rfl ?_
    refine zv_bipush (n := 160) dL_law_158 rfl (v := 12) (by decide) ?_
    refine zv_icmp_ge (n := 163) (tgt := 186) dL_law_160 (by decide) rfl (fun h160 => ?_) (fun h160 => False.elim (absurd (show nI 12 ≤ nI 12 from Int32.le_refl _) h160))
    refine zv_lvs (lv' := [(1, .ref (b 0)), (0, .ref (σ.1 1))]) ⟨rfl, rfl, trivial⟩ ?_
    exact kk M hV
  | succ l ih =>
    intro i M hi hV kk
    have hlt : i < 12 := by omega
    obtain ⟨d1, d2⟩ := eD hlt
    have hA := eA hlt
    refine zv_iload_n (n := 158) dL_law_157 rfl rfl ?_
    refine zv_bipush (n := 160) dL_law_158 rfl (v := 12) (by decide) ?_
    refine zv_icmp_ge (n := 163) (tgt := 186) dL_law_160 (by decide) rfl (fun h160 => False.elim (absurd h160 (nI_ge (b := 12) hlt (by decide)))) (fun h160 => ?_)
    refine zv_aload_n (n := 164) dL_law_163 rfl rfl ?_
    refine zv_iload_n (n := 165) dL_law_164 rfl rfl ?_
    refine zv_iconst (n := 166) dL_law_165 rfl (v := 4) (by decide) ?_
    refine zv_irem (n := 167) dL_law_166 rfl (by decide) ?_
    rw [d1, d2]
    refine zv_iload_n (n := 168) dL_law_167 rfl rfl ?_
    refine zv_iconst (n := 169) dL_law_168 rfl (v := 4) (by decide) ?_
    refine zv_idiv (n := 170) dL_law_169 rfl (by decide) ?_
    rw [d1]
    refine zv_iload_n (n := 171) dL_law_170 rfl rfl ?_
    refine zv_callSXF (n := 174) (As := [.ref (b 0), .int (nI (i % 4)), .int (nI (i / 4)), .int (nI i)]) (rest := []) (kc' := ((298 + i) + 1)) (ks' := ((10341 + 6 * i) + 6)) dL_law_171 rfl (c_M_addRack hV (nI (i % 4)) (nI (i / 4)) (nI i) (by rw [hA]; exact nI_pos' (by omega))) rfl kL_addRack lL_175 rfl rfl ⟨by decide, by decide⟩ (Nat.le_of_ble_eq_true rfl) rfl rfl (by show _ ≤ (50000 : Nat); omega) (by show _ ≤ (1100000 : Nat); omega) (fun M1 hq => ?_)
    obtain ⟨hV, -⟩ := hq
    rw [hA]
    refine zv_iload_n (n := 175) dL_law_174 rfl rfl ?_
    refine zv_icmp_eq (n := 178) (tgt := 180) dL_law_175 (by decide) rfl (fun h175 => ?_) (fun h175 => False.elim (h175 rfl))
    refine zv_iinc (n := 183) (v := nI (i + 1)) (lv' := [(2, .int (nI (i + 1))), (1, .ref (b 0)), (0, .ref (σ.1 1))]) dL_law_180 rfl rfl (nI_1 i) (by decide) rfl ?_
    refine zv_goto (tgt := 157) dL_law_183 (by decide) ?_
    refine zv_lvs (lv' := [(2, .int (nI (i + 1))), (1, .ref (b 0)), (0, .ref (σ.1 1))]) ⟨rfl, rfl, rfl, trivial⟩ ?_
    refine zv_wide (kc' := 298 + (i + 1)) (ks' := 10341 + 6 * (i + 1)) (by omega) (by omega) ?_
    exact ih (i + 1) M1 (by omega) hV kk

set_option maxRecDepth 100000 in
set_option maxHeartbeats 4000000 in
theorem k_law_414 {σ : zSg} {b : Nat → Nat} {C : Nat → Nat → Nat} {M : zM} (hV : zVo M (fun _ => False) b C (eS 8) [] (some zS0)) (hend : ∀ M', zV μL_law (17, 50000, 1100000) σ (fun o _ => o = .inl (some (.int 1))) M' (360) (10900) 454 [(0, .ref (σ.1 1))] []) : zV μL_law (17, 50000, 1100000) σ (fun o _ => o = .inl (some (.int 1))) M (350) (10800) 414 [(1, .ref (b 0)), (0, .ref (σ.1 1))] [] := by
  obtain ⟨fs9, hb9⟩ := hV.o
  refine zv_aload_n (n := 415) dL_law_414 rfl rfl ?_
  refine zv_callSXF (n := 418) (As := [.ref (b 0)]) (rest := []) (kc' := 351) (ks' := 10806) dL_law_415 rfl (c_O_restore_1 hV rfl) rfl kL_restore lL_330 rfl rfl ⟨by decide, by decide⟩ (Nat.le_of_ble_eq_true rfl) rfl rfl (Nat.le_of_ble_eq_true rfl) (Nat.le_of_ble_eq_true rfl) (fun M1 hq => ?_)
  obtain ⟨hV, -⟩ := hq
  obtain ⟨fs9, hb9⟩ := hV.o
  refine zv_if_ne (n := 421) (tgt := 452) dL_law_418 (by decide) rfl (fun h418 => False.elim (h418 (eF1.2.2.2.2.1))) (fun h418 => ?_)
  refine zv_aload_n (n := 422) dL_law_421 rfl rfl ?_
  refine zv_callVP (n := 425) (As := []) (rest := []) (kc' := 351) (ks' := 10806) dL_law_422 rfl (c_V_count hV) rfl kX8_rackCount lL_188 hb9 rfl rfl rfl ⟨by decide, by decide⟩ (Nat.le_of_ble_eq_true rfl) rfl rfl (Nat.le_of_ble_eq_true rfl) (Nat.le_of_ble_eq_true rfl) ?_
  refine zv_if_ne (n := 428) (tgt := 452) dL_law_425 (by decide) rfl (fun h425 => False.elim (h425 (eF1.2.2.2.2.1))) (fun h425 => ?_)
  refine zv_aload_n (n := 429) dL_law_428 rfl rfl ?_
  refine zv_callVP (n := 432) (As := []) (rest := []) (kc' := 351) (ks' := 10806) dL_law_429 rfl (c_O_minute hV) rfl kX8_minute lL_215 hb9 rfl rfl rfl ⟨by decide, by decide⟩ (Nat.le_of_ble_eq_true rfl) rfl rfl (Nat.le_of_ble_eq_true rfl) (Nat.le_of_ble_eq_true rfl) ?_
  refine zv_if_ne (n := 435) (tgt := 452) dL_law_432 (by decide) rfl (fun h432 => False.elim (h432 (eF1.2.2.2.2.2.1))) (fun h432 => ?_)
  refine zv_aload_n (n := 436) dL_law_435 rfl rfl ?_
  refine zv_callVP (n := 439) (As := []) (rest := []) (kc' := 351) (ks' := 10806) dL_law_436 rfl (c_O_energy hV) rfl kX8_energyTotal lL_224 hb9 rfl rfl rfl ⟨by decide, by decide⟩ (Nat.le_of_ble_eq_true rfl) rfl rfl (Nat.le_of_ble_eq_true rfl) (Nat.le_of_ble_eq_true rfl) ?_
  refine zv_if_ne (n := 442) (tgt := 452) dL_law_439 (by decide) rfl (fun h439 => False.elim (h439 (eF1.2.2.2.2.2.2))) (fun h439 => ?_)
  refine zv_aload_n (n := 443) dL_law_442 rfl rfl ?_
  refine zv_callSXP (n := 446) (As := [.ref (b 0)]) (rest := []) (kc' := 352) (ks' := 10812) dL_law_443 rfl (c_O_undo_0 hV rfl) rfl kL_undo lL_328 rfl rfl ⟨by decide, by decide⟩ (Nat.le_of_ble_eq_true rfl) rfl rfl (Nat.le_of_ble_eq_true rfl) (Nat.le_of_ble_eq_true rfl) ?_
  refine zv_sipush (n := 449) dL_law_446 rfl (v := (-1001)) (by decide) ?_
  refine zv_icmp_eq (n := 452) (tgt := 454) dL_law_449 (by decide) rfl (fun h449 => ?_) (fun h449 => False.elim (h449 (rfl)))
  refine zv_lvs (lv' := [(0, .ref (σ.1 1))]) ⟨rfl, trivial⟩ ?_
  refine zv_wide (kc' := 360) (ks' := 10900) (by decide) (by decide) ?_
  exact hend _

set_option maxRecDepth 100000 in
set_option maxHeartbeats 4000000 in
theorem k_law_273 {σ : zSg} {b : Nat → Nat} {C : Nat → Nat → Nat} {M : zM} (hV : zVo M (fun _ => False) b C e16 [e15, e14, e13, eS 12, eS 11, eS 10, eS 9, eS 8] (some zS0)) (hend : ∀ M', zV μL_law (17, 50000, 1100000) σ (fun o _ => o = .inl (some (.int 1))) M' (360) (10900) 454 [(0, .ref (σ.1 1))] []) : zV μL_law (17, 50000, 1100000) σ (fun o _ => o = .inl (some (.int 1))) M (330) (10600) 273 [(1, .ref (b 0)), (0, .ref (σ.1 1))] [] := by
  obtain ⟨fs9, hb9⟩ := hV.o
  refine zv_aload_n (n := 274) dL_law_273 rfl rfl ?_
  refine zv_callSXF (n := 277) (As := [.ref (b 0)]) (rest := []) (kc' := 331) (ks' := 10606) dL_law_274 rfl (c_O_undo_1 hV (T := e15) (W := [e14, e13, eS 12, eS 11, eS 10, eS 9, eS 8]) rfl) rfl kL_undo lL_328 rfl rfl ⟨by decide, by decide⟩ (Nat.le_of_ble_eq_true rfl) rfl rfl (Nat.le_of_ble_eq_true rfl) (Nat.le_of_ble_eq_true rfl) (fun M1 hq => ?_)
  obtain ⟨hV, -⟩ := hq
  obtain ⟨fs9, hb9⟩ := hV.o
  refine zv_bipush (n := 279) dL_law_277 rfl (v := 7) (by decide) ?_
  refine zv_icmp_ne (n := 282) (tgt := 412) dL_law_279 (by decide) rfl (fun h279 => False.elim (h279 (by decide))) (fun h279 => ?_)
  refine zv_aload_n (n := 283) dL_law_282 rfl rfl ?_
  refine zv_callVP (n := 286) (As := []) (rest := []) (kc' := 331) (ks' := 10606) dL_law_283 rfl (c_V_count hV) rfl kX8_rackCount lL_188 hb9 rfl rfl rfl ⟨by decide, by decide⟩ (Nat.le_of_ble_eq_true rfl) rfl rfl (Nat.le_of_ble_eq_true rfl) (Nat.le_of_ble_eq_true rfl) ?_
  refine zv_bipush (n := 288) dL_law_286 rfl (v := 12) (by decide) ?_
  refine zv_icmp_ne (n := 291) (tgt := 412) dL_law_288 (by decide) rfl (fun h288 => False.elim (h288 (eF4.1))) (fun h288 => ?_)
  refine zv_aload_n (n := 292) dL_law_291 rfl rfl ?_
  refine zv_callSXF (n := 295) (As := [.ref (b 0)]) (rest := []) (kc' := 332) (ks' := 10612) dL_law_292 rfl (c_O_undo_1 hV (T := e14) (W := [e13, eS 12, eS 11, eS 10, eS 9, eS 8]) rfl) rfl kL_undo lL_328 rfl rfl ⟨by decide, by decide⟩ (Nat.le_of_ble_eq_true rfl) rfl rfl (Nat.le_of_ble_eq_true rfl) (Nat.le_of_ble_eq_true rfl) (fun M1 hq => ?_)
  obtain ⟨hV, -⟩ := hq
  obtain ⟨fs9, hb9⟩ := hV.o
  refine zv_bipush (n := 297) dL_law_295 rfl (v := 6) (by decide) ?_
  refine zv_icmp_ne (n := 300) (tgt := 412) dL_law_297 (by decide) rfl (fun h297 => False.elim (h297 (by decide))) (fun h297 => ?_)
  refine zv_aload_n (n := 301) dL_law_300 rfl rfl ?_
  refine zv_bipush (n := 303) dL_law_301 rfl (v := 11) (by decide) ?_
  refine zv_callSXP (n := 306) (As := [.ref (b 0), .int 11]) (rest := []) (kc' := 333) (ks' := 10618) dL_law_303 rfl (c_O_load hV (j := 11) eF4.2.1) rfl kL_load lL_300 rfl rfl ⟨by decide, by decide⟩ (Nat.le_of_ble_eq_true rfl) rfl rfl (Nat.le_of_ble_eq_true rfl) (Nat.le_of_ble_eq_true rfl) ?_
  refine zv_bipush (n := 308) dL_law_306 rfl (v := 11) (by decide) ?_
  refine zv_icmp_ne (n := 311) (tgt := 412) dL_law_308 (by decide) rfl (fun h308 => False.elim (h308 (eF4.2.2.1))) (fun h308 => ?_)
  refine zv_aload_n (n := 312) dL_law_311 rfl rfl ?_
  refine zv_callSXF (n := 315) (As := [.ref (b 0)]) (rest := []) (kc' := 334) (ks' := 10624) dL_law_312 rfl (c_O_undo_1 hV (T := e13) (W := [eS 12, eS 11, eS 10, eS 9, eS 8]) rfl) rfl kL_undo lL_328 rfl rfl ⟨by decide, by decide⟩ (Nat.le_of_ble_eq_true rfl) rfl rfl (Nat.le_of_ble_eq_true rfl) (Nat.le_of_ble_eq_true rfl) (fun M1 hq => ?_)
  obtain ⟨hV, -⟩ := hq
  obtain ⟨fs9, hb9⟩ := hV.o
  refine zv_iconst (n := 316) dL_law_315 rfl (v := 5) (by decide) ?_
  refine zv_icmp_ne (n := 319) (tgt := 412) dL_law_316 (by decide) rfl (fun h316 => False.elim (h316 (by decide))) (fun h316 => ?_)
  refine zv_aload_n (n := 320) dL_law_319 rfl rfl ?_
  refine zv_iconst (n := 321) dL_law_320 rfl (v := 2) (by decide) ?_
  refine zv_callSXP (n := 324) (As := [.ref (b 0), .int 2]) (rest := []) (kc' := 335) (ks' := 10630) dL_law_321 rfl (c_O_stored hV (a := 2) (by decide)) rfl kL_stored lL_233 rfl rfl ⟨by decide, by decide⟩ (Nat.le_of_ble_eq_true rfl) rfl rfl (Nat.le_of_ble_eq_true rfl) (Nat.le_of_ble_eq_true rfl) ?_
  refine zv_if_ne (n := 327) (tgt := 412) dL_law_324 (by decide) rfl (fun h324 => False.elim (h324 (eF4.2.2.2.1))) (fun h324 => ?_)
  refine zv_aload_n (n := 328) dL_law_327 rfl rfl ?_
  refine zv_callVP (n := 331) (As := []) (rest := []) (kc' := 335) (ks' := 10630) dL_law_328 rfl (c_O_minute hV) rfl kX8_minute lL_215 hb9 rfl rfl rfl ⟨by decide, by decide⟩ (Nat.le_of_ble_eq_true rfl) rfl rfl (Nat.le_of_ble_eq_true rfl) (Nat.le_of_ble_eq_true rfl) ?_
  refine zv_bipush (n := 333) dL_law_331 rfl (v := 60) (by decide) ?_
  refine zv_icmp_ne (n := 336) (tgt := 412) dL_law_333 (by decide) rfl (fun h333 => False.elim (h333 (eF4.2.2.2.2))) (fun h333 => ?_)
  refine zv_aload_n (n := 337) dL_law_336 rfl rfl ?_
  refine zv_callSXF (n := 340) (As := [.ref (b 0)]) (rest := []) (kc' := 336) (ks' := 10636) dL_law_337 rfl (c_O_undo_1 hV (T := eS 12) (W := [eS 11, eS 10, eS 9, eS 8]) rfl) rfl kL_undo lL_328 rfl rfl ⟨by decide, by decide⟩ (Nat.le_of_ble_eq_true rfl) rfl rfl (Nat.le_of_ble_eq_true rfl) (Nat.le_of_ble_eq_true rfl) (fun M1 hq => ?_)
  obtain ⟨hV, -⟩ := hq
  obtain ⟨fs9, hb9⟩ := hV.o
  refine zv_iconst (n := 341) dL_law_340 rfl (v := 4) (by decide) ?_
  refine zv_icmp_ne (n := 344) (tgt := 412) dL_law_341 (by decide) rfl (fun h341 => False.elim (h341 (by decide))) (fun h341 => ?_)
  refine zv_aload_n (n := 345) dL_law_344 rfl rfl ?_
  refine zv_iconst (n := 346) dL_law_345 rfl (v := 2) (by decide) ?_
  refine zv_callSXP (n := 349) (As := [.ref (b 0), .int 2]) (rest := []) (kc' := 337) (ks' := 10642) dL_law_346 rfl (c_O_fan hV (a := 2) (by decide)) rfl kL_fan lL_306 rfl rfl ⟨by decide, by decide⟩ (Nat.le_of_ble_eq_true rfl) rfl rfl (Nat.le_of_ble_eq_true rfl) (Nat.le_of_ble_eq_true rfl) ?_
  refine zv_iconst (n := 350) dL_law_349 rfl (v := 5) (by decide) ?_
  refine zv_icmp_ne (n := 353) (tgt := 412) dL_law_350 (by decide) rfl (fun h350 => False.elim (h350 (eF2.2.2.2.2.1))) (fun h350 => ?_)
  refine zv_aload_n (n := 354) dL_law_353 rfl rfl ?_
  refine zv_callSXF (n := 357) (As := [.ref (b 0)]) (rest := []) (kc' := 338) (ks' := 10648) dL_law_354 rfl (c_O_undo_1 hV (T := eS 11) (W := [eS 10, eS 9, eS 8]) rfl) rfl kL_undo lL_328 rfl rfl ⟨by decide, by decide⟩ (Nat.le_of_ble_eq_true rfl) rfl rfl (Nat.le_of_ble_eq_true rfl) (Nat.le_of_ble_eq_true rfl) (fun M1 hq => ?_)
  obtain ⟨hV, -⟩ := hq
  obtain ⟨fs9, hb9⟩ := hV.o
  refine zv_iconst (n := 358) dL_law_357 rfl (v := 3) (by decide) ?_
  refine zv_icmp_ne (n := 361) (tgt := 412) dL_law_358 (by decide) rfl (fun h358 => False.elim (h358 (by decide))) (fun h358 => ?_)
  refine zv_aload_n (n := 362) dL_law_361 rfl rfl ?_
  refine zv_callVP (n := 365) (As := []) (rest := []) (kc' := 338) (ks' := 10648) dL_law_362 rfl (c_V_count hV) rfl kX8_rackCount lL_188 hb9 rfl rfl rfl ⟨by decide, by decide⟩ (Nat.le_of_ble_eq_true rfl) rfl rfl (Nat.le_of_ble_eq_true rfl) (Nat.le_of_ble_eq_true rfl) ?_
  refine zv_bipush (n := 367) dL_law_365 rfl (v := 11) (by decide) ?_
  refine zv_icmp_ne (n := 370) (tgt := 412) dL_law_367 (by decide) rfl (fun h367 => False.elim (h367 (eF2.2.2.2.2.2.1))) (fun h367 => ?_)
  refine zv_aload_n (n := 371) dL_law_370 rfl rfl ?_
  refine zv_callSXF (n := 374) (As := [.ref (b 0)]) (rest := []) (kc' := 339) (ks' := 10654) dL_law_371 rfl (c_O_undo_1 hV (T := eS 10) (W := [eS 9, eS 8]) rfl) rfl kL_undo lL_328 rfl rfl ⟨by decide, by decide⟩ (Nat.le_of_ble_eq_true rfl) rfl rfl (Nat.le_of_ble_eq_true rfl) (Nat.le_of_ble_eq_true rfl) (fun M1 hq => ?_)
  obtain ⟨hV, -⟩ := hq
  obtain ⟨fs9, hb9⟩ := hV.o
  refine zv_iconst (n := 375) dL_law_374 rfl (v := 2) (by decide) ?_
  refine zv_icmp_ne (n := 378) (tgt := 412) dL_law_375 (by decide) rfl (fun h375 => False.elim (h375 (by decide))) (fun h375 => ?_)
  refine zv_aload_n (n := 379) dL_law_378 rfl rfl ?_
  refine zv_callSXF (n := 382) (As := [.ref (b 0)]) (rest := []) (kc' := 340) (ks' := 10660) dL_law_379 rfl (c_O_undo_1 hV (T := eS 9) (W := [eS 8]) rfl) rfl kL_undo lL_328 rfl rfl ⟨by decide, by decide⟩ (Nat.le_of_ble_eq_true rfl) rfl rfl (Nat.le_of_ble_eq_true rfl) (Nat.le_of_ble_eq_true rfl) (fun M1 hq => ?_)
  obtain ⟨hV, -⟩ := hq
  obtain ⟨fs9, hb9⟩ := hV.o
  refine zv_iconst (n := 383) dL_law_382 rfl (v := 1) (by decide) ?_
  refine zv_icmp_ne (n := 386) (tgt := 412) dL_law_383 (by decide) rfl (fun h383 => False.elim (h383 (by decide))) (fun h383 => ?_)
  refine zv_aload_n (n := 387) dL_law_386 rfl rfl ?_
  refine zv_callSXF (n := 390) (As := [.ref (b 0)]) (rest := []) (kc' := 341) (ks' := 10666) dL_law_387 rfl (c_O_undo_1 hV (T := eS 8) (W := []) rfl) rfl kL_undo lL_328 rfl rfl ⟨by decide, by decide⟩ (Nat.le_of_ble_eq_true rfl) rfl rfl (Nat.le_of_ble_eq_true rfl) (Nat.le_of_ble_eq_true rfl) (fun M1 hq => ?_)
  obtain ⟨hV, -⟩ := hq
  obtain ⟨fs9, hb9⟩ := hV.o
  refine zv_if_ne (n := 393) (tgt := 412) dL_law_390 (by decide) rfl (fun h390 => False.elim (h390 (by decide))) (fun h390 => ?_)
  refine zv_aload_n (n := 394) dL_law_393 rfl rfl ?_
  refine zv_callVP (n := 397) (As := []) (rest := []) (kc' := 341) (ks' := 10666) dL_law_394 rfl (c_V_count hV) rfl kX8_rackCount lL_188 hb9 rfl rfl rfl ⟨by decide, by decide⟩ (Nat.le_of_ble_eq_true rfl) rfl rfl (Nat.le_of_ble_eq_true rfl) (Nat.le_of_ble_eq_true rfl) ?_
  refine zv_bipush (n := 399) dL_law_397 rfl (v := 8) (by decide) ?_
  refine zv_icmp_ne (n := 402) (tgt := 412) dL_law_399 (by decide) rfl (fun h399 => False.elim (h399 (eF2.2.2.2.2.2.2))) (fun h399 => ?_)
  refine zv_aload_n (n := 403) dL_law_402 rfl rfl ?_
  refine zv_callSXP (n := 406) (As := [.ref (b 0)]) (rest := []) (kc' := 342) (ks' := 10672) dL_law_403 rfl (c_O_undo_0 hV rfl) rfl kL_undo lL_328 rfl rfl ⟨by decide, by decide⟩ (Nat.le_of_ble_eq_true rfl) rfl rfl (Nat.le_of_ble_eq_true rfl) (Nat.le_of_ble_eq_true rfl) ?_
  refine zv_sipush (n := 409) dL_law_406 rfl (v := (-1001)) (by decide) ?_
  refine zv_icmp_eq (n := 412) (tgt := 414) dL_law_409 (by decide) rfl (fun h409 => ?_) (fun h409 => False.elim (h409 (rfl)))
  refine zv_wide (kc' := 350) (ks' := 10800) (by decide) (by decide) ?_
  exact k_law_414 hV hend

theorem c_N_addRack_3o {σ : zSg} {M : zM} {Z : Nat → Prop} {b : Nat → Nat} {C : Nat → Nat → Nat} {P : zS} {U : List zS} {X : Option zS} (hV : zVo M Z b C P U X) (a p l : Int32) (h : (fAdd P a p l).1 = -3) : zCon μL_addRack (7, 1, 6) σ [.ref (b 0), .int a, .int p, .int l] M (zF (some (.int (-1003))) (fun M' => zVo M' Z b C P U X ∧ zKe M M' Z)) := by
  obtain ⟨ea, fa, t, u, k, hV⟩ := hV
  exact (c_N_addRack_3 hV a p l h).post (fun o M' q => ⟨q.1, ⟨ea, fa, t, u, k, q.2.1⟩, q.2.2⟩)
set_option maxRecDepth 100000 in
set_option maxHeartbeats 4000000 in
theorem k_law_186 {σ : zSg} {b : Nat → Nat} {C : Nat → Nat → Nat} {M : zM} (hV : zVo M (fun _ => False) b C (eS 12) [eS 11, eS 10, eS 9, eS 8, eS 7, eS 6, eS 5, eS 4] (some zS0)) (hend : ∀ M', zV μL_law (17, 50000, 1100000) σ (fun o _ => o = .inl (some (.int 1))) M' (360) (10900) 454 [(0, .ref (σ.1 1))] []) : zV μL_law (17, 50000, 1100000) σ (fun o _ => o = .inl (some (.int 1))) M (310) (10413) 186 [(1, .ref (b 0)), (0, .ref (σ.1 1))] [] := by
  obtain ⟨fs9, hb9⟩ := hV.o
  refine zv_aload_n (n := 187) dL_law_186 rfl rfl ?_
  refine zv_iconst (n := 188) dL_law_187 rfl (v := 3) (by decide) ?_
  refine zv_iconst (n := 189) dL_law_188 rfl (v := 5) (by decide) ?_
  refine zv_iconst (n := 190) dL_law_189 rfl (v := 0) (by decide) ?_
  refine zv_callSXF (n := 193) (As := [.ref (b 0), .int 3, .int 5, .int 0]) (rest := []) (kc' := 311) (ks' := 10419) dL_law_190 rfl (c_N_addRack_3o hV 3 5 0 (r_add_3 (by decide) (by decide) (by decide) eF2.1)) rfl kL_addRack lL_175 rfl rfl ⟨by decide, by decide⟩ (Nat.le_of_ble_eq_true rfl) rfl rfl (Nat.le_of_ble_eq_true rfl) (Nat.le_of_ble_eq_true rfl) (fun M1 hq => ?_)
  obtain ⟨hV, -⟩ := hq
  obtain ⟨fs9, hb9⟩ := hV.o
  refine zv_sipush (n := 196) dL_law_193 rfl (v := (-1003)) (by decide) ?_
  refine zv_icmp_ne (n := 199) (tgt := 271) dL_law_196 (by decide) rfl (fun h196 => False.elim (h196 (rfl))) (fun h196 => ?_)
  refine zv_aload_n (n := 200) dL_law_199 rfl rfl ?_
  refine zv_callVP (n := 203) (As := []) (rest := []) (kc' := 311) (ks' := 10419) dL_law_200 rfl (c_O_totalLoad hV) rfl kX8_totalLoad lL_335 hb9 rfl rfl rfl ⟨by decide, by decide⟩ (Nat.le_of_ble_eq_true rfl) rfl rfl (Nat.le_of_ble_eq_true rfl) (Nat.le_of_ble_eq_true rfl) ?_
  refine zv_bipush (n := 205) dL_law_203 rfl (v := 66) (by decide) ?_
  refine zv_icmp_ne (n := 208) (tgt := 271) dL_law_205 (by decide) rfl (fun h205 => False.elim (h205 (eF2.2.1))) (fun h205 => ?_)
  refine zv_aload_n (n := 209) dL_law_208 rfl rfl ?_
  refine zv_iconst (n := 210) dL_law_209 rfl (v := 2) (by decide) ?_
  refine zv_iconst (n := 211) dL_law_210 rfl (v := 0) (by decide) ?_
  refine zv_callSXF (n := 214) (As := [.ref (b 0), .int 2, .int 0]) (rest := []) (kc' := 312) (ks' := 10425) dL_law_211 rfl (c_M_setFan hV 2 0 (by rw [eF2.2.2.1]; decide)) rfl kL_setFan lL_178 rfl rfl ⟨by decide, by decide⟩ (Nat.le_of_ble_eq_true rfl) rfl rfl (Nat.le_of_ble_eq_true rfl) (Nat.le_of_ble_eq_true rfl) (fun M1 hq => ?_)
  obtain ⟨hV, -⟩ := hq
  obtain ⟨fs9, hb9⟩ := hV.o
  replace hV : zVo _ (fun _ => False) b C e13 [eS 12, eS 11, eS 10, eS 9, eS 8, eS 7, eS 6, eS 5] (some zS0) := hV
  refine zv_iconst (n := 215) dL_law_214 rfl (v := 5) (by decide) ?_
  refine zv_icmp_ne (n := 218) (tgt := 271) dL_law_215 (by decide) rfl (fun h215 => False.elim (h215 (eF2.2.2.1))) (fun h215 => ?_)
  refine zv_aload_n (n := 219) dL_law_218 rfl rfl ?_
  refine zv_iconst (n := 220) dL_law_219 rfl (v := 1) (by decide) ?_
  refine zv_callSXF (n := 223) (As := [.ref (b 0), .int 1]) (rest := []) (kc' := 313) (ks' := 10431) dL_law_220 rfl (c_M_advance hV 1 (by rw [eF2.2.2.2.1]; decide)) rfl kL_advance lL_186 rfl rfl ⟨by decide, by decide⟩ (Nat.le_of_ble_eq_true rfl) rfl rfl (Nat.le_of_ble_eq_true rfl) (Nat.le_of_ble_eq_true rfl) (fun M1 hq => ?_)
  obtain ⟨hV, -⟩ := hq
  obtain ⟨fs9, hb9⟩ := hV.o
  have hO14 := hV.ok
  replace hV : zVo _ (fun _ => False) b C e14 [e13, eS 12, eS 11, eS 10, eS 9, eS 8, eS 7, eS 6] (some zS0) := hV
  refine zv_if_lt (n := 226) (tgt := 271) dL_law_223 (by decide) rfl (fun h223 => False.elim (nI_pos (Nat.lt_of_le_of_lt (fCb_le _ _) (Nat.lt_of_le_of_lt hO14.1.2 (by decide))) h223)) (fun h223 => ?_)
  refine zv_aload_n (n := 227) dL_law_226 rfl rfl ?_
  refine zv_iconst (n := 228) dL_law_227 rfl (v := 2) (by decide) ?_
  refine zv_callSXP (n := 231) (As := [.ref (b 0), .int 2]) (rest := []) (kc' := 314) (ks' := 10437) dL_law_228 rfl (c_O_stored hV (a := 2) (by decide)) rfl kL_stored lL_233 rfl rfl ⟨by decide, by decide⟩ (Nat.le_of_ble_eq_true rfl) rfl rfl (Nat.le_of_ble_eq_true rfl) (Nat.le_of_ble_eq_true rfl) ?_
  refine zv_bipush (n := 233) dL_law_231 rfl (v := 18) (by decide) ?_
  refine zv_icmp_ne (n := 236) (tgt := 271) dL_law_233 (by decide) rfl (fun h233 => False.elim (h233 (eF3.1))) (fun h233 => ?_)
  refine zv_aload_n (n := 237) dL_law_236 rfl rfl ?_
  refine zv_bipush (n := 239) dL_law_237 rfl (v := 11) (by decide) ?_
  refine zv_bipush (n := 241) dL_law_239 rfl (v := 10) (by decide) ?_
  refine zv_bipush (n := 243) dL_law_241 rfl (v := 9) (by decide) ?_
  refine zv_callSXF (n := 246) (As := [.ref (b 0), .int 11, .int 10, .int 9]) (rest := []) (kc' := 315) (ks' := 10443) dL_law_243 rfl (c_M_migrate hV 11 10 9 (by rw [eF3.2.1]; decide)) rfl kL_migrate lL_263 rfl rfl ⟨by decide, by decide⟩ (Nat.le_of_ble_eq_true rfl) rfl rfl (Nat.le_of_ble_eq_true rfl) (Nat.le_of_ble_eq_true rfl) (fun M1 hq => ?_)
  obtain ⟨hV, -⟩ := hq
  obtain ⟨fs9, hb9⟩ := hV.o
  replace hV : zVo _ (fun _ => False) b C e15 [e14, e13, eS 12, eS 11, eS 10, eS 9, eS 8, eS 7] (some zS0) := hV
  refine zv_bipush (n := 248) dL_law_246 rfl (v := 19) (by decide) ?_
  refine zv_icmp_ne (n := 251) (tgt := 271) dL_law_248 (by decide) rfl (fun h248 => False.elim (h248 (eF3.2.1))) (fun h248 => ?_)
  refine zv_aload_n (n := 252) dL_law_251 rfl rfl ?_
  refine zv_iconst (n := 253) dL_law_252 rfl (v := 0) (by decide) ?_
  refine zv_callSXF (n := 256) (As := [.ref (b 0), .int 0]) (rest := []) (kc' := 316) (ks' := 10449) dL_law_253 rfl (c_M_removeRack hV 0 (by rw [eF3.2.2.1]; decide)) rfl kL_removeRack lL_257 rfl rfl ⟨by decide, by decide⟩ (Nat.le_of_ble_eq_true rfl) rfl rfl (Nat.le_of_ble_eq_true rfl) (Nat.le_of_ble_eq_true rfl) (fun M1 hq => ?_)
  obtain ⟨hV, -⟩ := hq
  obtain ⟨fs9, hb9⟩ := hV.o
  replace hV : zVo _ (fun _ => False) b C e16 [e15, e14, e13, eS 12, eS 11, eS 10, eS 9, eS 8] (some zS0) := hV
  refine zv_bipush (n := 258) dL_law_256 rfl (v := 11) (by decide) ?_
  refine zv_icmp_ne (n := 261) (tgt := 271) dL_law_258 (by decide) rfl (fun h258 => False.elim (h258 (eF3.2.2.1))) (fun h258 => ?_)
  refine zv_aload_n (n := 262) dL_law_261 rfl rfl ?_
  refine zv_bipush (n := 264) dL_law_262 rfl (v := 10) (by decide) ?_
  refine zv_callSXP (n := 267) (As := [.ref (b 0), .int 10]) (rest := []) (kc' := 317) (ks' := 10455) dL_law_264 rfl (c_O_load hV (j := 10) eF3.2.2.2.1) rfl kL_load lL_300 rfl rfl ⟨by decide, by decide⟩ (Nat.le_of_ble_eq_true rfl) rfl rfl (Nat.le_of_ble_eq_true rfl) (Nat.le_of_ble_eq_true rfl) ?_
  refine zv_iconst (n := 268) dL_law_267 rfl (v := 2) (by decide) ?_
  refine zv_icmp_eq (n := 271) (tgt := 273) dL_law_268 (by decide) rfl (fun h268 => ?_) (fun h268 => False.elim (h268 (eF3.2.2.2.2)))
  refine zv_wide (kc' := 330) (ks' := 10600) (by decide) (by decide) ?_
  exact k_law_273 hV hend

set_option maxRecDepth 100000 in
set_option maxHeartbeats 4000000 in
theorem k_law_96 {σ : zSg} {b : Nat → Nat} {C : Nat → Nat → Nat} {M : zM} {ea fa : Int32} {t u : Nat → Nat} {k : Nat} (hV : zVw M (fun _ => False) b C e1 [zS0] (some zS0) ea fa (fTy fKe t 60) 60 u k) (hend : ∀ M', zV μL_law (17, 50000, 1100000) σ (fun o _ => o = .inl (some (.int 1))) M' (360) (10900) 454 [(0, .ref (σ.1 1))] []) : zV μL_law (17, 50000, 1100000) σ (fun o _ => o = .inl (some (.int 1))) M (292) (10017) 96 [(1, .ref (b 0)), (0, .ref (σ.1 1))] [] := by
  refine zv_aload_n (n := 97) dL_law_96 rfl rfl ?_
  refine zv_bipush (n := 99) dL_law_97 rfl (v := 119) (by decide) ?_
  refine zv_callSXP (n := 102) (As := [.ref (b 0), .int 119]) (rest := []) (kc' := 293) (ks' := 10167) dL_law_99 rfl ((show zCon μL_type (9, 1, 150) σ [.ref (b 0), .int 119] _ (zP (some (.int (-1002))) _) from c_L_type_f hV (c := 119) (by decide) (by decide) (by decide))) rfl kL_type lL_156 rfl rfl ⟨by decide, by decide⟩ (Nat.le_of_ble_eq_true rfl) rfl rfl (Nat.le_of_ble_eq_true rfl) (Nat.le_of_ble_eq_true rfl) ?_
  refine zv_sipush (n := 105) dL_law_102 rfl (v := (-1002)) (by decide) ?_
  refine zv_icmp_ne (n := 108) (tgt := 153) dL_law_105 (by decide) rfl (fun h105 => False.elim (h105 rfl)) (fun h105 => ?_)
  refine zv_aload_n (n := 109) dL_law_108 rfl rfl ?_
  refine zv_callSXF (n := 112) (As := [.ref (b 0)]) (rest := []) (kc' := 294) (ks' := 10173) dL_law_109 rfl (c_L_run_p hV (fun nc f => cc_e nc f)) rfl kL_run lL_161 rfl rfl ⟨by decide, by decide⟩ (Nat.le_of_ble_eq_true rfl) rfl rfl (Nat.le_of_ble_eq_true rfl) (Nat.le_of_ble_eq_true rfl) (fun M1 hq => ?_)
  obtain ⟨hV, -⟩ := hq
  refine zv_sipush (n := 115) dL_law_112 rfl (v := (-1001)) (by decide) ?_
  refine zv_icmp_ne (n := 118) (tgt := 153) dL_law_115 (by decide) rfl (fun h115 => False.elim (h115 (rfl))) (fun h115 => ?_)
  refine zv_aload_n (n := 119) dL_law_118 rfl rfl ?_
  refine zv_callSXP (n := 122) (As := [.ref (b 0)]) (rest := []) (kc' := 295) (ks' := 10179) dL_law_119 rfl (c_W_errorPosition hV (by decide)) rfl kL_errorPosition lL_319 rfl rfl ⟨by decide, by decide⟩ (Nat.le_of_ble_eq_true rfl) rfl rfl (Nat.le_of_ble_eq_true rfl) (Nat.le_of_ble_eq_true rfl) ?_
  refine zv_if_ne (n := 125) (tgt := 153) dL_law_122 (by decide) rfl (fun h122 => False.elim (h122 (by decide))) (fun h122 => ?_)
  refine zv_aload_n (n := 126) dL_law_125 rfl rfl ?_
  refine zv_bipush (n := 128) dL_law_126 rfl (v := 119) (by decide) ?_
  refine zv_callSXF (n := 131) (As := [.ref (b 0), .int 119]) (rest := []) (kc' := 296) (ks' := 10329) dL_law_128 rfl ((show zCon μL_type (9, 1, 150) σ [.ref (b 0), .int 119] _ (zF _ _) from c_L_type_1 hV (c := 119) (by decide) (by decide) (by decide))) rfl kL_type lL_156 rfl rfl ⟨by decide, by decide⟩ (Nat.le_of_ble_eq_true rfl) rfl rfl (Nat.le_of_ble_eq_true rfl) (Nat.le_of_ble_eq_true rfl) (fun M1 hq => ?_)
  obtain ⟨hV, -⟩ := hq
  refine zv_iconst (n := 132) dL_law_131 rfl (v := 1) (by decide) ?_
  refine zv_icmp_ne (n := 135) (tgt := 153) dL_law_132 (by decide) rfl (fun h132 => False.elim (h132 (by decide))) (fun h132 => ?_)
  refine zv_aload_n (n := 136) dL_law_135 rfl rfl ?_
  refine zv_callSXF (n := 139) (As := [.ref (b 0)]) (rest := []) (kc' := 297) (ks' := 10335) dL_law_136 rfl (c_L_run_p hV (fun nc f => cc_w nc f)) rfl kL_run lL_161 rfl rfl ⟨by decide, by decide⟩ (Nat.le_of_ble_eq_true rfl) rfl rfl (Nat.le_of_ble_eq_true rfl) (Nat.le_of_ble_eq_true rfl) (fun M1 hq => ?_)
  obtain ⟨hV, -⟩ := hq
  refine zv_sipush (n := 142) dL_law_139 rfl (v := (-1001)) (by decide) ?_
  refine zv_icmp_ne (n := 145) (tgt := 153) dL_law_142 (by decide) rfl (fun h142 => False.elim (h142 (rfl))) (fun h142 => ?_)
  refine zv_aload_n (n := 146) dL_law_145 rfl rfl ?_
  refine zv_callSXP (n := 149) (As := [.ref (b 0)]) (rest := []) (kc' := 298) (ks' := 10341) dL_law_146 rfl (c_W_errorPosition hV (by decide)) rfl kL_errorPosition lL_319 rfl rfl ⟨by decide, by decide⟩ (Nat.le_of_ble_eq_true rfl) rfl rfl (Nat.le_of_ble_eq_true rfl) (Nat.le_of_ble_eq_true rfl) ?_
  refine zv_iconst (n := 150) dL_law_149 rfl (v := 1) (by decide) ?_
  refine zv_icmp_eq (n := 153) (tgt := 155) dL_law_150 (by decide) rfl (fun h150 => ?_) (fun h150 => False.elim (h150 (by decide)))
  refine zv_iconst (n := 156) dL_law_155 rfl (v := 0) (by decide) ?_
  refine zv_istore_n (n := 157) (lv' := [(2, .int 0), (1, .ref (b 0)), (0, .ref (σ.1 1))]) dL_law_156 rfl (by decide) rfl ?_
  refine zv_lvs (lv' := [(2, .int 0), (1, .ref (b 0)), (0, .ref (σ.1 1))]) ⟨rfl, rfl, rfl, trivial⟩ ?_
  refine zv_wide (kc' := 298 + 0) (ks' := 10341 + 6 * 0) (by decide) (by decide) ?_
  exact l_lawA 12 0 _ rfl ⟨_, _, _, _, _, hV⟩ (fun M' hV => k_law_186 hV hend)

set_option maxRecDepth 100000 in
set_option maxHeartbeats 4000000 in
theorem k_law_0 {σ : zSg} {M : zM} (hend : ∀ M', zV μL_law (17, 50000, 1100000) σ (fun o _ => o = .inl (some (.int 1))) M' (360) (10900) 454 [(0, .ref (σ.1 1))] []) : zV μL_law (17, 50000, 1100000) σ (fun o _ => o = .inl (some (.int 1))) M (0) (0) 0 [(0, .ref (σ.1 1))] [] := by
  refine zv_new (n := 3) (kc' := 1) (ks' := 7) dL_law_0 rfl nL_8 rfl rfl (Nat.le_of_ble_eq_true rfl) (Nat.le_of_ble_eq_true rfl) (fun q1 hq1 => ?_)
  refine zv_dup (n := 4) dL_law_3 rfl rfl ?_
  refine zv_callIF0 (n := 7) (As := []) (rest := [.ref q1]) (kc' := 229) (ks' := 993) dL_law_4 rfl (c_O_init (h := q1) (Z := fun _ => False) zup_s (fun _ h => h.elim)) rfl rfl kX8_init lL_327 rfl rfl ⟨by decide, by decide⟩ (Nat.le_of_ble_eq_true rfl) rfl rfl (Nat.le_of_ble_eq_true rfl) (Nat.le_of_ble_eq_true rfl) (fun M2 hq => ?_)
  obtain ⟨b, C, hb0, hV, -⟩ := hq
  subst hb0
  obtain ⟨fs9, hb9⟩ := hV.o
  refine zv_astore_n (n := 8) (lv' := [(1, .ref (b 0)), (0, .ref (σ.1 1))]) dL_law_7 rfl (by decide) rfl ?_
  refine zv_aload_n (n := 9) dL_law_8 rfl rfl ?_
  refine zv_callSXP (n := 12) (As := [.ref (b 0)]) (rest := []) (kc' := 230) (ks' := 999) dL_law_9 rfl (c_O_undo_0 hV rfl) rfl kL_undo lL_328 rfl rfl ⟨by decide, by decide⟩ (Nat.le_of_ble_eq_true rfl) rfl rfl (Nat.le_of_ble_eq_true rfl) (Nat.le_of_ble_eq_true rfl) ?_
  refine zv_sipush (n := 15) dL_law_12 rfl (v := (-1001)) (by decide) ?_
  refine zv_icmp_ne (n := 18) (tgt := 63) dL_law_15 (by decide) rfl (fun h15 => False.elim (h15 (rfl))) (fun h15 => ?_)
  refine zv_aload_n (n := 19) dL_law_18 rfl rfl ?_
  refine zv_callSXP (n := 22) (As := [.ref (b 0)]) (rest := []) (kc' := 231) (ks' := 1005) dL_law_19 rfl (c_O_restore_0 hV rfl) rfl kL_restore lL_330 rfl rfl ⟨by decide, by decide⟩ (Nat.le_of_ble_eq_true rfl) rfl rfl (Nat.le_of_ble_eq_true rfl) (Nat.le_of_ble_eq_true rfl) ?_
  refine zv_sipush (n := 25) dL_law_22 rfl (v := (-1001)) (by decide) ?_
  refine zv_icmp_ne (n := 28) (tgt := 63) dL_law_25 (by decide) rfl (fun h25 => False.elim (h25 (rfl))) (fun h25 => ?_)
  refine zv_aload_n (n := 29) dL_law_28 rfl rfl ?_
  refine zv_callVF (n := 32) (As := []) (rest := []) (kc' := 231) (ks' := 1005) dL_law_29 rfl (c_O_save hV) rfl kX8_save lL_332 hb9 rfl rfl rfl ⟨by decide, by decide⟩ (Nat.le_of_ble_eq_true rfl) rfl rfl (Nat.le_of_ble_eq_true rfl) (Nat.le_of_ble_eq_true rfl) (fun M1 hq => ?_)
  obtain ⟨hV, -⟩ := hq
  obtain ⟨fs9, hb9⟩ := hV.o
  refine zv_if_ne (n := 35) (tgt := 63) dL_law_32 (by decide) rfl (fun h32 => False.elim (h32 (eF1.2.2.2.2.1))) (fun h32 => ?_)
  refine zv_aload_n (n := 36) dL_law_35 rfl rfl ?_
  refine zv_bipush (n := 38) dL_law_36 rfl (v := 60) (by decide) ?_
  refine zv_callSXF (n := 41) (As := [.ref (b 0), .int 60]) (rest := []) (kc' := 232) (ks' := 1011) dL_law_38 rfl (c_M_advance hV 60 (by rw [eF1.1]; decide)) rfl kL_advance lL_186 rfl rfl ⟨by decide, by decide⟩ (Nat.le_of_ble_eq_true rfl) rfl rfl (Nat.le_of_ble_eq_true rfl) (Nat.le_of_ble_eq_true rfl) (fun M1 hq => ?_)
  obtain ⟨hV, -⟩ := hq
  obtain ⟨fs9, hb9⟩ := hV.o
  refine zv_if_ne (n := 44) (tgt := 63) dL_law_41 (by decide) rfl (fun h41 => False.elim (h41 (eF1.2.1))) (fun h41 => ?_)
  refine zv_aload_n (n := 45) dL_law_44 rfl rfl ?_
  refine zv_callVP (n := 48) (As := []) (rest := []) (kc' := 232) (ks' := 1011) dL_law_45 rfl (c_O_minute hV) rfl kX8_minute lL_215 hb9 rfl rfl rfl ⟨by decide, by decide⟩ (Nat.le_of_ble_eq_true rfl) rfl rfl (Nat.le_of_ble_eq_true rfl) (Nat.le_of_ble_eq_true rfl) ?_
  refine zv_bipush (n := 50) dL_law_48 rfl (v := 60) (by decide) ?_
  refine zv_icmp_ne (n := 53) (tgt := 63) dL_law_50 (by decide) rfl (fun h50 => False.elim (h50 (eF1.2.2.1))) (fun h50 => ?_)
  refine zv_aload_n (n := 54) dL_law_53 rfl rfl ?_
  refine zv_callVP (n := 57) (As := []) (rest := []) (kc' := 232) (ks' := 1011) dL_law_54 rfl (c_O_energy hV) rfl kX8_energyTotal lL_224 hb9 rfl rfl rfl ⟨by decide, by decide⟩ (Nat.le_of_ble_eq_true rfl) rfl rfl (Nat.le_of_ble_eq_true rfl) (Nat.le_of_ble_eq_true rfl) ?_
  refine zv_sipush (n := 60) dL_law_57 rfl (v := 30000) (by decide) ?_
  refine zv_icmp_eq (n := 63) (tgt := 65) dL_law_60 (by decide) rfl (fun h60 => ?_) (fun h60 => False.elim (h60 (eF1.2.2.2.1)))
  refine zv_iconst (n := 66) dL_law_65 rfl (v := 0) (by decide) ?_
  refine zv_istore_n (n := 67) (lv' := [(2, .int 0), (1, .ref (b 0)), (0, .ref (σ.1 1))]) dL_law_66 rfl (by decide) rfl ?_
  refine zv_lvs (lv' := [(2, .int 0), (1, .ref (b 0)), (0, .ref (σ.1 1))]) ⟨rfl, rfl, rfl, trivial⟩ ?_
  refine zv_wide (kc' := 232 + 0) (ks' := 1017 + 150 * 0) (by decide) (by decide) ?_
  obtain ⟨ea, fa, t, u, k, hV⟩ := hV
  exact l_lawT 60 0 _ rfl hV (fun M' hV => k_law_96 hV hend)


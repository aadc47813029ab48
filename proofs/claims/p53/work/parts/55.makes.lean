/-! makes: laid by wip/p53/m55.py. -/
/-- what makes keeps while it adds racks: k added or refused so far -/
def zMk (P : zS) (k : Nat) : Prop := fCnt P ≤ k ∧ (0 < k → 0 < fCnt P) ∧ (∀ a, a < 4 → P (37 + a) = 5) ∧ P 41 = 0 ∧ P 42 = 50 ∧ P 43 = 80 ∧ P 48 = 27
theorem zMk0 : zMk zS0 0 := ⟨by decide +kernel, fun h => absurd h (Nat.lt_irrefl 0), fun a ha => by
  have key : ∀ a : Fin 4, zS0 (37 + a.1) = 5 := by decide +kernel
  exact key ⟨a, ha⟩, by decide +kernel, by decide +kernel, by decide +kernel, by decide +kernel⟩
theorem fBt_j {j n : Nat} (h : j ≤ n) (hn : n < 2 ^ 31) : fBt (nI j) 0 (nI n) = true := by
  unfold fBt
  rw [decide_eq_true (nI_pos' (by omega)), decide_eq_true (nI_le h hn)]
  rfl
theorem fAdd_mk {P : zS} {k a p l : Nat} (hO : zOk P) (h : zMk P k) (hk : k < 12) (ha : a < 4) (hp : p < 6) (hl : l < 21) : ((fAdd P (nI a) (nI p) (nI l)).1 = -4 ∧ zMk P (k + 1)) ∨ (0 ≤ (fAdd P (nI a) (nI p) (nI l)).1 ∧ zMk (fAdd P (nI a) (nI p) (nI l)).2 (k + 1)) := by
  obtain ⟨h1, h2, h3, h4, h5, h6, h7⟩ := h
  have hN := hO.1
  have e : fAdd P (nI a) (nI p) (nI l) = if fFind P (nI a) (nI p) = -1 then (P 0, fApp P (nI a) (nI p) (nI l)) else (-4, P) := by
    unfold fAdd
    rw [if_neg (by rw [show fBt (nI a) 0 3 = true from fBt_j (n := 3) (by omega) (by decide)]; decide), if_neg (by rw [show fBt (nI p) 0 5 = true from fBt_j (n := 5) (by omega) (by decide)]; decide), if_neg (by rw [show fBt (nI l) 0 20 = true from fBt_j (n := 20) (by omega) (by decide)]; decide), if_neg (by omega)]
  rw [e]
  split
  · right
    refine ⟨?_, ?_⟩
    · show 0 ≤ P 0
      rw [hN.1]
      exact nI_pos' (by omega)
    · show zMk (fApp P (nI a) (nI p) (nI l)) (k + 1)
      have ec : fCnt (fApp P (nI a) (nI p) (nI l)) = fCnt P + 1 := by
        unfold fCnt fApp
        rw [u_s, hN.1, nI_1, nI_clamp (by omega), nI_clamp (by omega)]
      unfold zMk
      rw [ec]
      unfold fApp
      refine ⟨by omega, fun _ => by omega, fun a ha => ?_, ?_, ?_, ?_, ?_⟩
      · rw [u_n (by omega), u_n (by omega), u_n (by omega), u_n (by omega)]; exact h3 a ha
      · rw [u_n (by omega), u_n (by omega), u_n (by omega), u_n (by omega)]; exact h4
      · rw [u_n (by omega), u_n (by omega), u_n (by omega), u_n (by omega)]; exact h5
      · rw [u_n (by omega), u_n (by omega), u_n (by omega), u_n (by omega)]; exact h6
      · rw [u_n (by omega), u_n (by omega), u_n (by omega), u_n (by omega)]; exact h7
  · rename_i hf
    left
    refine ⟨rfl, by omega, fun _ => ?_, h3, h4, h5, h6, h7⟩
    rcases Nat.eq_zero_or_pos (fCnt P) with h0 | h0
    · exact absurd (by unfold fFind; rw [h0]; rfl) hf
    · exact h0
theorem fCnt_u {P : zS} {k : Nat} (hk : k ≠ 0) (v : Int32) : fCnt (upd P k v) = fCnt P := by
  unfold fCnt
  rw [u_n (fun e => hk e.symm)]
theorem fSpd_j {P : zS} {a : Nat} (ha : a < 4) : fSpd P (nI a) = P (37 + a) := fAt_in ha (by decide)
theorem fPt_j {P : zS} {a : Nat} (ha : a < 3) : fPt P (nI a) = P (41 + a) := fAt_in ha (by decide)
theorem fFan_mk {P : zS} {a v : Nat} (ha : a < 4) (hv : v < 11) : fFan P (nI a) (nI v) = (P (37 + a), upd P (37 + a) (nI v)) := by
  unfold fFan
  rw [if_neg (by rw [show fBt (nI a) 0 3 = true from fBt_j (n := 3) (by omega) (by decide)]; decide), if_neg (by rw [show fBt (nI v) 0 10 = true from fBt_j (n := 10) (by omega) (by decide)]; decide), nI_clamp (by omega), fSpd_j ha]
theorem fCrv_mk2 {P : zS} {v : Nat} (h42 : P 42 = 50) (h43 : P 43 = 80) (hv : v < 121) : fCrv P 2 (nI (80 + v)) = (80, upd P 43 (nI (80 + v))) := by
  unfold fCrv
  have e1 : fLow P 2 = 50 := by
    unfold fLow
    rw [if_neg (by decide), show (2 : Int32) - 1 = nI 1 from by decide, fPt_j (by decide)]
    exact h42
  have e2 : fHigh P 2 = 200 := by unfold fHigh; rw [if_pos rfl]
  have e3 : fBt (nI (80 + v)) 50 200 = true := by
    unfold fBt
    rw [decide_eq_true (show (50 : Int32) ≤ nI (80 + v) from nI_le (a := 50) (by omega) (by omega)), decide_eq_true (show nI (80 + v) ≤ 200 from nI_le (b := 200) (by omega) (by decide))]
    rfl
  rw [if_neg (by decide), if_neg (by rw [show fBt (nI (80 + v)) 0 200 = true from fBt_j (n := 200) (by omega) (by decide)]; decide), e1, e2, if_neg (by rw [e3]; decide), show fPt P 2 = P 43 from fPt_j (a := 2) (by decide), h43]
  rfl
theorem fCrv_mk0 {P : zS} {v : Nat} (h41 : P 41 = 0) (h42 : P 42 = 50) (hv : v < 40) : fCrv P 0 (nI v) = (0, upd P 41 (nI v)) := by
  unfold fCrv
  have e1 : fLow P 0 = 0 := by unfold fLow; rw [if_pos rfl]
  have e2 : fHigh P 0 = 50 := by
    unfold fHigh
    rw [if_neg (by decide), show (0 : Int32) + 1 = nI 1 from by decide, fPt_j (by decide)]
    exact h42
  rw [if_neg (by decide), if_neg (by rw [show fBt (nI v) 0 200 = true from fBt_j (n := 200) (by omega) (by decide)]; decide), e1, e2, if_neg (by rw [show fBt (nI v) 0 50 = true from fBt_j (n := 50) (by omega) (by decide)]; decide), show fPt P 0 = P 41 from fPt_j (a := 0) (by decide), h41]
  rfl
theorem fLim_mk {P : zS} {v : Nat} (h48 : P 48 = 27) (hv : v < 20) : fLim P (nI (20 + v)) = (27, upd P 48 (nI (20 + v))) := by
  unfold fLim
  have e3 : fBt (nI (20 + v)) 20 60 = true := by
    unfold fBt
    rw [decide_eq_true (show (20 : Int32) ≤ nI (20 + v) from nI_le (a := 20) (by omega) (by omega)), decide_eq_true (show nI (20 + v) ≤ 60 from nI_le (b := 60) (by omega) (by decide))]
    rfl
  rw [if_neg (by rw [e3]; decide), h48]
theorem fPas_1 {P : zS} {v : Nat} (hv : v < 60) : (fPas P (nI (1 + v))).1 = nI (1 + v) := by
  unfold fPas
  have e3 : fBt (nI (1 + v)) 1 60 = true := by
    unfold fBt
    rw [decide_eq_true (show (1 : Int32) ≤ nI (1 + v) from nI_le (a := 1) (by omega) (by omega)), decide_eq_true (show nI (1 + v) ≤ 60 from nI_le (b := 60) (by omega) (by decide))]
    rfl
  rw [if_neg (by rw [e3]; decide)]
theorem fPas_cnt {P : zS} (m : Int32) : fCnt (fPas P m).2 = fCnt P := by
  unfold fPas
  split
  · rfl
  · show fCnt (upd (fPs4 P m.toNatClampNeg) 49 _) = fCnt P
    rw [fCnt_u (by decide)]
    unfold fCnt fPs4
    rw [fPsI_n (by decide) (by decide), fPsI_n (by decide) (by decide), fPsI_n (by decide) (by decide), fPsI_n (by decide) (by decide)]

theorem c_N_addRack_4v {σ : zSg} {M : zM} {Z : Nat → Prop} {b : Nat → Nat} {C : Nat → Nat → Nat} {P : zS} {U : List zS} {X : Option zS} (hV : zVo M Z b C P U X) (a p l : Int32) (h : (fAdd P a p l).1 = -4) : zCon μL_addRack (7, 1, 6) σ [.ref (b 0), .int a, .int p, .int l] M (zF (some (.int (-1004))) (fun M' => zVo M' Z b C P U X ∧ zKe M M' Z)) := by
  obtain ⟨ea, fa, t, u, k, hV⟩ := hV
  exact (c_N_addRack_4 hV a p l h).post (fun o M' q => ⟨q.1, ⟨ea, fa, t, u, k, q.2.1⟩, q.2.2⟩)

set_option maxRecDepth 100000 in
set_option maxHeartbeats 4000000 in
theorem l_makes1 {σ : zSg} {Z : Nat → Prop} {b : Nat → Nat} {C : Nat → Nat → Nat} {X : Option zS} {Q : zO → zM → Prop} {M0 : zM} {n9 : Nat} (hn9 : n9 ≤ 11) : ∀ (l k : Nat) (M : zM) (P : zS) (U : List zS), k + l = n9 → zVo M Z b C P U X → zMk P k → zKe M0 M Z → (∀ M' P' U', zVo M' Z b C P' U' X → zMk P' n9 → zKe M0 M' Z → zV μL_makes (15, 60, 400) σ Q M' 11 66 81 [(0, .ref (b 0)), (1, .ref (σ.1 1))] []) → zV μL_makes (15, 60, 400) σ Q M k (6 * k) 15 [(3, .int (nI k)), (2, .int (nI n9)), (0, .ref (b 0)), (1, .ref (σ.1 1))] [] := by
  intro l
  induction l with
  | zero =>
    intro k M P U hk hV hm hz kk
    obtain rfl : k = n9 := by omega
    refine zv_iload_n (n := 16) dL_makes_15 rfl rfl ?_
    refine zv_iload_n (n := 17) dL_makes_16 rfl rfl ?_
    refine zv_icmp_ge (n := 20) (tgt := 81) dL_makes_17 (by decide) rfl (fun h17 => ?_) (fun h17 => False.elim (absurd (Int32.le_refl _) h17))
    refine zv_lvs (lv' := [(0, .ref (b 0)), (1, .ref (σ.1 1))]) ⟨rfl, rfl, trivial⟩ ?_
    exact zv_wide (by omega) (by omega) (kk M P U hV hm hz)
  | succ l ih =>
    intro k M P U hk hV hm hz kk
    have hlt : k < n9 := by omega
    have hO := hV.ok
    refine zv_iload_n (n := 16) dL_makes_15 rfl rfl ?_
    refine zv_iload_n (n := 17) dL_makes_16 rfl rfl ?_
    refine zv_icmp_ge (n := 20) (tgt := 81) dL_makes_17 (by decide) rfl (fun h17 => False.elim (absurd h17 (nI_ge hlt (by omega)))) (fun h17 => ?_)
    refine zv_aload_n (n := 21) dL_makes_20 rfl rfl ?_
    refine zv_iconst (n := 22) dL_makes_21 rfl (v := 1) (by decide) ?_
    refine zv_iload_n (n := 23) dL_makes_22 rfl rfl ?_
    refine zv_iadd (n := 24) dL_makes_23 rfl ?_
    rw [show (1 : Int32) + nI k = nI (1 + k) from nI_add 1 k]
    refine zv_callSP (n := 27) (As := [.ref (σ.1 1), .int (nI (1 + k))]) (rest := []) (kc' := k) (ks' := (6 * k)) dL_makes_24 rfl (c_L_at (k := 1 + k) (by omega)) rfl kL_at lL_168 rfl rfl ⟨by decide, by decide⟩ (Nat.le_of_ble_eq_true rfl) rfl rfl (by show _ ≤ (60 : Nat); omega) (by show _ ≤ (400 : Nat); omega) ?_
    refine zv_istore (n := 29) (lv' := [(4, .int (fS σ (1 + k))), (3, .int (nI k)), (2, .int (nI n9)), (0, .ref (b 0)), (1, .ref (σ.1 1))]) dL_makes_27 rfl (by decide) rfl ?_
    refine zv_aload_n (n := 30) dL_makes_29 rfl rfl ?_
    refine zv_iload (n := 32) dL_makes_30 rfl rfl ?_
    refine zv_iconst (n := 33) dL_makes_32 rfl (v := 4) (by decide) ?_
    obtain ⟨a, ha, ea⟩ := fSome_in (fS σ (1 + k)) (n := 4) (by decide) (by decide)
    refine zv_callSP (n := 36) (As := [.int (fS σ (1 + k)), .int 4]) (rest := [.ref (b 0)]) (kc' := k) (ks' := (6 * k)) dL_makes_33 rfl (c_L_some _ _ (by decide)) rfl kL_some lL_172 rfl rfl ⟨by decide, by decide⟩ (Nat.le_of_ble_eq_true rfl) rfl rfl (by show _ ≤ (60 : Nat); omega) (by show _ ≤ (400 : Nat); omega) ?_
    rw [show fSome (fS σ (1 + k)) 4 = nI a from ea]
    refine zv_iload (n := 38) dL_makes_36 rfl rfl ?_
    refine zv_iconst (n := 39) dL_makes_38 rfl (v := 3) (by decide) ?_
    refine zv_ishr (n := 40) dL_makes_39 rfl ?_
    refine zv_bipush (n := 42) dL_makes_40 rfl (v := 6) (by decide) ?_
    obtain ⟨p, hp, ep⟩ := fSome_in ((fS σ (1 + k)) >>> (3 &&& 31)) (n := 6) (by decide) (by decide)
    refine zv_callSP (n := 45) (As := [.int ((fS σ (1 + k)) >>> (3 &&& 31)), .int 6]) (rest := [.int (nI a), .ref (b 0)]) (kc' := k) (ks' := (6 * k)) dL_makes_42 rfl (c_L_some _ _ (by decide)) rfl kL_some lL_172 rfl rfl ⟨by decide, by decide⟩ (Nat.le_of_ble_eq_true rfl) rfl rfl (by show _ ≤ (60 : Nat); omega) (by show _ ≤ (400 : Nat); omega) ?_
    rw [show fSome ((fS σ (1 + k)) >>> (3 &&& 31)) 6 = nI p from ep]
    refine zv_iload (n := 47) dL_makes_45 rfl rfl ?_
    refine zv_bipush (n := 49) dL_makes_47 rfl (v := 7) (by decide) ?_
    refine zv_ishr (n := 50) dL_makes_49 rfl ?_
    refine zv_bipush (n := 52) dL_makes_50 rfl (v := 21) (by decide) ?_
    obtain ⟨l9, hl9, el9⟩ := fSome_in ((fS σ (1 + k)) >>> (7 &&& 31)) (n := 21) (by decide) (by decide)
    refine zv_callSP (n := 55) (As := [.int ((fS σ (1 + k)) >>> (7 &&& 31)), .int 21]) (rest := [.int (nI p), .int (nI a), .ref (b 0)]) (kc' := k) (ks' := (6 * k)) dL_makes_52 rfl (c_L_some _ _ (by decide)) rfl kL_some lL_172 rfl rfl ⟨by decide, by decide⟩ (Nat.le_of_ble_eq_true rfl) rfl rfl (by show _ ≤ (60 : Nat); omega) (by show _ ≤ (400 : Nat); omega) ?_
    rw [show fSome ((fS σ (1 + k)) >>> (7 &&& 31)) 21 = nI l9 from el9]
    rcases fAdd_mk hO hm (by omega) ha hp hl9 with ⟨ha1, ha2⟩ | ⟨ha1, ha2⟩
    · skip
      refine zv_callSXF (n := 58) (As := [.ref (b 0), .int (nI a), .int (nI p), .int (nI l9)]) (rest := []) (kc' := (k + 1)) (ks' := ((6 * k) + 6)) dL_makes_55 rfl (c_N_addRack_4v hV (nI a) (nI p) (nI l9) ha1) rfl kL_addRack lL_175 rfl rfl ⟨by decide, by decide⟩ (Nat.le_of_ble_eq_true rfl) rfl rfl (by show _ ≤ (60 : Nat); omega) (by show _ ≤ (400 : Nat); omega) (fun M1 hq => ?_)
      obtain ⟨hV1, hz1⟩ := hq
      have hm1 := ha2
      refine zv_istore (n := 60) (lv' := [(5, .int (-1004)), (4, .int (fS σ (1 + k))), (3, .int (nI k)), (2, .int (nI n9)), (0, .ref (b 0)), (1, .ref (σ.1 1))]) dL_makes_58 rfl (by decide) rfl ?_
      refine zv_iload (n := 62) dL_makes_60 rfl rfl ?_
      refine zv_if_ge (n := 65) (tgt := 75) dL_makes_62 (by decide) rfl (fun h62 => False.elim (absurd h62 (by decide))) (fun h62 => ?_)
      refine zv_iload (n := 67) dL_makes_65 rfl rfl ?_
      refine zv_sipush (n := 70) dL_makes_67 rfl (v := (-1004)) (by decide) ?_
      refine zv_icmp_eq (n := 73) (tgt := 75) dL_makes_70 (by decide) rfl (fun h70 => ?_) (fun h70 => False.elim (h70 rfl))
      refine zv_iinc (n := 78) (v := nI (k + 1)) (lv' := [(3, .int (nI (k + 1))), (5, .int (-1004)), (4, .int (fS σ (1 + k))), (2, .int (nI n9)), (0, .ref (b 0)), (1, .ref (σ.1 1))]) dL_makes_75 rfl rfl (nI_1 k) (by decide) rfl ?_
      refine zv_goto (tgt := 15) dL_makes_78 (by decide) ?_
      refine zv_lvs (lv' := [(3, .int (nI (k + 1))), (2, .int (nI n9)), (0, .ref (b 0)), (1, .ref (σ.1 1))]) ⟨rfl, rfl, rfl, rfl, trivial⟩ ?_
      refine zv_wide (kc' := k + 1) (ks' := 6 * (k + 1)) (by omega) (by omega) ?_
      exact ih (k + 1) _ _ _ (by omega) hV1 hm1 (hz.tr hz1) kk
    · skip
      refine zv_callSXF (n := 58) (As := [.ref (b 0), .int (nI a), .int (nI p), .int (nI l9)]) (rest := []) (kc' := (k + 1)) (ks' := ((6 * k) + 6)) dL_makes_55 rfl (c_M_addRack hV (nI a) (nI p) (nI l9) ha1) rfl kL_addRack lL_175 rfl rfl ⟨by decide, by decide⟩ (Nat.le_of_ble_eq_true rfl) rfl rfl (by show _ ≤ (60 : Nat); omega) (by show _ ≤ (400 : Nat); omega) (fun M1 hq => ?_)
      obtain ⟨hV1, hz1⟩ := hq
      have hm1 := ha2
      refine zv_istore (n := 60) (lv' := [(5, .int (fAdd P (nI a) (nI p) (nI l9)).1), (4, .int (fS σ (1 + k))), (3, .int (nI k)), (2, .int (nI n9)), (0, .ref (b 0)), (1, .ref (σ.1 1))]) dL_makes_58 rfl (by decide) rfl ?_
      refine zv_iload (n := 62) dL_makes_60 rfl rfl ?_
      refine zv_if_ge (n := 65) (tgt := 75) dL_makes_62 (by decide) rfl (fun h62 => ?_) (fun h62 => False.elim (h62 ha1))
      refine zv_iinc (n := 78) (v := nI (k + 1)) (lv' := [(3, .int (nI (k + 1))), (5, .int (fAdd P (nI a) (nI p) (nI l9)).1), (4, .int (fS σ (1 + k))), (2, .int (nI n9)), (0, .ref (b 0)), (1, .ref (σ.1 1))]) dL_makes_75 rfl rfl (nI_1 k) (by decide) rfl ?_
      refine zv_goto (tgt := 15) dL_makes_78 (by decide) ?_
      refine zv_lvs (lv' := [(3, .int (nI (k + 1))), (2, .int (nI n9)), (0, .ref (b 0)), (1, .ref (σ.1 1))]) ⟨rfl, rfl, rfl, rfl, trivial⟩ ?_
      refine zv_wide (kc' := k + 1) (ks' := 6 * (k + 1)) (by omega) (by omega) ?_
      exact ih (k + 1) _ _ _ (by omega) hV1 hm1 (hz.tr hz1) kk

set_option maxRecDepth 100000 in
set_option maxHeartbeats 4000000 in
theorem l_makes2 {σ : zSg} {Z : Nat → Prop} {b : Nat → Nat} {C : Nat → Nat → Nat} {X : Option zS} {Q : zO → zM → Prop} {M0 : zM} : ∀ (l a : Nat) (M : zM) (P : zS) (U : List zS), a + l = 4 → zVo M Z b C P U X → (∀ a9, a ≤ a9 → a9 < 4 → P (37 + a9) = 5) → P 41 = 0 → P 42 = 50 → P 43 = 80 → P 48 = 27 → 0 < fCnt P → zKe M0 M Z → (∀ M' P' U', zVo M' Z b C P' U' X → P' 41 = 0 → P' 42 = 50 → P' 43 = 80 → P' 48 = 27 → 0 < fCnt P' → zKe M0 M' Z → zV μL_makes (15, 60, 400) σ Q M' 15 90 118 [(0, .ref (b 0)), (1, .ref (σ.1 1))] []) → zV μL_makes (15, 60, 400) σ Q M (11 + a) (66 + 6 * a) 83 [(3, .int (nI a)), (0, .ref (b 0)), (1, .ref (σ.1 1))] [] := by
  intro l
  induction l with
  | zero =>
    intro a M P U hk hV i5 i41 i42 i43 i48 ic hz kk
    obtain rfl : a = 4 := by omega
    refine zv_iload_n (n := 84) dL_makes_83 rfl rfl ?_
    refine zv_iconst (n := 85) dL_makes_84 rfl (v := 4) (by decide) ?_
    refine zv_icmp_ge (n := 88) (tgt := 118) dL_makes_85 (by decide) rfl (fun h85 => ?_) (fun h85 => False.elim (absurd (show nI 4 ≤ nI 4 from Int32.le_refl _) h85))
    refine zv_lvs (lv' := [(0, .ref (b 0)), (1, .ref (σ.1 1))]) ⟨rfl, rfl, trivial⟩ ?_
    exact kk M P U hV i41 i42 i43 i48 ic hz
  | succ l ih =>
    intro a M P U hk hV i5 i41 i42 i43 i48 ic hz kk
    have hlt : a < 4 := by omega
    refine zv_iload_n (n := 84) dL_makes_83 rfl rfl ?_
    refine zv_iconst (n := 85) dL_makes_84 rfl (v := 4) (by decide) ?_
    refine zv_icmp_ge (n := 88) (tgt := 118) dL_makes_85 (by decide) rfl (fun h85 => False.elim (absurd h85 (nI_ge (b := 4) hlt (by decide)))) (fun h85 => ?_)
    refine zv_aload_n (n := 89) dL_makes_88 rfl rfl ?_
    refine zv_iload_n (n := 90) dL_makes_89 rfl rfl ?_
    refine zv_aload_n (n := 91) dL_makes_90 rfl rfl ?_
    refine zv_bipush (n := 93) dL_makes_91 rfl (v := 13) (by decide) ?_
    refine zv_iload_n (n := 94) dL_makes_93 rfl rfl ?_
    refine zv_iadd (n := 95) dL_makes_94 rfl ?_
    rw [show (13 : Int32) + nI a = nI (13 + a) from nI_add 13 a]
    refine zv_callSP (n := 98) (As := [.ref (σ.1 1), .int (nI (13 + a))]) (rest := [.int (nI a), .ref (b 0)]) (kc' := (11 + a)) (ks' := (66 + 6 * a)) dL_makes_95 rfl (c_L_at (k := 13 + a) (by omega)) rfl kL_at lL_168 rfl rfl ⟨by decide, by decide⟩ (Nat.le_of_ble_eq_true rfl) rfl rfl (by show _ ≤ (60 : Nat); omega) (by show _ ≤ (400 : Nat); omega) ?_
    refine zv_bipush (n := 100) dL_makes_98 rfl (v := 11) (by decide) ?_
    obtain ⟨v, hv, ev⟩ := fSome_in (fS σ (13 + a)) (n := 11) (by decide) (by decide)
    refine zv_callSP (n := 103) (As := [.int (fS σ (13 + a)), .int 11]) (rest := [.int (nI a), .ref (b 0)]) (kc' := (11 + a)) (ks' := (66 + 6 * a)) dL_makes_100 rfl (c_L_some _ _ (by decide)) rfl kL_some lL_172 rfl rfl ⟨by decide, by decide⟩ (Nat.le_of_ble_eq_true rfl) rfl rfl (by show _ ≤ (60 : Nat); omega) (by show _ ≤ (400 : Nat); omega) ?_
    rw [show fSome (fS σ (13 + a)) 11 = nI v from ev]
    have ef := fFan_mk (P := P) hlt hv
    refine zv_callSXF (n := 106) (As := [.ref (b 0), .int (nI a), .int (nI v)]) (rest := []) (kc' := ((11 + a) + 1)) (ks' := ((66 + 6 * a) + 6)) dL_makes_103 rfl (c_M_setFan hV (nI a) (nI v) (by rw [ef]; show 0 ≤ P (37 + a); rw [i5 a (Nat.le_refl _) hlt]; decide)) rfl kL_setFan lL_178 rfl rfl ⟨by decide, by decide⟩ (Nat.le_of_ble_eq_true rfl) rfl rfl (by show _ ≤ (60 : Nat); omega) (by show _ ≤ (400 : Nat); omega) (fun M1 hq => ?_)
    obtain ⟨hV1, hz1⟩ := hq
    rw [ef] at hV1 ⊢
    rw [show (P (37 + a), upd P (37 + a) (nI v)).1 = 5 from i5 a (Nat.le_refl _) hlt]
    refine zv_iconst (n := 107) dL_makes_106 rfl (v := 5) (by decide) ?_
    refine zv_icmp_eq (n := 110) (tgt := 112) dL_makes_107 (by decide) rfl (fun h107 => ?_) (fun h107 => False.elim (h107 rfl))
    refine zv_iinc (n := 115) (v := nI (a + 1)) (lv' := [(3, .int (nI (a + 1))), (0, .ref (b 0)), (1, .ref (σ.1 1))]) dL_makes_112 rfl rfl (nI_1 a) (by decide) rfl ?_
    refine zv_goto (tgt := 83) dL_makes_115 (by decide) ?_
    refine zv_lvs (lv' := [(3, .int (nI (a + 1))), (0, .ref (b 0)), (1, .ref (σ.1 1))]) ⟨rfl, rfl, rfl, trivial⟩ ?_
    refine zv_wide (kc' := 11 + (a + 1)) (ks' := 66 + 6 * (a + 1)) (by omega) (by omega) ?_
    exact ih (a + 1) _ _ _ (by omega) hV1 (fun a9 h1 h2 => (u_n (by omega)).trans (i5 a9 (by omega) h2)) ((u_n (by omega)).trans i41) ((u_n (by omega)).trans i42) ((u_n (by omega)).trans i43) ((u_n (by omega)).trans i48) (by rw [fCnt_u (by omega)]; exact ic) (hz.tr hz1) kk

set_option maxRecDepth 100000 in
set_option maxHeartbeats 4000000 in
theorem k_makes {σ : zSg} {Z : Nat → Prop} {b : Nat → Nat} {C : Nat → Nat → Nat} {X : Option zS} {M0 M : zM} {P : zS} {U : List zS} (hV : zVo M Z b C P U X) (i41 : P 41 = 0) (i42 : P 42 = 50) (i43 : P 43 = 80) (i48 : P 48 = 27) (ic : 0 < fCnt P) (hz : zKe M0 M Z) : zV μL_makes (15, 60, 400) σ (zI9 (fun w M' => (w = 1 ∧ ∃ P U, zVo M' Z b C P U X ∧ 0 < fCnt P) ∧ zKe M0 M' Z)) M 15 90 118 [(0, .ref (b 0)), (1, .ref (σ.1 1))] [] := by
  refine zv_aload_n (n := 119) dL_makes_118 rfl rfl ?_
  refine zv_iconst (n := 120) dL_makes_119 rfl (v := 2) (by decide) ?_
  refine zv_bipush (n := 122) dL_makes_120 rfl (v := 80) (by decide) ?_
  refine zv_aload_n (n := 123) dL_makes_122 rfl rfl ?_
  refine zv_bipush (n := 125) dL_makes_123 rfl (v := 17) (by decide) ?_
  refine zv_callSP (n := 128) (As := [.ref (σ.1 1), .int 17]) (rest := [.int 80, .int 2, .ref (b 0)]) (kc' := 15) (ks' := 90) dL_makes_125 rfl ((show zCon μL_at (1, 0, 0) σ [.ref (σ.1 1), .int 17] _ (zP (some (.int (fS σ 17))) _) from c_L_at (k := 17) (by decide))) rfl kL_at lL_168 rfl rfl ⟨by decide, by decide⟩ (Nat.le_of_ble_eq_true rfl) rfl rfl (by decide) (by decide) ?_
  refine zv_bipush (n := 130) dL_makes_128 rfl (v := 121) (by decide) ?_
  obtain ⟨v, hv, ev⟩ := fSome_in (fS σ 17) (n := 121) (by decide) (by decide)
  refine zv_callSP (n := 133) (As := [.int (fS σ 17), .int 121]) (rest := [.int 80, .int 2, .ref (b 0)]) (kc' := 15) (ks' := 90) dL_makes_130 rfl (c_L_some _ _ (by decide)) rfl kL_some lL_172 rfl rfl ⟨by decide, by decide⟩ (Nat.le_of_ble_eq_true rfl) rfl rfl (by decide) (by decide) ?_
  rw [show fSome (fS σ 17) 121 = nI v from ev]
  refine zv_iadd (n := 134) dL_makes_133 rfl ?_
  rw [show (80 : Int32) + nI v = nI (80 + v) from nI_add 80 v]
  have ec2 := fCrv_mk2 i42 i43 hv
  refine zv_callSXF (n := 137) (As := [.ref (b 0), .int 2, .int (nI (80 + v))]) (rest := []) (kc' := 16) (ks' := 96) dL_makes_134 rfl (c_M_setCurve hV 2 (nI (80 + v)) (by rw [ec2]; exact (by decide : (0 : Int32) ≤ 80))) rfl kL_setCurve lL_181 rfl rfl ⟨by decide, by decide⟩ (Nat.le_of_ble_eq_true rfl) rfl rfl (by decide) (by decide) (fun M1 hq => ?_)
  obtain ⟨hV1, hz1⟩ := hq
  rw [ec2] at hV1 ⊢
  refine zv_bipush (n := 139) dL_makes_137 rfl (v := 80) (by decide) ?_
  refine zv_icmp_ne (n := 142) (tgt := 184) dL_makes_139 (by decide) rfl (fun h139 => False.elim (h139 rfl)) (fun h139 => ?_)
  refine zv_aload_n (n := 143) dL_makes_142 rfl rfl ?_
  refine zv_iconst (n := 144) dL_makes_143 rfl (v := 0) (by decide) ?_
  refine zv_aload_n (n := 145) dL_makes_144 rfl rfl ?_
  refine zv_bipush (n := 147) dL_makes_145 rfl (v := 18) (by decide) ?_
  refine zv_callSP (n := 150) (As := [.ref (σ.1 1), .int 18]) (rest := [.int 0, .ref (b 0)]) (kc' := 16) (ks' := 96) dL_makes_147 rfl ((show zCon μL_at (1, 0, 0) σ [.ref (σ.1 1), .int 18] _ (zP (some (.int (fS σ 18))) _) from c_L_at (k := 18) (by decide))) rfl kL_at lL_168 rfl rfl ⟨by decide, by decide⟩ (Nat.le_of_ble_eq_true rfl) rfl rfl (by decide) (by decide) ?_
  refine zv_bipush (n := 152) dL_makes_150 rfl (v := 40) (by decide) ?_
  obtain ⟨v2, hv2, ev2⟩ := fSome_in (fS σ 18) (n := 40) (by decide) (by decide)
  refine zv_callSP (n := 155) (As := [.int (fS σ 18), .int 40]) (rest := [.int 0, .ref (b 0)]) (kc' := 16) (ks' := 96) dL_makes_152 rfl (c_L_some _ _ (by decide)) rfl kL_some lL_172 rfl rfl ⟨by decide, by decide⟩ (Nat.le_of_ble_eq_true rfl) rfl rfl (by decide) (by decide) ?_
  rw [show fSome (fS σ 18) 40 = nI v2 from ev2]
  have ec0 := fCrv_mk0 (P := upd P 43 (nI (80 + v))) (v := v2) ((u_n (by decide)).trans i41) ((u_n (by decide)).trans i42) hv2
  refine zv_callSXF (n := 158) (As := [.ref (b 0), .int 0, .int (nI v2)]) (rest := []) (kc' := 17) (ks' := 102) dL_makes_155 rfl (c_M_setCurve hV1 0 (nI v2) (by rw [ec0]; exact (by decide : (0 : Int32) ≤ 0))) rfl kL_setCurve lL_181 rfl rfl ⟨by decide, by decide⟩ (Nat.le_of_ble_eq_true rfl) rfl rfl (by decide) (by decide) (fun M2 hq => ?_)
  obtain ⟨hV2, hz2⟩ := hq
  rw [ec0] at hV2 ⊢
  refine zv_if_ne (n := 161) (tgt := 184) dL_makes_158 (by decide) rfl (fun h158 => False.elim (h158 rfl)) (fun h158 => ?_)
  refine zv_aload_n (n := 162) dL_makes_161 rfl rfl ?_
  refine zv_bipush (n := 164) dL_makes_162 rfl (v := 20) (by decide) ?_
  refine zv_aload_n (n := 165) dL_makes_164 rfl rfl ?_
  refine zv_bipush (n := 167) dL_makes_165 rfl (v := 19) (by decide) ?_
  refine zv_callSP (n := 170) (As := [.ref (σ.1 1), .int 19]) (rest := [.int 20, .ref (b 0)]) (kc' := 17) (ks' := 102) dL_makes_167 rfl ((show zCon μL_at (1, 0, 0) σ [.ref (σ.1 1), .int 19] _ (zP (some (.int (fS σ 19))) _) from c_L_at (k := 19) (by decide))) rfl kL_at lL_168 rfl rfl ⟨by decide, by decide⟩ (Nat.le_of_ble_eq_true rfl) rfl rfl (by decide) (by decide) ?_
  refine zv_bipush (n := 172) dL_makes_170 rfl (v := 20) (by decide) ?_
  obtain ⟨v3, hv3, ev3⟩ := fSome_in (fS σ 19) (n := 20) (by decide) (by decide)
  refine zv_callSP (n := 175) (As := [.int (fS σ 19), .int 20]) (rest := [.int 20, .ref (b 0)]) (kc' := 17) (ks' := 102) dL_makes_172 rfl (c_L_some _ _ (by decide)) rfl kL_some lL_172 rfl rfl ⟨by decide, by decide⟩ (Nat.le_of_ble_eq_true rfl) rfl rfl (by decide) (by decide) ?_
  rw [show fSome (fS σ 19) 20 = nI v3 from ev3]
  refine zv_iadd (n := 176) dL_makes_175 rfl ?_
  rw [show (20 : Int32) + nI v3 = nI (20 + v3) from nI_add 20 v3]
  have el := fLim_mk (P := upd (upd P 43 (nI (80 + v))) 41 (nI v2)) (v := v3) ((u_n (by decide)).trans ((u_n (by decide)).trans i48)) hv3
  refine zv_callSXF (n := 179) (As := [.ref (b 0), .int (nI (20 + v3))]) (rest := []) (kc' := 18) (ks' := 108) dL_makes_176 rfl (c_M_setLimit hV2 (nI (20 + v3)) (by rw [el]; exact (by decide : (0 : Int32) ≤ 27))) rfl kL_setLimit lL_184 rfl rfl ⟨by decide, by decide⟩ (Nat.le_of_ble_eq_true rfl) rfl rfl (by decide) (by decide) (fun M3 hq => ?_)
  obtain ⟨hV3, hz3⟩ := hq
  rw [el] at hV3 ⊢
  have ic3 : 0 < fCnt (upd (upd (upd P 43 (nI (80 + v))) 41 (nI v2)) 48 (nI (20 + v3))) := by rw [fCnt_u (by decide), fCnt_u (by decide), fCnt_u (by decide)]; exact ic
  refine zv_bipush (n := 181) dL_makes_179 rfl (v := 27) (by decide) ?_
  refine zv_icmp_eq (n := 184) (tgt := 186) dL_makes_181 (by decide) rfl (fun h181 => ?_) (fun h181 => False.elim (h181 rfl))
  refine zv_aload_n (n := 187) dL_makes_186 rfl rfl ?_
  refine zv_bipush (n := 189) dL_makes_187 rfl (v := 20) (by decide) ?_
  refine zv_callSP (n := 192) (As := [.ref (σ.1 1), .int 20]) (rest := []) (kc' := 18) (ks' := 108) dL_makes_189 rfl ((show zCon μL_at (1, 0, 0) σ [.ref (σ.1 1), .int 20] _ (zP (some (.int (fS σ 20))) _) from c_L_at (k := 20) (by decide))) rfl kL_at lL_168 rfl rfl ⟨by decide, by decide⟩ (Nat.le_of_ble_eq_true rfl) rfl rfl (by decide) (by decide) ?_
  refine zv_iconst (n := 193) dL_makes_192 rfl (v := 1) (by decide) ?_
  refine zv_iand (n := 194) dL_makes_193 rfl ?_
  refine zv_if_eq (n := 197) (tgt := 219) dL_makes_194 (by decide) rfl (fun h194 => ?_) (fun h194 => ?_)
  · skip
    refine zv_iconst (n := 220) dL_makes_219 rfl (v := 1) (by decide) ?_
    refine zv_goto (tgt := 224) dL_makes_220 (by decide) ?_
    refine zv_zret dL_makes_224 rfl rfl (by decide) (by decide) ?_
    exact zIi ⟨⟨rfl, _, _, hV3, ic3⟩, ((hz.tr hz1).tr hz2).tr hz3⟩
  · skip
    refine zv_aload_n (n := 198) dL_makes_197 rfl rfl ?_
    refine zv_iconst (n := 199) dL_makes_198 rfl (v := 1) (by decide) ?_
    refine zv_aload_n (n := 200) dL_makes_199 rfl rfl ?_
    refine zv_bipush (n := 202) dL_makes_200 rfl (v := 20) (by decide) ?_
    refine zv_callSP (n := 205) (As := [.ref (σ.1 1), .int 20]) (rest := [.int 1, .ref (b 0)]) (kc' := 18) (ks' := 108) dL_makes_202 rfl ((show zCon μL_at (1, 0, 0) σ [.ref (σ.1 1), .int 20] _ (zP (some (.int (fS σ 20))) _) from c_L_at (k := 20) (by decide))) rfl kL_at lL_168 rfl rfl ⟨by decide, by decide⟩ (Nat.le_of_ble_eq_true rfl) rfl rfl (by decide) (by decide) ?_
    refine zv_iconst (n := 206) dL_makes_205 rfl (v := 2) (by decide) ?_
    refine zv_ishr (n := 207) dL_makes_206 rfl ?_
    refine zv_bipush (n := 209) dL_makes_207 rfl (v := 9) (by decide) ?_
    obtain ⟨v4, hv4, ev4⟩ := fSome_in ((fS σ 20) >>> (2 &&& 31)) (n := 9) (by decide) (by decide)
    refine zv_callSP (n := 212) (As := [.int ((fS σ 20) >>> (2 &&& 31)), .int 9]) (rest := [.int 1, .ref (b 0)]) (kc' := 18) (ks' := 108) dL_makes_209 rfl (c_L_some _ _ (by decide)) rfl kL_some lL_172 rfl rfl ⟨by decide, by decide⟩ (Nat.le_of_ble_eq_true rfl) rfl rfl (by decide) (by decide) ?_
    rw [show fSome ((fS σ 20) >>> (2 &&& 31)) 9 = nI v4 from ev4]
    refine zv_iadd (n := 213) dL_makes_212 rfl ?_
    rw [show (1 : Int32) + nI v4 = nI (1 + v4) from nI_add 1 v4]
    refine zv_callSXF (n := 216) (As := [.ref (b 0), .int (nI (1 + v4))]) (rest := []) (kc' := 19) (ks' := 114) dL_makes_213 rfl (c_M_advance hV3 (nI (1 + v4)) (by rw [fPas_1 (by omega)]; exact nI_pos' (by omega))) rfl kL_advance lL_186 rfl rfl ⟨by decide, by decide⟩ (Nat.le_of_ble_eq_true rfl) rfl rfl (by decide) (by decide) (fun M4 hq => ?_)
    obtain ⟨hV4, hz4⟩ := hq
    refine zv_if_lt (n := 219) (tgt := 223) dL_makes_216 (by decide) rfl (fun h216 => False.elim (nI_pos (Nat.lt_of_le_of_lt (fCb_le _ _) (Nat.lt_of_le_of_lt (hV4.ok).1.2 (by decide))) h216)) (fun h216 => ?_)
    refine zv_iconst (n := 220) dL_makes_219 rfl (v := 1) (by decide) ?_
    refine zv_goto (tgt := 224) dL_makes_220 (by decide) ?_
    refine zv_zret dL_makes_224 rfl rfl (by decide) (by decide) ?_
    exact zIi ⟨⟨rfl, _, _, hV4, by rw [fPas_cnt]; exact ic3⟩, (((hz.tr hz1).tr hz2).tr hz3).tr hz4⟩

set_option maxRecDepth 100000 in
set_option maxHeartbeats 4000000 in
theorem c_makes {σ : zSg} {Z : Nat → Prop} {b : Nat → Nat} {C : Nat → Nat → Nat} {X : Option zS} {M : zM} {U : List zS} (hV : zVo M Z b C zS0 U X) : zCon μL_makes (15, 60, 400) σ [.ref (b 0), .ref (σ.1 1)] M (zI9 (fun w M' => (w = 1 ∧ ∃ P U, zVo M' Z b C P U X ∧ 0 < fCnt P) ∧ zKe M M' Z)) := by
  refine zCon.of (plainFor_of_name (by decide)) rfl (Nat.le_of_ble_eq_true rfl) ?_
  change zV _ _ _ _ _ 0 0 0 [(0, .ref (b 0)), (1, .ref (σ.1 1))] []
  refine zv_iconst (n := 1) dL_makes_0 rfl (v := 3) (by decide) ?_
  refine zv_aload_n (n := 2) dL_makes_1 rfl rfl ?_
  refine zv_iconst (n := 3) dL_makes_2 rfl (v := 0) (by decide) ?_
  refine zv_callSP (n := 6) (As := [.ref (σ.1 1), .int 0]) (rest := [.int 3]) (kc' := 0) (ks' := 0) dL_makes_3 rfl ((show zCon μL_at (1, 0, 0) σ [.ref (σ.1 1), .int 0] _ (zP (some (.int (fS σ 0))) _) from c_L_at (k := 0) (by decide))) rfl kL_at lL_168 rfl rfl ⟨by decide, by decide⟩ (Nat.le_of_ble_eq_true rfl) rfl rfl (by decide) (by decide) ?_
  refine zv_bipush (n := 8) dL_makes_6 rfl (v := 9) (by decide) ?_
  obtain ⟨j, hj, ej⟩ := fSome_in (fS σ 0) (n := 9) (by decide) (by decide)
  refine zv_callSP (n := 11) (As := [.int (fS σ 0), .int 9]) (rest := [.int 3]) (kc' := 0) (ks' := 0) dL_makes_8 rfl (c_L_some _ _ (by decide)) rfl kL_some lL_172 rfl rfl ⟨by decide, by decide⟩ (Nat.le_of_ble_eq_true rfl) rfl rfl (by decide) (by decide) ?_
  rw [show fSome (fS σ 0) 9 = nI j from ej]
  refine zv_iadd (n := 12) dL_makes_11 rfl ?_
  rw [show (3 : Int32) + nI j = nI (3 + j) from nI_add 3 j]
  refine zv_istore_n (n := 13) (lv' := [(2, .int (nI (3 + j))), (0, .ref (b 0)), (1, .ref (σ.1 1))]) dL_makes_12 rfl (by decide) rfl ?_
  refine zv_iconst (n := 14) dL_makes_13 rfl (v := 0) (by decide) ?_
  refine zv_istore_n (n := 15) (lv' := [(3, .int 0), (2, .int (nI (3 + j))), (0, .ref (b 0)), (1, .ref (σ.1 1))]) dL_makes_14 rfl (by decide) rfl ?_
  refine zv_lvs (lv' := [(3, .int 0), (2, .int (nI (3 + j))), (0, .ref (b 0)), (1, .ref (σ.1 1))]) ⟨rfl, rfl, rfl, rfl, trivial⟩ ?_
  refine l_makes1 (n9 := 3 + j) (by omega) (3 + j) 0 M zS0 U (Nat.zero_add _) hV zMk0 zKe.rf (fun M1 P1 U1 hV1 hm1 hz1 => ?_)
  refine zv_iconst (n := 82) dL_makes_81 rfl (v := 0) (by decide) ?_
  refine zv_istore_n (n := 83) (lv' := [(3, .int 0), (0, .ref (b 0)), (1, .ref (σ.1 1))]) dL_makes_82 rfl (by decide) rfl ?_
  refine zv_lvs (lv' := [(3, .int 0), (0, .ref (b 0)), (1, .ref (σ.1 1))]) ⟨rfl, rfl, rfl, trivial⟩ ?_
  obtain ⟨m1, m2, m3, m4, m5, m6, m7⟩ := hm1
  refine l_makes2 4 0 M1 P1 U1 rfl hV1 (fun a9 _ h => m3 a9 h) m4 m5 m6 m7 (m2 (by omega)) hz1 (fun M2 P2 U2 hV2 i41 i42 i43 i48 ic hz2 => ?_)
  exact k_makes hV2 i41 i42 i43 i48 ic hz2


/-! A command performed on a centre: laid by wip/p53/m43.py. -/
def xOrd : MethodName := ⟨"CoolingPlanner$Command", "ordinal", "()I"⟩
theorem wo1 : zin (.methodLink RX6 71 xOrd) := z_a5 95 rfl rfl
theorem wo2 : zin (.sameMethod "CoolingPlanner$Command" "java/lang/Enum" "ordinal" "()I") := z_a5 96 rfl rfl
theorem wo3 : zin (.selects "CoolingPlanner$Command" xOrd yJx29ce0_ordinal_8abf5) := z_a5 98 rfl rfl
theorem wo4 : zin (.instanceMethod yJx29ce0_ordinal_8abf5) := z_a5 99 rfl rfl
theorem wo5 : zin (.initialized "java/lang/Enum") := z_a1 12 rfl rfl
theorem wo6 : zin (zcode μJx29ce0_ordinal_8abf5) := z_a5 100 rfl rfl
theorem wo7 : zin (.fieldLink RJx29ce0 7 "java/lang/Enum" "ordinal" "I") := z_a7 83 rfl rfl
theorem c_ordinal {σ : zSg} {M : zM} {q : Nat} (hq : q < 10) : zCon μJx29ce0_ordinal_8abf5 (1, 0, 0) σ [.ref (zCm σ q)] M (zP (some (.int (nI q))) M) := by
  refine zCon.of (plainFor_of_name (by decide)) rfl (Nat.le_of_ble_eq_true rfl) ?_
  change zV _ _ _ _ _ 0 0 0 [(0, .ref (zCm σ q))] []
  refine zv_aload_n (n := 1) dJx29ce0_ordinal_8abf5_0 rfl rfl ?_
  refine zv_kget (n := 4) dJx29ce0_ordinal_8abf5_1 rfl (fun U H h => (h.2.2.2.2.2.2.2.2.2.1 q hq).2.1) wo7 ?_
  refine zv_iret dJx29ce0_ordinal_8abf5_4 rfl (by decide) (by decide) ?_
  exact zPi
theorem zv_ord {R : zRoom} {σ : zSg} {Q : zO → zM → Prop} {M : zM} {kc ks : Nat} {lv : List (Nat × Value)} {rest : List Value} {q : Nat} (hq : q < 10) (hR : 1 < R.1) (hW : (rest.map fun v => v.category).sum ≤ 8) (hk : kc ≤ R.2.1) (hs : ks ≤ R.2.2)
    (kk : zV μX6_perform R σ Q M kc ks 38 lv (.int (nI q) :: rest)) : zV μX6_perform R σ Q M kc ks 35 lv (.ref (zCm σ q) :: rest) := by
  intro p l e s m args below meth c κ Z H locs ls hM hS hl
  have hcode : zin (.code yJx29ce0_ordinal_8abf5 cJx29ce0_ordinal_8abf5 1 (some .int)) := wo6
  have hC := c_ordinal (σ := σ) (M := M) hq l Z.tr κ
  have hws := zws Z.G wo6
  have hmem : Cond.code yJx29ce0_ordinal_8abf5 cJx29ce0_ordinal_8abf5 1 (some .int) ∈ [zcode μJx29ce0_ordinal_8abf5] := List.mem_cons_self
  have hf : kc + 0 ≤ (zR R).cells ∧ ks + 0 ≤ (zR R).slots := ⟨hk, hs⟩
  have hmon : 2 * (F0 m 35 ls (([] : List Value).reverse ++ .ref (zCm σ q) :: rest)).monitorRoom + (rest.map fun v => v.category).sum ≤ 8 := by
    show 2 * 0 + _ ≤ 8
    omega
  have hrec : ∃ cell : Cell, H[zCm σ q]? = some cell ∧ cell.vm.isStatics = false ∧ s.vm.findClass "CoolingPlanner$Command" = some cell.cls := by
    obtain ⟨cell, g1, g2, g3, -⟩ := ((Z.G.2.2.2.2.2.2.2.2.2.1 q hq).1).kept hS.2.1
    exact ⟨cell, g1, g2, g3⟩
  have hA : zArity yJx29ce0_ordinal_8abf5 0 := ⟨by decide, by decide, by decide +kernel⟩
  have hrm : zRm μJx29ce0_ordinal_8abf5 (1, 0, 0) R := ⟨hR, by decide⟩
  exact zcall Z hS hl (vx_runU (n := 0) (C := "CoolingPlanner$Command") (owner := "java/lang/Enum") (x := xOrd) (As := []) (rest := rest) (Ts := zwords) ⟨Z.1, Z.2.1, Z.2.2.1, Z.own, (fun w hw => Z.w hw args)⟩ hC ⟨⟨rfl, rfl, hrm.fr, hrm.lo, hws, hmem⟩, Z.w hcode _, Z.w wo5 _, ⟨by decide, by decide⟩, hA.len, Z.w wo1 _, Z.w wo2 _, va_Decl.of (Z.w wo4 args) (Z.w hcode args), Z.w wo3 _, Z.w wo4 _⟩ ⟨zB.blind, hrec, zpre Z hM hS _⟩ rfl rfl hl.1 rfl hmon dX6_perform_35 hf) rfl rfl (fun v' M' h => by
    obtain ⟨e1, e2⟩ := h
    cases e1
    subst e2
    exact kk) (fun E M' h => nomatch h.1)
/-- what a command does -/
def fPer (S : zS) (f : Nat → Int32) (q : Nat) : Int32 × zS := match q with
  | 0 => fAdd S (fAt 3 f 0) (fAt 3 f 1) (fAt 3 f 2)
  | 1 => fRem S (fAt 3 f 0)
  | 2 => fMov S (fAt 3 f 0) (fAt 3 f 1) (fAt 3 f 2)
  | 3 => fLod S (fAt 3 f 0) (fAt 3 f 1)
  | 4 => fSnd S (fAt 3 f 0) (fAt 3 f 1) (fAt 3 f 2)
  | 5 => fFan S (fAt 3 f 0) (fAt 3 f 1)
  | 6 => fCrv S (fAt 3 f 0) (fAt 3 f 1)
  | 7 => fLim S (fAt 3 f 0)
  | 8 => fPas S (fAt 3 f 0)
  | _ => fPas S 1
theorem fPer_ok {S : zS} (h : zOk S) (f : Nat → Int32) (q : Nat) : zOk (fPer S f q).2 := by
  unfold fPer
  split
  · exact fAdd_ok h _ _ _
  · exact fRem_ok h _
  · exact fMov_ok h _ _ _
  · exact fLod_ok h _ _
  · exact fSnd_ok h _ _ _
  · exact fFan_ok h _ _
  · exact fCrv_ok h _ _
  · exact fLim_ok h _
  · exact fPas_ok h _
  · exact fPas_ok h _

theorem zPs.cen {M : zM} {Z : Nat → Prop} {b : Nat → Nat} {C : Nat → Nat → Nat} {S : Nat → zS} {nw un : Nat} {hs ea fa : Int32} {t : Nat → Nat} {n : Nat} {u : Nat → Nat} {k : Nat} {p r cm nc : Nat} {f : Nat → Int32} {M' : zM} (hS : zPs M Z b C S nw un hs ea fa t n u k p r cm nc f) {j : Nat} (hj : j < 11) {T : zS} (hT : zCen M' (C j) T) (hO : zOk T) (ho : zOff M M' (C j)) : zPs M' Z b C (va_up S j T) nw un hs ea fa t n u k p r cm nc f ∧ zKe M M' Z := by
  obtain ⟨h1, h2, h3⟩ := hS
  obtain ⟨g1, g2⟩ := h1.cen hj hT hO ho
  exact ⟨⟨g1, (ho _ (fun i hi => h1.1.out h2 rfl j i hj hi)).trans h2, (ho _ (fun i hi => h1.2.2.2.2.2.1 j i hj hi)).trans h3⟩, g2⟩

set_option maxRecDepth 100000 in
set_option maxHeartbeats 4000000 in
theorem c_X6_perform_0 {σ : zSg} {M : zM} {Z : Nat → Prop} {b : Nat → Nat} {C : Nat → Nat → Nat} {S : Nat → zS} {nw un : Nat} {hs ea fa : Int32} {t : Nat → Nat} {n : Nat} {u : Nat → Nat} {k : Nat} {p r nc : Nat} {f : Nat → Int32} (hS : zPs M Z b C S nw un hs ea fa t n u k p r (zCm σ 0) nc f) {j : Nat} (hj : j < 11) : zCon μX6_perform (5, 0, 0) σ [.ref (b 3), .ref (C j 0)] M (zF (some (.int (fPer (S j) f 0).1)) (fun M' => zPs M' Z b C (va_up S j (fPer (S j) f 0).2) nw un hs ea fa t n u k p r (zCm σ 0) nc f ∧ zKe M M' Z)) := by
  have hC := hS.1.1.cen hj
  have hO := hS.1.1.ok hj
  refine zCon.of (plainFor_of_name (by decide)) rfl (Nat.le_of_ble_eq_true rfl) ?_
  change zV _ _ _ _ _ 0 0 0 [(0, .ref (b 3)), (1, .ref (C j 0))] []
  refine zv_aload_n (n := 1) dX6_perform_0 rfl rfl ?_
  refine zv_get (n := 4) dX6_perform_1 rfl hS.2.1 FX6_27 rfl ?_
  refine zv_iconst (n := 5) dX6_perform_4 rfl (v := 0) (by decide) ?_
  refine zv_callSNP (n := 8) (As := [.ref (b 5), .int 0]) (rest := []) (kc' := 0) (ks' := 0) dX6_perform_5 rfl (c_X8_at hS.2.2 (by decide) 0) rfl kX8_at lX6_62 rfl rfl ⟨by decide, by decide⟩ (Nat.le_of_ble_eq_true rfl) rfl rfl (by decide) (by decide) ?_
  refine zv_istore_n (n := 9) (lv' := [(2, .int (fAt 3 f 0)), (0, .ref (b 3)), (1, .ref (C j 0))]) dX6_perform_8 rfl (by decide) rfl ?_
  refine zv_aload_n (n := 10) dX6_perform_9 rfl rfl ?_
  refine zv_get (n := 13) dX6_perform_10 rfl hS.2.1 FX6_27 rfl ?_
  refine zv_iconst (n := 14) dX6_perform_13 rfl (v := 1) (by decide) ?_
  refine zv_callSNP (n := 17) (As := [.ref (b 5), .int 1]) (rest := []) (kc' := 0) (ks' := 0) dX6_perform_14 rfl (c_X8_at hS.2.2 (by decide) 1) rfl kX8_at lX6_62 rfl rfl ⟨by decide, by decide⟩ (Nat.le_of_ble_eq_true rfl) rfl rfl (by decide) (by decide) ?_
  refine zv_istore_n (n := 18) (lv' := [(3, .int (fAt 3 f 1)), (2, .int (fAt 3 f 0)), (0, .ref (b 3)), (1, .ref (C j 0))]) dX6_perform_17 rfl (by decide) rfl ?_
  refine zv_aload_n (n := 19) dX6_perform_18 rfl rfl ?_
  refine zv_get (n := 22) dX6_perform_19 rfl hS.2.1 FX6_27 rfl ?_
  refine zv_iconst (n := 23) dX6_perform_22 rfl (v := 2) (by decide) ?_
  refine zv_callSNP (n := 26) (As := [.ref (b 5), .int 2]) (rest := []) (kc' := 0) (ks' := 0) dX6_perform_23 rfl (c_X8_at hS.2.2 (by decide) 2) rfl kX8_at lX6_62 rfl rfl ⟨by decide, by decide⟩ (Nat.le_of_ble_eq_true rfl) rfl rfl (by decide) (by decide) ?_
  refine zv_istore (n := 28) (lv' := [(4, .int (fAt 3 f 2)), (3, .int (fAt 3 f 1)), (2, .int (fAt 3 f 0)), (0, .ref (b 3)), (1, .ref (C j 0))]) dX6_perform_26 rfl (by decide) rfl ?_
  refine zv_gets (n := 31) (v := .ref (σ.1 4)) dX6_perform_28 rfl (fun U H h => h.2.2.2.2.2.2.2.2.2.2.2.1) SX6_66 ?_
  refine zv_aload_n (n := 32) dX6_perform_31 rfl rfl ?_
  refine zv_get (n := 35) dX6_perform_32 rfl hS.2.1 FX6_24 rfl ?_
  refine zv_ord (by decide) (by decide) (Nat.le_of_ble_eq_true rfl) (by decide) (by decide) ?_
  refine zv_kint (n := 39) (v := .int (nI 1)) dX6_perform_38 rfl (fun U H h => h.2.2.2.2.2.2.2.2.2.2.2.2.1) (vp_in_nI (by decide) (by decide)) (by rw [nI_clamp (by decide)]; rfl) ?_
  refine zv_switchIn (tgt := 88) (off := 49) dX6_perform_39 (by decide) (by decide) (by decide) (by decide) ?_
  refine zv_aload_n (n := 89) dX6_perform_88 rfl rfl ?_
  refine zv_iload_n (n := 90) dX6_perform_89 rfl rfl ?_
  refine zv_iload_n (n := 91) dX6_perform_90 rfl rfl ?_
  refine zv_iload (n := 93) dX6_perform_91 rfl rfl ?_
  refine zv_callVF (n := 96) (As := [.int (fAt 3 f 0), .int (fAt 3 f 1), .int (fAt 3 f 2)]) (rest := []) (kc' := 0) (ks' := 0) dX6_perform_93 rfl (c_X1_add hC hO.1 (fAt 3 f 0) (fAt 3 f 1) (fAt 3 f 2)) rfl kX1_add lX6_74 hC.c0 rfl rfl rfl ⟨by decide, by decide⟩ (Nat.le_of_ble_eq_true rfl) rfl rfl (by decide) (by decide) (fun M1 hq => ?_)
  refine zv_iret dX6_perform_96 rfl (by decide) (by decide) ?_
  exact zFi (hS.cen hj hq.1 (fPer_ok hO f 0) hq.2)

set_option maxRecDepth 100000 in
set_option maxHeartbeats 4000000 in
theorem c_X6_perform_1 {σ : zSg} {M : zM} {Z : Nat → Prop} {b : Nat → Nat} {C : Nat → Nat → Nat} {S : Nat → zS} {nw un : Nat} {hs ea fa : Int32} {t : Nat → Nat} {n : Nat} {u : Nat → Nat} {k : Nat} {p r nc : Nat} {f : Nat → Int32} (hS : zPs M Z b C S nw un hs ea fa t n u k p r (zCm σ 1) nc f) {j : Nat} (hj : j < 11) : zCon μX6_perform (5, 0, 0) σ [.ref (b 3), .ref (C j 0)] M (zF (some (.int (fPer (S j) f 1).1)) (fun M' => zPs M' Z b C (va_up S j (fPer (S j) f 1).2) nw un hs ea fa t n u k p r (zCm σ 1) nc f ∧ zKe M M' Z)) := by
  have hC := hS.1.1.cen hj
  have hO := hS.1.1.ok hj
  refine zCon.of (plainFor_of_name (by decide)) rfl (Nat.le_of_ble_eq_true rfl) ?_
  change zV _ _ _ _ _ 0 0 0 [(0, .ref (b 3)), (1, .ref (C j 0))] []
  refine zv_aload_n (n := 1) dX6_perform_0 rfl rfl ?_
  refine zv_get (n := 4) dX6_perform_1 rfl hS.2.1 FX6_27 rfl ?_
  refine zv_iconst (n := 5) dX6_perform_4 rfl (v := 0) (by decide) ?_
  refine zv_callSNP (n := 8) (As := [.ref (b 5), .int 0]) (rest := []) (kc' := 0) (ks' := 0) dX6_perform_5 rfl (c_X8_at hS.2.2 (by decide) 0) rfl kX8_at lX6_62 rfl rfl ⟨by decide, by decide⟩ (Nat.le_of_ble_eq_true rfl) rfl rfl (by decide) (by decide) ?_
  refine zv_istore_n (n := 9) (lv' := [(2, .int (fAt 3 f 0)), (0, .ref (b 3)), (1, .ref (C j 0))]) dX6_perform_8 rfl (by decide) rfl ?_
  refine zv_aload_n (n := 10) dX6_perform_9 rfl rfl ?_
  refine zv_get (n := 13) dX6_perform_10 rfl hS.2.1 FX6_27 rfl ?_
  refine zv_iconst (n := 14) dX6_perform_13 rfl (v := 1) (by decide) ?_
  refine zv_callSNP (n := 17) (As := [.ref (b 5), .int 1]) (rest := []) (kc' := 0) (ks' := 0) dX6_perform_14 rfl (c_X8_at hS.2.2 (by decide) 1) rfl kX8_at lX6_62 rfl rfl ⟨by decide, by decide⟩ (Nat.le_of_ble_eq_true rfl) rfl rfl (by decide) (by decide) ?_
  refine zv_istore_n (n := 18) (lv' := [(3, .int (fAt 3 f 1)), (2, .int (fAt 3 f 0)), (0, .ref (b 3)), (1, .ref (C j 0))]) dX6_perform_17 rfl (by decide) rfl ?_
  refine zv_aload_n (n := 19) dX6_perform_18 rfl rfl ?_
  refine zv_get (n := 22) dX6_perform_19 rfl hS.2.1 FX6_27 rfl ?_
  refine zv_iconst (n := 23) dX6_perform_22 rfl (v := 2) (by decide) ?_
  refine zv_callSNP (n := 26) (As := [.ref (b 5), .int 2]) (rest := []) (kc' := 0) (ks' := 0) dX6_perform_23 rfl (c_X8_at hS.2.2 (by decide) 2) rfl kX8_at lX6_62 rfl rfl ⟨by decide, by decide⟩ (Nat.le_of_ble_eq_true rfl) rfl rfl (by decide) (by decide) ?_
  refine zv_istore (n := 28) (lv' := [(4, .int (fAt 3 f 2)), (3, .int (fAt 3 f 1)), (2, .int (fAt 3 f 0)), (0, .ref (b 3)), (1, .ref (C j 0))]) dX6_perform_26 rfl (by decide) rfl ?_
  refine zv_gets (n := 31) (v := .ref (σ.1 4)) dX6_perform_28 rfl (fun U H h => h.2.2.2.2.2.2.2.2.2.2.2.1) SX6_66 ?_
  refine zv_aload_n (n := 32) dX6_perform_31 rfl rfl ?_
  refine zv_get (n := 35) dX6_perform_32 rfl hS.2.1 FX6_24 rfl ?_
  refine zv_ord (by decide) (by decide) (Nat.le_of_ble_eq_true rfl) (by decide) (by decide) ?_
  refine zv_kint (n := 39) (v := .int (nI 2)) dX6_perform_38 rfl (fun U H h => h.2.2.2.2.2.2.2.2.2.2.2.2.1) (vp_in_nI (by decide) (by decide)) (by rw [nI_clamp (by decide)]; rfl) ?_
  refine zv_switchIn (tgt := 97) (off := 58) dX6_perform_39 (by decide) (by decide) (by decide) (by decide) ?_
  refine zv_aload_n (n := 98) dX6_perform_97 rfl rfl ?_
  refine zv_iload_n (n := 99) dX6_perform_98 rfl rfl ?_
  refine zv_callVF (n := 102) (As := [.int (fAt 3 f 0)]) (rest := []) (kc' := 0) (ks' := 0) dX6_perform_99 rfl (c_X1_remove hC hO.1 (fAt 3 f 0)) rfl kX1_remove lX6_80 hC.c0 rfl rfl rfl ⟨by decide, by decide⟩ (Nat.le_of_ble_eq_true rfl) rfl rfl (by decide) (by decide) (fun M1 hq => ?_)
  refine zv_iret dX6_perform_102 rfl (by decide) (by decide) ?_
  exact zFi (hS.cen hj hq.1 (fPer_ok hO f 1) hq.2)

set_option maxRecDepth 100000 in
set_option maxHeartbeats 4000000 in
theorem c_X6_perform_2 {σ : zSg} {M : zM} {Z : Nat → Prop} {b : Nat → Nat} {C : Nat → Nat → Nat} {S : Nat → zS} {nw un : Nat} {hs ea fa : Int32} {t : Nat → Nat} {n : Nat} {u : Nat → Nat} {k : Nat} {p r nc : Nat} {f : Nat → Int32} (hS : zPs M Z b C S nw un hs ea fa t n u k p r (zCm σ 2) nc f) {j : Nat} (hj : j < 11) : zCon μX6_perform (5, 0, 0) σ [.ref (b 3), .ref (C j 0)] M (zF (some (.int (fPer (S j) f 2).1)) (fun M' => zPs M' Z b C (va_up S j (fPer (S j) f 2).2) nw un hs ea fa t n u k p r (zCm σ 2) nc f ∧ zKe M M' Z)) := by
  have hC := hS.1.1.cen hj
  have hO := hS.1.1.ok hj
  refine zCon.of (plainFor_of_name (by decide)) rfl (Nat.le_of_ble_eq_true rfl) ?_
  change zV _ _ _ _ _ 0 0 0 [(0, .ref (b 3)), (1, .ref (C j 0))] []
  refine zv_aload_n (n := 1) dX6_perform_0 rfl rfl ?_
  refine zv_get (n := 4) dX6_perform_1 rfl hS.2.1 FX6_27 rfl ?_
  refine zv_iconst (n := 5) dX6_perform_4 rfl (v := 0) (by decide) ?_
  refine zv_callSNP (n := 8) (As := [.ref (b 5), .int 0]) (rest := []) (kc' := 0) (ks' := 0) dX6_perform_5 rfl (c_X8_at hS.2.2 (by decide) 0) rfl kX8_at lX6_62 rfl rfl ⟨by decide, by decide⟩ (Nat.le_of_ble_eq_true rfl) rfl rfl (by decide) (by decide) ?_
  refine zv_istore_n (n := 9) (lv' := [(2, .int (fAt 3 f 0)), (0, .ref (b 3)), (1, .ref (C j 0))]) dX6_perform_8 rfl (by decide) rfl ?_
  refine zv_aload_n (n := 10) dX6_perform_9 rfl rfl ?_
  refine zv_get (n := 13) dX6_perform_10 rfl hS.2.1 FX6_27 rfl ?_
  refine zv_iconst (n := 14) dX6_perform_13 rfl (v := 1) (by decide) ?_
  refine zv_callSNP (n := 17) (As := [.ref (b 5), .int 1]) (rest := []) (kc' := 0) (ks' := 0) dX6_perform_14 rfl (c_X8_at hS.2.2 (by decide) 1) rfl kX8_at lX6_62 rfl rfl ⟨by decide, by decide⟩ (Nat.le_of_ble_eq_true rfl) rfl rfl (by decide) (by decide) ?_
  refine zv_istore_n (n := 18) (lv' := [(3, .int (fAt 3 f 1)), (2, .int (fAt 3 f 0)), (0, .ref (b 3)), (1, .ref (C j 0))]) dX6_perform_17 rfl (by decide) rfl ?_
  refine zv_aload_n (n := 19) dX6_perform_18 rfl rfl ?_
  refine zv_get (n := 22) dX6_perform_19 rfl hS.2.1 FX6_27 rfl ?_
  refine zv_iconst (n := 23) dX6_perform_22 rfl (v := 2) (by decide) ?_
  refine zv_callSNP (n := 26) (As := [.ref (b 5), .int 2]) (rest := []) (kc' := 0) (ks' := 0) dX6_perform_23 rfl (c_X8_at hS.2.2 (by decide) 2) rfl kX8_at lX6_62 rfl rfl ⟨by decide, by decide⟩ (Nat.le_of_ble_eq_true rfl) rfl rfl (by decide) (by decide) ?_
  refine zv_istore (n := 28) (lv' := [(4, .int (fAt 3 f 2)), (3, .int (fAt 3 f 1)), (2, .int (fAt 3 f 0)), (0, .ref (b 3)), (1, .ref (C j 0))]) dX6_perform_26 rfl (by decide) rfl ?_
  refine zv_gets (n := 31) (v := .ref (σ.1 4)) dX6_perform_28 rfl (fun U H h => h.2.2.2.2.2.2.2.2.2.2.2.1) SX6_66 ?_
  refine zv_aload_n (n := 32) dX6_perform_31 rfl rfl ?_
  refine zv_get (n := 35) dX6_perform_32 rfl hS.2.1 FX6_24 rfl ?_
  refine zv_ord (by decide) (by decide) (Nat.le_of_ble_eq_true rfl) (by decide) (by decide) ?_
  refine zv_kint (n := 39) (v := .int (nI 3)) dX6_perform_38 rfl (fun U H h => h.2.2.2.2.2.2.2.2.2.2.2.2.1) (vp_in_nI (by decide) (by decide)) (by rw [nI_clamp (by decide)]; rfl) ?_
  refine zv_switchIn (tgt := 103) (off := 64) dX6_perform_39 (by decide) (by decide) (by decide) (by decide) ?_
  refine zv_aload_n (n := 104) dX6_perform_103 rfl rfl ?_
  refine zv_iload_n (n := 105) dX6_perform_104 rfl rfl ?_
  refine zv_iload_n (n := 106) dX6_perform_105 rfl rfl ?_
  refine zv_iload (n := 108) dX6_perform_106 rfl rfl ?_
  refine zv_callVF (n := 111) (As := [.int (fAt 3 f 0), .int (fAt 3 f 1), .int (fAt 3 f 2)]) (rest := []) (kc' := 0) (ks' := 0) dX6_perform_108 rfl (c_X1_move hC hO.1 (fAt 3 f 0) (fAt 3 f 1) (fAt 3 f 2)) rfl kX1_move lX6_84 hC.c0 rfl rfl rfl ⟨by decide, by decide⟩ (Nat.le_of_ble_eq_true rfl) rfl rfl (by decide) (by decide) (fun M1 hq => ?_)
  refine zv_iret dX6_perform_111 rfl (by decide) (by decide) ?_
  exact zFi (hS.cen hj hq.1 (fPer_ok hO f 2) hq.2)

set_option maxRecDepth 100000 in
set_option maxHeartbeats 4000000 in
theorem c_X6_perform_3 {σ : zSg} {M : zM} {Z : Nat → Prop} {b : Nat → Nat} {C : Nat → Nat → Nat} {S : Nat → zS} {nw un : Nat} {hs ea fa : Int32} {t : Nat → Nat} {n : Nat} {u : Nat → Nat} {k : Nat} {p r nc : Nat} {f : Nat → Int32} (hS : zPs M Z b C S nw un hs ea fa t n u k p r (zCm σ 3) nc f) {j : Nat} (hj : j < 11) : zCon μX6_perform (5, 0, 0) σ [.ref (b 3), .ref (C j 0)] M (zF (some (.int (fPer (S j) f 3).1)) (fun M' => zPs M' Z b C (va_up S j (fPer (S j) f 3).2) nw un hs ea fa t n u k p r (zCm σ 3) nc f ∧ zKe M M' Z)) := by
  have hC := hS.1.1.cen hj
  have hO := hS.1.1.ok hj
  refine zCon.of (plainFor_of_name (by decide)) rfl (Nat.le_of_ble_eq_true rfl) ?_
  change zV _ _ _ _ _ 0 0 0 [(0, .ref (b 3)), (1, .ref (C j 0))] []
  refine zv_aload_n (n := 1) dX6_perform_0 rfl rfl ?_
  refine zv_get (n := 4) dX6_perform_1 rfl hS.2.1 FX6_27 rfl ?_
  refine zv_iconst (n := 5) dX6_perform_4 rfl (v := 0) (by decide) ?_
  refine zv_callSNP (n := 8) (As := [.ref (b 5), .int 0]) (rest := []) (kc' := 0) (ks' := 0) dX6_perform_5 rfl (c_X8_at hS.2.2 (by decide) 0) rfl kX8_at lX6_62 rfl rfl ⟨by decide, by decide⟩ (Nat.le_of_ble_eq_true rfl) rfl rfl (by decide) (by decide) ?_
  refine zv_istore_n (n := 9) (lv' := [(2, .int (fAt 3 f 0)), (0, .ref (b 3)), (1, .ref (C j 0))]) dX6_perform_8 rfl (by decide) rfl ?_
  refine zv_aload_n (n := 10) dX6_perform_9 rfl rfl ?_
  refine zv_get (n := 13) dX6_perform_10 rfl hS.2.1 FX6_27 rfl ?_
  refine zv_iconst (n := 14) dX6_perform_13 rfl (v := 1) (by decide) ?_
  refine zv_callSNP (n := 17) (As := [.ref (b 5), .int 1]) (rest := []) (kc' := 0) (ks' := 0) dX6_perform_14 rfl (c_X8_at hS.2.2 (by decide) 1) rfl kX8_at lX6_62 rfl rfl ⟨by decide, by decide⟩ (Nat.le_of_ble_eq_true rfl) rfl rfl (by decide) (by decide) ?_
  refine zv_istore_n (n := 18) (lv' := [(3, .int (fAt 3 f 1)), (2, .int (fAt 3 f 0)), (0, .ref (b 3)), (1, .ref (C j 0))]) dX6_perform_17 rfl (by decide) rfl ?_
  refine zv_aload_n (n := 19) dX6_perform_18 rfl rfl ?_
  refine zv_get (n := 22) dX6_perform_19 rfl hS.2.1 FX6_27 rfl ?_
  refine zv_iconst (n := 23) dX6_perform_22 rfl (v := 2) (by decide) ?_
  refine zv_callSNP (n := 26) (As := [.ref (b 5), .int 2]) (rest := []) (kc' := 0) (ks' := 0) dX6_perform_23 rfl (c_X8_at hS.2.2 (by decide) 2) rfl kX8_at lX6_62 rfl rfl ⟨by decide, by decide⟩ (Nat.le_of_ble_eq_true rfl) rfl rfl (by decide) (by decide) ?_
  refine zv_istore (n := 28) (lv' := [(4, .int (fAt 3 f 2)), (3, .int (fAt 3 f 1)), (2, .int (fAt 3 f 0)), (0, .ref (b 3)), (1, .ref (C j 0))]) dX6_perform_26 rfl (by decide) rfl ?_
  refine zv_gets (n := 31) (v := .ref (σ.1 4)) dX6_perform_28 rfl (fun U H h => h.2.2.2.2.2.2.2.2.2.2.2.1) SX6_66 ?_
  refine zv_aload_n (n := 32) dX6_perform_31 rfl rfl ?_
  refine zv_get (n := 35) dX6_perform_32 rfl hS.2.1 FX6_24 rfl ?_
  refine zv_ord (by decide) (by decide) (Nat.le_of_ble_eq_true rfl) (by decide) (by decide) ?_
  refine zv_kint (n := 39) (v := .int (nI 4)) dX6_perform_38 rfl (fun U H h => h.2.2.2.2.2.2.2.2.2.2.2.2.1) (vp_in_nI (by decide) (by decide)) (by rw [nI_clamp (by decide)]; rfl) ?_
  refine zv_switchIn (tgt := 112) (off := 73) dX6_perform_39 (by decide) (by decide) (by decide) (by decide) ?_
  refine zv_aload_n (n := 113) dX6_perform_112 rfl rfl ?_
  refine zv_iload_n (n := 114) dX6_perform_113 rfl rfl ?_
  refine zv_iload_n (n := 115) dX6_perform_114 rfl rfl ?_
  refine zv_callVF (n := 118) (As := [.int (fAt 3 f 0), .int (fAt 3 f 1)]) (rest := []) (kc' := 0) (ks' := 0) dX6_perform_115 rfl (c_X1_changeLoad hC hO.1 (fAt 3 f 0) (fAt 3 f 1)) rfl kX1_changeLoad lX6_87 hC.c0 rfl rfl rfl ⟨by decide, by decide⟩ (Nat.le_of_ble_eq_true rfl) rfl rfl (by decide) (by decide) (fun M1 hq => ?_)
  refine zv_iret dX6_perform_118 rfl (by decide) (by decide) ?_
  exact zFi (hS.cen hj hq.1 (fPer_ok hO f 3) hq.2)

set_option maxRecDepth 100000 in
set_option maxHeartbeats 4000000 in
theorem c_X6_perform_4 {σ : zSg} {M : zM} {Z : Nat → Prop} {b : Nat → Nat} {C : Nat → Nat → Nat} {S : Nat → zS} {nw un : Nat} {hs ea fa : Int32} {t : Nat → Nat} {n : Nat} {u : Nat → Nat} {k : Nat} {p r nc : Nat} {f : Nat → Int32} (hS : zPs M Z b C S nw un hs ea fa t n u k p r (zCm σ 4) nc f) {j : Nat} (hj : j < 11) : zCon μX6_perform (5, 0, 0) σ [.ref (b 3), .ref (C j 0)] M (zF (some (.int (fPer (S j) f 4).1)) (fun M' => zPs M' Z b C (va_up S j (fPer (S j) f 4).2) nw un hs ea fa t n u k p r (zCm σ 4) nc f ∧ zKe M M' Z)) := by
  have hC := hS.1.1.cen hj
  have hO := hS.1.1.ok hj
  refine zCon.of (plainFor_of_name (by decide)) rfl (Nat.le_of_ble_eq_true rfl) ?_
  change zV _ _ _ _ _ 0 0 0 [(0, .ref (b 3)), (1, .ref (C j 0))] []
  refine zv_aload_n (n := 1) dX6_perform_0 rfl rfl ?_
  refine zv_get (n := 4) dX6_perform_1 rfl hS.2.1 FX6_27 rfl ?_
  refine zv_iconst (n := 5) dX6_perform_4 rfl (v := 0) (by decide) ?_
  refine zv_callSNP (n := 8) (As := [.ref (b 5), .int 0]) (rest := []) (kc' := 0) (ks' := 0) dX6_perform_5 rfl (c_X8_at hS.2.2 (by decide) 0) rfl kX8_at lX6_62 rfl rfl ⟨by decide, by decide⟩ (Nat.le_of_ble_eq_true rfl) rfl rfl (by decide) (by decide) ?_
  refine zv_istore_n (n := 9) (lv' := [(2, .int (fAt 3 f 0)), (0, .ref (b 3)), (1, .ref (C j 0))]) dX6_perform_8 rfl (by decide) rfl ?_
  refine zv_aload_n (n := 10) dX6_perform_9 rfl rfl ?_
  refine zv_get (n := 13) dX6_perform_10 rfl hS.2.1 FX6_27 rfl ?_
  refine zv_iconst (n := 14) dX6_perform_13 rfl (v := 1) (by decide) ?_
  refine zv_callSNP (n := 17) (As := [.ref (b 5), .int 1]) (rest := []) (kc' := 0) (ks' := 0) dX6_perform_14 rfl (c_X8_at hS.2.2 (by decide) 1) rfl kX8_at lX6_62 rfl rfl ⟨by decide, by decide⟩ (Nat.le_of_ble_eq_true rfl) rfl rfl (by decide) (by decide) ?_
  refine zv_istore_n (n := 18) (lv' := [(3, .int (fAt 3 f 1)), (2, .int (fAt 3 f 0)), (0, .ref (b 3)), (1, .ref (C j 0))]) dX6_perform_17 rfl (by decide) rfl ?_
  refine zv_aload_n (n := 19) dX6_perform_18 rfl rfl ?_
  refine zv_get (n := 22) dX6_perform_19 rfl hS.2.1 FX6_27 rfl ?_
  refine zv_iconst (n := 23) dX6_perform_22 rfl (v := 2) (by decide) ?_
  refine zv_callSNP (n := 26) (As := [.ref (b 5), .int 2]) (rest := []) (kc' := 0) (ks' := 0) dX6_perform_23 rfl (c_X8_at hS.2.2 (by decide) 2) rfl kX8_at lX6_62 rfl rfl ⟨by decide, by decide⟩ (Nat.le_of_ble_eq_true rfl) rfl rfl (by decide) (by decide) ?_
  refine zv_istore (n := 28) (lv' := [(4, .int (fAt 3 f 2)), (3, .int (fAt 3 f 1)), (2, .int (fAt 3 f 0)), (0, .ref (b 3)), (1, .ref (C j 0))]) dX6_perform_26 rfl (by decide) rfl ?_
  refine zv_gets (n := 31) (v := .ref (σ.1 4)) dX6_perform_28 rfl (fun U H h => h.2.2.2.2.2.2.2.2.2.2.2.1) SX6_66 ?_
  refine zv_aload_n (n := 32) dX6_perform_31 rfl rfl ?_
  refine zv_get (n := 35) dX6_perform_32 rfl hS.2.1 FX6_24 rfl ?_
  refine zv_ord (by decide) (by decide) (Nat.le_of_ble_eq_true rfl) (by decide) (by decide) ?_
  refine zv_kint (n := 39) (v := .int (nI 5)) dX6_perform_38 rfl (fun U H h => h.2.2.2.2.2.2.2.2.2.2.2.2.1) (vp_in_nI (by decide) (by decide)) (by rw [nI_clamp (by decide)]; rfl) ?_
  refine zv_switchIn (tgt := 119) (off := 80) dX6_perform_39 (by decide) (by decide) (by decide) (by decide) ?_
  refine zv_aload_n (n := 120) dX6_perform_119 rfl rfl ?_
  refine zv_iload_n (n := 121) dX6_perform_120 rfl rfl ?_
  refine zv_iload_n (n := 122) dX6_perform_121 rfl rfl ?_
  refine zv_iload (n := 124) dX6_perform_122 rfl rfl ?_
  refine zv_callVF (n := 127) (As := [.int (fAt 3 f 0), .int (fAt 3 f 1), .int (fAt 3 f 2)]) (rest := []) (kc' := 0) (ks' := 0) dX6_perform_124 rfl (c_X1_send hC hO.1 (fAt 3 f 0) (fAt 3 f 1) (fAt 3 f 2)) rfl kX1_send lX6_91 hC.c0 rfl rfl rfl ⟨by decide, by decide⟩ (Nat.le_of_ble_eq_true rfl) rfl rfl (by decide) (by decide) (fun M1 hq => ?_)
  refine zv_iret dX6_perform_127 rfl (by decide) (by decide) ?_
  exact zFi (hS.cen hj hq.1 (fPer_ok hO f 4) hq.2)

set_option maxRecDepth 100000 in
set_option maxHeartbeats 4000000 in
theorem c_X6_perform_5 {σ : zSg} {M : zM} {Z : Nat → Prop} {b : Nat → Nat} {C : Nat → Nat → Nat} {S : Nat → zS} {nw un : Nat} {hs ea fa : Int32} {t : Nat → Nat} {n : Nat} {u : Nat → Nat} {k : Nat} {p r nc : Nat} {f : Nat → Int32} (hS : zPs M Z b C S nw un hs ea fa t n u k p r (zCm σ 5) nc f) {j : Nat} (hj : j < 11) : zCon μX6_perform (5, 0, 0) σ [.ref (b 3), .ref (C j 0)] M (zF (some (.int (fPer (S j) f 5).1)) (fun M' => zPs M' Z b C (va_up S j (fPer (S j) f 5).2) nw un hs ea fa t n u k p r (zCm σ 5) nc f ∧ zKe M M' Z)) := by
  have hC := hS.1.1.cen hj
  have hO := hS.1.1.ok hj
  refine zCon.of (plainFor_of_name (by decide)) rfl (Nat.le_of_ble_eq_true rfl) ?_
  change zV _ _ _ _ _ 0 0 0 [(0, .ref (b 3)), (1, .ref (C j 0))] []
  refine zv_aload_n (n := 1) dX6_perform_0 rfl rfl ?_
  refine zv_get (n := 4) dX6_perform_1 rfl hS.2.1 FX6_27 rfl ?_
  refine zv_iconst (n := 5) dX6_perform_4 rfl (v := 0) (by decide) ?_
  refine zv_callSNP (n := 8) (As := [.ref (b 5), .int 0]) (rest := []) (kc' := 0) (ks' := 0) dX6_perform_5 rfl (c_X8_at hS.2.2 (by decide) 0) rfl kX8_at lX6_62 rfl rfl ⟨by decide, by decide⟩ (Nat.le_of_ble_eq_true rfl) rfl rfl (by decide) (by decide) ?_
  refine zv_istore_n (n := 9) (lv' := [(2, .int (fAt 3 f 0)), (0, .ref (b 3)), (1, .ref (C j 0))]) dX6_perform_8 rfl (by decide) rfl ?_
  refine zv_aload_n (n := 10) dX6_perform_9 rfl rfl ?_
  refine zv_get (n := 13) dX6_perform_10 rfl hS.2.1 FX6_27 rfl ?_
  refine zv_iconst (n := 14) dX6_perform_13 rfl (v := 1) (by decide) ?_
  refine zv_callSNP (n := 17) (As := [.ref (b 5), .int 1]) (rest := []) (kc' := 0) (ks' := 0) dX6_perform_14 rfl (c_X8_at hS.2.2 (by decide) 1) rfl kX8_at lX6_62 rfl rfl ⟨by decide, by decide⟩ (Nat.le_of_ble_eq_true rfl) rfl rfl (by decide) (by decide) ?_
  refine zv_istore_n (n := 18) (lv' := [(3, .int (fAt 3 f 1)), (2, .int (fAt 3 f 0)), (0, .ref (b 3)), (1, .ref (C j 0))]) dX6_perform_17 rfl (by decide) rfl ?_
  refine zv_aload_n (n := 19) dX6_perform_18 rfl rfl ?_
  refine zv_get (n := 22) dX6_perform_19 rfl hS.2.1 FX6_27 rfl ?_
  refine zv_iconst (n := 23) dX6_perform_22 rfl (v := 2) (by decide) ?_
  refine zv_callSNP (n := 26) (As := [.ref (b 5), .int 2]) (rest := []) (kc' := 0) (ks' := 0) dX6_perform_23 rfl (c_X8_at hS.2.2 (by decide) 2) rfl kX8_at lX6_62 rfl rfl ⟨by decide, by decide⟩ (Nat.le_of_ble_eq_true rfl) rfl rfl (by decide) (by decide) ?_
  refine zv_istore (n := 28) (lv' := [(4, .int (fAt 3 f 2)), (3, .int (fAt 3 f 1)), (2, .int (fAt 3 f 0)), (0, .ref (b 3)), (1, .ref (C j 0))]) dX6_perform_26 rfl (by decide) rfl ?_
  refine zv_gets (n := 31) (v := .ref (σ.1 4)) dX6_perform_28 rfl (fun U H h => h.2.2.2.2.2.2.2.2.2.2.2.1) SX6_66 ?_
  refine zv_aload_n (n := 32) dX6_perform_31 rfl rfl ?_
  refine zv_get (n := 35) dX6_perform_32 rfl hS.2.1 FX6_24 rfl ?_
  refine zv_ord (by decide) (by decide) (Nat.le_of_ble_eq_true rfl) (by decide) (by decide) ?_
  refine zv_kint (n := 39) (v := .int (nI 6)) dX6_perform_38 rfl (fun U H h => h.2.2.2.2.2.2.2.2.2.2.2.2.1) (vp_in_nI (by decide) (by decide)) (by rw [nI_clamp (by decide)]; rfl) ?_
  refine zv_switchIn (tgt := 128) (off := 89) dX6_perform_39 (by decide) (by decide) (by decide) (by decide) ?_
  refine zv_aload_n (n := 129) dX6_perform_128 rfl rfl ?_
  refine zv_getN (n := 132) dX6_perform_129 rfl hC.c0 FX6_94 rfl ?_
  refine zv_iload_n (n := 133) dX6_perform_132 rfl rfl ?_
  refine zv_iload_n (n := 134) dX6_perform_133 rfl rfl ?_
  refine zv_callVF (n := 137) (As := [.int (fAt 3 f 0), .int (fAt 3 f 1)]) (rest := []) (kc' := 0) (ks' := 0) dX6_perform_134 rfl (c_X3_changeSpeed hC (fAt 3 f 0) (fAt 3 f 1)) rfl kX3_changeSpeed lX6_98 hC.c2 rfl rfl rfl ⟨by decide, by decide⟩ (Nat.le_of_ble_eq_true rfl) rfl rfl (by decide) (by decide) (fun M1 hq => ?_)
  refine zv_iret dX6_perform_137 rfl (by decide) (by decide) ?_
  exact zFi (hS.cen hj hq.1 (fPer_ok hO f 5) hq.2)

set_option maxRecDepth 100000 in
set_option maxHeartbeats 4000000 in
theorem c_X6_perform_6 {σ : zSg} {M : zM} {Z : Nat → Prop} {b : Nat → Nat} {C : Nat → Nat → Nat} {S : Nat → zS} {nw un : Nat} {hs ea fa : Int32} {t : Nat → Nat} {n : Nat} {u : Nat → Nat} {k : Nat} {p r nc : Nat} {f : Nat → Int32} (hS : zPs M Z b C S nw un hs ea fa t n u k p r (zCm σ 6) nc f) {j : Nat} (hj : j < 11) : zCon μX6_perform (5, 0, 0) σ [.ref (b 3), .ref (C j 0)] M (zF (some (.int (fPer (S j) f 6).1)) (fun M' => zPs M' Z b C (va_up S j (fPer (S j) f 6).2) nw un hs ea fa t n u k p r (zCm σ 6) nc f ∧ zKe M M' Z)) := by
  have hC := hS.1.1.cen hj
  have hO := hS.1.1.ok hj
  refine zCon.of (plainFor_of_name (by decide)) rfl (Nat.le_of_ble_eq_true rfl) ?_
  change zV _ _ _ _ _ 0 0 0 [(0, .ref (b 3)), (1, .ref (C j 0))] []
  refine zv_aload_n (n := 1) dX6_perform_0 rfl rfl ?_
  refine zv_get (n := 4) dX6_perform_1 rfl hS.2.1 FX6_27 rfl ?_
  refine zv_iconst (n := 5) dX6_perform_4 rfl (v := 0) (by decide) ?_
  refine zv_callSNP (n := 8) (As := [.ref (b 5), .int 0]) (rest := []) (kc' := 0) (ks' := 0) dX6_perform_5 rfl (c_X8_at hS.2.2 (by decide) 0) rfl kX8_at lX6_62 rfl rfl ⟨by decide, by decide⟩ (Nat.le_of_ble_eq_true rfl) rfl rfl (by decide) (by decide) ?_
  refine zv_istore_n (n := 9) (lv' := [(2, .int (fAt 3 f 0)), (0, .ref (b 3)), (1, .ref (C j 0))]) dX6_perform_8 rfl (by decide) rfl ?_
  refine zv_aload_n (n := 10) dX6_perform_9 rfl rfl ?_
  refine zv_get (n := 13) dX6_perform_10 rfl hS.2.1 FX6_27 rfl ?_
  refine zv_iconst (n := 14) dX6_perform_13 rfl (v := 1) (by decide) ?_
  refine zv_callSNP (n := 17) (As := [.ref (b 5), .int 1]) (rest := []) (kc' := 0) (ks' := 0) dX6_perform_14 rfl (c_X8_at hS.2.2 (by decide) 1) rfl kX8_at lX6_62 rfl rfl ⟨by decide, by decide⟩ (Nat.le_of_ble_eq_true rfl) rfl rfl (by decide) (by decide) ?_
  refine zv_istore_n (n := 18) (lv' := [(3, .int (fAt 3 f 1)), (2, .int (fAt 3 f 0)), (0, .ref (b 3)), (1, .ref (C j 0))]) dX6_perform_17 rfl (by decide) rfl ?_
  refine zv_aload_n (n := 19) dX6_perform_18 rfl rfl ?_
  refine zv_get (n := 22) dX6_perform_19 rfl hS.2.1 FX6_27 rfl ?_
  refine zv_iconst (n := 23) dX6_perform_22 rfl (v := 2) (by decide) ?_
  refine zv_callSNP (n := 26) (As := [.ref (b 5), .int 2]) (rest := []) (kc' := 0) (ks' := 0) dX6_perform_23 rfl (c_X8_at hS.2.2 (by decide) 2) rfl kX8_at lX6_62 rfl rfl ⟨by decide, by decide⟩ (Nat.le_of_ble_eq_true rfl) rfl rfl (by decide) (by decide) ?_
  refine zv_istore (n := 28) (lv' := [(4, .int (fAt 3 f 2)), (3, .int (fAt 3 f 1)), (2, .int (fAt 3 f 0)), (0, .ref (b 3)), (1, .ref (C j 0))]) dX6_perform_26 rfl (by decide) rfl ?_
  refine zv_gets (n := 31) (v := .ref (σ.1 4)) dX6_perform_28 rfl (fun U H h => h.2.2.2.2.2.2.2.2.2.2.2.1) SX6_66 ?_
  refine zv_aload_n (n := 32) dX6_perform_31 rfl rfl ?_
  refine zv_get (n := 35) dX6_perform_32 rfl hS.2.1 FX6_24 rfl ?_
  refine zv_ord (by decide) (by decide) (Nat.le_of_ble_eq_true rfl) (by decide) (by decide) ?_
  refine zv_kint (n := 39) (v := .int (nI 7)) dX6_perform_38 rfl (fun U H h => h.2.2.2.2.2.2.2.2.2.2.2.2.1) (vp_in_nI (by decide) (by decide)) (by rw [nI_clamp (by decide)]; rfl) ?_
  refine zv_switchIn (tgt := 138) (off := 99) dX6_perform_39 (by decide) (by decide) (by decide) (by decide) ?_
  refine zv_aload_n (n := 139) dX6_perform_138 rfl rfl ?_
  refine zv_getN (n := 142) dX6_perform_139 rfl hC.c0 FX6_94 rfl ?_
  refine zv_iload_n (n := 143) dX6_perform_142 rfl rfl ?_
  refine zv_iload_n (n := 144) dX6_perform_143 rfl rfl ?_
  refine zv_callVF (n := 147) (As := [.int (fAt 3 f 0), .int (fAt 3 f 1)]) (rest := []) (kc' := 0) (ks' := 0) dX6_perform_144 rfl (c_X3_changePoint hC (fAt 3 f 0) (fAt 3 f 1)) rfl kX3_changePoint lX6_103 hC.c2 rfl rfl rfl ⟨by decide, by decide⟩ (Nat.le_of_ble_eq_true rfl) rfl rfl (by decide) (by decide) (fun M1 hq => ?_)
  refine zv_iret dX6_perform_147 rfl (by decide) (by decide) ?_
  exact zFi (hS.cen hj hq.1 (fPer_ok hO f 6) hq.2)

set_option maxRecDepth 100000 in
set_option maxHeartbeats 4000000 in
theorem c_X6_perform_7 {σ : zSg} {M : zM} {Z : Nat → Prop} {b : Nat → Nat} {C : Nat → Nat → Nat} {S : Nat → zS} {nw un : Nat} {hs ea fa : Int32} {t : Nat → Nat} {n : Nat} {u : Nat → Nat} {k : Nat} {p r nc : Nat} {f : Nat → Int32} (hS : zPs M Z b C S nw un hs ea fa t n u k p r (zCm σ 7) nc f) {j : Nat} (hj : j < 11) : zCon μX6_perform (5, 0, 0) σ [.ref (b 3), .ref (C j 0)] M (zF (some (.int (fPer (S j) f 7).1)) (fun M' => zPs M' Z b C (va_up S j (fPer (S j) f 7).2) nw un hs ea fa t n u k p r (zCm σ 7) nc f ∧ zKe M M' Z)) := by
  have hC := hS.1.1.cen hj
  have hO := hS.1.1.ok hj
  refine zCon.of (plainFor_of_name (by decide)) rfl (Nat.le_of_ble_eq_true rfl) ?_
  change zV _ _ _ _ _ 0 0 0 [(0, .ref (b 3)), (1, .ref (C j 0))] []
  refine zv_aload_n (n := 1) dX6_perform_0 rfl rfl ?_
  refine zv_get (n := 4) dX6_perform_1 rfl hS.2.1 FX6_27 rfl ?_
  refine zv_iconst (n := 5) dX6_perform_4 rfl (v := 0) (by decide) ?_
  refine zv_callSNP (n := 8) (As := [.ref (b 5), .int 0]) (rest := []) (kc' := 0) (ks' := 0) dX6_perform_5 rfl (c_X8_at hS.2.2 (by decide) 0) rfl kX8_at lX6_62 rfl rfl ⟨by decide, by decide⟩ (Nat.le_of_ble_eq_true rfl) rfl rfl (by decide) (by decide) ?_
  refine zv_istore_n (n := 9) (lv' := [(2, .int (fAt 3 f 0)), (0, .ref (b 3)), (1, .ref (C j 0))]) dX6_perform_8 rfl (by decide) rfl ?_
  refine zv_aload_n (n := 10) dX6_perform_9 rfl rfl ?_
  refine zv_get (n := 13) dX6_perform_10 rfl hS.2.1 FX6_27 rfl ?_
  refine zv_iconst (n := 14) dX6_perform_13 rfl (v := 1) (by decide) ?_
  refine zv_callSNP (n := 17) (As := [.ref (b 5), .int 1]) (rest := []) (kc' := 0) (ks' := 0) dX6_perform_14 rfl (c_X8_at hS.2.2 (by decide) 1) rfl kX8_at lX6_62 rfl rfl ⟨by decide, by decide⟩ (Nat.le_of_ble_eq_true rfl) rfl rfl (by decide) (by decide) ?_
  refine zv_istore_n (n := 18) (lv' := [(3, .int (fAt 3 f 1)), (2, .int (fAt 3 f 0)), (0, .ref (b 3)), (1, .ref (C j 0))]) dX6_perform_17 rfl (by decide) rfl ?_
  refine zv_aload_n (n := 19) dX6_perform_18 rfl rfl ?_
  refine zv_get (n := 22) dX6_perform_19 rfl hS.2.1 FX6_27 rfl ?_
  refine zv_iconst (n := 23) dX6_perform_22 rfl (v := 2) (by decide) ?_
  refine zv_callSNP (n := 26) (As := [.ref (b 5), .int 2]) (rest := []) (kc' := 0) (ks' := 0) dX6_perform_23 rfl (c_X8_at hS.2.2 (by decide) 2) rfl kX8_at lX6_62 rfl rfl ⟨by decide, by decide⟩ (Nat.le_of_ble_eq_true rfl) rfl rfl (by decide) (by decide) ?_
  refine zv_istore (n := 28) (lv' := [(4, .int (fAt 3 f 2)), (3, .int (fAt 3 f 1)), (2, .int (fAt 3 f 0)), (0, .ref (b 3)), (1, .ref (C j 0))]) dX6_perform_26 rfl (by decide) rfl ?_
  refine zv_gets (n := 31) (v := .ref (σ.1 4)) dX6_perform_28 rfl (fun U H h => h.2.2.2.2.2.2.2.2.2.2.2.1) SX6_66 ?_
  refine zv_aload_n (n := 32) dX6_perform_31 rfl rfl ?_
  refine zv_get (n := 35) dX6_perform_32 rfl hS.2.1 FX6_24 rfl ?_
  refine zv_ord (by decide) (by decide) (Nat.le_of_ble_eq_true rfl) (by decide) (by decide) ?_
  refine zv_kint (n := 39) (v := .int (nI 8)) dX6_perform_38 rfl (fun U H h => h.2.2.2.2.2.2.2.2.2.2.2.2.1) (vp_in_nI (by decide) (by decide)) (by rw [nI_clamp (by decide)]; rfl) ?_
  refine zv_switchIn (tgt := 148) (off := 109) dX6_perform_39 (by decide) (by decide) (by decide) (by decide) ?_
  refine zv_aload_n (n := 149) dX6_perform_148 rfl rfl ?_
  refine zv_iload_n (n := 150) dX6_perform_149 rfl rfl ?_
  refine zv_callVF (n := 153) (As := [.int (fAt 3 f 0)]) (rest := []) (kc' := 0) (ks' := 0) dX6_perform_150 rfl (c_X1_changeLimit hC (fAt 3 f 0)) rfl kX1_changeLimit lX6_106 hC.c0 rfl rfl rfl ⟨by decide, by decide⟩ (Nat.le_of_ble_eq_true rfl) rfl rfl (by decide) (by decide) (fun M1 hq => ?_)
  refine zv_iret dX6_perform_153 rfl (by decide) (by decide) ?_
  exact zFi (hS.cen hj hq.1 (fPer_ok hO f 7) hq.2)

set_option maxRecDepth 100000 in
set_option maxHeartbeats 4000000 in
theorem c_X6_perform_8 {σ : zSg} {M : zM} {Z : Nat → Prop} {b : Nat → Nat} {C : Nat → Nat → Nat} {S : Nat → zS} {nw un : Nat} {hs ea fa : Int32} {t : Nat → Nat} {n : Nat} {u : Nat → Nat} {k : Nat} {p r nc : Nat} {f : Nat → Int32} (hS : zPs M Z b C S nw un hs ea fa t n u k p r (zCm σ 8) nc f) {j : Nat} (hj : j < 11) : zCon μX6_perform (5, 0, 0) σ [.ref (b 3), .ref (C j 0)] M (zF (some (.int (fPer (S j) f 8).1)) (fun M' => zPs M' Z b C (va_up S j (fPer (S j) f 8).2) nw un hs ea fa t n u k p r (zCm σ 8) nc f ∧ zKe M M' Z)) := by
  have hC := hS.1.1.cen hj
  have hO := hS.1.1.ok hj
  refine zCon.of (plainFor_of_name (by decide)) rfl (Nat.le_of_ble_eq_true rfl) ?_
  change zV _ _ _ _ _ 0 0 0 [(0, .ref (b 3)), (1, .ref (C j 0))] []
  refine zv_aload_n (n := 1) dX6_perform_0 rfl rfl ?_
  refine zv_get (n := 4) dX6_perform_1 rfl hS.2.1 FX6_27 rfl ?_
  refine zv_iconst (n := 5) dX6_perform_4 rfl (v := 0) (by decide) ?_
  refine zv_callSNP (n := 8) (As := [.ref (b 5), .int 0]) (rest := []) (kc' := 0) (ks' := 0) dX6_perform_5 rfl (c_X8_at hS.2.2 (by decide) 0) rfl kX8_at lX6_62 rfl rfl ⟨by decide, by decide⟩ (Nat.le_of_ble_eq_true rfl) rfl rfl (by decide) (by decide) ?_
  refine zv_istore_n (n := 9) (lv' := [(2, .int (fAt 3 f 0)), (0, .ref (b 3)), (1, .ref (C j 0))]) dX6_perform_8 rfl (by decide) rfl ?_
  refine zv_aload_n (n := 10) dX6_perform_9 rfl rfl ?_
  refine zv_get (n := 13) dX6_perform_10 rfl hS.2.1 FX6_27 rfl ?_
  refine zv_iconst (n := 14) dX6_perform_13 rfl (v := 1) (by decide) ?_
  refine zv_callSNP (n := 17) (As := [.ref (b 5), .int 1]) (rest := []) (kc' := 0) (ks' := 0) dX6_perform_14 rfl (c_X8_at hS.2.2 (by decide) 1) rfl kX8_at lX6_62 rfl rfl ⟨by decide, by decide⟩ (Nat.le_of_ble_eq_true rfl) rfl rfl (by decide) (by decide) ?_
  refine zv_istore_n (n := 18) (lv' := [(3, .int (fAt 3 f 1)), (2, .int (fAt 3 f 0)), (0, .ref (b 3)), (1, .ref (C j 0))]) dX6_perform_17 rfl (by decide) rfl ?_
  refine zv_aload_n (n := 19) dX6_perform_18 rfl rfl ?_
  refine zv_get (n := 22) dX6_perform_19 rfl hS.2.1 FX6_27 rfl ?_
  refine zv_iconst (n := 23) dX6_perform_22 rfl (v := 2) (by decide) ?_
  refine zv_callSNP (n := 26) (As := [.ref (b 5), .int 2]) (rest := []) (kc' := 0) (ks' := 0) dX6_perform_23 rfl (c_X8_at hS.2.2 (by decide) 2) rfl kX8_at lX6_62 rfl rfl ⟨by decide, by decide⟩ (Nat.le_of_ble_eq_true rfl) rfl rfl (by decide) (by decide) ?_
  refine zv_istore (n := 28) (lv' := [(4, .int (fAt 3 f 2)), (3, .int (fAt 3 f 1)), (2, .int (fAt 3 f 0)), (0, .ref (b 3)), (1, .ref (C j 0))]) dX6_perform_26 rfl (by decide) rfl ?_
  refine zv_gets (n := 31) (v := .ref (σ.1 4)) dX6_perform_28 rfl (fun U H h => h.2.2.2.2.2.2.2.2.2.2.2.1) SX6_66 ?_
  refine zv_aload_n (n := 32) dX6_perform_31 rfl rfl ?_
  refine zv_get (n := 35) dX6_perform_32 rfl hS.2.1 FX6_24 rfl ?_
  refine zv_ord (by decide) (by decide) (Nat.le_of_ble_eq_true rfl) (by decide) (by decide) ?_
  refine zv_kint (n := 39) (v := .int (nI 9)) dX6_perform_38 rfl (fun U H h => h.2.2.2.2.2.2.2.2.2.2.2.2.1) (vp_in_nI (by decide) (by decide)) (by rw [nI_clamp (by decide)]; rfl) ?_
  refine zv_switchIn (tgt := 154) (off := 115) dX6_perform_39 (by decide) (by decide) (by decide) (by decide) ?_
  refine zv_aload_n (n := 155) dX6_perform_154 rfl rfl ?_
  refine zv_iload_n (n := 156) dX6_perform_155 rfl rfl ?_
  refine zv_callVF (n := 159) (As := [.int (fAt 3 f 0)]) (rest := []) (kc' := 0) (ks' := 0) dX6_perform_156 rfl (c_X1_pass hC hO.1 (fAt 3 f 0)) rfl kX1_pass lX6_109 hC.c0 rfl rfl rfl ⟨by decide, by decide⟩ (Nat.le_of_ble_eq_true rfl) rfl rfl (by decide) (by decide) (fun M1 hq => ?_)
  refine zv_iret dX6_perform_159 rfl (by decide) (by decide) ?_
  exact zFi (hS.cen hj hq.1 (fPer_ok hO f 8) hq.2)

set_option maxRecDepth 100000 in
set_option maxHeartbeats 4000000 in
theorem c_X6_perform_9 {σ : zSg} {M : zM} {Z : Nat → Prop} {b : Nat → Nat} {C : Nat → Nat → Nat} {S : Nat → zS} {nw un : Nat} {hs ea fa : Int32} {t : Nat → Nat} {n : Nat} {u : Nat → Nat} {k : Nat} {p r nc : Nat} {f : Nat → Int32} (hS : zPs M Z b C S nw un hs ea fa t n u k p r (zCm σ 9) nc f) {j : Nat} (hj : j < 11) : zCon μX6_perform (5, 0, 0) σ [.ref (b 3), .ref (C j 0)] M (zF (some (.int (fPer (S j) f 9).1)) (fun M' => zPs M' Z b C (va_up S j (fPer (S j) f 9).2) nw un hs ea fa t n u k p r (zCm σ 9) nc f ∧ zKe M M' Z)) := by
  have hC := hS.1.1.cen hj
  have hO := hS.1.1.ok hj
  refine zCon.of (plainFor_of_name (by decide)) rfl (Nat.le_of_ble_eq_true rfl) ?_
  change zV _ _ _ _ _ 0 0 0 [(0, .ref (b 3)), (1, .ref (C j 0))] []
  refine zv_aload_n (n := 1) dX6_perform_0 rfl rfl ?_
  refine zv_get (n := 4) dX6_perform_1 rfl hS.2.1 FX6_27 rfl ?_
  refine zv_iconst (n := 5) dX6_perform_4 rfl (v := 0) (by decide) ?_
  refine zv_callSNP (n := 8) (As := [.ref (b 5), .int 0]) (rest := []) (kc' := 0) (ks' := 0) dX6_perform_5 rfl (c_X8_at hS.2.2 (by decide) 0) rfl kX8_at lX6_62 rfl rfl ⟨by decide, by decide⟩ (Nat.le_of_ble_eq_true rfl) rfl rfl (by decide) (by decide) ?_
  refine zv_istore_n (n := 9) (lv' := [(2, .int (fAt 3 f 0)), (0, .ref (b 3)), (1, .ref (C j 0))]) dX6_perform_8 rfl (by decide) rfl ?_
  refine zv_aload_n (n := 10) dX6_perform_9 rfl rfl ?_
  refine zv_get (n := 13) dX6_perform_10 rfl hS.2.1 FX6_27 rfl ?_
  refine zv_iconst (n := 14) dX6_perform_13 rfl (v := 1) (by decide) ?_
  refine zv_callSNP (n := 17) (As := [.ref (b 5), .int 1]) (rest := []) (kc' := 0) (ks' := 0) dX6_perform_14 rfl (c_X8_at hS.2.2 (by decide) 1) rfl kX8_at lX6_62 rfl rfl ⟨by decide, by decide⟩ (Nat.le_of_ble_eq_true rfl) rfl rfl (by decide) (by decide) ?_
  refine zv_istore_n (n := 18) (lv' := [(3, .int (fAt 3 f 1)), (2, .int (fAt 3 f 0)), (0, .ref (b 3)), (1, .ref (C j 0))]) dX6_perform_17 rfl (by decide) rfl ?_
  refine zv_aload_n (n := 19) dX6_perform_18 rfl rfl ?_
  refine zv_get (n := 22) dX6_perform_19 rfl hS.2.1 FX6_27 rfl ?_
  refine zv_iconst (n := 23) dX6_perform_22 rfl (v := 2) (by decide) ?_
  refine zv_callSNP (n := 26) (As := [.ref (b 5), .int 2]) (rest := []) (kc' := 0) (ks' := 0) dX6_perform_23 rfl (c_X8_at hS.2.2 (by decide) 2) rfl kX8_at lX6_62 rfl rfl ⟨by decide, by decide⟩ (Nat.le_of_ble_eq_true rfl) rfl rfl (by decide) (by decide) ?_
  refine zv_istore (n := 28) (lv' := [(4, .int (fAt 3 f 2)), (3, .int (fAt 3 f 1)), (2, .int (fAt 3 f 0)), (0, .ref (b 3)), (1, .ref (C j 0))]) dX6_perform_26 rfl (by decide) rfl ?_
  refine zv_gets (n := 31) (v := .ref (σ.1 4)) dX6_perform_28 rfl (fun U H h => h.2.2.2.2.2.2.2.2.2.2.2.1) SX6_66 ?_
  refine zv_aload_n (n := 32) dX6_perform_31 rfl rfl ?_
  refine zv_get (n := 35) dX6_perform_32 rfl hS.2.1 FX6_24 rfl ?_
  refine zv_ord (by decide) (by decide) (Nat.le_of_ble_eq_true rfl) (by decide) (by decide) ?_
  refine zv_kint (n := 39) (v := .int 0) dX6_perform_38 rfl (fun U H h => h.2.2.2.2.2.2.2.2.2.2.2.2.1) (vp_in_nI (by decide) (by decide)) (by rw [nI_clamp (by decide)]; rfl) ?_
  refine zv_switchOut (tgt := 160) dX6_perform_39 (by decide) (by decide) ?_
  refine zv_aload_n (n := 161) dX6_perform_160 rfl rfl ?_
  refine zv_iconst (n := 162) dX6_perform_161 rfl (v := 1) (by decide) ?_
  refine zv_callVF (n := 165) (As := [.int 1]) (rest := []) (kc' := 0) (ks' := 0) dX6_perform_162 rfl (c_X1_pass hC hO.1 1) rfl kX1_pass lX6_109 hC.c0 rfl rfl rfl ⟨by decide, by decide⟩ (Nat.le_of_ble_eq_true rfl) rfl rfl (by decide) (by decide) (fun M1 hq => ?_)
  refine zv_iret dX6_perform_165 rfl (by decide) (by decide) ?_
  exact zFi (hS.cen hj hq.1 (fPer_ok hO f 9) hq.2)

theorem c_X6_perform {σ : zSg} {M : zM} {Z : Nat → Prop} {b : Nat → Nat} {C : Nat → Nat → Nat} {S : Nat → zS} {nw un : Nat} {hs ea fa : Int32} {t : Nat → Nat} {n : Nat} {u : Nat → Nat} {k : Nat} {p r nc q : Nat} {f : Nat → Int32} (hS : zPs M Z b C S nw un hs ea fa t n u k p r (zCm σ q) nc f) {j : Nat} (hj : j < 11) (hq : q < 10) : zCon μX6_perform (5, 0, 0) σ [.ref (b 3), .ref (C j 0)] M (zF (some (.int (fPer (S j) f q).1)) (fun M' => zPs M' Z b C (va_up S j (fPer (S j) f q).2) nw un hs ea fa t n u k p r (zCm σ q) nc f ∧ zKe M M' Z)) := by
  rcases (show q = 0 ∨ q = 1 ∨ q = 2 ∨ q = 3 ∨ q = 4 ∨ q = 5 ∨ q = 6 ∨ q = 7 ∨ q = 8 ∨ q = 9 by omega) with rfl | rfl | rfl | rfl | rfl | rfl | rfl | rfl | rfl | rfl
  · exact c_X6_perform_0 hS hj
  · exact c_X6_perform_1 hS hj
  · exact c_X6_perform_2 hS hj
  · exact c_X6_perform_3 hS hj
  · exact c_X6_perform_4 hS hj
  · exact c_X6_perform_5 hS hj
  · exact c_X6_perform_6 hS hj
  · exact c_X6_perform_7 hS hj
  · exact c_X6_perform_8 hS hj
  · exact c_X6_perform_9 hS hj

/-! Constant objects: their fields, tables, methods; String constants: laid by wip/p53/m37.py. -/
section
variable {μ : zMeth} {R : zRoom} {σ : zSg} {Q : zO → zM → Prop} {M : zM} {kc ks pc n : Nat} {lv : List (Nat × Value)} {rest : List Value}
theorem zv_kget {o nm d : String} {q idx : Nat} {v : Value} (hd : decode μ.2.1 pc = .ok (.getfield idx, 3)) (hn : pc + 3 = n) (hT : ∀ (U : State) (H : Heap), zG σ U H → va_OF o nm d v q (zA σ) U H) (hw : zin (.fieldLink μ.1.cls idx o nm d)) (kk : zV μ R σ Q M kc ks n lv (v :: rest)) : zV μ R σ Q M kc ks pc lv (.ref q :: rest) := by
  subst hn
  exact fun p l e s m args below meth c κ Z H locs ls hM hS hl => vk_getf Z.1 Z.2.1 (hT s s.heap Z.G) hS Z.own (Z.w hw _) (fun _ h => h) hd (kk p l e s m args below meth c κ Z H locs ls hM hS hl)
theorem zv_kgetN {o nm d host : String} {q idx : Nat} {v : Value} (hd : decode μ.2.1 pc = .ok (.getfield idx, 3)) (hn : pc + 3 = n) (hT : ∀ (U : State) (H : Heap), zG σ U H → va_OF o nm d v q (zA σ) U H) (hw : zin (.fieldLinkNest μ.1.cls idx o nm d host)) (kk : zV μ R σ Q M kc ks n lv (v :: rest)) : zV μ R σ Q M kc ks pc lv (.ref q :: rest) := by
  subst hn
  intro p l e s m args below meth c κ Z H locs ls hM hS hl
  obtain ⟨cf, k, fi, f, cell, h1, h2, h3, h4, h5, h6⟩ := (hT s s.heap Z.G).kept hS.2.1
  exact va_Wgetf Z.1 Z.2.1 Z.own (Z.w hw _) h1 h2 h3 h4 (v := v) h5 rfl rfl hd (kk p l e s m args below meth c κ Z H locs ls hM hS hl)
theorem zv_klen {t N : Nat} {ty : FieldType} {f : Nat → Value} (hd : decode μ.2.1 pc = .ok (.arraylength, 1)) (hn : pc + 1 = n) (hT : ∀ (U : State) (H : Heap), zG σ U H → va_T ty t N f (zA σ) U H) (kk : zV μ R σ Q M kc ks n lv (.int (nI N) :: rest)) : zV μ R σ Q M kc ks pc lv (.ref t :: rest) := by
  subst hn
  exact fun p l e s m args below meth c κ Z H locs ls hM hS hl => va_tlen Z.1 Z.2.1 (hT s s.heap Z.G) hS (v := nI N) rfl hd (kk p l e s m args below meth c κ Z H locs ls hM hS hl)
theorem zv_kint {t N : Nat} {f : Nat → Value} {i : Int32} {v : Value} (hd : decode μ.2.1 pc = .ok (.iaload, 1)) (hn : pc + 1 = n) (hT : ∀ (U : State) (H : Heap), zG σ U H → va_T .int t N f (zA σ) U H) (hi : vp_in i N) (hv : f i.toNatClampNeg = v) (kk : zV μ R σ Q M kc ks n lv (v :: rest)) : zV μ R σ Q M kc ks pc lv (.int i :: .ref t :: rest) := by
  subst hn
  exact fun p l e s m args below meth c κ Z H locs ls hM hS hl => va_ti Z.1 Z.2.1 (hT s s.heap Z.G) hS hi hv hd (kk p l e s m args below meth c κ Z H locs ls hM hS hl)
theorem zv_kref {t N : Nat} {C : String} {f : Nat → Value} {i : Int32} {v : Value} (hd : decode μ.2.1 pc = .ok (.aaload, 1)) (hn : pc + 1 = n) (hT : ∀ (U : State) (H : Heap), zG σ U H → va_T (.object C) t N f (zA σ) U H) (hi : vp_in i N) (hv : f i.toNatClampNeg = v) (kk : zV μ R σ Q M kc ks n lv (v :: rest)) : zV μ R σ Q M kc ks pc lv (.int i :: .ref t :: rest) := by
  subst hn
  exact fun p l e s m args below meth c κ Z H locs ls hM hS hl => vb_tq Z.1 Z.2.1 (hT s s.heap Z.G) hS hi hv hd (kk p l e s m args below meth c κ Z H locs ls hM hS hl)
theorem zv_callVK {y : zMeth} {Ry : zRoom} {As rest st : List Value} {idx k kc' ks' : Nat} {b : Nat} {v : Value} (hd : decode μ.2.1 pc = .ok (.invokevirtual idx, 3)) (hn : pc + 3 = n) (hC : zCon y Ry σ (.ref b :: As) M (zP (some v) M)) (hh : y.2.2.2.2 = []) (hK : zKV y k) (hlk : zin (.methodLink μ.1.cls idx y.1)) (hb : ∀ (U : State) (H : Heap), zG σ U H → va_O y.1.cls b (zA σ) U H) (hst : As.reverse ++ .ref b :: rest = st) (hlen : As.length = k) (hr : zRm y Ry R) (hW : (rest.map fun v => v.category).sum ≤ 8) (h1 : kc + Ry.2.1 = kc') (h2 : ks + Ry.2.2 = ks') (hk : kc' ≤ R.2.1) (hs : ks' ≤ R.2.2)
    (kk : zV μ R σ Q M kc' ks' n lv (v :: rest)) : zV μ R σ Q M kc ks pc lv (st) := by
  subst hn; subst hst
  intro p l e s m args below meth c κ Z H locs ls hM hS hl
  have hcode : zin (.code y.1 y.2.1 y.2.2.1 y.2.2.2.1) := by
    have h0 := hK.2.2.2.1
    unfold zcode at h0
    rw [hh] at h0
    exact h0
  have hC := hC l Z.tr κ
  have hws := zws Z.G hK.2.2.2.1
  have hmem : Cond.code y.1 y.2.1 y.2.2.1 y.2.2.2.1 ∈ [zcode y] := by
    unfold zcode
    rw [hh]
    exact List.mem_cons_self
  have hf : kc + Ry.2.1 ≤ (zR R).cells ∧ ks + Ry.2.2 ≤ (zR R).slots := ⟨by rw [h1]; exact hk, by rw [h2]; exact hs⟩
  have hmon : 2 * (F0 m pc ls (As.reverse ++ .ref b :: rest)).monitorRoom + (rest.map fun v => v.category).sum ≤ 8 := by
    show 2 * 0 + _ ≤ 8
    omega
  have hrec : ∃ cell : Cell, H[b]? = some cell ∧ cell.vm.isStatics = false ∧ s.vm.findClass y.1.cls = some cell.cls := by
    obtain ⟨cell, g1, g2, g3, -⟩ := (hb s s.heap Z.G).kept hS.2.1
    exact ⟨cell, g1, g2, g3⟩
  exact zcall Z hS hl (vx_runV (n := k) (C := y.1.cls) (As := As) (rest := rest) (Ts := zwords) ⟨Z.1, Z.2.1, Z.2.2.1, Z.own, (fun w hw => Z.w hw args)⟩ hC ⟨⟨rfl, rfl, hr.fr, hr.lo, hws, hmem, Z.w hcode _, Z.w hK.2.2.2.2 _, ⟨hK.1.1, hK.1.2.1⟩, hK.1.len, Z.w hlk _⟩, Z.w hK.2.1 _, Z.w hK.2.2.1 _⟩ ⟨zB.blind, hrec, zpre Z hM hS _⟩ rfl hlen hl.1 rfl hmon hd hf) h1 h2 (fun v' M' h => by
    obtain ⟨e1, e2⟩ := h
    cases e1
    subst e2
    exact kk) (fun E M' h => nomatch h.1)
end
/-- a constant's letters -/
def fK (i j : Nat) : Nat := (zTxt i).getD j 0
def fKn (i : Nat) : Nat := zLens.getD i 0
theorem fK_ok {i j : Nat} (hi : i < 16) (hj : j < fKn i) : (zByts.getD i []).getD j 0 = nI (fK i j) ∧ fK i j < 128 ∧ fKn i ≤ 20 := by
  have key : ∀ i : Fin 16, fKn i.1 ≤ 20 ∧ ∀ j : Fin 20, j.1 < fKn i.1 → (zByts.getD i.1 []).getD j.1 0 = nI (fK i.1 j.1) ∧ fK i.1 j.1 < 128 := by decide +kernel
  have h1 := key ⟨i, hi⟩
  have h2 := h1.2 ⟨j, Nat.lt_of_lt_of_le hj h1.1⟩ hj
  exact ⟨h2.1, h2.2, h1.1⟩
theorem fKn_le {i : Nat} (hi : i < 16) : fKn i ≤ 20 := by
  have key : ∀ i : Fin 16, fKn i.1 ≤ 20 := by decide +kernel
  exact key ⟨i, hi⟩
theorem nI_255 {c : Nat} (h : c < 256) : nI c &&& 255 = nI c := by
  have key : ∀ c : Fin 256, nI c.1 &&& 255 = nI c.1 := by decide +kernel
  exact key ⟨c, h⟩

theorem wJ0_9 : zin (.fieldLink RJ0 9 "java/lang/String" "value" "[B") := z_a5 42 rfl rfl
theorem wJ0_15 : zin (.fieldLink RJ0 15 "java/lang/String" "coder" "B") := z_a5 43 rfl rfl
set_option maxRecDepth 100000 in
set_option maxHeartbeats 4000000 in
theorem c_kcoder {σ : zSg} {M : zM} {i : Nat} (hi : i < 16)  : zCon μJ0_coder_7d493 (1, 0, 0) σ [.ref (zK σ i)] M (zP (some (.int 0)) M) := by
  refine zCon.of (plainFor_of_name (by decide)) rfl (Nat.le_of_ble_eq_true rfl) ?_
  change zV _ _ _ _ _ 0 0 0 [(0, .ref (zK σ i))] []
  refine zv_gets (n := 3) (v := .int 1) dJ0_coder_7d493_0 rfl (fun U H h => h.2.2.2.2.2.2.1) SJ0_38 ?_
  refine zv_if_eq (n := 6) (tgt := 13) dJ0_coder_7d493_3 (by decide) rfl (fun h3 => False.elim (absurd h3 (by decide))) (fun h3 => ?_)
  refine zv_aload_n (n := 7) dJ0_coder_7d493_6 rfl rfl ?_
  refine zv_kget (n := 10) dJ0_coder_7d493_7 rfl (fun U H h => (h.2.2.2.2.2.1.1 i hi).2.1) wJ0_15 ?_
  refine zv_goto (tgt := 14) dJ0_coder_7d493_10 (by decide) ?_
  refine zv_zret dJ0_coder_7d493_14 rfl rfl (by decide) (by decide) ?_
  exact zPi

set_option maxRecDepth 100000 in
set_option maxHeartbeats 4000000 in
theorem c_klatin {σ : zSg} {M : zM} {i : Nat} (hi : i < 16)  : zCon μJ0_isLatin1_aae02 (1, 0, 0) σ [.ref (zK σ i)] M (zP (some (.int 1)) M) := by
  refine zCon.of (plainFor_of_name (by decide)) rfl (Nat.le_of_ble_eq_true rfl) ?_
  change zV _ _ _ _ _ 0 0 0 [(0, .ref (zK σ i))] []
  refine zv_gets (n := 3) (v := .int 1) dJ0_isLatin1_aae02_0 rfl (fun U H h => h.2.2.2.2.2.2.1) SJ0_38 ?_
  refine zv_if_eq (n := 6) (tgt := 17) dJ0_isLatin1_aae02_3 (by decide) rfl (fun h3 => False.elim (absurd h3 (by decide))) (fun h3 => ?_)
  refine zv_aload_n (n := 7) dJ0_isLatin1_aae02_6 rfl rfl ?_
  refine zv_kget (n := 10) dJ0_isLatin1_aae02_7 rfl (fun U H h => (h.2.2.2.2.2.1.1 i hi).2.1) wJ0_15 ?_
  refine zv_if_ne (n := 13) (tgt := 17) dJ0_isLatin1_aae02_10 (by decide) rfl (fun h10 => False.elim (h10 rfl)) (fun h10 => ?_)
  refine zv_iconst (n := 14) dJ0_isLatin1_aae02_13 rfl (v := 1) (by decide) ?_
  refine zv_goto (tgt := 18) dJ0_isLatin1_aae02_14 (by decide) ?_
  refine zv_zret dJ0_isLatin1_aae02_18 rfl rfl (by decide) (by decide) ?_
  exact zPi

set_option maxRecDepth 100000 in
set_option maxHeartbeats 4000000 in
theorem c_klength {σ : zSg} {M : zM} {i : Nat} (hi : i < 16)  : zCon μJ0_length_8abf5 (2, 0, 0) σ [.ref (zK σ i)] M (zP (some (.int (nI (fKn i)))) M) := by
  refine zCon.of (plainFor_of_name (by decide)) rfl (Nat.le_of_ble_eq_true rfl) ?_
  change zV _ _ _ _ _ 0 0 0 [(0, .ref (zK σ i))] []
  refine zv_aload_n (n := 1) dJ0_length_8abf5_0 rfl rfl ?_
  refine zv_kget (n := 4) dJ0_length_8abf5_1 rfl (fun U H h => (h.2.2.2.2.2.1.1 i hi).2.2.1) wJ0_9 ?_
  refine zv_klen (n := 5) dJ0_length_8abf5_4 rfl (fun U H h => (h.2.2.2.2.2.1.1 i hi).2.2.2) ?_
  refine zv_aload_n (n := 6) dJ0_length_8abf5_5 rfl rfl ?_
  refine zv_callVK (n := 9) (As := []) (rest := [.int (nI (fKn i))]) (kc' := 0) (ks' := 0) dJ0_length_8abf5_6 rfl (c_kcoder hi) rfl kJ0_coder_7d493 lJ0_335 (fun U H h => (h.2.2.2.2.2.1.1 i hi).1) rfl rfl ⟨by decide, by decide⟩ (Nat.le_of_ble_eq_true rfl) rfl rfl (by decide) (by decide) ?_
  refine zv_ishr (n := 10) dJ0_length_8abf5_9 rfl ?_
  rw [sb_shr0]
  refine zv_iret dJ0_length_8abf5_10 rfl (by decide) (by decide) ?_
  exact zPi

set_option maxRecDepth 100000 in
set_option maxHeartbeats 4000000 in
theorem c_kLatinAt {σ : zSg} {M : zM} {i : Nat} (hi : i < 16) {j : Nat} (hj : j < fKn i) : zCon μJ1_charAt_3b067 (3, 0, 0) σ [.ref (zVv σ i), .int (nI j)] M (zP (some (.int (nI (fK i j)))) M) := by
  obtain ⟨h1, h2, h3⟩ := fK_ok hi hj
  refine zCon.of (plainFor_of_name (by decide)) rfl (Nat.le_of_ble_eq_true rfl) ?_
  change zV _ _ _ _ _ 0 0 0 [(0, .ref (zVv σ i)), (1, .int (nI j))] []
  refine zv_iload_n (n := 1) dJ1_charAt_3b067_0 rfl rfl ?_
  refine zv_aload_n (n := 2) dJ1_charAt_3b067_1 rfl rfl ?_
  refine zv_klen (n := 3) dJ1_charAt_3b067_2 rfl (fun U H h => (h.2.2.2.2.2.1.1 i hi).2.2.2) ?_
  refine zv_callSP0 (n := 6) (As := [.int (nI j), .int (nI (fKn i))]) (rest := []) (kc' := 0) (ks' := 0) dJ1_charAt_3b067_3 rfl (c_J0_checkIndex (n := fKn i) hj (by omega)) rfl kJ0_checkIndex_df160 lJ1_9 rfl rfl ⟨by decide, by decide⟩ (Nat.le_of_ble_eq_true rfl) rfl rfl (by decide) (by decide) ?_
  refine zv_aload_n (n := 7) dJ1_charAt_3b067_6 rfl rfl ?_
  refine zv_iload_n (n := 8) dJ1_charAt_3b067_7 rfl rfl ?_
  refine zv_tbald (n := 9) (v := .int (nI (fK i j))) dJ1_charAt_3b067_8 rfl (fun U H h => (h.2.2.2.2.2.1.1 i hi).2.2.2) (show vp_in (nI j) (fKn i) from vp_in_nI hj (by omega)) (by rw [nI_clamp (by omega), h1]) ?_
  refine zv_sipush (n := 12) dJ1_charAt_3b067_9 rfl (v := 255) (by decide) ?_
  refine zv_iand (n := 13) dJ1_charAt_3b067_12 rfl ?_
  rw [nI_255 (by omega)]
  refine zv_i2c (n := 14) dJ1_charAt_3b067_13 rfl ?_
  rw [(sb_byte (fK i j) (by omega)).2.1]
  refine zv_zret dJ1_charAt_3b067_14 rfl (nar_ch (by omega)) (by decide) (by decide) ?_
  exact zPi

set_option maxRecDepth 100000 in
set_option maxHeartbeats 4000000 in
theorem c_kcharAt {σ : zSg} {M : zM} {i : Nat} (hi : i < 16) {j : Nat} (hj : j < fKn i) : zCon μJ0_charAt_5068e (4, 0, 0) σ [.ref (zK σ i), .int (nI j)] M (zP (some (.int (nI (fK i j)))) M) := by
  obtain ⟨h1, h2, h3⟩ := fK_ok hi hj
  refine zCon.of (plainFor_of_name (by decide)) rfl (Nat.le_of_ble_eq_true rfl) ?_
  change zV _ _ _ _ _ 0 0 0 [(0, .ref (zK σ i)), (1, .int (nI j))] []
  refine zv_aload_n (n := 1) dJ0_charAt_5068e_0 rfl rfl ?_
  refine zv_callVK (n := 4) (As := []) (rest := []) (kc' := 0) (ks' := 0) dJ0_charAt_5068e_1 rfl (c_klatin hi) rfl kJ0_isLatin1_aae02 lJ0_492 (fun U H h => (h.2.2.2.2.2.1.1 i hi).1) rfl rfl ⟨by decide, by decide⟩ (Nat.le_of_ble_eq_true rfl) rfl rfl (by decide) (by decide) ?_
  refine zv_if_eq (n := 7) (tgt := 16) dJ0_charAt_5068e_4 (by decide) rfl (fun h4 => False.elim (absurd h4 (by decide))) (fun h4 => ?_)
  refine zv_aload_n (n := 8) dJ0_charAt_5068e_7 rfl rfl ?_
  refine zv_kget (n := 11) dJ0_charAt_5068e_8 rfl (fun U H h => (h.2.2.2.2.2.1.1 i hi).2.2.1) wJ0_9 ?_
  refine zv_iload_n (n := 12) dJ0_charAt_5068e_11 rfl rfl ?_
  refine zv_callSP (n := 15) (As := [.ref (zVv σ i), .int (nI j)]) (rest := []) (kc' := 0) (ks' := 0) dJ0_charAt_5068e_12 rfl (c_kLatinAt hi hj) rfl kJ1_charAt_3b067 lJ0_495 rfl rfl ⟨by decide, by decide⟩ (Nat.le_of_ble_eq_true rfl) rfl rfl (by decide) (by decide) ?_
  refine zv_zret dJ0_charAt_5068e_15 rfl (nar_ch (by omega)) (by decide) (by decide) ?_
  exact zPi

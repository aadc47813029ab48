/-! asks, as a function of the present state: laid by wip/p53/m50.py. -/
def fA0 (S : zS) : Int64 := ((31 * ((31 * ((31 * ((31 * ((31 * ((31 * ((31 * ((31 * (fDB (fMn S))) + ((fFB (fHs S)).toInt64))) + ((S 0).toInt64))) + ((S 48).toInt64))) + ((S 49).toInt64))) + ((S 50).toInt64))) + ((S 51).toInt64))) + ((S 52).toInt64))) + ((nI (fHts S)).toInt64))
def fA1v (S : zS) (a : Nat) (v : Int64) : Int64 := ((31 * ((31 * ((31 * ((31 * ((31 * v) + ((fNd S (nI a)).toInt64))) + ((fSto S (nI a)).toInt64))) + ((fBh S (nI a)).toInt64))) + ((fFB (fInl S (nI a))).toInt64))) + ((fFB (fRis S (nI a) (fSpd S (nI a)))).toInt64))
def fA4v (S : zS) (r : Nat) (v : Int64) : Int64 := ((31 * ((31 * v) + ((fBr S (nI r)).toInt64))) + ((fFB (fTmp S r)).toInt64))
def fA2 (u : Nat → Nat) : Nat → Nat → Int64 → Int64
  | 0, _, v => v
  | l + 1, i, v => fA2 u l (i + 1) (31 * v + (nI (u i)).toInt64)
def fA3 (S : zS) : Nat → Nat → Int64 → Int64
  | 0, _, v => v
  | l + 1, i, v => fA3 S l (i + 1) (31 * v + (fFB (fAir S (nI i))).toInt64)
def fA1 (S : zS) : Nat → Nat → Int64 → Int64
  | 0, _, v => v
  | l + 1, a, v => fA1 S l (a + 1) (fA2 (fTxA S (nI a)).1 (fTxA S (nI a)).2 0 (fA1v S a v))
def fA4 (S : zS) : Nat → Nat → Int64 → Int64
  | 0, _, v => v
  | l + 1, r, v => fA4 S l (r + 1) (fA2 (fTxR S r).1 (fTxR S r).2 0 (fA4v S r v))
/-- what asks answers -/
def fAsk (S : zS) : Int64 := fA4 S (fCnt S) 0 (fA3 S 11 0 (fA1 S 4 0 (fA0 S)))
theorem hAi {a : Nat} (h : a < 4) : fBt (nI a) 0 3 = true := by
  have key : ∀ a : Fin 4, fBt (nI a.1) 0 3 = true := by decide +kernel
  exact key ⟨a, h⟩
theorem hSi {a : Nat} (h : a < 11) : fBt (nI a) 0 10 = true := by
  have key : ∀ a : Fin 11, fBt (nI a.1) 0 10 = true := by decide +kernel
  exact key ⟨a, h⟩
theorem sb_dg3 {x : Nat} : x < 100 → sb_dg x ≤ 2 := fun h => by
  unfold sb_dg
  split
  · decide
  · exact Nat.le_refl _
theorem fTxR_le {S : zS} (h : zOk S) {j : Nat} (hj : j < fCnt S) : (fTxR S j).2 ≤ 40 := by
  have h12 := h.1.2
  have hj12 : j < 12 := by omega
  obtain ⟨g1, g2, g3⟩ := h.2.1 j hj12
  have a0 := sb_dg3 (x := j) (by omega)
  have a1 := sb_dg3 (x := fN S (1 + 3 * j)) (by have := (fN_of (n := 3) (by decide) g1).2; omega)
  have a2 := sb_dg3 (x := fN S (2 + 3 * j)) (by have := (fN_of (n := 5) (by decide) g2).2; omega)
  have a3 := sb_dg3 (x := fN S (3 + 3 * j)) (by have := (fN_of (n := 20) (by decide) g3).2; omega)
  unfold fTxR
  split
  · show 0 + sb_dg j + 1 + sb_dg _ + 1 + sb_dg _ + 1 + sb_dg _ + 1 ≤ 40
    omega
  · show 0 + sb_dg j + 1 + sb_dg _ + 1 + sb_dg _ + 1 + sb_dg _ ≤ 40
    omega

set_option maxRecDepth 100000 in
set_option maxHeartbeats 4000000 in
theorem l_asksT1 {σ : zSg} {Z : Nat → Prop} {b : Nat → Nat} {C : Nat → Nat → Nat} {S : Nat → zS} {nw un : Nat} {hs ea fa : Int32} {t : Nat → Nat} {n : Nat} {Q : zO → zM → Prop} {M : zM} {u : Nat → Nat} {k : Nat} {K0 K1 : Nat} {c9 a9 : Int32} (h0 : K0 + 70 ≤ 1349) (h1 : K1 + 420 ≤ 29982) (hP : zPl M Z b C S nw un hs ea fa t n u k) : ∀ (l i : Nat) (v : Int64), i + l = k → zV μL_asks (9, 1349, 29982) σ Q M (K0 + 70) (K1 + 420) 214 [(6, .int (nI k)), (2, .long (fA2 u l i v)), (0, .ref (b 0)), (1, .int c9), (4, .int a9), (5, .int (nI k))] [] → zV μL_asks (9, 1349, 29982) σ Q M (K0 + i) (K1 + 6 * i) 187 [(6, .int (nI i)), (2, .long v), (0, .ref (b 0)), (1, .int c9), (4, .int a9), (5, .int (nI k))] [] := by
  have hN := hP.outN
  intro l
  induction l with
  | zero =>
    intro i v hi kk
    refine zv_iload (n := 189) dL_asks_187 rfl rfl ?_
    refine zv_iload (n := 191) dL_asks_189 rfl rfl ?_
    refine zv_icmp_ge (n := 194) (tgt := 214) dL_asks_191 (by decide) rfl (fun h191 => ?_) (fun h191 => False.elim (absurd (nI_le (a := k) (b := i) (by omega) (by omega)) h191))
    obtain rfl : i = k := by omega
    exact zv_wide (by omega) (by omega) kk
  | succ l ih =>
    intro i v hi kk
    have hi9 : i < k := by omega
    refine zv_iload (n := 189) dL_asks_187 rfl rfl ?_
    refine zv_iload (n := 191) dL_asks_189 rfl rfl ?_
    refine zv_icmp_ge (n := 194) (tgt := 214) dL_asks_191 (by decide) rfl (fun h191 => False.elim (absurd h191 (nI_ge hi9 (by omega)))) (fun h191 => ?_)
    refine zv_ldc2 (n := 197) dL_asks_194 rfl qL_191 ?_
    refine zv_lload_n (n := 198) dL_asks_197 rfl rfl ?_
    refine zv_lmul (n := 199) dL_asks_198 rfl ?_
    refine zv_aload_n (n := 200) dL_asks_199 rfl rfl ?_
    refine zv_iload (n := 202) dL_asks_200 rfl rfl ?_
    refine zv_callSXP (n := 205) (As := [.ref (b 0), .int (nI i)]) (rest := [.long (31 * v)]) (kc' := ((K0 + i) + 1)) (ks' := ((K1 + 6 * i) + 6)) dL_asks_202 rfl (c_L_outputAt hP hi9) rfl kL_outputAt lL_165 rfl rfl ⟨by decide, by decide⟩ (Nat.le_of_ble_eq_true rfl) rfl rfl (by show _ ≤ (1349 : Nat); omega) (by show _ ≤ (29982 : Nat); omega) ?_
    refine zv_i2l (n := 206) dL_asks_205 rfl ?_
    refine zv_ladd (n := 207) dL_asks_206 rfl ?_
    refine zv_lstore_n (n := 208) (lv' := [(2, .long ((31 * v) + ((nI (u i)).toInt64))), (6, .int (nI i)), (0, .ref (b 0)), (1, .int c9), (4, .int a9), (5, .int (nI k))]) dL_asks_207 rfl (by decide) rfl ?_
    refine zv_iinc (n := 211) (v := nI (i + 1)) (lv' := [(6, .int (nI (i + 1))), (2, .long ((31 * v) + ((nI (u i)).toInt64))), (0, .ref (b 0)), (1, .int c9), (4, .int a9), (5, .int (nI k))]) dL_asks_208 rfl rfl (nI_1 i) (by decide) rfl ?_
    refine zv_goto (tgt := 187) dL_asks_211 (by decide) ?_
    refine zv_lvs (lv' := [(6, .int (nI (i + 1))), (2, .long ((31 * v) + ((nI (u i)).toInt64))), (0, .ref (b 0)), (1, .int c9), (4, .int a9), (5, .int (nI k))]) ⟨rfl, rfl, rfl, rfl, rfl, rfl, trivial⟩ ?_
    refine zv_wide (kc' := K0 + (i + 1)) (ks' := K1 + 6 * (i + 1)) (by omega) (by omega) ?_
    exact ih (i + 1) _ (by omega) kk

set_option maxRecDepth 100000 in
set_option maxHeartbeats 4000000 in
theorem l_asksT4 {σ : zSg} {Z : Nat → Prop} {b : Nat → Nat} {C : Nat → Nat → Nat} {S : Nat → zS} {nw un : Nat} {hs ea fa : Int32} {t : Nat → Nat} {n : Nat} {Q : zO → zM → Prop} {M : zM} {u : Nat → Nat} {k : Nat} {K0 K1 : Nat} {c9 a9 : Int32} (h0 : K0 + 70 ≤ 1349) (h1 : K1 + 420 ≤ 29982) (hP : zPl M Z b C S nw un hs ea fa t n u k) : ∀ (l i : Nat) (v : Int64), i + l = k → zV μL_asks (9, 1349, 29982) σ Q M (K0 + 70) (K1 + 420) 329 [(6, .int (nI k)), (2, .long (fA2 u l i v)), (0, .ref (b 0)), (1, .int c9), (4, .int a9), (5, .int (nI k))] [] → zV μL_asks (9, 1349, 29982) σ Q M (K0 + i) (K1 + 6 * i) 302 [(6, .int (nI i)), (2, .long v), (0, .ref (b 0)), (1, .int c9), (4, .int a9), (5, .int (nI k))] [] := by
  have hN := hP.outN
  intro l
  induction l with
  | zero =>
    intro i v hi kk
    refine zv_iload (n := 304) dL_asks_302 rfl rfl ?_
    refine zv_iload (n := 306) dL_asks_304 rfl rfl ?_
    refine zv_icmp_ge (n := 309) (tgt := 329) dL_asks_306 (by decide) rfl (fun h306 => ?_) (fun h306 => False.elim (absurd (nI_le (a := k) (b := i) (by omega) (by omega)) h306))
    obtain rfl : i = k := by omega
    exact zv_wide (by omega) (by omega) kk
  | succ l ih =>
    intro i v hi kk
    have hi9 : i < k := by omega
    refine zv_iload (n := 304) dL_asks_302 rfl rfl ?_
    refine zv_iload (n := 306) dL_asks_304 rfl rfl ?_
    refine zv_icmp_ge (n := 309) (tgt := 329) dL_asks_306 (by decide) rfl (fun h306 => False.elim (absurd h306 (nI_ge hi9 (by omega)))) (fun h306 => ?_)
    refine zv_ldc2 (n := 312) dL_asks_309 rfl qL_191 ?_
    refine zv_lload_n (n := 313) dL_asks_312 rfl rfl ?_
    refine zv_lmul (n := 314) dL_asks_313 rfl ?_
    refine zv_aload_n (n := 315) dL_asks_314 rfl rfl ?_
    refine zv_iload (n := 317) dL_asks_315 rfl rfl ?_
    refine zv_callSXP (n := 320) (As := [.ref (b 0), .int (nI i)]) (rest := [.long (31 * v)]) (kc' := ((K0 + i) + 1)) (ks' := ((K1 + 6 * i) + 6)) dL_asks_317 rfl (c_L_outputAt hP hi9) rfl kL_outputAt lL_165 rfl rfl ⟨by decide, by decide⟩ (Nat.le_of_ble_eq_true rfl) rfl rfl (by show _ ≤ (1349 : Nat); omega) (by show _ ≤ (29982 : Nat); omega) ?_
    refine zv_i2l (n := 321) dL_asks_320 rfl ?_
    refine zv_ladd (n := 322) dL_asks_321 rfl ?_
    refine zv_lstore_n (n := 323) (lv' := [(2, .long ((31 * v) + ((nI (u i)).toInt64))), (6, .int (nI i)), (0, .ref (b 0)), (1, .int c9), (4, .int a9), (5, .int (nI k))]) dL_asks_322 rfl (by decide) rfl ?_
    refine zv_iinc (n := 326) (v := nI (i + 1)) (lv' := [(6, .int (nI (i + 1))), (2, .long ((31 * v) + ((nI (u i)).toInt64))), (0, .ref (b 0)), (1, .int c9), (4, .int a9), (5, .int (nI k))]) dL_asks_323 rfl rfl (nI_1 i) (by decide) rfl ?_
    refine zv_goto (tgt := 302) dL_asks_326 (by decide) ?_
    refine zv_lvs (lv' := [(6, .int (nI (i + 1))), (2, .long ((31 * v) + ((nI (u i)).toInt64))), (0, .ref (b 0)), (1, .int c9), (4, .int a9), (5, .int (nI k))]) ⟨rfl, rfl, rfl, rfl, rfl, rfl, trivial⟩ ?_
    refine zv_wide (kc' := K0 + (i + 1)) (ks' := K1 + 6 * (i + 1)) (by omega) (by omega) ?_
    exact ih (i + 1) _ (by omega) kk

set_option maxRecDepth 100000 in
set_option maxHeartbeats 4000000 in
theorem l_asksA {σ : zSg} {Z : Nat → Prop} {b : Nat → Nat} {C : Nat → Nat → Nat} {S : Nat → zS} {nw un : Nat} {hs ea fa : Int32} {t : Nat → Nat} {n : Nat} {Q : zO → zM → Prop} {M0 : zM} : ∀ (l a : Nat) (v : Int64) (M : zM) (u : Nat → Nat) (k : Nat), a + l = 4 → zPl M Z b C S nw un hs ea fa t n u k → zKe M0 M Z → (∀ M' u' k', zPl M' Z b C S nw un hs ea fa t n u' k' → zKe M0 M' Z → zV μL_asks (9, 1349, 29982) σ Q M' 366 10260 220 [(2, .long (fA1 (S nw) l a v)), (0, .ref (b 0)), (1, .int ((S nw) 0))] []) → zV μL_asks (9, 1349, 29982) σ Q M (2 + 91 * a) (12 + 2562 * a) 100 [(4, .int (nI a)), (2, .long v), (0, .ref (b 0)), (1, .int ((S nw) 0))] [] := by
  intro l
  induction l with
  | zero =>
    intro a v M u k hl hP hz kk
    obtain rfl : a = 4 := by omega
    refine zv_iload (n := 102) dL_asks_100 rfl rfl ?_
    refine zv_iconst (n := 103) dL_asks_102 rfl (v := 4) (by decide) ?_
    refine zv_icmp_ge (n := 106) (tgt := 220) dL_asks_103 (by decide) rfl (fun h103 => ?_) (fun h103 => False.elim (absurd (show nI 4 ≤ nI 4 from Int32.le_refl _) h103))
    refine zv_lvs (lv' := [(2, .long v), (0, .ref (b 0)), (1, .int ((S nw) 0))]) ⟨rfl, rfl, rfl, trivial⟩ ?_
    exact kk M u k hP hz
  | succ l ih =>
    intro a v M u k hl hP hz kk
    have ha : a < 4 := by omega
    refine zv_iload (n := 102) dL_asks_100 rfl rfl ?_
    refine zv_iconst (n := 103) dL_asks_102 rfl (v := 4) (by decide) ?_
    refine zv_icmp_ge (n := 106) (tgt := 220) dL_asks_103 (by decide) rfl (fun h103 => False.elim (absurd h103 (nI_ge (b := 4) ha (by decide)))) (fun h103 => ?_)
    refine zv_ldc2 (n := 109) dL_asks_106 rfl qL_191 ?_
    refine zv_ldc2 (n := 112) dL_asks_109 rfl qL_191 ?_
    refine zv_ldc2 (n := 115) dL_asks_112 rfl qL_191 ?_
    refine zv_lload_n (n := 116) dL_asks_115 rfl rfl ?_
    refine zv_lmul (n := 117) dL_asks_116 rfl ?_
    refine zv_aload_n (n := 118) dL_asks_117 rfl rfl ?_
    refine zv_iload (n := 120) dL_asks_118 rfl rfl ?_
    refine zv_callSXP (n := 123) (As := [.ref (b 0), .int (nI a)]) (rest := [.long (31 * v), .long 31, .long 31]) (kc' := ((2 + 91 * a) + 2)) (ks' := ((12 + 2562 * a) + 12)) dL_asks_120 rfl (c_L_needed hP (hAi ha)) rfl kL_needed lL_230 rfl rfl ⟨by decide, by decide⟩ (Nat.le_of_ble_eq_true rfl) rfl rfl (by show _ ≤ (1349 : Nat); omega) (by show _ ≤ (29982 : Nat); omega) ?_
    refine zv_i2l (n := 124) dL_asks_123 rfl ?_
    refine zv_ladd (n := 125) dL_asks_124 rfl ?_
    refine zv_lmul (n := 126) dL_asks_125 rfl ?_
    refine zv_aload_n (n := 127) dL_asks_126 rfl rfl ?_
    refine zv_iload (n := 129) dL_asks_127 rfl rfl ?_
    refine zv_callSXP (n := 132) (As := [.ref (b 0), .int (nI a)]) (rest := [.long (31 * ((31 * v) + ((fNd (S nw) (nI a)).toInt64))), .long 31]) (kc' := (((2 + 91 * a) + 2) + 1)) (ks' := (((12 + 2562 * a) + 12) + 6)) dL_asks_129 rfl (c_L_stored hP (hAi ha)) rfl kL_stored lL_233 rfl rfl ⟨by decide, by decide⟩ (Nat.le_of_ble_eq_true rfl) rfl rfl (by show _ ≤ (1349 : Nat); omega) (by show _ ≤ (29982 : Nat); omega) ?_
    refine zv_i2l (n := 133) dL_asks_132 rfl ?_
    refine zv_ladd (n := 134) dL_asks_133 rfl ?_
    refine zv_lmul (n := 135) dL_asks_134 rfl ?_
    refine zv_aload_n (n := 136) dL_asks_135 rfl rfl ?_
    refine zv_iload (n := 138) dL_asks_136 rfl rfl ?_
    refine zv_callSXP (n := 141) (As := [.ref (b 0), .int (nI a)]) (rest := [.long (31 * ((31 * ((31 * v) + ((fNd (S nw) (nI a)).toInt64))) + ((fSto (S nw) (nI a)).toInt64)))]) (kc' := ((((2 + 91 * a) + 2) + 1) + 1)) (ks' := ((((12 + 2562 * a) + 12) + 6) + 6)) dL_asks_138 rfl (c_L_byHeat hP (nI a)) rfl kL_byHeat lL_236 rfl rfl ⟨by decide, by decide⟩ (Nat.le_of_ble_eq_true rfl) rfl rfl (by show _ ≤ (1349 : Nat); omega) (by show _ ≤ (29982 : Nat); omega) ?_
    refine zv_i2l (n := 142) dL_asks_141 rfl ?_
    refine zv_ladd (n := 143) dL_asks_142 rfl ?_
    refine zv_lstore_n (n := 144) (lv' := [(2, .long ((31 * ((31 * ((31 * v) + ((fNd (S nw) (nI a)).toInt64))) + ((fSto (S nw) (nI a)).toInt64))) + ((fBh (S nw) (nI a)).toInt64))), (4, .int (nI a)), (0, .ref (b 0)), (1, .int ((S nw) 0))]) dL_asks_143 rfl (by decide) rfl ?_
    refine zv_ldc2 (n := 147) dL_asks_144 rfl qL_191 ?_
    refine zv_ldc2 (n := 150) dL_asks_147 rfl qL_191 ?_
    refine zv_lload_n (n := 151) dL_asks_150 rfl rfl ?_
    refine zv_lmul (n := 152) dL_asks_151 rfl ?_
    refine zv_aload_n (n := 153) dL_asks_152 rfl rfl ?_
    refine zv_iload (n := 155) dL_asks_153 rfl rfl ?_
    refine zv_callSXP (n := 158) (As := [.ref (b 0), .int (nI a)]) (rest := [.long (31 * ((31 * ((31 * ((31 * v) + ((fNd (S nw) (nI a)).toInt64))) + ((fSto (S nw) (nI a)).toInt64))) + ((fBh (S nw) (nI a)).toInt64))), .long 31]) (kc' := (((((2 + 91 * a) + 2) + 1) + 1) + 1)) (ks' := (((((12 + 2562 * a) + 12) + 6) + 6) + 6)) dL_asks_155 rfl (c_L_inlet hP (hAi ha)) rfl kL_inlet lL_239 rfl rfl ⟨by decide, by decide⟩ (Nat.le_of_ble_eq_true rfl) rfl rfl (by show _ ≤ (1349 : Nat); omega) (by show _ ≤ (29982 : Nat); omega) ?_
    refine zv_callSP (n := 161) (As := [.float (fInl (S nw) (nI a))]) (rest := [.long (31 * ((31 * ((31 * ((31 * v) + ((fNd (S nw) (nI a)).toInt64))) + ((fSto (S nw) (nI a)).toInt64))) + ((fBh (S nw) (nI a)).toInt64))), .long 31]) (kc' := (((((2 + 91 * a) + 2) + 1) + 1) + 1)) (ks' := (((((12 + 2562 * a) + 12) + 6) + 6) + 6)) dL_asks_158 rfl (c_fBits _) rfl kJxf58ca_floatToIntBits_5c35a lL_206 rfl rfl ⟨by decide, by decide⟩ (Nat.le_of_ble_eq_true rfl) rfl rfl (by show _ ≤ (1349 : Nat); omega) (by show _ ≤ (29982 : Nat); omega) ?_
    refine zv_i2l (n := 162) dL_asks_161 rfl ?_
    refine zv_ladd (n := 163) dL_asks_162 rfl ?_
    refine zv_lmul (n := 164) dL_asks_163 rfl ?_
    refine zv_aload_n (n := 165) dL_asks_164 rfl rfl ?_
    refine zv_iload (n := 167) dL_asks_165 rfl rfl ?_
    refine zv_callSXP (n := 170) (As := [.ref (b 0), .int (nI a)]) (rest := [.long (31 * ((31 * ((31 * ((31 * ((31 * v) + ((fNd (S nw) (nI a)).toInt64))) + ((fSto (S nw) (nI a)).toInt64))) + ((fBh (S nw) (nI a)).toInt64))) + ((fFB (fInl (S nw) (nI a))).toInt64)))]) (kc' := ((((((2 + 91 * a) + 2) + 1) + 1) + 1) + 1)) (ks' := ((((((12 + 2562 * a) + 12) + 6) + 6) + 6) + 6)) dL_asks_167 rfl (c_L_rise hP (hAi ha)) rfl kL_rise lL_243 rfl rfl ⟨by decide, by decide⟩ (Nat.le_of_ble_eq_true rfl) rfl rfl (by show _ ≤ (1349 : Nat); omega) (by show _ ≤ (29982 : Nat); omega) ?_
    refine zv_callSP (n := 173) (As := [.float (fRis (S nw) (nI a) (fSpd (S nw) (nI a)))]) (rest := [.long (31 * ((31 * ((31 * ((31 * ((31 * v) + ((fNd (S nw) (nI a)).toInt64))) + ((fSto (S nw) (nI a)).toInt64))) + ((fBh (S nw) (nI a)).toInt64))) + ((fFB (fInl (S nw) (nI a))).toInt64)))]) (kc' := ((((((2 + 91 * a) + 2) + 1) + 1) + 1) + 1)) (ks' := ((((((12 + 2562 * a) + 12) + 6) + 6) + 6) + 6)) dL_asks_170 rfl (c_fBits _) rfl kJxf58ca_floatToIntBits_5c35a lL_206 rfl rfl ⟨by decide, by decide⟩ (Nat.le_of_ble_eq_true rfl) rfl rfl (by show _ ≤ (1349 : Nat); omega) (by show _ ≤ (29982 : Nat); omega) ?_
    refine zv_i2l (n := 174) dL_asks_173 rfl ?_
    refine zv_ladd (n := 175) dL_asks_174 rfl ?_
    refine zv_lstore_n (n := 176) (lv' := [(2, .long ((31 * ((31 * ((31 * ((31 * ((31 * v) + ((fNd (S nw) (nI a)).toInt64))) + ((fSto (S nw) (nI a)).toInt64))) + ((fBh (S nw) (nI a)).toInt64))) + ((fFB (fInl (S nw) (nI a))).toInt64))) + ((fFB (fRis (S nw) (nI a) (fSpd (S nw) (nI a)))).toInt64))), (4, .int (nI a)), (0, .ref (b 0)), (1, .int ((S nw) 0))]) dL_asks_175 rfl (by decide) rfl ?_
    change zV _ _ _ _ _ _ _ _ [(2, .long (fA1v (S nw) a v)), (4, .int (nI a)), (0, .ref (b 0)), (1, .int ((S nw) 0))] []
    refine zv_aload_n (n := 177) dL_asks_176 rfl rfl ?_
    refine zv_iload (n := 179) dL_asks_177 rfl rfl ?_
    refine zv_callSXF (n := 182) (As := [.ref (b 0), .int (nI a)]) (rest := []) (kc' := (((((((2 + 91 * a) + 2) + 1) + 1) + 1) + 1) + 15)) (ks' := (((((((12 + 2562 * a) + 12) + 6) + 6) + 6) + 6) + 2106)) dL_asks_179 rfl (c_L_renderAisle hP (hAi ha)) rfl kL_renderAisle lL_245 rfl rfl ⟨by decide, by decide⟩ (Nat.le_of_ble_eq_true rfl) rfl rfl (by show _ ≤ (1349 : Nat); omega) (by show _ ≤ (29982 : Nat); omega) (fun M1 hq => ?_)
    obtain ⟨hP1, hz1⟩ := hq
    refine zv_istore (n := 184) (lv' := [(5, .int (nI (fTxA (S nw) (nI a)).2)), (2, .long (fA1v (S nw) a v)), (4, .int (nI a)), (0, .ref (b 0)), (1, .int ((S nw) 0))]) dL_asks_182 rfl (by decide) rfl ?_
    refine zv_iconst (n := 185) dL_asks_184 rfl (v := 0) (by decide) ?_
    refine zv_istore (n := 187) (lv' := [(6, .int 0), (5, .int (nI (fTxA (S nw) (nI a)).2)), (2, .long (fA1v (S nw) a v)), (4, .int (nI a)), (0, .ref (b 0)), (1, .int ((S nw) 0))]) dL_asks_185 rfl (by decide) rfl ?_
    refine zv_lvs (lv' := [(6, .int 0), (2, .long (fA1v (S nw) a v)), (0, .ref (b 0)), (1, .int ((S nw) 0)), (4, .int (nI a)), (5, .int (nI (fTxA (S nw) (nI a)).2))]) ⟨rfl, rfl, rfl, rfl, rfl, rfl, trivial⟩ ?_
    refine zv_wide (kc' := (2 + 91 * a + 21) + 0) (ks' := (12 + 2562 * a + 2142) + 6 * 0) (by omega) (by omega) ?_
    refine l_asksT1 (by omega) (by omega) hP1 (fTxA (S nw) (nI a)).2 0 (fA1v (S nw) a v) (Nat.zero_add _) ?_
    refine zv_iinc (n := 217) (v := nI (a + 1)) (lv' := [(4, .int (nI (a + 1))), (6, .int (nI (fTxA (S nw) (nI a)).2)), (2, .long (fA2 (fTxA (S nw) (nI a)).1 (fTxA (S nw) (nI a)).2 0 (fA1v (S nw) a v))), (0, .ref (b 0)), (1, .int ((S nw) 0)), (5, .int (nI (fTxA (S nw) (nI a)).2))]) dL_asks_214 rfl rfl (nI_1 a) (by decide) rfl ?_
    refine zv_goto (tgt := 100) dL_asks_217 (by decide) ?_
    refine zv_lvs (lv' := [(4, .int (nI (a + 1))), (2, .long (fA2 (fTxA (S nw) (nI a)).1 (fTxA (S nw) (nI a)).2 0 (fA1v (S nw) a v))), (0, .ref (b 0)), (1, .int ((S nw) 0))]) ⟨rfl, rfl, rfl, rfl, trivial⟩ ?_
    refine zv_wide (kc' := 2 + 91 * (a + 1)) (ks' := 12 + 2562 * (a + 1)) (by omega) (by omega) ?_
    exact ih (a + 1) _ _ _ _ (by omega) hP1 (hz.tr hz1) kk

set_option maxRecDepth 100000 in
set_option maxHeartbeats 4000000 in
theorem l_asksS {σ : zSg} {Z : Nat → Prop} {b : Nat → Nat} {C : Nat → Nat → Nat} {S : Nat → zS} {nw un : Nat} {hs ea fa : Int32} {t : Nat → Nat} {n : Nat} {Q : zO → zM → Prop} {M : zM} {u : Nat → Nat} {k : Nat} (hP : zPl M Z b C S nw un hs ea fa t n u k) : ∀ (l s9 : Nat) (v : Int64), s9 + l = 11 → zV μL_asks (9, 1349, 29982) σ Q M 377 10326 253 [(2, .long (fA3 (S nw) l s9 v)), (0, .ref (b 0)), (1, .int ((S nw) 0))] [] → zV μL_asks (9, 1349, 29982) σ Q M (366 + s9) (10260 + 6 * s9) 223 [(4, .int (nI s9)), (2, .long v), (0, .ref (b 0)), (1, .int ((S nw) 0))] [] := by
  intro l
  induction l with
  | zero =>
    intro s9 v hl kk
    obtain rfl : s9 = 11 := by omega
    refine zv_iload (n := 225) dL_asks_223 rfl rfl ?_
    refine zv_bipush (n := 227) dL_asks_225 rfl (v := 11) (by decide) ?_
    refine zv_icmp_ge (n := 230) (tgt := 253) dL_asks_227 (by decide) rfl (fun h227 => ?_) (fun h227 => False.elim (absurd (show nI 11 ≤ nI 11 from Int32.le_refl _) h227))
    refine zv_lvs (lv' := [(2, .long v), (0, .ref (b 0)), (1, .int ((S nw) 0))]) ⟨rfl, rfl, rfl, trivial⟩ ?_
    exact kk
  | succ l ih =>
    intro s9 v hl kk
    have hs11 : s9 < 11 := by omega
    refine zv_iload (n := 225) dL_asks_223 rfl rfl ?_
    refine zv_bipush (n := 227) dL_asks_225 rfl (v := 11) (by decide) ?_
    refine zv_icmp_ge (n := 230) (tgt := 253) dL_asks_227 (by decide) rfl (fun h227 => False.elim (absurd h227 (nI_ge (b := 11) hs11 (by decide)))) (fun h227 => ?_)
    refine zv_ldc2 (n := 233) dL_asks_230 rfl qL_191 ?_
    refine zv_lload_n (n := 234) dL_asks_233 rfl rfl ?_
    refine zv_lmul (n := 235) dL_asks_234 rfl ?_
    refine zv_aload_n (n := 236) dL_asks_235 rfl rfl ?_
    refine zv_iload (n := 238) dL_asks_236 rfl rfl ?_
    refine zv_callSXP (n := 241) (As := [.ref (b 0), .int (nI s9)]) (rest := [.long (31 * v)]) (kc' := ((366 + s9) + 1)) (ks' := ((10260 + 6 * s9) + 6)) dL_asks_238 rfl (c_L_airflow hP (hSi hs11)) rfl kL_airflow lL_247 rfl rfl ⟨by decide, by decide⟩ (Nat.le_of_ble_eq_true rfl) rfl rfl (by show _ ≤ (1349 : Nat); omega) (by show _ ≤ (29982 : Nat); omega) ?_
    refine zv_callSP (n := 244) (As := [.float (fAir (S nw) (nI s9))]) (rest := [.long (31 * v)]) (kc' := ((366 + s9) + 1)) (ks' := ((10260 + 6 * s9) + 6)) dL_asks_241 rfl (c_fBits _) rfl kJxf58ca_floatToIntBits_5c35a lL_206 rfl rfl ⟨by decide, by decide⟩ (Nat.le_of_ble_eq_true rfl) rfl rfl (by show _ ≤ (1349 : Nat); omega) (by show _ ≤ (29982 : Nat); omega) ?_
    refine zv_i2l (n := 245) dL_asks_244 rfl ?_
    refine zv_ladd (n := 246) dL_asks_245 rfl ?_
    refine zv_lstore_n (n := 247) (lv' := [(2, .long ((31 * v) + ((fFB (fAir (S nw) (nI s9))).toInt64))), (4, .int (nI s9)), (0, .ref (b 0)), (1, .int ((S nw) 0))]) dL_asks_246 rfl (by decide) rfl ?_
    refine zv_iinc (n := 250) (v := nI (s9 + 1)) (lv' := [(4, .int (nI (s9 + 1))), (2, .long ((31 * v) + ((fFB (fAir (S nw) (nI s9))).toInt64))), (0, .ref (b 0)), (1, .int ((S nw) 0))]) dL_asks_247 rfl rfl (nI_1 s9) (by decide) rfl ?_
    refine zv_goto (tgt := 223) dL_asks_250 (by decide) ?_
    refine zv_lvs (lv' := [(4, .int (nI (s9 + 1))), (2, .long ((31 * v) + ((fFB (fAir (S nw) (nI s9))).toInt64))), (0, .ref (b 0)), (1, .int ((S nw) 0))]) ⟨rfl, rfl, rfl, rfl, trivial⟩ ?_
    refine zv_wide (kc' := 366 + (s9 + 1)) (ks' := 10260 + 6 * (s9 + 1)) (by omega) (by omega) ?_
    exact ih (s9 + 1) _ (by omega) kk

set_option maxRecDepth 100000 in
set_option maxHeartbeats 4000000 in
theorem l_asksR {σ : zSg} {Z : Nat → Prop} {b : Nat → Nat} {C : Nat → Nat → Nat} {S : Nat → zS} {nw un : Nat} {hs ea fa : Int32} {t : Nat → Nat} {n : Nat} {Q : zO → zM → Prop} {M0 : zM} (hO : zOk (S nw)) : ∀ (l r : Nat) (v : Int64) (M : zM) (u : Nat → Nat) (k : Nat), r + l = fCnt (S nw) → zPl M Z b C S nw un hs ea fa t n u k → (0 < r → k ≤ 40) → zKe M0 M Z → (∀ M' u' k', zPl M' Z b C S nw un hs ea fa t n u' k' → (0 < fCnt (S nw) → k' ≤ 40) → zKe M0 M' Z → zV μL_asks (9, 1349, 29982) σ Q M' 1349 29982 335 [(2, .long (fA4 (S nw) l r v)), (0, .ref (b 0)), (1, .int ((S nw) 0))] []) → zV μL_asks (9, 1349, 29982) σ Q M (377 + 81 * r) (10326 + 1638 * r) 256 [(4, .int (nI r)), (2, .long v), (0, .ref (b 0)), (1, .int ((S nw) 0))] [] := by
  have h12 := hO.1.2
  have hc0 : (S nw) 0 = nI (fCnt (S nw)) := hO.1.1
  intro l
  induction l with
  | zero =>
    intro r v M u k hl hP h40 hz kk
    obtain rfl : r = fCnt (S nw) := by omega
    refine zv_iload (n := 258) dL_asks_256 rfl rfl ?_
    refine zv_iload_n (n := 259) dL_asks_258 rfl rfl ?_
    refine zv_icmp_ge (n := 262) (tgt := 335) dL_asks_259 (by decide) rfl (fun h259 => ?_) (fun h259 => False.elim (h259 (by rw [hc0]; exact Int32.le_refl _)))
    refine zv_lvs (lv' := [(2, .long v), (0, .ref (b 0)), (1, .int ((S nw) 0))]) ⟨rfl, rfl, rfl, trivial⟩ ?_
    exact zv_wide (by omega) (by omega) (kk M u k hP h40 hz)
  | succ l ih =>
    intro r v M u k hl hP h40 hz kk
    have hr : r < fCnt (S nw) := by omega
    refine zv_iload (n := 258) dL_asks_256 rfl rfl ?_
    refine zv_iload_n (n := 259) dL_asks_258 rfl rfl ?_
    refine zv_icmp_ge (n := 262) (tgt := 335) dL_asks_259 (by decide) rfl (fun h259 => False.elim (absurd h259 (by rw [hc0]; exact nI_ge hr (by omega)))) (fun h259 => ?_)
    refine zv_ldc2 (n := 265) dL_asks_262 rfl qL_191 ?_
    refine zv_ldc2 (n := 268) dL_asks_265 rfl qL_191 ?_
    refine zv_lload_n (n := 269) dL_asks_268 rfl rfl ?_
    refine zv_lmul (n := 270) dL_asks_269 rfl ?_
    refine zv_aload_n (n := 271) dL_asks_270 rfl rfl ?_
    refine zv_iload (n := 273) dL_asks_271 rfl rfl ?_
    refine zv_callSXF (n := 276) (As := [.ref (b 0), .int (nI r)]) (rest := [.long (31 * v), .long 31]) (kc' := ((377 + 81 * r) + 1)) (ks' := ((10326 + 1638 * r) + 6)) dL_asks_273 rfl (c_L_byTemp hP (nI r)) rfl kL_byTemperature lL_250 rfl rfl ⟨by decide, by decide⟩ (Nat.le_of_ble_eq_true rfl) rfl rfl (by show _ ≤ (1349 : Nat); omega) (by show _ ≤ (29982 : Nat); omega) (fun M1 hq => ?_)
    obtain ⟨hP1, hz1⟩ := hq
    refine zv_i2l (n := 277) dL_asks_276 rfl ?_
    refine zv_ladd (n := 278) dL_asks_277 rfl ?_
    refine zv_lmul (n := 279) dL_asks_278 rfl ?_
    refine zv_aload_n (n := 280) dL_asks_279 rfl rfl ?_
    refine zv_iload (n := 282) dL_asks_280 rfl rfl ?_
    refine zv_callSXP (n := 285) (As := [.ref (b 0), .int (nI r)]) (rest := [.long (31 * ((31 * v) + ((fBr (S nw) (nI r)).toInt64)))]) (kc' := (((377 + 81 * r) + 1) + 1)) (ks' := (((10326 + 1638 * r) + 6) + 6)) dL_asks_282 rfl (c_L_temperature hP1 hr) rfl kL_temperature lL_253 rfl rfl ⟨by decide, by decide⟩ (Nat.le_of_ble_eq_true rfl) rfl rfl (by show _ ≤ (1349 : Nat); omega) (by show _ ≤ (29982 : Nat); omega) ?_
    refine zv_callSP (n := 288) (As := [.float (fTmp (S nw) r)]) (rest := [.long (31 * ((31 * v) + ((fBr (S nw) (nI r)).toInt64)))]) (kc' := (((377 + 81 * r) + 1) + 1)) (ks' := (((10326 + 1638 * r) + 6) + 6)) dL_asks_285 rfl (c_fBits _) rfl kJxf58ca_floatToIntBits_5c35a lL_206 rfl rfl ⟨by decide, by decide⟩ (Nat.le_of_ble_eq_true rfl) rfl rfl (by show _ ≤ (1349 : Nat); omega) (by show _ ≤ (29982 : Nat); omega) ?_
    refine zv_i2l (n := 289) dL_asks_288 rfl ?_
    refine zv_ladd (n := 290) dL_asks_289 rfl ?_
    refine zv_lstore_n (n := 291) (lv' := [(2, .long ((31 * ((31 * v) + ((fBr (S nw) (nI r)).toInt64))) + ((fFB (fTmp (S nw) r)).toInt64))), (4, .int (nI r)), (0, .ref (b 0)), (1, .int ((S nw) 0))]) dL_asks_290 rfl (by decide) rfl ?_
    change zV _ _ _ _ _ _ _ _ [(2, .long (fA4v (S nw) r v)), (4, .int (nI r)), (0, .ref (b 0)), (1, .int ((S nw) 0))] []
    refine zv_aload_n (n := 292) dL_asks_291 rfl rfl ?_
    refine zv_iload (n := 294) dL_asks_292 rfl rfl ?_
    refine zv_callSXF (n := 297) (As := [.ref (b 0), .int (nI r)]) (rest := []) (kc' := ((((377 + 81 * r) + 1) + 1) + 9)) (ks' := ((((10326 + 1638 * r) + 6) + 6) + 1206)) dL_asks_294 rfl (c_L_renderRack hP1 hr) rfl kL_renderRack lL_255 rfl rfl ⟨by decide, by decide⟩ (Nat.le_of_ble_eq_true rfl) rfl rfl (by show _ ≤ (1349 : Nat); omega) (by show _ ≤ (29982 : Nat); omega) (fun M2 hq => ?_)
    obtain ⟨hP2, hz2⟩ := hq
    refine zv_istore (n := 299) (lv' := [(5, .int (nI (fTxR (S nw) r).2)), (2, .long (fA4v (S nw) r v)), (4, .int (nI r)), (0, .ref (b 0)), (1, .int ((S nw) 0))]) dL_asks_297 rfl (by decide) rfl ?_
    refine zv_iconst (n := 300) dL_asks_299 rfl (v := 0) (by decide) ?_
    refine zv_istore (n := 302) (lv' := [(6, .int 0), (5, .int (nI (fTxR (S nw) r).2)), (2, .long (fA4v (S nw) r v)), (4, .int (nI r)), (0, .ref (b 0)), (1, .int ((S nw) 0))]) dL_asks_300 rfl (by decide) rfl ?_
    refine zv_lvs (lv' := [(6, .int 0), (2, .long (fA4v (S nw) r v)), (0, .ref (b 0)), (1, .int ((S nw) 0)), (4, .int (nI r)), (5, .int (nI (fTxR (S nw) r).2))]) ⟨rfl, rfl, rfl, rfl, rfl, rfl, trivial⟩ ?_
    refine zv_wide (kc' := (377 + 81 * r + 11) + 0) (ks' := (10326 + 1638 * r + 1218) + 6 * 0) (by omega) (by omega) ?_
    refine l_asksT4 (by omega) (by omega) hP2 (fTxR (S nw) r).2 0 (fA4v (S nw) r v) (Nat.zero_add _) ?_
    refine zv_iinc (n := 332) (v := nI (r + 1)) (lv' := [(4, .int (nI (r + 1))), (6, .int (nI (fTxR (S nw) r).2)), (2, .long (fA2 (fTxR (S nw) r).1 (fTxR (S nw) r).2 0 (fA4v (S nw) r v))), (0, .ref (b 0)), (1, .int ((S nw) 0)), (5, .int (nI (fTxR (S nw) r).2))]) dL_asks_329 rfl rfl (nI_1 r) (by decide) rfl ?_
    refine zv_goto (tgt := 256) dL_asks_332 (by decide) ?_
    refine zv_lvs (lv' := [(4, .int (nI (r + 1))), (2, .long (fA2 (fTxR (S nw) r).1 (fTxR (S nw) r).2 0 (fA4v (S nw) r v))), (0, .ref (b 0)), (1, .int ((S nw) 0))]) ⟨rfl, rfl, rfl, rfl, trivial⟩ ?_
    refine zv_wide (kc' := 377 + 81 * (r + 1)) (ks' := 10326 + 1638 * (r + 1)) (by omega) (by omega) ?_
    exact ih (r + 1) _ _ _ _ (by omega) hP2 (fun _ => fTxR_le hO hr) ((hz.tr hz1).tr hz2) kk

set_option maxRecDepth 100000 in
set_option maxHeartbeats 4000000 in
theorem c_asks {σ : zSg} {M : zM} {Z : Nat → Prop} {b : Nat → Nat} {C : Nat → Nat → Nat} {S : Nat → zS} {nw un : Nat} {hs ea fa : Int32} {t : Nat → Nat} {n : Nat} {u : Nat → Nat} {k : Nat} (hP : zPl M Z b C S nw un hs ea fa t n u k) : zCon μL_asks (9, 1349, 29982) σ [.ref (b 0)] M (zF (some (.long (fAsk (S nw)))) (fun M' => (∃ u' k', zPl M' Z b C S nw un hs ea fa t n u' k' ∧ (0 < fCnt (S nw) → k' ≤ 40)) ∧ zKe M M' Z)) := by
  have hnw : nw < 10 := hP.2.1.1
  have hO := hP.1.ok (i := nw) (by omega)
  refine zCon.of (plainFor_of_name (by decide)) rfl (Nat.le_of_ble_eq_true rfl) ?_
  change zV _ _ _ _ _ 0 0 0 [(0, .ref (b 0))] []
  refine zv_aload_n (n := 1) dL_asks_0 rfl rfl ?_
  refine zv_callVP (n := 4) (As := []) (rest := []) (kc' := 0) (ks' := 0) dL_asks_1 rfl (c_X8_rackCount hP) rfl kX8_rackCount lL_188 hP.2.2.1 rfl rfl rfl ⟨by decide, by decide⟩ (Nat.le_of_ble_eq_true rfl) rfl rfl (by show _ ≤ (1349 : Nat); omega) (by show _ ≤ (29982 : Nat); omega) ?_
  refine zv_istore_n (n := 5) (lv' := [(1, .int ((S nw) 0)), (0, .ref (b 0))]) dL_asks_4 rfl (by decide) rfl ?_
  refine zv_ldc2 (n := 8) dL_asks_5 rfl qL_191 ?_
  refine zv_aload_n (n := 9) dL_asks_8 rfl rfl ?_
  refine zv_callSXP (n := 12) (As := [.ref (b 0)]) (rest := [.long 31]) (kc' := 1) (ks' := 6) dL_asks_9 rfl (c_L_mean hP) rfl kL_mean lL_193 rfl rfl ⟨by decide, by decide⟩ (Nat.le_of_ble_eq_true rfl) rfl rfl (by show _ ≤ (1349 : Nat); omega) (by show _ ≤ (29982 : Nat); omega) ?_
  refine zv_callSP (n := 15) (As := [.double (fMn (S nw))]) (rest := [.long 31]) (kc' := 1) (ks' := 6) dL_asks_12 rfl (c_dBits _) rfl kJxe99ae_doubleToLongBits_ccdee lL_197 rfl rfl ⟨by decide, by decide⟩ (Nat.le_of_ble_eq_true rfl) rfl rfl (by show _ ≤ (1349 : Nat); omega) (by show _ ≤ (29982 : Nat); omega) ?_
  refine zv_lmul (n := 16) dL_asks_15 rfl ?_
  refine zv_aload_n (n := 17) dL_asks_16 rfl rfl ?_
  refine zv_callSXP (n := 20) (As := [.ref (b 0)]) (rest := [.long (31 * (fDB (fMn (S nw))))]) (kc' := 2) (ks' := 12) dL_asks_17 rfl (c_L_hotShare hP) rfl kL_hotShare lL_203 rfl rfl ⟨by decide, by decide⟩ (Nat.le_of_ble_eq_true rfl) rfl rfl (by show _ ≤ (1349 : Nat); omega) (by show _ ≤ (29982 : Nat); omega) ?_
  refine zv_callSP (n := 23) (As := [.float (fHs (S nw))]) (rest := [.long (31 * (fDB (fMn (S nw))))]) (kc' := 2) (ks' := 12) dL_asks_20 rfl (c_fBits _) rfl kJxf58ca_floatToIntBits_5c35a lL_206 rfl rfl ⟨by decide, by decide⟩ (Nat.le_of_ble_eq_true rfl) rfl rfl (by show _ ≤ (1349 : Nat); omega) (by show _ ≤ (29982 : Nat); omega) ?_
  refine zv_i2l (n := 24) dL_asks_23 rfl ?_
  refine zv_ladd (n := 25) dL_asks_24 rfl ?_
  refine zv_lstore_n (n := 26) (lv' := [(2, .long ((31 * (fDB (fMn (S nw)))) + ((fFB (fHs (S nw))).toInt64))), (1, .int ((S nw) 0)), (0, .ref (b 0))]) dL_asks_25 rfl (by decide) rfl ?_
  refine zv_ldc2 (n := 29) dL_asks_26 rfl qL_191 ?_
  refine zv_ldc2 (n := 32) dL_asks_29 rfl qL_191 ?_
  refine zv_ldc2 (n := 35) dL_asks_32 rfl qL_191 ?_
  refine zv_ldc2 (n := 38) dL_asks_35 rfl qL_191 ?_
  refine zv_ldc2 (n := 41) dL_asks_38 rfl qL_191 ?_
  refine zv_lload_n (n := 42) dL_asks_41 rfl rfl ?_
  refine zv_lmul (n := 43) dL_asks_42 rfl ?_
  refine zv_iload_n (n := 44) dL_asks_43 rfl rfl ?_
  refine zv_i2l (n := 45) dL_asks_44 rfl ?_
  refine zv_ladd (n := 46) dL_asks_45 rfl ?_
  refine zv_lmul (n := 47) dL_asks_46 rfl ?_
  refine zv_aload_n (n := 48) dL_asks_47 rfl rfl ?_
  refine zv_callVP (n := 51) (As := []) (rest := [.long (31 * ((31 * ((31 * (fDB (fMn (S nw)))) + ((fFB (fHs (S nw))).toInt64))) + (((S nw) 0).toInt64))), .long 31, .long 31, .long 31]) (kc' := 2) (ks' := 12) dL_asks_48 rfl (c_X8_limit hP) rfl kX8_limit lL_212 hP.2.2.1 rfl rfl rfl ⟨by decide, by decide⟩ (Nat.le_of_ble_eq_true rfl) rfl rfl (by show _ ≤ (1349 : Nat); omega) (by show _ ≤ (29982 : Nat); omega) ?_
  refine zv_i2l (n := 52) dL_asks_51 rfl ?_
  refine zv_ladd (n := 53) dL_asks_52 rfl ?_
  refine zv_lmul (n := 54) dL_asks_53 rfl ?_
  refine zv_aload_n (n := 55) dL_asks_54 rfl rfl ?_
  refine zv_callVP (n := 58) (As := []) (rest := [.long (31 * ((31 * ((31 * ((31 * (fDB (fMn (S nw)))) + ((fFB (fHs (S nw))).toInt64))) + (((S nw) 0).toInt64))) + (((S nw) 48).toInt64))), .long 31, .long 31]) (kc' := 2) (ks' := 12) dL_asks_55 rfl (c_X8_minute hP) rfl kX8_minute lL_215 hP.2.2.1 rfl rfl rfl ⟨by decide, by decide⟩ (Nat.le_of_ble_eq_true rfl) rfl rfl (by show _ ≤ (1349 : Nat); omega) (by show _ ≤ (29982 : Nat); omega) ?_
  refine zv_i2l (n := 59) dL_asks_58 rfl ?_
  refine zv_ladd (n := 60) dL_asks_59 rfl ?_
  refine zv_lmul (n := 61) dL_asks_60 rfl ?_
  refine zv_aload_n (n := 62) dL_asks_61 rfl rfl ?_
  refine zv_callVP (n := 65) (As := []) (rest := [.long (31 * ((31 * ((31 * ((31 * ((31 * (fDB (fMn (S nw)))) + ((fFB (fHs (S nw))).toInt64))) + (((S nw) 0).toInt64))) + (((S nw) 48).toInt64))) + (((S nw) 49).toInt64))), .long 31]) (kc' := 2) (ks' := 12) dL_asks_62 rfl (c_X8_madeTotal hP) rfl kX8_madeTotal lL_218 hP.2.2.1 rfl rfl rfl ⟨by decide, by decide⟩ (Nat.le_of_ble_eq_true rfl) rfl rfl (by show _ ≤ (1349 : Nat); omega) (by show _ ≤ (29982 : Nat); omega) ?_
  refine zv_i2l (n := 66) dL_asks_65 rfl ?_
  refine zv_ladd (n := 67) dL_asks_66 rfl ?_
  refine zv_lmul (n := 68) dL_asks_67 rfl ?_
  refine zv_aload_n (n := 69) dL_asks_68 rfl rfl ?_
  refine zv_callVP (n := 72) (As := []) (rest := [.long (31 * ((31 * ((31 * ((31 * ((31 * ((31 * (fDB (fMn (S nw)))) + ((fFB (fHs (S nw))).toInt64))) + (((S nw) 0).toInt64))) + (((S nw) 48).toInt64))) + (((S nw) 49).toInt64))) + (((S nw) 50).toInt64)))]) (kc' := 2) (ks' := 12) dL_asks_69 rfl (c_X8_carriedTotal hP) rfl kX8_carriedTotal lL_221 hP.2.2.1 rfl rfl rfl ⟨by decide, by decide⟩ (Nat.le_of_ble_eq_true rfl) rfl rfl (by show _ ≤ (1349 : Nat); omega) (by show _ ≤ (29982 : Nat); omega) ?_
  refine zv_i2l (n := 73) dL_asks_72 rfl ?_
  refine zv_ladd (n := 74) dL_asks_73 rfl ?_
  refine zv_lstore_n (n := 75) (lv' := [(2, .long ((31 * ((31 * ((31 * ((31 * ((31 * ((31 * (fDB (fMn (S nw)))) + ((fFB (fHs (S nw))).toInt64))) + (((S nw) 0).toInt64))) + (((S nw) 48).toInt64))) + (((S nw) 49).toInt64))) + (((S nw) 50).toInt64))) + (((S nw) 51).toInt64))), (1, .int ((S nw) 0)), (0, .ref (b 0))]) dL_asks_74 rfl (by decide) rfl ?_
  refine zv_ldc2 (n := 78) dL_asks_75 rfl qL_191 ?_
  refine zv_ldc2 (n := 81) dL_asks_78 rfl qL_191 ?_
  refine zv_lload_n (n := 82) dL_asks_81 rfl rfl ?_
  refine zv_lmul (n := 83) dL_asks_82 rfl ?_
  refine zv_aload_n (n := 84) dL_asks_83 rfl rfl ?_
  refine zv_callVP (n := 87) (As := []) (rest := [.long (31 * ((31 * ((31 * ((31 * ((31 * ((31 * ((31 * (fDB (fMn (S nw)))) + ((fFB (fHs (S nw))).toInt64))) + (((S nw) 0).toInt64))) + (((S nw) 48).toInt64))) + (((S nw) 49).toInt64))) + (((S nw) 50).toInt64))) + (((S nw) 51).toInt64))), .long 31]) (kc' := 2) (ks' := 12) dL_asks_84 rfl (c_X8_energyTotal hP) rfl kX8_energyTotal lL_224 hP.2.2.1 rfl rfl rfl ⟨by decide, by decide⟩ (Nat.le_of_ble_eq_true rfl) rfl rfl (by show _ ≤ (1349 : Nat); omega) (by show _ ≤ (29982 : Nat); omega) ?_
  refine zv_i2l (n := 88) dL_asks_87 rfl ?_
  refine zv_ladd (n := 89) dL_asks_88 rfl ?_
  refine zv_lmul (n := 90) dL_asks_89 rfl ?_
  refine zv_aload_n (n := 91) dL_asks_90 rfl rfl ?_
  refine zv_callVP (n := 94) (As := []) (rest := [.long (31 * ((31 * ((31 * ((31 * ((31 * ((31 * ((31 * ((31 * (fDB (fMn (S nw)))) + ((fFB (fHs (S nw))).toInt64))) + (((S nw) 0).toInt64))) + (((S nw) 48).toInt64))) + (((S nw) 49).toInt64))) + (((S nw) 50).toInt64))) + (((S nw) 51).toInt64))) + (((S nw) 52).toInt64)))]) (kc' := 2) (ks' := 12) dL_asks_91 rfl (c_X8_hotSpots hP) rfl kX8_hotSpots lL_227 hP.2.2.1 rfl rfl rfl ⟨by decide, by decide⟩ (Nat.le_of_ble_eq_true rfl) rfl rfl (by show _ ≤ (1349 : Nat); omega) (by show _ ≤ (29982 : Nat); omega) ?_
  refine zv_i2l (n := 95) dL_asks_94 rfl ?_
  refine zv_ladd (n := 96) dL_asks_95 rfl ?_
  refine zv_lstore_n (n := 97) (lv' := [(2, .long ((31 * ((31 * ((31 * ((31 * ((31 * ((31 * ((31 * ((31 * (fDB (fMn (S nw)))) + ((fFB (fHs (S nw))).toInt64))) + (((S nw) 0).toInt64))) + (((S nw) 48).toInt64))) + (((S nw) 49).toInt64))) + (((S nw) 50).toInt64))) + (((S nw) 51).toInt64))) + (((S nw) 52).toInt64))) + ((nI (fHts (S nw))).toInt64))), (1, .int ((S nw) 0)), (0, .ref (b 0))]) dL_asks_96 rfl (by decide) rfl ?_
  change zV _ _ _ _ _ _ _ _ [(2, .long (fA0 (S nw))), (1, .int ((S nw) 0)), (0, .ref (b 0))] []
  refine zv_iconst (n := 98) dL_asks_97 rfl (v := 0) (by decide) ?_
  refine zv_istore (n := 100) (lv' := [(4, .int 0), (2, .long (fA0 (S nw))), (1, .int ((S nw) 0)), (0, .ref (b 0))]) dL_asks_98 rfl (by decide) rfl ?_
  refine zv_lvs (lv' := [(4, .int 0), (2, .long (fA0 (S nw))), (0, .ref (b 0)), (1, .int ((S nw) 0))]) ⟨rfl, rfl, rfl, rfl, trivial⟩ ?_
  refine l_asksA 4 0 (fA0 (S nw)) M u k rfl hP zKe.rf (fun M1 u1 k1 hP1 hz1 => ?_)
  refine zv_iconst (n := 221) dL_asks_220 rfl (v := 0) (by decide) ?_
  refine zv_istore (n := 223) (lv' := [(4, .int 0), (2, .long (fA1 (S nw) 4 0 (fA0 (S nw)))), (0, .ref (b 0)), (1, .int ((S nw) 0))]) dL_asks_221 rfl (by decide) rfl ?_
  refine zv_lvs (lv' := [(4, .int 0), (2, .long (fA1 (S nw) 4 0 (fA0 (S nw)))), (0, .ref (b 0)), (1, .int ((S nw) 0))]) ⟨rfl, rfl, rfl, rfl, trivial⟩ ?_
  refine l_asksS hP1 11 0 _ rfl ?_
  refine zv_iconst (n := 254) dL_asks_253 rfl (v := 0) (by decide) ?_
  refine zv_istore (n := 256) (lv' := [(4, .int 0), (2, .long (fA3 (S nw) 11 0 (fA1 (S nw) 4 0 (fA0 (S nw))))), (0, .ref (b 0)), (1, .int ((S nw) 0))]) dL_asks_254 rfl (by decide) rfl ?_
  refine zv_lvs (lv' := [(4, .int 0), (2, .long (fA3 (S nw) 11 0 (fA1 (S nw) 4 0 (fA0 (S nw))))), (0, .ref (b 0)), (1, .int ((S nw) 0))]) ⟨rfl, rfl, rfl, rfl, trivial⟩ ?_
  refine l_asksR hO (fCnt (S nw)) 0 _ M1 u1 k1 (Nat.zero_add _) hP1 (fun h => absurd h (Nat.lt_irrefl 0)) hz1 (fun M2 u2 k2 hP2 h40 hz2 => ?_)
  change zV _ _ _ _ _ _ _ _ [(2, .long (fAsk (S nw))), (0, .ref (b 0)), (1, .int ((S nw) 0))] []
  refine zv_lload_n (n := 336) dL_asks_335 rfl rfl ?_
  refine zv_lret dL_asks_336 rfl (by decide) (by decide) ?_
  exact ⟨rfl, ⟨u2, k2, hP2, h40⟩, hz2⟩

theorem c_V_asks {σ : zSg} {M : zM} {Z : Nat → Prop} {b : Nat → Nat} {C : Nat → Nat → Nat} {P : zS} {U : List zS} {X : Option zS} {ea fa : Int32} {t : Nat → Nat} {n : Nat} {u : Nat → Nat} {k : Nat} (hV : zVw M Z b C P U X ea fa t n u k) : zCon μL_asks (9, 1349, 29982) σ [.ref (b 0)] M (zF (some (.long (fAsk P))) (fun M' => (∃ u' k', zVw M' Z b C P U X ea fa t n u' k' ∧ (0 < fCnt P → k' ≤ 40)) ∧ zKe M M' Z)) := by
  obtain ⟨S, nw, un, hs, hP, ho, rfl, rfl, rfl⟩ := hV
  refine (c_asks hP).post (fun o M' h => ?_)
  obtain ⟨e, ⟨u', k', h1, h2⟩, h3⟩ := h
  exact ⟨e, ⟨u', k', ⟨S, nw, un, hs, h1, ho, rfl, rfl, rfl⟩, h2⟩, h3⟩


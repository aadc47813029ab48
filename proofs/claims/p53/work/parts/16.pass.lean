/-! Minutes that pass, counts, needed speeds: laid by wip/p53/m16.py. -/
def zlvs : List (Nat × Value) → List (Nat × Value) → Prop
  | [], _ => True
  | q :: t, lv => zget lv q.1 = some q.2 ∧ zlvs t lv
theorem zlvs_m {lv : List (Nat × Value)} : ∀ {t : List (Nat × Value)}, zlvs t lv → ∀ q ∈ t, zget lv q.1 = some q.2
  | [], _, _, hq => nomatch hq
  | r :: t, h, q, hq => by
    rcases List.mem_cons.mp hq with e | e
    · rw [e]; exact h.1
    · exact zlvs_m h.2 q e
theorem zv_lvs {μ : zMeth} {R : zRoom} {σ : zSg} {Q : zO → zM → Prop} {M : zM} {kc ks pc : Nat} {lv lv' : List (Nat × Value)} {rest : List Value} (h : zlvs lv' lv) (k : zV μ R σ Q M kc ks pc lv' rest) : zV μ R σ Q M kc ks pc lv rest := zv_lv (zlvs_m h) k
def fCb (b : Nat → Bool) : Nat → Nat
  | 0 => 0
  | k + 1 => fCb b k + (if b k = true then 1 else 0)
theorem fCb_le (b : Nat → Bool) : ∀ k, fCb b k ≤ k
  | 0 => Nat.le_refl _
  | k + 1 => by
    have := fCb_le b k
    rw [fCb]
    split <;> omega
theorem fCb_lt {b : Nat → Bool} {i : Nat} (hb : b i = false) : ∀ k, i < k → fCb b k < k := by
  intro k
  induction k with
  | zero => intro h; omega
  | succ k ih =>
    intro h
    rw [fCb]
    by_cases e : i = k
    · subst e
      rw [hb, if_neg (by decide)]
      have := fCb_le b i
      omega
    · have := ih (by omega)
      split <;> omega
/-- the first that holds -/
def fFst (p : Nat → Bool) : Nat → Nat → Int32
  | 0, _ => -1
  | k + 1, i => if p i = true then nI i else fFst p k (i + 1)
def fLft (u k : Int32) : Int32 := u - fMin u k
def fPs1 (h k v u : Int32) (S : zS) : zS := upd (upd (upd S 50 (S 50 + h)) 51 (S 51 + (u + h - fLft (u + h) k))) 52 (S 52 + v * v * v)
def fPsF (h k v : Int32) : Nat → Int32 → zS → Int32 × zS
  | 0, u, S => (u, S)
  | n + 1, u, S => fPsF h k v n (fLft (u + h) k) (fPs1 h k v u S)
def fPsR (S : zS) (j n : Nat) : Int32 × zS := fPsF (fHeat S (nI j)) (FP.f2i (fAir S (fSpd S (nI j)))) (fSpd S (nI j)) n (fSto S (nI j)) S
def fPsI (S : zS) (j n : Nat) : zS := upd (fPsR S j n).2 (44 + j) (fPsR S j n).1
def fPs4 (S : zS) (n : Nat) : zS := fPsI (fPsI (fPsI (fPsI S 0 n) 1 n) 2 n) 3 n
def fPas (S : zS) (m : Int32) : Int32 × zS := if fBt m 1 60 = false then (-2, S) else (m, upd (fPs4 S m.toNatClampNeg) 49 (fPs4 S m.toNatClampNeg 49 + m))
theorem fPs1_n {h k v u : Int32} {S : zS} {i : Nat} (hi : i < 50) : fPs1 h k v u S i = S i := by
  unfold fPs1
  rw [u_n (by omega), u_n (by omega), u_n (by omega)]
theorem fPsF_n {h k v : Int32} {i : Nat} (hi : i < 50) : ∀ (n : Nat) (u : Int32) (S : zS), (fPsF h k v n u S).2 i = S i := by
  intro n
  induction n with
  | zero => intro u S; rfl
  | succ n ih => intro u S; rw [fPsF, ih, fPs1_n hi]
theorem fPsI_n {S : zS} {j n i : Nat} (hj : j < 4) (hi : i < 44) : fPsI S j n i = S i := by
  unfold fPsI
  rw [u_n (by omega)]
  exact fPsF_n (by omega) _ _ _
theorem zNn_eq {S T : zS} (h : zNn S) (e : T 0 = S 0) : zNn T := by
  unfold zNn fCnt at h ⊢
  rw [e]
  exact h

set_option maxRecDepth 100000 in
set_option maxHeartbeats 4000000 in
theorem c_X1_leftOver {σ : zSg} {M : zM} (u k : Int32) : zCon μX1_leftOver (2, 0, 0) σ [.int u, .int k] M (zP (some (.int (fLft u k))) M) := by
  refine zCon.of (plainFor_of_name (by decide)) rfl (Nat.le_of_ble_eq_true rfl) ?_
  change zV _ _ _ _ _ 0 0 0 [(0, .int u), (1, .int k)] []
  refine zv_iload_n (n := 1) dX1_leftOver_0 rfl rfl ?_
  refine zv_iload_n (n := 2) dX1_leftOver_1 rfl rfl ?_
  refine zv_iload_n (n := 3) dX1_leftOver_2 rfl rfl ?_
  refine zv_callSP (n := 6) (As := [.int u, .int k]) (rest := [.int u]) (kc' := 0) (ks' := 0) dX1_leftOver_3 rfl (c_min u k) rfl kJ9_min_7cf53 lX1_134 rfl rfl ⟨by decide, by decide⟩ (Nat.le_of_ble_eq_true rfl) rfl rfl (by decide) (by decide) ?_
  refine zv_isub (n := 7) dX1_leftOver_6 rfl ?_
  refine zv_iret dX1_leftOver_7 rfl (by decide) (by decide) ?_
  exact zPi

set_option maxRecDepth 100000 in
set_option maxHeartbeats 4000000 in
theorem l_X1_passIn {σ : zSg} {c : Nat → Nat} {h k v a : Int32} {n : Nat} (hn : n ≤ 60) : ∀ (d i : Nat) (M : zM) (S : zS) (u : Int32) (Q : zO → zM → Prop), zCen M c S → i + d = n → (∀ M', zCen M' c (fPsF h k v d u S).2 → zOff M M' c → zV μX1_passIn (3, 0, 0) σ Q M' 0 0 114 [(6, .int (fPsF h k v d u S).1), (0, .ref (c 0)), (1, .int a)] []) → zV μX1_passIn (3, 0, 0) σ Q M 0 0 44 [(7, .int (nI i)), (6, .int u), (5, .int k), (4, .int v), (3, .int h), (0, .ref (c 0)), (1, .int a), (2, .int (nI n))] [] := by
  intro d
  induction d with
  | zero =>
    intro i M S u Q hC hi hQ
    refine zv_iload (n := 46) dX1_passIn_44 rfl rfl ?_
    refine zv_iload_n (n := 47) dX1_passIn_46 rfl rfl ?_
    refine zv_icmp_ge (n := 50) (tgt := 114) dX1_passIn_47 (by decide) rfl (fun h47 => ?_) (fun h47 => False.elim (absurd (nI_le (by omega) (by omega)) h47))
    refine zv_lvs (lv' := [(6, .int u), (0, .ref (c 0)), (1, .int a)]) ⟨rfl, rfl, rfl, trivial⟩ ?_
    exact hQ M hC zOff.rf
  | succ d ih =>
    intro i M S u Q hC hi hQ
    refine zv_iload (n := 46) dX1_passIn_44 rfl rfl ?_
    refine zv_iload_n (n := 47) dX1_passIn_46 rfl rfl ?_
    refine zv_icmp_ge (n := 50) (tgt := 114) dX1_passIn_47 (by decide) rfl (fun h47 => False.elim (absurd h47 (nI_ge (by omega) (by omega)))) (fun h47 => ?_)
    refine zv_iload (n := 52) dX1_passIn_50 rfl rfl ?_
    refine zv_iload_n (n := 53) dX1_passIn_52 rfl rfl ?_
    refine zv_iadd (n := 54) dX1_passIn_53 rfl ?_
    refine zv_iload (n := 56) dX1_passIn_54 rfl rfl ?_
    refine zv_callSP (n := 59) (As := [.int (u + h), .int k]) (rest := []) (kc' := 0) (ks' := 0) dX1_passIn_56 rfl (c_X1_leftOver (u + h) k) rfl kX1_leftOver lX1_127 rfl rfl ⟨by decide, by decide⟩ (Nat.le_of_ble_eq_true rfl) rfl rfl (by decide) (by decide) ?_
    refine zv_istore (n := 61) (lv' := [(8, .int (fLft (u + h) k)), (7, .int (nI i)), (6, .int u), (5, .int k), (4, .int v), (3, .int h), (0, .ref (c 0)), (1, .int a), (2, .int (nI n))]) dX1_passIn_59 rfl (by decide) rfl ?_
    refine zv_aload_n (n := 62) dX1_passIn_61 rfl rfl ?_
    refine zv_dup (n := 63) dX1_passIn_62 rfl rfl ?_
    refine zv_get (n := 66) dX1_passIn_63 rfl hC.c0 FX1_51 rfl ?_
    refine zv_iload_n (n := 67) dX1_passIn_66 rfl rfl ?_
    refine zv_iadd (n := 68) dX1_passIn_67 rfl ?_
    refine zv_put (n := 71) dX1_passIn_68 rfl hC.c0 FX1_51 zcl_X1 zty_X1_5 rfl rfl (Nat.le_of_ble_eq_true rfl) ?_
    have hC1 := hC.put0 (k := 5) (by decide) (by decide) (S 50 + h)
    refine zv_aload_n (n := 72) dX1_passIn_71 rfl rfl ?_
    refine zv_dup (n := 73) dX1_passIn_72 rfl rfl ?_
    refine zv_get (n := 76) dX1_passIn_73 rfl hC1.c0 FX1_54 rfl ?_
    refine zv_iload (n := 78) dX1_passIn_76 rfl rfl ?_
    refine zv_iload_n (n := 79) dX1_passIn_78 rfl rfl ?_
    refine zv_iadd (n := 80) dX1_passIn_79 rfl ?_
    refine zv_iload (n := 82) dX1_passIn_80 rfl rfl ?_
    refine zv_isub (n := 83) dX1_passIn_82 rfl ?_
    refine zv_iadd (n := 84) dX1_passIn_83 rfl ?_
    refine zv_put (n := 87) dX1_passIn_84 rfl hC1.c0 FX1_54 zcl_X1 zty_X1_6 rfl rfl (Nat.le_of_ble_eq_true rfl) ?_
    have hC2 := hC1.put0 (k := 6) (by decide) (by decide) (S 51 + (u + h - fLft (u + h) k))
    refine zv_aload_n (n := 88) dX1_passIn_87 rfl rfl ?_
    refine zv_dup (n := 89) dX1_passIn_88 rfl rfl ?_
    refine zv_get (n := 92) dX1_passIn_89 rfl hC2.c0 FX1_57 rfl ?_
    refine zv_iload (n := 94) dX1_passIn_92 rfl rfl ?_
    refine zv_iload (n := 96) dX1_passIn_94 rfl rfl ?_
    refine zv_imul (n := 97) dX1_passIn_96 rfl ?_
    refine zv_iload (n := 99) dX1_passIn_97 rfl rfl ?_
    refine zv_imul (n := 100) dX1_passIn_99 rfl ?_
    refine zv_iadd (n := 101) dX1_passIn_100 rfl ?_
    refine zv_put (n := 104) dX1_passIn_101 rfl hC2.c0 FX1_57 zcl_X1 zty_X1_7 rfl rfl (Nat.le_of_ble_eq_true rfl) ?_
    have hC3 := hC2.put0 (k := 7) (by decide) (by decide) (S 52 + v * v * v)
    refine zv_iload (n := 106) dX1_passIn_104 rfl rfl ?_
    refine zv_istore (n := 108) (lv' := [(6, .int (fLft (u + h) k)), (8, .int (fLft (u + h) k)), (7, .int (nI i)), (5, .int k), (4, .int v), (3, .int h), (0, .ref (c 0)), (1, .int a), (2, .int (nI n))]) dX1_passIn_106 rfl (by decide) rfl ?_
    refine zv_iinc (n := 111) (v := nI (i + 1)) (lv' := [(7, .int (nI (i + 1))), (6, .int (fLft (u + h) k)), (8, .int (fLft (u + h) k)), (5, .int k), (4, .int v), (3, .int h), (0, .ref (c 0)), (1, .int a), (2, .int (nI n))]) dX1_passIn_108 rfl rfl (nI_1 i) (by decide) rfl ?_
    refine zv_goto (tgt := 44) dX1_passIn_111 (by decide) ?_
    refine zv_lvs (lv' := [(7, .int (nI (i + 1))), (6, .int (fLft (u + h) k)), (5, .int k), (4, .int v), (3, .int h), (0, .ref (c 0)), (1, .int a), (2, .int (nI n))]) ⟨rfl, rfl, rfl, rfl, rfl, rfl, rfl, rfl, trivial⟩ ?_
    exact ih (i + 1) _ (fPs1 h k v u S) (fLft (u + h) k) Q hC3 (by omega) (fun M' h1 h2 => hQ M' h1 ((zOff.up (by decide)).tr ((zOff.up (by decide)).tr ((zOff.up (by decide)).tr h2))))

set_option maxRecDepth 100000 in
set_option maxHeartbeats 4000000 in
theorem k_X1_passIn {σ : zSg} {M M' : zM} {c : Nat → Nat} {S : zS} {j n : Nat} (hj : j < 4) (h1 : zCen M' c (fPsR S j n).2) (h2 : zOff M M' c) : zV μX1_passIn (3, 0, 0) σ (zF none (fun M' => zCen M' c (fPsI S j n) ∧ zOff M M' c)) M' 0 0 114 [(6, .int (fPsR S j n).1), (0, .ref (c 0)), (1, .int (nI j))] [] := by
  obtain ⟨f3, hf3, gf3⟩ := h1.c3
  refine zv_aload_n (n := 115) dX1_passIn_114 rfl rfl ?_
  refine zv_get (n := 118) dX1_passIn_115 rfl h1.c0 FX1_25 rfl ?_
  refine zv_iload_n (n := 119) dX1_passIn_118 rfl rfl ?_
  refine zv_iload (n := 121) dX1_passIn_119 rfl rfl ?_
  refine zv_callSNF0 (n := 124) (As := [.ref (c 3), .int (nI j), .int (fPsR S j n).1]) (rest := []) (kc' := 0) (ks' := 0) dX1_passIn_121 rfl (c_X8_put hf3 (by decide) (nI j) (fPsR S j n).1) rfl kX8_put lX1_130 rfl rfl ⟨by decide, by decide⟩ (Nat.le_of_ble_eq_true rfl) rfl rfl (by decide) (by decide) (fun M2 hq => ?_)
  subst hq
  refine zv_vret dX1_passIn_124 rfl (by decide) (by decide) ?_
  rw [if_neg (nI_pos (by omega)), if_neg (by rw [nI_leI (by decide) (by omega)]; omega), nI_clamp (by omega)]
  exact zFi ⟨h1.put3 hj gf3 _, h2.tr (zOff.up (by decide))⟩

set_option maxRecDepth 100000 in
set_option maxHeartbeats 4000000 in
theorem c_X1_passIn {σ : zSg} {M : zM} {c : Nat → Nat} {S : zS} (hC : zCen M c S) (hN : zNn S) {j n : Nat} (hj : j < 4) (hn : n ≤ 60) : zCon μX1_passIn (3, 0, 0) σ [.ref (c 0), .int (nI j), .int (nI n)] M (zF none (fun M' => zCen M' c (fPsI S j n) ∧ zOff M M' c)) := by
  obtain ⟨f3, hf3, gf3⟩ := hC.c3
  refine zCon.of (plainFor_of_name (by decide)) rfl (Nat.le_of_ble_eq_true rfl) ?_
  change zV _ _ _ _ _ 0 0 0 [(0, .ref (c 0)), (1, .int (nI j)), (2, .int (nI n))] []
  refine zv_aload_n (n := 1) dX1_passIn_0 rfl rfl ?_
  refine zv_get (n := 4) dX1_passIn_1 rfl hC.c0 FX1_12 rfl ?_
  refine zv_iload_n (n := 5) dX1_passIn_4 rfl rfl ?_
  refine zv_callVP (n := 8) (As := [.int (nI j)]) (rest := []) (kc' := 0) (ks' := 0) dX1_passIn_5 rfl (c_X5_heatIn hC hN (nI j)) rfl kX5_heatIn lX1_112 hC.c1 rfl rfl rfl ⟨by decide, by decide⟩ (Nat.le_of_ble_eq_true rfl) rfl rfl (by decide) (by decide) ?_
  refine zv_istore_n (n := 9) (lv' := [(3, .int (fHeat S (nI j))), (0, .ref (c 0)), (1, .int (nI j)), (2, .int (nI n))]) dX1_passIn_8 rfl (by decide) rfl ?_
  refine zv_aload_n (n := 10) dX1_passIn_9 rfl rfl ?_
  refine zv_get (n := 13) dX1_passIn_10 rfl hC.c0 FX1_21 rfl ?_
  refine zv_iload_n (n := 14) dX1_passIn_13 rfl rfl ?_
  refine zv_callVP (n := 17) (As := [.int (nI j)]) (rest := []) (kc' := 0) (ks' := 0) dX1_passIn_14 rfl (c_X3_speedIn hC (nI j)) rfl kX3_speedIn lX1_116 hC.c2 rfl rfl rfl ⟨by decide, by decide⟩ (Nat.le_of_ble_eq_true rfl) rfl rfl (by decide) (by decide) ?_
  refine zv_istore (n := 19) (lv' := [(4, .int (fSpd S (nI j))), (3, .int (fHeat S (nI j))), (0, .ref (c 0)), (1, .int (nI j)), (2, .int (nI n))]) dX1_passIn_17 rfl (by decide) rfl ?_
  refine zv_aload_n (n := 20) dX1_passIn_19 rfl rfl ?_
  refine zv_get (n := 23) dX1_passIn_20 rfl hC.c0 FX1_21 rfl ?_
  refine zv_iload (n := 25) dX1_passIn_23 rfl rfl ?_
  refine zv_callVP (n := 28) (As := [.int (fSpd S (nI j))]) (rest := []) (kc' := 0) (ks' := 0) dX1_passIn_25 rfl (c_X3_airflowFor hC (fSpd S (nI j))) rfl kX3_airflowFor lX1_119 hC.c2 rfl rfl rfl ⟨by decide, by decide⟩ (Nat.le_of_ble_eq_true rfl) rfl rfl (by decide) (by decide) ?_
  refine zv_f2i (n := 29) dX1_passIn_28 rfl ?_
  refine zv_istore (n := 31) (lv' := [(5, .int (FP.f2i (fAir S (fSpd S (nI j))))), (4, .int (fSpd S (nI j))), (3, .int (fHeat S (nI j))), (0, .ref (c 0)), (1, .int (nI j)), (2, .int (nI n))]) dX1_passIn_29 rfl (by decide) rfl ?_
  refine zv_aload_n (n := 32) dX1_passIn_31 rfl rfl ?_
  refine zv_get (n := 35) dX1_passIn_32 rfl hC.c0 FX1_25 rfl ?_
  refine zv_iload_n (n := 36) dX1_passIn_35 rfl rfl ?_
  refine zv_callSNP (n := 39) (As := [.ref (c 3), .int (nI j)]) (rest := []) (kc' := 0) (ks' := 0) dX1_passIn_36 rfl (c_X8_at hf3 (by decide) (nI j)) rfl kX8_at lX1_123 rfl rfl ⟨by decide, by decide⟩ (Nat.le_of_ble_eq_true rfl) rfl rfl (by decide) (by decide) ?_
  rw [show fAt 4 f3 (nI j) = fSto S (nI j) from fAt_cong (by decide) gf3 _]
  refine zv_istore (n := 41) (lv' := [(6, .int (fSto S (nI j))), (5, .int (FP.f2i (fAir S (fSpd S (nI j))))), (4, .int (fSpd S (nI j))), (3, .int (fHeat S (nI j))), (0, .ref (c 0)), (1, .int (nI j)), (2, .int (nI n))]) dX1_passIn_39 rfl (by decide) rfl ?_
  refine zv_iconst (n := 42) dX1_passIn_41 rfl (v := 0) (by decide) ?_
  refine zv_istore (n := 44) (lv' := [(7, .int 0), (6, .int (fSto S (nI j))), (5, .int (FP.f2i (fAir S (fSpd S (nI j))))), (4, .int (fSpd S (nI j))), (3, .int (fHeat S (nI j))), (0, .ref (c 0)), (1, .int (nI j)), (2, .int (nI n))]) dX1_passIn_42 rfl (by decide) rfl ?_
  refine zv_lvs (lv' := [(7, .int 0), (6, .int (fSto S (nI j))), (5, .int (FP.f2i (fAir S (fSpd S (nI j))))), (4, .int (fSpd S (nI j))), (3, .int (fHeat S (nI j))), (0, .ref (c 0)), (1, .int (nI j)), (2, .int (nI n))]) ⟨rfl, rfl, rfl, rfl, rfl, rfl, rfl, rfl, trivial⟩ ?_
  exact l_X1_passIn hn n 0 M S (fSto S (nI j)) _ hC (by omega) (fun M' h1 h2 => k_X1_passIn hj h1 h2)

set_option maxRecDepth 100000 in
set_option maxHeartbeats 4000000 in
theorem c_X1_pass_1 {σ : zSg} {M : zM} {c : Nat → Nat} {S : zS} (hC : zCen M c S) (hN : zNn S) {n : Nat} (hn60 : n ≤ 60) (hb : fBt (nI n) 1 60 = true) : zCon μX1_pass (4, 0, 0) σ [.ref (c 0), .int (nI n)] M (zCh c M (fPas S (nI n))) := by
  refine zCon.of (plainFor_of_name (by decide)) rfl (Nat.le_of_ble_eq_true rfl) ?_
  change zV _ _ _ _ _ 0 0 0 [(0, .ref (c 0)), (1, .int (nI n))] []
  refine zv_iload_n (n := 1) dX1_pass_0 rfl rfl ?_
  refine zv_iconst (n := 2) dX1_pass_1 rfl (v := 1) (by decide) ?_
  refine zv_bipush (n := 4) dX1_pass_2 rfl (v := 60) (by decide) ?_
  refine zv_callSNP (n := 7) (As := [.int (nI n), .int 1, .int 60]) (rest := []) (kc' := 0) (ks' := 0) dX1_pass_4 rfl (c_X8_isBetween (nI n) 1 60) rfl kX8_isBetween lX1_104 rfl rfl ⟨by decide, by decide⟩ (Nat.le_of_ble_eq_true rfl) rfl rfl (by decide) (by decide) ?_
  refine zv_if_ne (n := 10) (tgt := 13) dX1_pass_7 (by decide) rfl (fun h7 => ?_) (fun h7 => False.elim (absurd h7 (by rw [hb]; decide)))
  refine zv_iconst (n := 14) dX1_pass_13 rfl (v := 0) (by decide) ?_
  refine zv_istore_n (n := 15) (lv' := [(2, .int 0), (0, .ref (c 0)), (1, .int (nI n))]) dX1_pass_14 rfl (by decide) rfl ?_
  refine zv_iload_n (n := 16) dX1_pass_15 rfl rfl ?_
  refine zv_iconst (n := 17) dX1_pass_16 rfl (v := 4) (by decide) ?_
  refine zv_icmp_ge (n := 20) (tgt := 32) dX1_pass_17 (by decide) rfl (fun h17 => False.elim (absurd h17 (by decide))) (fun h17 => ?_)
  refine zv_aload_n (n := 21) dX1_pass_20 rfl rfl ?_
  refine zv_iload_n (n := 22) dX1_pass_21 rfl rfl ?_
  refine zv_iload_n (n := 23) dX1_pass_22 rfl rfl ?_
  refine zv_callVF0 (n := 26) (As := [.int 0, .int (nI n)]) (rest := []) (kc' := 0) (ks' := 0) dX1_pass_23 rfl (c_X1_passIn (j := 0) (n := n) hC hN (by decide) hn60) rfl kX1_passIn lX1_108 hC.c0 rfl rfl rfl ⟨by decide, by decide⟩ (Nat.le_of_ble_eq_true rfl) rfl rfl (by decide) (by decide) (fun M1 hq => ?_)
  obtain ⟨hC1, ho1⟩ := hq
  have hN1 := zNn_eq hN (fPsI_n (n := n) (j := 0) (i := 0) (S := S) (by decide) (by decide))
  refine zv_iinc (n := 29) (v := 1) (lv' := [(2, .int 1), (0, .ref (c 0)), (1, .int (nI n))]) dX1_pass_26 rfl rfl (by decide) (by decide) rfl ?_
  refine zv_goto (tgt := 15) dX1_pass_29 (by decide) ?_
  refine zv_iload_n (n := 16) dX1_pass_15 rfl rfl ?_
  refine zv_iconst (n := 17) dX1_pass_16 rfl (v := 4) (by decide) ?_
  refine zv_icmp_ge (n := 20) (tgt := 32) dX1_pass_17 (by decide) rfl (fun h17 => False.elim (absurd h17 (by decide))) (fun h17 => ?_)
  refine zv_aload_n (n := 21) dX1_pass_20 rfl rfl ?_
  refine zv_iload_n (n := 22) dX1_pass_21 rfl rfl ?_
  refine zv_iload_n (n := 23) dX1_pass_22 rfl rfl ?_
  refine zv_callVF0 (n := 26) (As := [.int 1, .int (nI n)]) (rest := []) (kc' := 0) (ks' := 0) dX1_pass_23 rfl (c_X1_passIn (j := 1) (n := n) hC1 hN1 (by decide) hn60) rfl kX1_passIn lX1_108 hC1.c0 rfl rfl rfl ⟨by decide, by decide⟩ (Nat.le_of_ble_eq_true rfl) rfl rfl (by decide) (by decide) (fun M2 hq => ?_)
  obtain ⟨hC2, ho2⟩ := hq
  have hN2 := zNn_eq hN1 (fPsI_n (n := n) (j := 1) (i := 0) (S := _) (by decide) (by decide))
  refine zv_iinc (n := 29) (v := 2) (lv' := [(2, .int 2), (0, .ref (c 0)), (1, .int (nI n))]) dX1_pass_26 rfl rfl (by decide) (by decide) rfl ?_
  refine zv_goto (tgt := 15) dX1_pass_29 (by decide) ?_
  refine zv_iload_n (n := 16) dX1_pass_15 rfl rfl ?_
  refine zv_iconst (n := 17) dX1_pass_16 rfl (v := 4) (by decide) ?_
  refine zv_icmp_ge (n := 20) (tgt := 32) dX1_pass_17 (by decide) rfl (fun h17 => False.elim (absurd h17 (by decide))) (fun h17 => ?_)
  refine zv_aload_n (n := 21) dX1_pass_20 rfl rfl ?_
  refine zv_iload_n (n := 22) dX1_pass_21 rfl rfl ?_
  refine zv_iload_n (n := 23) dX1_pass_22 rfl rfl ?_
  refine zv_callVF0 (n := 26) (As := [.int 2, .int (nI n)]) (rest := []) (kc' := 0) (ks' := 0) dX1_pass_23 rfl (c_X1_passIn (j := 2) (n := n) hC2 hN2 (by decide) hn60) rfl kX1_passIn lX1_108 hC2.c0 rfl rfl rfl ⟨by decide, by decide⟩ (Nat.le_of_ble_eq_true rfl) rfl rfl (by decide) (by decide) (fun M3 hq => ?_)
  obtain ⟨hC3, ho3⟩ := hq
  have hN3 := zNn_eq hN2 (fPsI_n (n := n) (j := 2) (i := 0) (S := _) (by decide) (by decide))
  refine zv_iinc (n := 29) (v := 3) (lv' := [(2, .int 3), (0, .ref (c 0)), (1, .int (nI n))]) dX1_pass_26 rfl rfl (by decide) (by decide) rfl ?_
  refine zv_goto (tgt := 15) dX1_pass_29 (by decide) ?_
  refine zv_iload_n (n := 16) dX1_pass_15 rfl rfl ?_
  refine zv_iconst (n := 17) dX1_pass_16 rfl (v := 4) (by decide) ?_
  refine zv_icmp_ge (n := 20) (tgt := 32) dX1_pass_17 (by decide) rfl (fun h17 => False.elim (absurd h17 (by decide))) (fun h17 => ?_)
  refine zv_aload_n (n := 21) dX1_pass_20 rfl rfl ?_
  refine zv_iload_n (n := 22) dX1_pass_21 rfl rfl ?_
  refine zv_iload_n (n := 23) dX1_pass_22 rfl rfl ?_
  refine zv_callVF0 (n := 26) (As := [.int 3, .int (nI n)]) (rest := []) (kc' := 0) (ks' := 0) dX1_pass_23 rfl (c_X1_passIn (j := 3) (n := n) hC3 hN3 (by decide) hn60) rfl kX1_passIn lX1_108 hC3.c0 rfl rfl rfl ⟨by decide, by decide⟩ (Nat.le_of_ble_eq_true rfl) rfl rfl (by decide) (by decide) (fun M4 hq => ?_)
  obtain ⟨hC4, ho4⟩ := hq
  have hN4 := zNn_eq hN3 (fPsI_n (n := n) (j := 3) (i := 0) (S := _) (by decide) (by decide))
  refine zv_iinc (n := 29) (v := 4) (lv' := [(2, .int 4), (0, .ref (c 0)), (1, .int (nI n))]) dX1_pass_26 rfl rfl (by decide) (by decide) rfl ?_
  refine zv_goto (tgt := 15) dX1_pass_29 (by decide) ?_
  refine zv_iload_n (n := 16) dX1_pass_15 rfl rfl ?_
  refine zv_iconst (n := 17) dX1_pass_16 rfl (v := 4) (by decide) ?_
  refine zv_icmp_ge (n := 20) (tgt := 32) dX1_pass_17 (by decide) rfl (fun h17 => ?_) (fun h17 => False.elim (absurd (by decide) h17))
  refine zv_aload_n (n := 33) dX1_pass_32 rfl rfl ?_
  refine zv_dup (n := 34) dX1_pass_33 rfl rfl ?_
  refine zv_get (n := 37) dX1_pass_34 rfl hC4.c0 FX1_48 rfl ?_
  refine zv_iload_n (n := 38) dX1_pass_37 rfl rfl ?_
  refine zv_iadd (n := 39) dX1_pass_38 rfl ?_
  refine zv_put (n := 42) dX1_pass_39 rfl hC4.c0 FX1_48 zcl_X1 zty_X1_4 rfl rfl (Nat.le_of_ble_eq_true rfl) ?_
  have hC5 := hC4.put0 (k := 4) (by decide) (by decide) (fPs4 S n 49 + nI n)
  refine zv_iload_n (n := 43) dX1_pass_42 rfl rfl ?_
  refine zv_iret dX1_pass_43 rfl (by decide) (by decide) ?_
  refine zCh_new ?_ hC5 (ho1.tr (ho2.tr (ho3.tr (ho4.tr (zOff.up (by decide))))))
  unfold fPas
  rw [if_neg (by rw [hb]; decide), nI_clamp (by omega)]
  rfl

set_option maxRecDepth 100000 in
set_option maxHeartbeats 4000000 in
theorem c_X1_pass_0 {σ : zSg} {M : zM} {c : Nat → Nat} {S : zS} (hC : zCen M c S) (hN : zNn S) {m : Int32} (hb : fBt m 1 60 = false) : zCon μX1_pass (4, 0, 0) σ [.ref (c 0), .int m] M (zCh c M (fPas S m)) := by
  refine zCon.of (plainFor_of_name (by decide)) rfl (Nat.le_of_ble_eq_true rfl) ?_
  change zV _ _ _ _ _ 0 0 0 [(0, .ref (c 0)), (1, .int m)] []
  refine zv_iload_n (n := 1) dX1_pass_0 rfl rfl ?_
  refine zv_iconst (n := 2) dX1_pass_1 rfl (v := 1) (by decide) ?_
  refine zv_bipush (n := 4) dX1_pass_2 rfl (v := 60) (by decide) ?_
  refine zv_callSNP (n := 7) (As := [.int m, .int 1, .int 60]) (rest := []) (kc' := 0) (ks' := 0) dX1_pass_4 rfl (c_X8_isBetween m 1 60) rfl kX8_isBetween lX1_104 rfl rfl ⟨by decide, by decide⟩ (Nat.le_of_ble_eq_true rfl) rfl rfl (by decide) (by decide) ?_
  refine zv_if_ne (n := 10) (tgt := 13) dX1_pass_7 (by decide) rfl (fun h7 => False.elim (h7 (by rw [hb]; rfl))) (fun h7 => ?_)
  refine zv_bipush (n := 12) dX1_pass_10 rfl (v := (-2)) (by decide) ?_
  refine zv_iret dX1_pass_12 rfl (by decide) (by decide) ?_
  exact zCh_same (if_pos hb) hC

theorem c_X1_pass {σ : zSg} {M : zM} {c : Nat → Nat} {S : zS} (hC : zCen M c S) (hN : zNn S) (m : Int32) : zCon μX1_pass (4, 0, 0) σ [.ref (c 0), .int m] M (zCh c M (fPas S m)) := by
  cases hb : fBt m 1 60 with
  | false => exact c_X1_pass_0 hC hN hb
  | true =>
    have h := fBt_iff.mp hb
    have e1 : (1 : Int32).toInt = 1 := rfl
    have e60 : (60 : Int32).toInt = 60 := rfl
    obtain ⟨n, hn, rfl⟩ := nI_of (x := m) (by rw [Int32.lt_iff_toInt_lt]; have e0 : (0 : Int32).toInt = 0 := rfl; omega)
    have : n ≤ 60 := (nI_leI (b := 60) hn (by decide)).mp (by rw [Int32.le_iff_toInt_le]; have : (nI 60).toInt = 60 := rfl; omega)
    exact c_X1_pass_1 hC hN this hb

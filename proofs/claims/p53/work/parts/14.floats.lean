/-! Floats: what the class answers as a float, and that none is a NaN: laid by wip/p53/m14.py. -/
theorem zf_n32 {r : UInt32} (h : Jvm.FP.Core.fIsNaN r = false) : vf_n32 r := by
  unfold vf_n32
  have h1 := (Jvm.FP.Core.ne_nan32 r).mp ((Jvm.FP.Core.notNaN_iff32 r).mp h)
  rw [UInt32.le_iff_toNat_le, Jvm.FP.Core.mask_toNat32]
  exact h1
theorem zf_n64 {r : UInt64} (h : Jvm.FP.Core.dIsNaN r = false) : vf_n64 r := by
  unfold vf_n64
  have h1 := (Jvm.FP.Core.ne_nan r).mp ((Jvm.FP.Core.notNaN_iff r).mp h)
  rw [UInt64.le_iff_toNat_le, Jvm.FP.Core.mask_toNat]
  exact h1
/-- below 2 ^ (K - 127), and finite -/
def zFK (K : Nat) (x : UInt32) : Prop := x.toNat % 2 ^ 31 < K * 2 ^ 23
theorem zFK.fin {K : Nat} {x : UInt32} (h : zFK K x) (hK : K ≤ 255) : Jvm.FP.Core.FFin x := Jvm.FP.Core.fin_of_lt32 h hK
theorem zFK.n {K : Nat} {x : UInt32} (h : zFK K x) (hK : K ≤ 255) : vf_n32 x := zf_n32 (h.fin hK).notNaN
theorem zFK.up {K L : Nat} {x : UInt32} (h : zFK K x) (hK : K ≤ L) : zFK L x := by
  exact Nat.lt_of_lt_of_le h (Nat.mul_le_mul_right _ hK)
theorem zFK_i2f (v : Int32) : zFK 160 (FP.i2f v) := Jvm.FP.Core.i2f_mag v
theorem zFK_mul {a b : UInt32} {K L N : Nat} (ha : zFK K a) (hb : zFK L b) (hK : K ≤ 255) (hL : L ≤ 255) (hN : K + L - 129 + 3 ≤ N) : zFK N (FP.fmul a b) := zFK.up (Jvm.FP.Core.fmul_mag ha hb hK hL) hN
theorem zFK_add {a b : UInt32} {K L N : Nat} (ha : zFK K a) (hb : zFK L b) (hK : K + 2 ≤ N) (hL : L + 2 ≤ N) (hN : N ≤ 257) : zFK N (FP.fadd a b) := by
  have h := Jvm.FP.Core.fadd_mag (K := N - 2) (ha.up (by omega)) (hb.up (by omega)) (by omega)
  rw [show N - 2 + 2 = N by omega] at h
  exact h
theorem zFK_div {a b : UInt32} {K N : Nat} (L : Nat) (ha : zFK K a) (hb : L * 2 ^ 23 ≤ b.toNat % 2 ^ 31) (hb2 : b.toNat % 2 ^ 31 < 255 * 2 ^ 23) (hK : K ≤ 255) (hL : 1 ≤ L) (hN : K + (149 - 23 - 1) - L + 3 ≤ N) : zFK N (FP.fdiv a b) := zFK.up (Jvm.FP.Core.fdiv_mag ha hb hb2 hK hL) hN
/-! signs -/
def zPos (x : UInt32) : Prop := Jvm.FP.Core.FFin x ∧ Jvm.FP.Core.sgn (Jvm.FP.Core.val32 x) = false
theorem zs_mul {a b : UInt32} (ha : Jvm.FP.Core.FFin a) (hb : Jvm.FP.Core.FFin b) : Jvm.FP.Core.sgn (Jvm.FP.Core.val32 (FP.fmul a b)) = (Jvm.FP.Core.sgn (Jvm.FP.Core.val32 a) != Jvm.FP.Core.sgn (Jvm.FP.Core.val32 b)) := by
  obtain ⟨s, c, q, h⟩ := ha
  obtain ⟨t, d, r, h'⟩ := hb
  rw [show FP.fmul a b = Jvm.FP.Core.fmul a b from rfl, Jvm.FP.Core.val32_fmul, h, h']
  exact Jvm.FP.Core.sgn_roundRatio _ _ _ _ _
theorem zs_div {a b : UInt32} (ha : Jvm.FP.Core.FFin a) (hb : Jvm.FP.Core.FFin b) (hz : ¬ Jvm.FP.Core.FZero b) : Jvm.FP.Core.sgn (Jvm.FP.Core.val32 (FP.fdiv a b)) = (Jvm.FP.Core.sgn (Jvm.FP.Core.val32 a) != Jvm.FP.Core.sgn (Jvm.FP.Core.val32 b)) := by
  obtain ⟨s, c, q, h⟩ := ha
  obtain ⟨t, d, r, h'⟩ := hb
  have hd : d ≠ 0 := fun e => hz ⟨t, r, by rw [h', e]⟩
  rw [show FP.fdiv a b = Jvm.FP.Core.fdiv a b from rfl, Jvm.FP.Core.val32_fdiv, h, h']
  show Jvm.FP.Core.sgn (if d = 0 then _ else _) = _
  rw [if_neg hd]
  exact Jvm.FP.Core.sgn_roundRatio _ _ _ _ _
theorem zs_add {a b : UInt32} (ha : zPos a) (hb : zPos b) : Jvm.FP.Core.sgn (Jvm.FP.Core.val32 (FP.fadd a b)) = false := by
  obtain ⟨⟨s, c, q, h⟩, hs⟩ := ha
  obtain ⟨⟨t, d, r, h'⟩, ht⟩ := hb
  rw [h] at hs
  rw [h'] at ht
  have hs' : s = false := hs
  have ht' : t = false := ht
  subst hs'
  subst ht'
  rw [show FP.fadd a b = Jvm.FP.Core.fadd a b from rfl, Jvm.FP.Core.val32_fadd, h, h']
  refine (Jvm.FP.Core.sgn_roundRatio _ _ _ _ _).trans ?_
  unfold Jvm.FP.Core.sumSign Jvm.FP.Core.sumUnits Jvm.FP.Core.signed
  simp only [Bool.false_eq_true, if_false, Bool.and_false]
  split
  · rfl
  · exact decide_eq_false (by omega)
theorem zPos_i2f {v : Int32} (h : 0 ≤ v.toInt) : zPos (FP.i2f v) := by
  refine ⟨Jvm.FP.Core.i2f_fin v, ?_⟩
  obtain ⟨c, q, h1⟩ := Jvm.FP.Core.l2f_shape v.toInt64
  rw [show FP.i2f v = Jvm.FP.Core.i2f v from rfl, Jvm.FP.Core.i2f_l2f, h1]
  show decide (v.toInt64.toInt < 0) = false
  rw [Int32.toInt_toInt64]
  exact decide_eq_false (by omega)
theorem zPos_mul {a b : UInt32} (ha : zPos a) (hb : zPos b) (hf : Jvm.FP.Core.FFin (FP.fmul a b)) : zPos (FP.fmul a b) := ⟨hf, by rw [zs_mul ha.1 hb.1, ha.2, hb.2]; rfl⟩
theorem zPos_add {a b : UInt32} (ha : zPos a) (hb : zPos b) (hf : Jvm.FP.Core.FFin (FP.fadd a b)) : zPos (FP.fadd a b) := ⟨hf, zs_add ha hb⟩
theorem zPos_div {a b : UInt32} (ha : zPos a) (hb : zPos b) (hz : ¬ Jvm.FP.Core.FZero b) (hf : Jvm.FP.Core.FFin (FP.fdiv a b)) : zPos (FP.fdiv a b) := ⟨hf, by rw [zs_div ha.1 hb.1 hz, ha.2, hb.2]; rfl⟩
/-- a constant: finite, not negative, not zero -/
theorem zPos_of {x : UInt32} (h1 : x.toNat % 2 ^ 31 < 2139095040) (h2 : x.toNat < 2 ^ 31) : zPos x := by
  have hf := (Jvm.FP.Core.fin_bits32 x).mpr h1
  refine ⟨hf, ?_⟩
  rw [Jvm.FP.Core.sgn_bits32 hf.ne_nan]
  exact decide_eq_false (by omega)
/-! what comparison answers -/
theorem zcmp_l0 {o : Option Ordering} (h : ¬ Op.cmpValue o .l = 0) : o ≠ some .eq := by
  intro e
  subst e
  exact h rfl
theorem zcmp_g {o : Option Ordering} (h : ¬ 0 ≤ Op.cmpValue o .g) : o = some .lt := by
  revert h
  match o with
  | none => intro h; exact absurd (by decide) h
  | some .lt => intro _; rfl
  | some .eq => intro h; exact absurd (by decide) h
  | some .gt => intro h; exact absurd (by decide) h
/-! the class's own -/
def fAirW (f t k : Int32) : UInt32 := FP.fadd (FP.i2f f) (FP.fdiv (FP.fmul (FP.i2f (t - f)) (FP.i2f k)) 1084227584)
def fPnt (v : Int32) : Int32 := if 5 < v then 1 else 0
def fAir (S : zS) (v : Int32) : UInt32 := fAirW (fPt S (fPnt v)) (fPt S (fPnt v + 1)) (v - fPnt v * 5)
theorem fAirW_1 {f t k : Int32} : zFK 194 (FP.fmul (FP.i2f (t - f)) (FP.i2f k)) := zFK_mul (zFK_i2f _) (zFK_i2f _) (by decide) (by decide) (by decide)
theorem zFK_5 {x : UInt32} {K N : Nat} (h : zFK K x) (hK : K ≤ 255) (hN : K + 125 - 129 + 3 ≤ N) : zFK N (FP.fdiv x 1084227584) := zFK_div 129 h (by decide) (by decide) hK (by decide) hN
theorem fAirW_2 {f t k : Int32} : zFK 193 (FP.fdiv (FP.fmul (FP.i2f (t - f)) (FP.i2f k)) 1084227584) := zFK_5 fAirW_1 (by decide) (by decide)
theorem fAirW_3 {f t k : Int32} : zFK 195 (fAirW f t k) := zFK_add (zFK_i2f _) fAirW_2 (by decide) (by decide) (by decide)
theorem zF5 : ¬ Jvm.FP.Core.FZero 1084227584 := by
  rw [Jvm.FP.Core.zero_bits232]
  decide
theorem fAirW_pos {f t k : Int32} (hf : 0 ≤ f.toInt) (ht : 0 ≤ (t - f).toInt) (hk : 0 ≤ k.toInt) : zPos (fAirW f t k) := by
  have h1 := zPos_mul (zPos_i2f ht) (zPos_i2f hk) (fAirW_1.fin (by decide))
  have h2 := zPos_div h1 (zPos_of (by decide) (by decide)) zF5 (fAirW_2.fin (by decide))
  exact zPos_add (zPos_i2f hf) h2 (fAirW_3.fin (by decide))
def fInlW (h u : Int32) : UInt32 := FP.fadd (FP.fadd 1099956224 (FP.fmul 1028443341 (FP.i2f h))) (FP.fmul 1036831949 (FP.i2f u))
theorem fInlW_1 {h : Int32} : zFK 157 (FP.fmul 1028443341 (FP.i2f h)) := zFK_mul (K := 123) (by unfold zFK; decide) (zFK_i2f _) (by decide) (by decide) (by decide)
theorem fInlW_2 {h : Int32} : zFK 159 (FP.fadd 1099956224 (FP.fmul 1028443341 (FP.i2f h))) := zFK_add (K := 132) (by unfold zFK; decide) fInlW_1 (by decide) (by decide) (by decide)
theorem fInlW_3 {u : Int32} : zFK 158 (FP.fmul 1036831949 (FP.i2f u)) := zFK_mul (K := 124) (by unfold zFK; decide) (zFK_i2f _) (by decide) (by decide) (by decide)
theorem fInlW_4 {h u : Int32} : zFK 161 (fInlW h u) := zFK_add fInlW_2 fInlW_3 (by decide) (by decide) (by decide)
def fInl (S : zS) (a : Int32) : UInt32 := fInlW (fHeat S (a - 1) + fHeat S (a + 1)) (fSto S a)
def fRisW (h : Int32) (w : UInt32) : UInt32 := FP.fdiv (FP.fmul 1075838976 (FP.i2f h)) w
def fRis (S : zS) (a v : Int32) : UInt32 := if fHeat S a = 0 then FP.fconst0 else if Op.cmpValue (FP.fcmp (fAir S v) FP.fconst0) .l = 0 then 1109393408 else if 0 ≤ Op.cmpValue (FP.fcmp (fRisW (fHeat S a) (fAir S v)) 1109393408) .g then 1109393408 else fRisW (fHeat S a) (fAir S v)
theorem fRisW_1 {h : Int32} : zFK 163 (FP.fmul 1075838976 (FP.i2f h)) := zFK_mul (K := 129) (by unfold zFK; decide) (zFK_i2f _) (by decide) (by decide) (by decide)
theorem fRis_nz {w : UInt32} (h : ¬ Op.cmpValue (FP.fcmp w FP.fconst0) .l = 0) : ¬ Jvm.FP.Core.FZero w := fun e => zcmp_l0 h (Jvm.FP.Core.zero_iff32.mpr e)
theorem fRisW_n {h : Int32} {w : UInt32} (hw : Jvm.FP.Core.FFin w) (hz : ¬ Jvm.FP.Core.FZero w) : Jvm.FP.Core.fIsNaN (fRisW h w) = false := Jvm.FP.Core.fdiv_out (fRisW_1.fin (by decide)).notNaN hw hz
theorem fRisW_k {h : Int32} {w : UInt32} (hh : 0 ≤ h.toInt) (hw : zPos w) (hz : ¬ Jvm.FP.Core.FZero w) (hc : ¬ 0 ≤ Op.cmpValue (FP.fcmp (fRisW h w) 1109393408) .g) : zFK 133 (fRisW h w) := by
  have hn := (Jvm.FP.Core.notNaN_iff32 _).mp (fRisW_n (h := h) hw.1 hz)
  have hs : Jvm.FP.Core.sgn (Jvm.FP.Core.val32 (fRisW h w)) = false := by
    have := zs_div ((fRisW_1 (h := h)).fin (by decide)) hw.1 hz
    rw [hw.2, zs_mul (zPos_of (by decide) (by decide)).1 (Jvm.FP.Core.i2f_fin h), (zPos_i2f hh).2, (zPos_of (x := 1075838976) (by decide) (by decide)).2] at this
    exact this
  rw [Jvm.FP.Core.sgn_bits32 hn] at hs
  have hs' : ¬ 2 ^ 31 ≤ (fRisW h w).toNat := of_decide_eq_false hs
  have hl := zcmp_g hc
  have h4 : Jvm.FP.Core.val32 1109393408 ≠ .nan := (zPos_of (by decide) (by decide)).1.ne_nan
  have hk := (Jvm.FP.Core.fcmp_lt_key hn h4).mp hl
  unfold Jvm.FP.Core.fkey at hk
  rw [if_neg hs', if_neg (by decide)] at hk
  have hk' : (fRisW h w).toNat < 1109393408 := Int.ofNat_lt.mp hk
  unfold zFK
  omega
theorem fRis_k {S : zS} {a v : Int32} (hh : 0 ≤ (fHeat S a).toInt) (hw : zPos (fAir S v)) : zFK 133 (fRis S a v) := by
  unfold fRis
  split
  · unfold zFK; decide
  · split
    · unfold zFK; decide
    · split
      · unfold zFK; decide
      · rename_i h1 h2 h3
        exact fRisW_k hh hw (fRis_nz h2) h3
def fTmpW (i r : UInt32) (q : Int32) : UInt32 := FP.fadd i (FP.fmul r (FP.fadd FP.fconst1 (FP.fdiv (FP.i2f q) 1092616192)))
theorem fTmpW_1 {q : Int32} : zFK 158 (FP.fdiv (FP.i2f q) 1092616192) := zFK_div 130 (zFK_i2f _) (by decide) (by decide) (by decide) (by decide) (by decide)
theorem fTmpW_2 {q : Int32} : zFK 160 (FP.fadd FP.fconst1 (FP.fdiv (FP.i2f q) 1092616192)) := zFK_add (K := 128) (by unfold zFK; decide) fTmpW_1 (by decide) (by decide) (by decide)
theorem fTmpW_3 {r : UInt32} {q : Int32} (hr : zFK 133 r) : zFK 167 (FP.fmul r (FP.fadd FP.fconst1 (FP.fdiv (FP.i2f q) 1092616192))) := zFK_mul hr fTmpW_2 (by decide) (by decide) (by decide)
theorem fTmpW_4 {i r : UInt32} {q : Int32} (hi : zFK 161 i) (hr : zFK 133 r) : zFK 169 (fTmpW i r q) := zFK_add hi (fTmpW_3 hr) (by decide) (by decide) (by decide)
def fTmp (S : zS) (i : Nat) : UInt32 := fTmpW (fInl S (S (1 + 3 * i))) (fRis S (S (1 + 3 * i)) (fSpd S (S (1 + 3 * i)))) (S (2 + 3 * i))
def fOver (S : zS) (t : UInt32) : Bool := !decide (Op.cmpValue (FP.fcmp t (FP.i2f (S 48))) .l ≤ 0)
def fHot (S : zS) (i : Nat) : Bool := fOver S (fTmp S i)
theorem zf_d {x : UInt32} (h : Jvm.FP.Core.FFin x) : Jvm.FP.Core.DFin (FP.f2d x) := by
  unfold FP.f2d
  rw [if_neg (by rw [h.notNaN]; decide)]
  exact Jvm.FP.Core.f2d_fin h
/-- the state's bounds -/
def zOk (S : zS) : Prop := zNn S ∧ (∀ i, i < 12 → fBt (S (1 + 3 * i)) 0 3 = true ∧ fBt (S (2 + 3 * i)) 0 5 = true ∧ fBt (S (3 + 3 * i)) 0 20 = true) ∧ (∀ i, i < 4 → fBt (S (37 + i)) 0 10 = true) ∧ fBt (S 41) 0 200 = true ∧ fBt (S 42) (S 41) 200 = true ∧ fBt (S 43) (S 42) 200 = true
theorem fBt_iff {x lo hi : Int32} : fBt x lo hi = true ↔ lo.toInt ≤ x.toInt ∧ x.toInt ≤ hi.toInt := by
  unfold fBt
  rw [Bool.and_eq_true, decide_eq_true_eq, decide_eq_true_eq, Int32.le_iff_toInt_le, Int32.le_iff_toInt_le]
theorem t_add {a b : Int32} (h1 : -2147483648 ≤ a.toInt + b.toInt) (h2 : a.toInt + b.toInt < 2147483648) : (a + b).toInt = a.toInt + b.toInt := by
  rw [Int32.toInt_add]
  exact Int.bmod_eq_of_le (by omega) (by omega)
theorem t_sub {a b : Int32} (h1 : -2147483648 ≤ a.toInt - b.toInt) (h2 : a.toInt - b.toInt < 2147483648) : (a - b).toInt = a.toInt - b.toInt := by
  rw [Int32.toInt_sub]
  exact Int.bmod_eq_of_le (by omega) (by omega)
theorem fHeatF_t {S : zS} (h : ∀ i, i < 12 → fBt (S (3 + 3 * i)) 0 20 = true) (a : Int32) : ∀ k, k ≤ 12 → 0 ≤ (fHeatF S a k).toInt ∧ (fHeatF S a k).toInt ≤ 20 * k := by
  intro k
  induction k with
  | zero => intro _; rw [fHeatF]; exact ⟨by decide, by decide⟩
  | succ k ih =>
    intro hk
    obtain ⟨h1, h2⟩ := ih (by omega)
    obtain ⟨h3, h4⟩ := fBt_iff.mp (h k (by omega))
    have e0 : (0 : Int32).toInt = 0 := rfl
    have e20 : (20 : Int32).toInt = 20 := rfl
    rw [e0] at h3
    rw [e20] at h4
    show 0 ≤ (fHeatF S a k + (if S (1 + 3 * k) = a then S (3 + 3 * k) else 0)).toInt ∧ _
    rw [fHeatF]
    split
    · rw [t_add (by omega) (by omega)]
      omega
    · rw [t_add (by rw [e0]; omega) (by rw [e0]; omega), e0]
      omega
theorem zOk.heat {S : zS} (h : zOk S) (a : Int32) : 0 ≤ (fHeat S a).toInt ∧ (fHeat S a).toInt ≤ 240 := by
  obtain ⟨⟨_, h12⟩, h2, _⟩ := h
  have := fHeatF_t (fun i hi => (h2 i hi).2.2) a (fCnt S) h12
  unfold fHeat
  omega
theorem zOk.pt {S : zS} (h : zOk S) : 0 ≤ (S 41).toInt ∧ (S 41).toInt ≤ (S 42).toInt ∧ (S 42).toInt ≤ (S 43).toInt ∧ (S 43).toInt ≤ 200 := by
  obtain ⟨_, _, _, h1, h2, h3⟩ := h
  have := fBt_iff.mp h1
  have := fBt_iff.mp h2
  have := fBt_iff.mp h3
  have e0 : (0 : Int32).toInt = 0 := rfl
  have e2 : (200 : Int32).toInt = 200 := rfl
  omega
theorem fPt_0 {S : zS} : fPt S 0 = S 41 := rfl
theorem fPt_1 {S : zS} : fPt S 1 = S 42 := rfl
theorem fPt_2 {S : zS} : fPt S 2 = S 43 := rfl
theorem zOk.air {S : zS} (h : zOk S) {v : Int32} (hv : 0 ≤ v.toInt) : zPos (fAir S v) := by
  have hp := h.pt
  unfold fAir fPnt
  by_cases h5 : 5 < v
  · rw [if_pos h5, show (1 : Int32) + 1 = 2 from rfl, fPt_1, fPt_2]
    rw [Int32.lt_iff_toInt_lt] at h5
    have e5 : (5 : Int32).toInt = 5 := rfl
    have := v.toInt_lt
    refine fAirW_pos (by omega) (by rw [t_sub (by omega) (by omega)]; omega) ?_
    rw [show (1 : Int32) * 5 = 5 from rfl, t_sub (by rw [e5]; omega) (by rw [e5]; omega)]
    omega
  · rw [if_neg h5, show (0 : Int32) + 1 = 1 from rfl, fPt_0, fPt_1]
    have e0 : (0 : Int32).toInt = 0 := rfl
    have := v.toInt_lt
    refine fAirW_pos (by omega) (by rw [t_sub (by omega) (by omega)]; omega) ?_
    rw [show (0 : Int32) * 5 = 0 from rfl, t_sub (by rw [e0]; omega) (by rw [e0]; omega)]
    omega
theorem zOk.spd {S : zS} (h : zOk S) (a : Int32) : 0 ≤ (fSpd S a).toInt ∧ (fSpd S a).toInt ≤ 10 := by
  obtain ⟨_, _, h1, _⟩ := h
  unfold fSpd fAt
  split
  · exact ⟨by decide, by decide⟩
  · split
    · exact ⟨by decide, by decide⟩
    · rename_i g1 g2
      obtain ⟨j, hj, rfl⟩ := nI_of g1
      rw [nI_leI (by decide) hj] at g2
      rw [nI_clamp hj]
      dsimp only
      have := fBt_iff.mp (h1 j (by omega))
      have e0 : (0 : Int32).toInt = 0 := rfl
      have e2 : (10 : Int32).toInt = 10 := rfl
      omega
theorem zOk.ris {S : zS} (h : zOk S) (a : Int32) {v : Int32} (hv : 0 ≤ v.toInt) : zFK 133 (fRis S a v) := fRis_k (h.heat a).1 (h.air hv)
theorem zOk.tmp {S : zS} (h : zOk S) (i : Nat) : zFK 169 (fTmp S i) := fTmpW_4 fInlW_4 (h.ris _ (h.spd _).1)

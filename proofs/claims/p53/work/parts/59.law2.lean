/-! The law's second planner, and the law: laid by wip/p53/m59.py. -/
/-- the answers kept: f j is what asks answered in the state that the (j + 1)-th change left -/
def zWas (f : Nat → Int64) (U : List zS) : Prop := ∀ j, j < U.length → ∃ T, U[U.length - 1 - j]? = some T ∧ f j = fAsk T
theorem zWas.new {f : Nat → Int64} {U : List zS} (h : zWas f U) (P : zS) : zWas (vp_updL f U.length (fAsk P)) (P :: U) := fun j hj => by
  rw [List.length_cons] at hj ⊢
  by_cases e : j = U.length
  · subst e
    refine ⟨P, ?_, if_pos rfl⟩
    rw [show U.length + 1 - 1 - U.length = 0 by omega]
    rfl
  · obtain ⟨T, h1, h2⟩ := h j (by omega)
    refine ⟨T, ?_, (if_neg e).trans h2⟩
    rw [show U.length + 1 - 1 - j = (U.length - 1 - j) + 1 by omega]
    exact h1
theorem zWas.top {f : Nat → Int64} {T : zS} {W : List zS} (h : zWas f (T :: W)) : f W.length = fAsk T ∧ zWas f W := by
  refine ⟨?_, fun j hj => ?_⟩
  · obtain ⟨T', h1, h2⟩ := h W.length (by rw [List.length_cons]; omega)
    rw [List.length_cons, show W.length + 1 - 1 - W.length = 0 by omega] at h1
    cases h1
    exact h2
  · obtain ⟨T', h1, h2⟩ := h j (by rw [List.length_cons]; omega)
    rw [List.length_cons, show W.length + 1 - 1 - j = (W.length - 1 - j) + 1 by omega] at h1
    exact ⟨T', h1, h2⟩
theorem c_O_rest1 {σ : zSg} {M : zM} {Z : Nat → Prop} {b : Nat → Nat} {C : Nat → Nat → Nat} {P : zS} {U : List zS} {X : Option zS} {T : zS} (hV : zVo M Z b C P U X) (h0 : X = some T) : zCon μL_restore (7, 1, 6) σ [.ref (b 0)] M (zF (some (.int (T 0))) (fun M' => zVo M' Z b C T [] (some T) ∧ zKe M M' Z)) := c_O_restore_1 hV h0

set_option maxRecDepth 100000 in
set_option maxHeartbeats 4000000 in
theorem k_law_684 {σ : zSg} {b : Nat → Nat} {C : Nat → Nat → Nat} {P0 : zS} {q : Nat} {M : zM} {P : zS} {f : Nat → Int64} {d : Nat} (hV : zVo M (fun a => a = q) b C P [] (some P0)) (hq9 : M q = some (zAL 9 f)) : zV μL_law (17, 50000, 1100000) σ (fun o _ => o = .inl (some (.int 1))) M (43200) (965000) 684 [(7, .int (nI d)), (6, .ref q), (5, .int (P0 0)), (3, .long (fAsk P0)), (2, .ref (b 0)), (0, .ref (σ.1 1))] [] := by
  refine zv_aload_n (n := 685) dL_law_684 rfl rfl ?_
  refine zv_callSXP (n := 688) (As := [.ref (b 0)]) (rest := []) (kc' := 43201) (ks' := 965006) dL_law_685 rfl (c_O_undo_0 hV rfl) rfl kL_undo lL_328 rfl rfl ⟨by decide, by decide⟩ (Nat.le_of_ble_eq_true rfl) rfl rfl (Nat.le_of_ble_eq_true rfl) (Nat.le_of_ble_eq_true rfl) ?_
  refine zv_sipush (n := 691) dL_law_688 rfl (v := (-1001)) (by decide) ?_
  refine zv_icmp_ne (n := 694) (tgt := 726) dL_law_691 (by decide) rfl (fun h691 => False.elim (h691 rfl)) (fun h691 => ?_)
  refine zv_aload_n (n := 695) dL_law_694 rfl rfl ?_
  refine zv_callSXF (n := 698) (As := [.ref (b 0)]) (rest := []) (kc' := 43202) (ks' := 965012) dL_law_695 rfl (c_O_rest1 hV rfl) rfl kL_restore lL_330 rfl rfl ⟨by decide, by decide⟩ (Nat.le_of_ble_eq_true rfl) rfl rfl (Nat.le_of_ble_eq_true rfl) (Nat.le_of_ble_eq_true rfl) (fun M1 hq => ?_)
  obtain ⟨hV, hz9⟩ := hq
  have hq9 := (hz9 q rfl).trans hq9
  obtain ⟨fs9, hb9⟩ := hV.o
  refine zv_iload (n := 700) dL_law_698 rfl rfl ?_
  refine zv_icmp_ne (n := 703) (tgt := 726) dL_law_700 (by decide) rfl (fun h700 => False.elim (h700 rfl)) (fun h700 => ?_)
  refine zv_aload_n (n := 704) dL_law_703 rfl rfl ?_
  refine zv_callSF (n := 707) (As := [.ref (b 0)]) (rest := []) (kc' := 44551) (ks' := 994994) dL_law_704 rfl (c_O_asks hV) rfl kL_asks lL_289 rfl rfl ⟨by decide, by decide⟩ (Nat.le_of_ble_eq_true rfl) rfl rfl (Nat.le_of_ble_eq_true rfl) (Nat.le_of_ble_eq_true rfl) (fun M1 hq => ?_)
  obtain ⟨hV, hz9⟩ := hq
  have hq9 := (hz9 q rfl).trans hq9
  obtain ⟨fs9, hb9⟩ := hV.o
  refine zv_lload_n (n := 708) dL_law_707 rfl rfl ?_
  refine zv_lcmp (n := 709) dL_law_708 rfl ?_
  refine zv_if_ne (n := 712) (tgt := 726) dL_law_709 (by decide) rfl (fun h709 => False.elim (absurd lcmp_self h709)) (fun h709 => ?_)
  refine zv_aload_n (n := 713) dL_law_712 rfl rfl ?_
  refine zv_callSXP (n := 716) (As := [.ref (b 0)]) (rest := []) (kc' := 44552) (ks' := 995000) dL_law_713 rfl (c_O_undo_0 hV rfl) rfl kL_undo lL_328 rfl rfl ⟨by decide, by decide⟩ (Nat.le_of_ble_eq_true rfl) rfl rfl (Nat.le_of_ble_eq_true rfl) (Nat.le_of_ble_eq_true rfl) ?_
  refine zv_sipush (n := 719) dL_law_716 rfl (v := (-1001)) (by decide) ?_
  refine zv_icmp_ne (n := 722) (tgt := 726) dL_law_719 (by decide) rfl (fun h719 => False.elim (h719 rfl)) (fun h719 => ?_)
  refine zv_iconst (n := 723) dL_law_722 rfl (v := 1) (by decide) ?_
  refine zv_goto (tgt := 727) dL_law_723 (by decide) ?_
  refine zv_zret dL_law_727 rfl rfl (Nat.le_of_ble_eq_true rfl) (Nat.le_of_ble_eq_true rfl) ?_
  rfl

set_option maxRecDepth 100000 in
set_option maxHeartbeats 4000000 in
theorem l_lawU {σ : zSg} {b : Nat → Nat} {C : Nat → Nat → Nat} {P0 : zS} {q : Nat} {f : Nat → Int64} {d : Nat} (hd : d ≤ 8) : ∀ (l i : Nat) (M : zM) (P : zS) (U : List zS), i + l = d + 1 → U.length = l → zVo M (fun a => a = q) b C P U (some P0) → M q = some (zAL 9 f) → zWas f U → 1 ≤ i → zV μL_law (17, 50000, 1100000) σ (fun o _ => o = .inl (some (.int 1))) M (31000 + 1350 * i) (695000 + 29988 * i) 641 [(8, .int (nI i)), (7, .int (nI d)), (6, .ref q), (5, .int (P0 0)), (3, .long (fAsk P0)), (2, .ref (b 0)), (0, .ref (σ.1 1))] [] := by
  intro l
  induction l with
  | zero =>
    intro i M P U hi hU hV hq9 hw h1
    obtain rfl : U = [] := List.eq_nil_of_length_eq_zero hU
    obtain rfl : i = d + 1 := by omega
    refine zv_iload (n := 643) dL_law_641 rfl rfl ?_
    refine zv_iload (n := 645) dL_law_643 rfl rfl ?_
    refine zv_icmp_gt (n := 648) (tgt := 684) dL_law_645 (by decide) rfl (fun h645 => ?_) (fun h645 => False.elim (h645 (nI_lt (by omega) (by omega))))
    refine zv_lvs (lv' := [(7, .int (nI d)), (6, .ref q), (5, .int (P0 0)), (3, .long (fAsk P0)), (2, .ref (b 0)), (0, .ref (σ.1 1))]) ⟨rfl, rfl, rfl, rfl, rfl, rfl, trivial⟩ ?_
    refine zv_wide (kc' := 43200) (ks' := 965000) (by omega) (by omega) ?_
    exact k_law_684 hV hq9
  | succ l ih =>
    intro i M P U hi hU hV hq9 hw h1
    obtain ⟨T, W, rfl⟩ : ∃ T W, U = T :: W := by
      cases U with
      | nil => cases hU
      | cons T W => exact ⟨T, W, rfl⟩
    have hW : W.length = l := by rw [List.length_cons] at hU; omega
    have hle : i ≤ d := by omega
    obtain ⟨w1, w2⟩ := hw.top
    have es : nI d - nI i = nI l := by rw [show nI d - nI i = nI (d - i) from pk_sub hle, show d - i = l by omega]
    rw [hW] at w1
    refine zv_iload (n := 643) dL_law_641 rfl rfl ?_
    refine zv_iload (n := 645) dL_law_643 rfl rfl ?_
    refine zv_icmp_gt (n := 648) (tgt := 684) dL_law_645 (by decide) rfl (fun h645 => False.elim (absurd h645 (nI_nlt (by omega) (by omega)))) (fun h645 => ?_)
    refine zv_aload_n (n := 649) dL_law_648 rfl rfl ?_
    refine zv_callSXF (n := 652) (As := [.ref (b 0)]) (rest := []) (kc' := ((31000 + 1350 * i) + 1)) (ks' := ((695000 + 29988 * i) + 6)) dL_law_649 rfl (c_O_undo_1 hV rfl) rfl kL_undo lL_328 rfl rfl ⟨by decide, by decide⟩ (Nat.le_of_ble_eq_true rfl) rfl rfl (by show _ ≤ (50000 : Nat); omega) (by show _ ≤ (1100000 : Nat); omega) (fun M1 hq => ?_)
    obtain ⟨hV, hz9⟩ := hq
    have hq9 := (hz9 q rfl).trans hq9
    obtain ⟨fs9, hb9⟩ := hV.o
    rw [hW]
    refine zv_iload (n := 654) dL_law_652 rfl rfl ?_
    refine zv_iload (n := 656) dL_law_654 rfl rfl ?_
    refine zv_isub (n := 657) dL_law_656 rfl ?_
    rw [es]
    refine zv_icmp_ne (n := 660) (tgt := 676) dL_law_657 (by decide) rfl (fun h657 => False.elim (h657 rfl)) (fun h657 => ?_)
    refine zv_aload_n (n := 661) dL_law_660 rfl rfl ?_
    refine zv_callSF (n := 664) (As := [.ref (b 0)]) (rest := []) (kc' := (((31000 + 1350 * i) + 1) + 1349)) (ks' := (((695000 + 29988 * i) + 6) + 29982)) dL_law_661 rfl (c_O_asks hV) rfl kL_asks lL_289 rfl rfl ⟨by decide, by decide⟩ (Nat.le_of_ble_eq_true rfl) rfl rfl (by show _ ≤ (50000 : Nat); omega) (by show _ ≤ (1100000 : Nat); omega) (fun M1 hq => ?_)
    obtain ⟨hV, hz9⟩ := hq
    have hq9 := (hz9 q rfl).trans hq9
    obtain ⟨fs9, hb9⟩ := hV.o
    refine zv_aload (n := 666) dL_law_664 rfl rfl ?_
    refine zv_iload (n := 668) dL_law_666 rfl rfl ?_
    refine zv_iload (n := 670) dL_law_668 rfl rfl ?_
    refine zv_isub (n := 671) dL_law_670 rfl ?_
    rw [es]
    refine zv_lald' (v := fAsk T) (n := 672) dL_law_671 rfl hq9 (vp_in_nI (by omega) (by decide)) (by rw [nI_clamp (by omega)]; exact w1) ?_
    refine zv_lcmp (n := 673) dL_law_672 rfl ?_
    refine zv_if_eq (n := 676) (tgt := 678) dL_law_673 (by decide) rfl (fun h673 => ?_) (fun h673 => False.elim (h673 lcmp_self))
    refine zv_iinc (n := 681) (v := nI (i + 1)) (lv' := [(8, .int (nI (i + 1))), (7, .int (nI d)), (6, .ref q), (5, .int (P0 0)), (3, .long (fAsk P0)), (2, .ref (b 0)), (0, .ref (σ.1 1))]) dL_law_678 rfl rfl (nI_1 i) (by decide) rfl ?_
    refine zv_goto (tgt := 641) dL_law_681 (by decide) ?_
    refine zv_lvs (lv' := [(8, .int (nI (i + 1))), (7, .int (nI d)), (6, .ref q), (5, .int (P0 0)), (3, .long (fAsk P0)), (2, .ref (b 0)), (0, .ref (σ.1 1))]) ⟨rfl, rfl, rfl, rfl, rfl, rfl, rfl, trivial⟩ ?_
    refine zv_wide (kc' := 31000 + 1350 * (i + 1)) (ks' := 695000 + 29988 * (i + 1)) (by omega) (by omega) ?_
    exact ih (i + 1) _ T W (by omega) hW hV hq9 w2 (by omega)

set_option maxRecDepth 100000 in
set_option maxHeartbeats 4000000 in
theorem l_lawC {σ : zSg} {b : Nat → Nat} {C : Nat → Nat → Nat} {P0 : zS} {q : Nat} : ∀ (l i : Nat) (M : zM) (P : zS) (U : List zS) (f : Nat → Int64), i + l = 8 → U.length ≤ i → zVo M (fun a => a = q) b C P U (some P0) → M q = some (zAL 9 f) → zWas f U → zV μL_law (17, 50000, 1100000) σ (fun o _ => o = .inl (some (.int 1))) M (10300 + 2728 * i) (213100 + 63964 * i) 571 [(8, .int (nI i)), (7, .int (nI U.length)), (6, .ref q), (5, .int (P0 0)), (3, .long (fAsk P0)), (2, .ref (b 0)), (0, .ref (σ.1 1))] [] := by
  intro l
  induction l with
  | zero =>
    intro i M P U f hi hU hV hq9 hw
    obtain rfl : i = 8 := by omega
    refine zv_iload (n := 573) dL_law_571 rfl rfl ?_
    refine zv_bipush (n := 575) dL_law_573 rfl (v := 8) (by decide) ?_
    refine zv_icmp_ge (n := 578) (tgt := 638) dL_law_575 (by decide) rfl (fun h575 => ?_) (fun h575 => False.elim (absurd (show nI 8 ≤ nI 8 from Int32.le_refl _) h575))
    refine zv_iconst (n := 639) dL_law_638 rfl (v := 1) (by decide) ?_
    refine zv_istore (n := 641) (lv' := [(8, .int 1), (7, .int (nI U.length)), (6, .ref q), (5, .int (P0 0)), (3, .long (fAsk P0)), (2, .ref (b 0)), (0, .ref (σ.1 1))]) dL_law_639 rfl (by decide) rfl ?_
    refine zv_lvs (lv' := [(8, .int 1), (7, .int (nI U.length)), (6, .ref q), (5, .int (P0 0)), (3, .long (fAsk P0)), (2, .ref (b 0)), (0, .ref (σ.1 1))]) ⟨rfl, rfl, rfl, rfl, rfl, rfl, rfl, trivial⟩ ?_
    refine zv_wide (kc' := 31000 + 1350 * 1) (ks' := 695000 + 29988 * 1) (by decide) (by decide) ?_
    exact l_lawU (d := U.length) (by omega) U.length 1 _ P U (Nat.add_comm _ _) rfl hV hq9 hw (Nat.le_refl _)
  | succ l ih =>
    intro i M P U f hi hU hV hq9 hw
    have hlt : i < 8 := by omega
    refine zv_iload (n := 573) dL_law_571 rfl rfl ?_
    refine zv_bipush (n := 575) dL_law_573 rfl (v := 8) (by decide) ?_
    refine zv_icmp_ge (n := 578) (tgt := 638) dL_law_575 (by decide) rfl (fun h575 => False.elim (absurd h575 (nI_ge (b := 8) hlt (by decide)))) (fun h575 => ?_)
    refine zv_aload_n (n := 579) dL_law_578 rfl rfl ?_
    refine zv_callSF (n := 582) (As := [.ref (b 0)]) (rest := []) (kc' := ((10300 + 2728 * i) + 1349)) (ks' := ((213100 + 63964 * i) + 29982)) dL_law_579 rfl (c_O_asks hV) rfl kL_asks lL_289 rfl rfl ⟨by decide, by decide⟩ (Nat.le_of_ble_eq_true rfl) rfl rfl (by show _ ≤ (50000 : Nat); omega) (by show _ ≤ (1100000 : Nat); omega) (fun M1 hq => ?_)
    obtain ⟨hV, hz9⟩ := hq
    have hq9 := (hz9 q rfl).trans hq9
    obtain ⟨fs9, hb9⟩ := hV.o
    refine zv_lstore (n := 584) (lv' := [(9, .long (fAsk P)), (8, .int (nI i)), (7, .int (nI U.length)), (6, .ref q), (5, .int (P0 0)), (3, .long (fAsk P0)), (2, .ref (b 0)), (0, .ref (σ.1 1))]) dL_law_582 rfl (by decide) rfl ?_
    refine zv_aload_n (n := 585) dL_law_584 rfl rfl ?_
    refine zv_aload_n (n := 586) dL_law_585 rfl rfl ?_
    refine zv_bipush (n := 588) dL_law_586 rfl (v := 20) (by decide) ?_
    refine zv_iload (n := 590) dL_law_588 rfl rfl ?_
    refine zv_iadd (n := 591) dL_law_590 rfl ?_
    rw [show (20 : Int32) + nI i = nI (20 + i) from nI_add 20 i]
    refine zv_callSP (n := 594) (As := [.ref (σ.1 1), .int (nI (20 + i))]) (rest := [.ref (b 0)]) (kc' := ((10300 + 2728 * i) + 1349)) (ks' := ((213100 + 63964 * i) + 29982)) dL_law_591 rfl (c_L_at (k := 20 + i) (by omega)) rfl kL_at lL_168 rfl rfl ⟨by decide, by decide⟩ (Nat.le_of_ble_eq_true rfl) rfl rfl (by show _ ≤ (50000 : Nat); omega) (by show _ ≤ (1100000 : Nat); omega) ?_
    refine zv_iload (n := 596) dL_law_594 rfl rfl ?_
    refine zv_sipush (n := 599) dL_law_596 rfl (v := 977) (by decide) ?_
    refine zv_imul (n := 600) dL_law_599 rfl ?_
    refine zv_ixor (n := 601) dL_law_600 rfl ?_
    refine zv_callSI (n := 604) (As := [.ref (b 0), .int ((fS σ (20 + i)) ^^^ ((nI i) * 977))]) (rest := []) (kc' := (((10300 + 2728 * i) + 1349) + 30)) (ks' := (((213100 + 63964 * i) + 29982) + 4000)) dL_law_601 rfl (c_changes hV _) rfl kL_changes lL_346 rfl rfl ⟨by decide, by decide⟩ (Nat.le_of_ble_eq_true rfl) rfl rfl (by show _ ≤ (50000 : Nat); omega) (by show _ ≤ (1100000 : Nat); omega) (fun w1 M1 hq => ?_)
    obtain ⟨hc, hz9⟩ := hq
    have hq9 := (hz9 q rfl).trans hq9
    refine zv_if_eq (n := 607) (tgt := 620) dL_law_604 (by decide) rfl (fun h604 => ?_) (fun h604 => ?_)
    · skip
      have hV : zVo M1 (fun a => a = q) b C P U (some P0) := by
        rcases hc with ⟨h9, -⟩ | ⟨-, h9⟩
        · rw [h9] at h604; exact absurd h604 (by decide)
        · exact h9
      obtain ⟨fs9, hb9⟩ := hV.o
      refine zv_aload_n (n := 621) dL_law_620 rfl rfl ?_
      refine zv_callSF (n := 624) (As := [.ref (b 0)]) (rest := []) (kc' := ((((10300 + 2728 * i) + 1349) + 30) + 1349)) (ks' := ((((213100 + 63964 * i) + 29982) + 4000) + 29982)) dL_law_621 rfl (c_O_asks hV) rfl kL_asks lL_289 rfl rfl ⟨by decide, by decide⟩ (Nat.le_of_ble_eq_true rfl) rfl rfl (by show _ ≤ (50000 : Nat); omega) (by show _ ≤ (1100000 : Nat); omega) (fun M1 hq => ?_)
      obtain ⟨hV, hz9⟩ := hq
      have hq9 := (hz9 q rfl).trans hq9
      obtain ⟨fs9, hb9⟩ := hV.o
      refine zv_lload (n := 626) dL_law_624 rfl rfl ?_
      refine zv_lcmp (n := 627) dL_law_626 rfl ?_
      refine zv_if_eq (n := 630) (tgt := 632) dL_law_627 (by decide) rfl (fun h627 => ?_) (fun h627 => False.elim (h627 lcmp_self))
      refine zv_iinc (n := 635) (v := nI (i + 1)) (lv' := [(8, .int (nI (i + 1))), (9, .long (fAsk P)), (7, .int (nI U.length)), (6, .ref q), (5, .int (P0 0)), (3, .long (fAsk P0)), (2, .ref (b 0)), (0, .ref (σ.1 1))]) dL_law_632 rfl rfl (nI_1 i) (by decide) rfl ?_
      refine zv_goto (tgt := 571) dL_law_635 (by decide) ?_
      refine zv_lvs (lv' := [(8, .int (nI (i + 1))), (7, .int (nI U.length)), (6, .ref q), (5, .int (P0 0)), (3, .long (fAsk P0)), (2, .ref (b 0)), (0, .ref (σ.1 1))]) ⟨rfl, rfl, rfl, rfl, rfl, rfl, rfl, trivial⟩ ?_
      refine zv_wide (kc' := 10300 + 2728 * (i + 1)) (ks' := 213100 + 63964 * (i + 1)) (by omega) (by omega) ?_
      exact ih (i + 1) _ P U f (by omega) (by omega) hV hq9 hw
    · skip
      have hV : ∃ T9, zVo M1 (fun a => a = q) b C T9 (P :: U) (some P0) := by
        rcases hc with ⟨-, T9, h9⟩ | ⟨h9, -⟩
        · rw [List.take_of_length_le (by rw [List.length_cons]; omega)] at h9
          exact ⟨T9, h9⟩
        · exact absurd h9 h604
      obtain ⟨T9, hV⟩ := hV
      refine zv_aload (n := 609) dL_law_607 rfl rfl ?_
      refine zv_iload (n := 611) dL_law_609 rfl rfl ?_
      refine zv_iinc (n := 614) (v := nI (U.length + 1)) (lv' := [(7, .int (nI (U.length + 1))), (9, .long (fAsk P)), (8, .int (nI i)), (6, .ref q), (5, .int (P0 0)), (3, .long (fAsk P0)), (2, .ref (b 0)), (0, .ref (σ.1 1))]) dL_law_611 rfl rfl (nI_1 U.length) (by decide) rfl ?_
      refine zv_lload (n := 616) dL_law_614 rfl rfl ?_
      refine zv_last (n := 617) dL_law_616 rfl hq9 (vp_in_nI (by omega) (by decide)) ?_
      rw [nI_clamp (by omega)]
      replace hV := hV.putZ (q := q) rfl (zAL 9 (vp_updL f U.length (fAsk P)))
      refine zv_goto (tgt := 632) dL_law_617 (by decide) ?_
      refine zv_iinc (n := 635) (v := nI (i + 1)) (lv' := [(8, .int (nI (i + 1))), (7, .int (nI (U.length + 1))), (9, .long (fAsk P)), (6, .ref q), (5, .int (P0 0)), (3, .long (fAsk P0)), (2, .ref (b 0)), (0, .ref (σ.1 1))]) dL_law_632 rfl rfl (nI_1 i) (by decide) rfl ?_
      refine zv_goto (tgt := 571) dL_law_635 (by decide) ?_
      refine zv_lvs (lv' := [(8, .int (nI (i + 1))), (7, .int (nI (U.length + 1))), (6, .ref q), (5, .int (P0 0)), (3, .long (fAsk P0)), (2, .ref (b 0)), (0, .ref (σ.1 1))]) ⟨rfl, rfl, rfl, rfl, rfl, rfl, rfl, trivial⟩ ?_
      refine zv_wide (kc' := 10300 + 2728 * (i + 1)) (ks' := 213100 + 63964 * (i + 1)) (by omega) (by omega) ?_
      exact ih (i + 1) _ T9 (P :: U) _ (by omega) (by rw [List.length_cons]; omega) hV zup_s (hw.new P)

set_option maxRecDepth 100000 in
set_option maxHeartbeats 4000000 in
theorem k_law_559 {σ : zSg} {b : Nat → Nat} {C : Nat → Nat → Nat} {P0 : zS} {M : zM} (hV : zVo M (fun _ => False) b C P0 [] (some P0)) : zV μL_law (17, 50000, 1100000) σ (fun o _ => o = .inl (some (.int 1))) M (10200) (213000) 559 [(5, .int (P0 0)), (3, .long (fAsk P0)), (2, .ref (b 0)), (0, .ref (σ.1 1))] [] := by
  refine zv_bipush (n := 561) dL_law_559 rfl (v := 9) (by decide) ?_
  refine zv_newL (N := 9) (n := 563) (kc' := 10201) (ks' := 213009) dL_law_561 rfl zaL (by decide) (by decide) (by decide) rfl rfl (Nat.le_of_ble_eq_true rfl) (Nat.le_of_ble_eq_true rfl) (fun q hqn => ?_)
  have hV1 : zVo (zup M q (zAL 9 (fun _ => 0))) (fun a => a = q) b C P0 [] (some P0) := hV.grow (fun x e hx => (zup_n (fun e1 => by rw [e1, hqn] at hx; cases hx)).trans hx) (fun a ha => Or.inr ⟨by rw [show a = q from ha]; exact hqn, by rw [show a = q from ha, zup_s]; exact (fun e1 => nomatch e1)⟩)
  refine zv_astore (n := 565) (lv' := [(6, .ref q), (5, .int (P0 0)), (3, .long (fAsk P0)), (2, .ref (b 0)), (0, .ref (σ.1 1))]) dL_law_563 rfl (by decide) rfl ?_
  refine zv_iconst (n := 566) dL_law_565 rfl (v := 0) (by decide) ?_
  refine zv_istore (n := 568) (lv' := [(7, .int 0), (6, .ref q), (5, .int (P0 0)), (3, .long (fAsk P0)), (2, .ref (b 0)), (0, .ref (σ.1 1))]) dL_law_566 rfl (by decide) rfl ?_
  refine zv_iconst (n := 569) dL_law_568 rfl (v := 0) (by decide) ?_
  refine zv_istore (n := 571) (lv' := [(8, .int 0), (7, .int 0), (6, .ref q), (5, .int (P0 0)), (3, .long (fAsk P0)), (2, .ref (b 0)), (0, .ref (σ.1 1))]) dL_law_569 rfl (by decide) rfl ?_
  refine zv_lvs (lv' := [(8, .int 0), (7, .int 0), (6, .ref q), (5, .int (P0 0)), (3, .long (fAsk P0)), (2, .ref (b 0)), (0, .ref (σ.1 1))]) ⟨rfl, rfl, rfl, rfl, rfl, rfl, rfl, trivial⟩ ?_
  refine zv_wide (kc' := 10300 + 2728 * 0) (ks' := 213100 + 63964 * 0) (Nat.le_of_ble_eq_true rfl) (Nat.le_of_ble_eq_true rfl) ?_
  exact l_lawC 8 0 _ P0 [] (fun _ => 0) rfl (Nat.le_refl _) hV1 zup_s (fun j hj => absurd hj (Nat.not_lt_zero _))

set_option maxRecDepth 100000 in
set_option maxHeartbeats 4000000 in
theorem k_law_492 {σ : zSg} {b : Nat → Nat} {C : Nat → Nat → Nat} {P0 : zS} {U : List zS} {M : zM} (hV : zVo M (fun _ => False) b C P0 U none) (h2 : 2 ≤ fCnt P0) : zV μL_law (17, 50000, 1100000) σ (fun o _ => o = .inl (some (.int 1))) M (700) (13000) 492 [(2, .ref (b 0)), (0, .ref (σ.1 1))] [] := by
  refine zv_aload_n (n := 493) dL_law_492 rfl rfl ?_
  refine zv_callSF (n := 496) (As := [.ref (b 0)]) (rest := []) (kc' := 2049) (ks' := 42982) dL_law_493 rfl (c_O_asks hV) rfl kL_asks lL_289 rfl rfl ⟨by decide, by decide⟩ (Nat.le_of_ble_eq_true rfl) rfl rfl (Nat.le_of_ble_eq_true rfl) (Nat.le_of_ble_eq_true rfl) (fun M1 hq => ?_)
  obtain ⟨hV, -⟩ := hq
  obtain ⟨fs9, hb9⟩ := hV.o
  refine zv_lstore_n (n := 497) (lv' := [(3, .long (fAsk P0)), (2, .ref (b 0)), (0, .ref (σ.1 1))]) dL_law_496 rfl (by decide) rfl ?_
  refine zv_aload_n (n := 498) dL_law_497 rfl rfl ?_
  refine zv_callSF (n := 501) (As := [.ref (b 0)]) (rest := []) (kc' := 3398) (ks' := 72964) dL_law_498 rfl (c_O_asks hV) rfl kL_asks lL_289 rfl rfl ⟨by decide, by decide⟩ (Nat.le_of_ble_eq_true rfl) rfl rfl (Nat.le_of_ble_eq_true rfl) (Nat.le_of_ble_eq_true rfl) (fun M1 hq => ?_)
  obtain ⟨hV, -⟩ := hq
  obtain ⟨fs9, hb9⟩ := hV.o
  refine zv_lload_n (n := 502) dL_law_501 rfl rfl ?_
  refine zv_lcmp (n := 503) dL_law_502 rfl ?_
  refine zv_if_ne (n := 506) (tgt := 513) dL_law_503 (by decide) rfl (fun h503 => False.elim (absurd lcmp_self h503)) (fun h503 => ?_)
  refine zv_aload_n (n := 507) dL_law_506 rfl rfl ?_
  refine zv_callSF (n := 510) (As := [.ref (b 0)]) (rest := []) (kc' := 7398) (ks' := 152964) dL_law_507 rfl (c_O_thrown hV h2) rfl kL_thrown lL_342 rfl rfl ⟨by decide, by decide⟩ (Nat.le_of_ble_eq_true rfl) rfl rfl (Nat.le_of_ble_eq_true rfl) (Nat.le_of_ble_eq_true rfl) (fun M1 hq => ?_)
  obtain ⟨hV, -⟩ := hq
  obtain ⟨fs9, hb9⟩ := hV.o
  refine zv_if_ne (n := 513) (tgt := 515) dL_law_510 (by decide) rfl (fun h510 => ?_) (fun h510 => False.elim (absurd h510 (by decide)))
  refine zv_aload_n (n := 516) dL_law_515 rfl rfl ?_
  refine zv_callVF (n := 519) (As := []) (rest := []) (kc' := 7398) (ks' := 152964) dL_law_516 rfl (c_O_save hV) rfl kX8_save lL_332 hb9 rfl rfl rfl ⟨by decide, by decide⟩ (Nat.le_of_ble_eq_true rfl) rfl rfl (Nat.le_of_ble_eq_true rfl) (Nat.le_of_ble_eq_true rfl) (fun M1 hq => ?_)
  obtain ⟨hV, -⟩ := hq
  obtain ⟨fs9, hb9⟩ := hV.o
  refine zv_istore (n := 521) (lv' := [(5, .int (P0 0)), (3, .long (fAsk P0)), (2, .ref (b 0)), (0, .ref (σ.1 1))]) dL_law_519 rfl (by decide) rfl ?_
  refine zv_iload (n := 523) dL_law_521 rfl rfl ?_
  refine zv_aload_n (n := 524) dL_law_523 rfl rfl ?_
  refine zv_callVP (n := 527) (As := []) (rest := [.int (P0 0)]) (kc' := 7398) (ks' := 152964) dL_law_524 rfl (c_V_count hV) rfl kX8_rackCount lL_188 hb9 rfl rfl rfl ⟨by decide, by decide⟩ (Nat.le_of_ble_eq_true rfl) rfl rfl (Nat.le_of_ble_eq_true rfl) (Nat.le_of_ble_eq_true rfl) ?_
  refine zv_icmp_ne (n := 530) (tgt := 557) dL_law_527 (by decide) rfl (fun h527 => False.elim (h527 rfl)) (fun h527 => ?_)
  refine zv_aload_n (n := 531) dL_law_530 rfl rfl ?_
  refine zv_callSF (n := 534) (As := [.ref (b 0)]) (rest := []) (kc' := 8747) (ks' := 182946) dL_law_531 rfl (c_O_asks hV) rfl kL_asks lL_289 rfl rfl ⟨by decide, by decide⟩ (Nat.le_of_ble_eq_true rfl) rfl rfl (Nat.le_of_ble_eq_true rfl) (Nat.le_of_ble_eq_true rfl) (fun M1 hq => ?_)
  obtain ⟨hV, -⟩ := hq
  obtain ⟨fs9, hb9⟩ := hV.o
  refine zv_lload_n (n := 535) dL_law_534 rfl rfl ?_
  refine zv_lcmp (n := 536) dL_law_535 rfl ?_
  refine zv_if_ne (n := 539) (tgt := 557) dL_law_536 (by decide) rfl (fun h536 => False.elim (absurd lcmp_self h536)) (fun h536 => ?_)
  refine zv_aload_n (n := 540) dL_law_539 rfl rfl ?_
  refine zv_callSXF (n := 543) (As := [.ref (b 0)]) (rest := []) (kc' := 8748) (ks' := 182952) dL_law_540 rfl (c_O_rest1 hV rfl) rfl kL_restore lL_330 rfl rfl ⟨by decide, by decide⟩ (Nat.le_of_ble_eq_true rfl) rfl rfl (Nat.le_of_ble_eq_true rfl) (Nat.le_of_ble_eq_true rfl) (fun M1 hq => ?_)
  obtain ⟨hV, -⟩ := hq
  obtain ⟨fs9, hb9⟩ := hV.o
  refine zv_iload (n := 545) dL_law_543 rfl rfl ?_
  refine zv_icmp_ne (n := 548) (tgt := 557) dL_law_545 (by decide) rfl (fun h545 => False.elim (h545 rfl)) (fun h545 => ?_)
  refine zv_aload_n (n := 549) dL_law_548 rfl rfl ?_
  refine zv_callSF (n := 552) (As := [.ref (b 0)]) (rest := []) (kc' := 10097) (ks' := 212934) dL_law_549 rfl (c_O_asks hV) rfl kL_asks lL_289 rfl rfl ⟨by decide, by decide⟩ (Nat.le_of_ble_eq_true rfl) rfl rfl (Nat.le_of_ble_eq_true rfl) (Nat.le_of_ble_eq_true rfl) (fun M1 hq => ?_)
  obtain ⟨hV, -⟩ := hq
  obtain ⟨fs9, hb9⟩ := hV.o
  refine zv_lload_n (n := 553) dL_law_552 rfl rfl ?_
  refine zv_lcmp (n := 554) dL_law_553 rfl ?_
  refine zv_if_eq (n := 557) (tgt := 559) dL_law_554 (by decide) rfl (fun h554 => ?_) (fun h554 => False.elim (h554 lcmp_self))
  refine zv_lvs (lv' := [(5, .int (P0 0)), (3, .long (fAsk P0)), (2, .ref (b 0)), (0, .ref (σ.1 1))]) ⟨rfl, rfl, rfl, rfl, trivial⟩ ?_
  refine zv_wide (kc' := 10200) (ks' := 213000) (Nat.le_of_ble_eq_true rfl) (Nat.le_of_ble_eq_true rfl) ?_
  refine zv_pc rfl ?_
  exact k_law_559 hV

set_option maxRecDepth 100000 in
set_option maxHeartbeats 4000000 in
theorem k_law_454 {σ : zSg} (M : zM) : zV μL_law (17, 50000, 1100000) σ (fun o _ => o = .inl (some (.int 1))) M (360) (10900) 454 [(0, .ref (σ.1 1))] [] := by
  refine zv_new (n := 457) (kc' := 361) (ks' := 10907) dL_law_454 rfl nL_8 rfl rfl (Nat.le_of_ble_eq_true rfl) (Nat.le_of_ble_eq_true rfl) (fun q1 hq1 => ?_)
  refine zv_dup (n := 458) dL_law_457 rfl rfl ?_
  refine zv_callIF0 (n := 461) (As := []) (rest := [.ref q1]) (kc' := 589) (ks' := 11893) dL_law_458 rfl (c_O_init (h := q1) (Z := fun _ => False) zup_s (fun _ h => h.elim)) rfl rfl kX8_init lL_327 rfl rfl ⟨by decide, by decide⟩ (Nat.le_of_ble_eq_true rfl) rfl rfl (Nat.le_of_ble_eq_true rfl) (Nat.le_of_ble_eq_true rfl) (fun M2 hq => ?_)
  obtain ⟨b, C, hb0, hV, -⟩ := hq
  subst hb0
  obtain ⟨fs9, hb9⟩ := hV.o
  refine zv_astore_n (n := 462) (lv' := [(2, .ref (b 0)), (0, .ref (σ.1 1))]) dL_law_461 rfl (by decide) rfl ?_
  refine zv_aload_n (n := 463) dL_law_462 rfl rfl ?_
  refine zv_aload_n (n := 464) dL_law_463 rfl rfl ?_
  refine zv_callSI (n := 467) (As := [.ref (b 0), .ref (σ.1 1)]) (rest := []) (kc' := 649) (ks' := 12293) dL_law_464 rfl (c_makes hV) rfl kL_makes lL_338 rfl rfl ⟨by decide, by decide⟩ (Nat.le_of_ble_eq_true rfl) rfl rfl (Nat.le_of_ble_eq_true rfl) (Nat.le_of_ble_eq_true rfl) (fun w1 M3 hq => ?_)
  obtain ⟨⟨rfl, P0, U0, hV, hc0⟩, -⟩ := hq
  obtain ⟨fs9, hb9⟩ := hV.o
  have hO := hV.ok
  have h12 := hO.1.2
  refine zv_if_eq (n := 470) (tgt := 478) dL_law_467 (by decide) rfl (fun h467 => False.elim (absurd h467 (by decide))) (fun h467 => ?_)
  refine zv_aload_n (n := 471) dL_law_470 rfl rfl ?_
  refine zv_callVP (n := 474) (As := []) (rest := []) (kc' := 649) (ks' := 12293) dL_law_471 rfl (c_V_count hV) rfl kX8_rackCount lL_188 hb9 rfl rfl rfl ⟨by decide, by decide⟩ (Nat.le_of_ble_eq_true rfl) rfl rfl (Nat.le_of_ble_eq_true rfl) (Nat.le_of_ble_eq_true rfl) ?_
  refine zv_iconst (n := 475) dL_law_474 rfl (v := 2) (by decide) ?_
  refine zv_icmp_ge (n := 478) (tgt := 492) dL_law_475 (by decide) rfl (fun h475 => ?_) (fun h475 => ?_)
  · skip
    have h2 : 2 ≤ fCnt P0 := (nI_leI (a := 2) (by decide) (by omega)).mp (by rw [← hO.1.1]; exact h475)
    refine zv_lvs (lv' := [(2, .ref (b 0)), (0, .ref (σ.1 1))]) ⟨rfl, rfl, trivial⟩ ?_
    refine zv_wide (kc' := 700) (ks' := 13000) (Nat.le_of_ble_eq_true rfl) (Nat.le_of_ble_eq_true rfl) ?_
    exact k_law_492 hV h2
  · skip
    have e1 : P0 0 = 1 := by
      rw [hO.1.1]
      have h9 : ¬ 2 ≤ fCnt P0 := fun q => h475 (by rw [hO.1.1]; exact nI_le (a := 2) q (by omega))
      rw [show fCnt P0 = 1 by omega]
      rfl
    refine zv_aload_n (n := 479) dL_law_478 rfl rfl ?_
    refine zv_callVP (n := 482) (As := []) (rest := []) (kc' := 649) (ks' := 12293) dL_law_479 rfl (c_V_count hV) rfl kX8_rackCount lL_188 hb9 rfl rfl rfl ⟨by decide, by decide⟩ (Nat.le_of_ble_eq_true rfl) rfl rfl (Nat.le_of_ble_eq_true rfl) (Nat.le_of_ble_eq_true rfl) ?_
    refine zv_iconst (n := 483) dL_law_482 rfl (v := 1) (by decide) ?_
    refine zv_icmp_ne (n := 486) (tgt := 490) dL_law_483 (by decide) rfl (fun h483 => False.elim (h483 e1)) (fun h483 => ?_)
    refine zv_iconst (n := 487) dL_law_486 rfl (v := 1) (by decide) ?_
    refine zv_goto (tgt := 491) dL_law_487 (by decide) ?_
    refine zv_zret dL_law_491 rfl rfl (Nat.le_of_ble_eq_true rfl) (Nat.le_of_ble_eq_true rfl) ?_
    rfl

/-- the law answers true -/
theorem c_law {σ : zSg} {M : zM} : zCon μL_law (17, 50000, 1100000) σ [.ref (σ.1 1)] M (fun o _ => o = .inl (some (.int 1))) := by
  refine zCon.of (plainFor_of_name (by decide)) rfl (Nat.le_of_ble_eq_true rfl) ?_
  change zV _ _ _ _ _ 0 0 0 [(0, .ref (σ.1 1))] []
  exact k_law_0 k_law_454


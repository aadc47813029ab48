/-! what the premises and the tables say at the start: zG, va_K (wip/p53/m60.py) -/
def zPre (A : Array Value) (s : State) : Prop := (narrow_1_1.before A s = true ∧ narrow_1_2.before A s = true ∧ narrow_1_3.before A s = true ∧ narrow_1_4.before A s = true) ∧ ∀ w ∈ lw_tbl, w.before A s = true
theorem zPre.of {A : Array Value} {s : State} (h : (Jvm.Cond.and given_1 narrow_1).before A s = true) (ht : ∀ w ∈ lw_tbl, w.before A s = true) : zPre A s := by
  have h2 := ((Cond.before_and (a := given_1) (b := narrow_1)) ▸ h : (given_1.before A s && narrow_1.before A s) = true)
  have h3 : narrow_1.before A s = true := (Bool.and_eq_true_iff.mp h2).2
  have h4 : ((Jvm.Cond.and narrow_1_1 narrow_1_2).before A s && (Jvm.Cond.and narrow_1_3 narrow_1_4).before A s) = true := by
    rw [← Cond.before_and]; exact h3
  have h5 := Bool.and_eq_true_iff.mp h4
  have h6 := Bool.and_eq_true_iff.mp (by rw [← Cond.before_and]; exact h5.1 : (narrow_1_1.before A s && narrow_1_2.before A s) = true)
  have h7 := Bool.and_eq_true_iff.mp (by rw [← Cond.before_and]; exact h5.2 : (narrow_1_3.before A s && narrow_1_4.before A s) = true)
  exact ⟨⟨h6.1, h6.2, h7.1, h7.2⟩, ht⟩
theorem q_mem {A : Array Value} {s : State} {T : Cond} {L : List Cond} (b k : Nat) (hT : T.before A s = true) (h : ((flatC T).drop b).take k = L) : ∀ w ∈ L, w.before A s = true := by
  intro w hw
  rw [← h] at hw
  exact flat_of_before _ hT _ (List.mem_of_mem_drop (List.mem_of_mem_take hw))
theorem q_two {A : Array Value} {s : State} {T U : Cond} {L : List Cond} (b k b' k' : Nat) (hT : T.before A s = true) (hU : U.before A s = true) (h : ((flatC T).drop b).take k ++ ((flatC U).drop b').take k' = L) : ∀ w ∈ L, w.before A s = true := by
  intro w hw
  rw [← h] at hw
  exact (List.mem_append.mp hw).elim (q_mem b k hT rfl w) (q_mem b' k' hU rfl w)
theorem q_rng {A : Array Value} {s : State} {n : Nat} {f : Nat → Cond} (h : ∀ w ∈ (List.range n).map f, w.before A s = true) : ∀ j, j < n → (f j).before A s = true := fun j hj => h _ (List.mem_map.mpr ⟨j, List.mem_range.mpr hj, rfl⟩)
theorem m_a1 {w : Cond} (i : Nat) (h : tables_1_1[i]? = some w) : w ∈ lw_tbl := List.mem_append_right _ (show w ∈ tables_1 from List.mem_append_left _ (List.mem_of_getElem? h))
theorem m_a2 {w : Cond} (i : Nat) (h : tables_1_2[i]? = some w) : w ∈ lw_tbl := List.mem_append_right _ (show w ∈ tables_1 from List.mem_append_right _ (List.mem_append_left _ (List.mem_of_getElem? h)))
theorem m_a3 {w : Cond} (i : Nat) (h : tables_1_3[i]? = some w) : w ∈ lw_tbl := List.mem_append_right _ (show w ∈ tables_1 from List.mem_append_right _ (List.mem_append_right _ (List.mem_append_left _ (List.mem_of_getElem? h))))
theorem m_a4 {w : Cond} (i : Nat) (h : tables_1_4[i]? = some w) : w ∈ lw_tbl := List.mem_append_right _ (show w ∈ tables_1 from List.mem_append_right _ (List.mem_append_right _ (List.mem_append_right _ (List.mem_append_left _ (List.mem_of_getElem? h)))))
theorem m_a5 {w : Cond} (i : Nat) (h : tables_1_5[i]? = some w) : w ∈ lw_tbl := List.mem_append_right _ (show w ∈ tables_1 from List.mem_append_right _ (List.mem_append_right _ (List.mem_append_right _ (List.mem_append_right _ (List.mem_append_left _ (List.mem_of_getElem? h))))))
theorem m_a6 {w : Cond} (i : Nat) (h : tables_1_6[i]? = some w) : w ∈ lw_tbl := List.mem_append_right _ (show w ∈ tables_1 from List.mem_append_right _ (List.mem_append_right _ (List.mem_append_right _ (List.mem_append_right _ (List.mem_append_right _ (List.mem_append_left _ (List.mem_of_getElem? h)))))))
theorem m_a7 {w : Cond} (i : Nat) (h : tables_1_7[i]? = some w) : w ∈ lw_tbl := List.mem_append_right _ (show w ∈ tables_1 from List.mem_append_right _ (List.mem_append_right _ (List.mem_append_right _ (List.mem_append_right _ (List.mem_append_right _ (List.mem_append_right _ (List.mem_of_getElem? h)))))))
def sBk (tm : Term) (n : Nat) (f : Nat → Int32) : List Cond := [.exactly tm "java/lang/String", .eq (.field tm "java/lang/String" "coder" "B") (.int 0), .arrayOf (.field tm "java/lang/String" "value" "[B") .byte, .eq (.length (.field tm "java/lang/String" "value" "[B")) (.int (Int32.ofNat n))] ++ (List.range n).map (fun j => .eq (.elem (.field tm "java/lang/String" "value" "[B") (.int (Int32.ofNat j))) (.int (f j)))
theorem sBk_of {A : Array Value} {s : State} {F : Nat → Prop} {tm : Term} {n : Nat} {f : Nat → Int32} (hn : n < 2 ^ 31) (hb : ∀ w ∈ sBk tm n f, w.before A s = true) (hA : ∀ a : Nat, a < s.heap.size → ¬ F a) : ∃ a t : Nat, tm.eval A s none [] s = some (.ref a) ∧ va_O "java/lang/String" a F s s.heap ∧ va_OF "java/lang/String" "coder" "B" (.int 0) a F s s.heap ∧ va_OF "java/lang/String" "value" "[B" (.ref t) a F s s.heap ∧ va_T .byte t n (fun j => .int (f j)) F s s.heap := by
  have hex := hb (.exactly tm "java/lang/String") (by simp [sBk])
  have hco := hb (.eq (.field tm "java/lang/String" "coder" "B") (.int 0)) (by simp [sBk])
  have har := hb (.arrayOf (.field tm "java/lang/String" "value" "[B") .byte) (by simp [sBk])
  have hle := hb (.eq (.length (.field tm "java/lang/String" "value" "[B")) (.int (Int32.ofNat n))) (by simp [sBk])
  have hel : ∀ j, j < n → (Cond.eq (.elem (.field tm "java/lang/String" "value" "[B") (.int (Int32.ofNat j))) (.int (f j))).before A s = true := q_rng (fun w hw => hb w (List.mem_append_right _ hw))
  obtain ⟨a, c, cA, kA, q1, q2, q3, q4, q5, q6, -⟩ := Cond.exactly_spec (args := A) (first := s) (o := none) (s := s) (idx := []) (t := tm) (cls := "java/lang/String") hex
  obtain ⟨t, ht, hT⟩ := va_Tof (f := fun j => .int (f j)) (A := F) hn har (va_eqt hle) (fun j hj => va_eqt (hel j hj)) hA
  exact ⟨a, t, q1, ⟨cA, q3, q5, by rw [q6]; exact q2, hA a (Array.getElem?_eq_some_iff.mp q3).1⟩, vk_OFof q1 (va_eqt hco) hA, vk_OFof q1 ht hA, hT⟩
def sT (i : Nat) : Term := match zStr[i]? with
  | some q => .string q.1 q.2.1
  | none => .arg 0
def sB (i : Nat) : List Cond := sBk (sT i) (zLens.getD i 0) (fun j => (zByts.getD i []).getD j 0)
theorem sB_0 {A : Array Value} {s : State} (h : zPre A s) : ∀ w ∈ sB 0, w.before A s = true := q_mem 268 16 h.1.2.2.1 (by decide +kernel)
theorem sB_1 {A : Array Value} {s : State} (h : zPre A s) : ∀ w ∈ sB 1, w.before A s = true := q_mem 284 17 h.1.2.2.1 (by decide +kernel)
theorem sB_2 {A : Array Value} {s : State} (h : zPre A s) : ∀ w ∈ sB 2, w.before A s = true := q_mem 301 6 h.1.2.2.1 (by decide +kernel)
theorem sB_3 {A : Array Value} {s : State} (h : zPre A s) : ∀ w ∈ sB 3, w.before A s = true := q_mem 361 5 h.1.2.2.1 (by decide +kernel)
theorem sB_4 {A : Array Value} {s : State} (h : zPre A s) : ∀ w ∈ sB 4, w.before A s = true := q_mem 366 23 h.1.2.2.1 (by decide +kernel)
theorem sB_5 {A : Array Value} {s : State} (h : zPre A s) : ∀ w ∈ sB 5, w.before A s = true := q_two 389 11 0 1 h.1.2.2.1 h.1.2.2.2 (by decide +kernel)
theorem sB_6 {A : Array Value} {s : State} (h : zPre A s) : ∀ w ∈ sB 6, w.before A s = true := q_mem 9 14 h.1.2.2.2 (by decide +kernel)
theorem sB_7 {A : Array Value} {s : State} (h : zPre A s) : ∀ w ∈ sB 7, w.before A s = true := q_mem 23 10 h.1.2.2.2 (by decide +kernel)
theorem sB_8 {A : Array Value} {s : State} (h : zPre A s) : ∀ w ∈ sB 8, w.before A s = true := q_mem 33 15 h.1.2.2.2 (by decide +kernel)
theorem sB_9 {A : Array Value} {s : State} (h : zPre A s) : ∀ w ∈ sB 9, w.before A s = true := q_mem 48 12 h.1.2.2.2 (by decide +kernel)
theorem sB_10 {A : Array Value} {s : State} (h : zPre A s) : ∀ w ∈ sB 10, w.before A s = true := q_mem 60 14 h.1.2.2.2 (by decide +kernel)
theorem sB_11 {A : Array Value} {s : State} (h : zPre A s) : ∀ w ∈ sB 11, w.before A s = true := q_mem 74 11 h.1.2.2.2 (by decide +kernel)
theorem sB_12 {A : Array Value} {s : State} (h : zPre A s) : ∀ w ∈ sB 12, w.before A s = true := q_mem 85 13 h.1.2.2.2 (by decide +kernel)
theorem sB_13 {A : Array Value} {s : State} (h : zPre A s) : ∀ w ∈ sB 13, w.before A s = true := q_mem 98 11 h.1.2.2.2 (by decide +kernel)
theorem sB_14 {A : Array Value} {s : State} (h : zPre A s) : ∀ w ∈ sB 14, w.before A s = true := q_mem 109 10 h.1.2.2.2 (by decide +kernel)
theorem sB_15 {A : Array Value} {s : State} (h : zPre A s) : ∀ w ∈ sB 15, w.before A s = true := q_mem 1 8 h.1.2.2.2 (by decide +kernel)
theorem sB_all {A : Array Value} {s : State} (h : zPre A s) (i : Nat) (hi : i < 16) : ∀ w ∈ sB i, w.before A s = true := by
  match i, hi with
  | 0, _ => exact sB_0 h
  | 1, _ => exact sB_1 h
  | 2, _ => exact sB_2 h
  | 3, _ => exact sB_3 h
  | 4, _ => exact sB_4 h
  | 5, _ => exact sB_5 h
  | 6, _ => exact sB_6 h
  | 7, _ => exact sB_7 h
  | 8, _ => exact sB_8 h
  | 9, _ => exact sB_9 h
  | 10, _ => exact sB_10 h
  | 11, _ => exact sB_11 h
  | 12, _ => exact sB_12 h
  | 13, _ => exact sB_13 h
  | 14, _ => exact sB_14 h
  | 15, _ => exact sB_15 h
  | n + 16, hi => exact absurd hi (by omega)
theorem s_ex {A : Array Value} {s : State} {tm : Term} {nm : String} (h : (Cond.exactly tm nm).before A s = true) : ∃ a : Nat, tm.eval A s none [] s = some (.ref a) := by
  obtain ⟨a, c, cA, kA, q1, -⟩ := Cond.exactly_spec (args := A) (first := s) (o := none) (s := s) (idx := []) (t := tm) (cls := nm) h
  exact ⟨a, q1⟩
theorem pa_2_54 {A : Array Value} {s : State} (h : zPre A s) : (Jvm.Cond.exactly (Jvm.Term.string "CoolingPlanner" (314 : Nat)) "java/lang/String").before A s = true := flat_of_before _ h.1.2.1 _ (List.mem_of_getElem? (i := 54) (by decide +kernel))
theorem pa_2_96 {A : Array Value} {s : State} (h : zPre A s) : (Jvm.Cond.exactly (Jvm.Term.string "CoolingPlanner" (316 : Nat)) "java/lang/String").before A s = true := flat_of_before _ h.1.2.1 _ (List.mem_of_getElem? (i := 96) (by decide +kernel))
theorem pa_2_133 {A : Array Value} {s : State} (h : zPre A s) : (Jvm.Cond.exactly (Jvm.Term.string "CoolingPlanner" (318 : Nat)) "java/lang/String").before A s = true := flat_of_before _ h.1.2.1 _ (List.mem_of_getElem? (i := 133) (by decide +kernel))
theorem pa_2_177 {A : Array Value} {s : State} (h : zPre A s) : (Jvm.Cond.exactly (Jvm.Term.string "CoolingPlanner" (322 : Nat)) "java/lang/String").before A s = true := flat_of_before _ h.1.2.1 _ (List.mem_of_getElem? (i := 177) (by decide +kernel))
theorem pa_2_226 {A : Array Value} {s : State} (h : zPre A s) : (Jvm.Cond.exactly (Jvm.Term.string "CoolingPlanner" (335 : Nat)) "java/lang/String").before A s = true := flat_of_before _ h.1.2.1 _ (List.mem_of_getElem? (i := 226) (by decide +kernel))
theorem pa_2_252 {A : Array Value} {s : State} (h : zPre A s) : (Jvm.Cond.exactly (Jvm.Term.string "CoolingPlanner" (333 : Nat)) "java/lang/String").before A s = true := flat_of_before _ h.1.2.1 _ (List.mem_of_getElem? (i := 252) (by decide +kernel))
theorem pa_2_279 {A : Array Value} {s : State} (h : zPre A s) : (Jvm.Cond.exactly (Jvm.Term.string "CoolingPlanner" (259 : Nat)) "java/lang/String").before A s = true := flat_of_before _ h.1.2.1 _ (List.mem_of_getElem? (i := 279) (by decide +kernel))
theorem pa_2_313 {A : Array Value} {s : State} (h : zPre A s) : (Jvm.Cond.exactly (Jvm.Term.string "CoolingPlanner" (266 : Nat)) "java/lang/String").before A s = true := flat_of_before _ h.1.2.1 _ (List.mem_of_getElem? (i := 313) (by decide +kernel))
theorem pa_3_46 {A : Array Value} {s : State} (h : zPre A s) : (Jvm.Cond.exactly (Jvm.Term.string "CoolingPlanner" (281 : Nat)) "java/lang/String").before A s = true := flat_of_before _ h.1.2.2.1 _ (List.mem_of_getElem? (i := 46) (by decide +kernel))
theorem pa_3_93 {A : Array Value} {s : State} (h : zPre A s) : (Jvm.Cond.exactly (Jvm.Term.string "CoolingPlanner" (287 : Nat)) "java/lang/String").before A s = true := flat_of_before _ h.1.2.2.1 _ (List.mem_of_getElem? (i := 93) (by decide +kernel))
theorem pa_3_128 {A : Array Value} {s : State} (h : zPre A s) : (Jvm.Cond.exactly (Jvm.Term.string "CoolingPlanner" (327 : Nat)) "java/lang/String").before A s = true := flat_of_before _ h.1.2.2.1 _ (List.mem_of_getElem? (i := 128) (by decide +kernel))
theorem pa_3_162 {A : Array Value} {s : State} (h : zPre A s) : (Jvm.Cond.exactly (Jvm.Term.string "CoolingPlanner" (303 : Nat)) "java/lang/String").before A s = true := flat_of_before _ h.1.2.2.1 _ (List.mem_of_getElem? (i := 162) (by decide +kernel))
theorem pa_3_187 {A : Array Value} {s : State} (h : zPre A s) : (Jvm.Cond.exactly (Jvm.Term.string "CoolingPlanner" (339 : Nat)) "java/lang/String").before A s = true := flat_of_before _ h.1.2.2.1 _ (List.mem_of_getElem? (i := 187) (by decide +kernel))
theorem pa_3_210 {A : Array Value} {s : State} (h : zPre A s) : (Jvm.Cond.exactly (Jvm.Term.string "CoolingPlanner" (253 : Nat)) "java/lang/String").before A s = true := flat_of_before _ h.1.2.2.1 _ (List.mem_of_getElem? (i := 210) (by decide +kernel))
theorem pa_3_241 {A : Array Value} {s : State} (h : zPre A s) : (Jvm.Cond.exactly (Jvm.Term.string "CoolingPlanner" (165 : Nat)) "java/lang/String").before A s = true := flat_of_before _ h.1.2.2.1 _ (List.mem_of_getElem? (i := 241) (by decide +kernel))
theorem pa_3_307 {A : Array Value} {s : State} (h : zPre A s) : (Jvm.Cond.exactly (Jvm.Term.string "CoolingPlanner" (156 : Nat)) "java/lang/String").before A s = true := flat_of_before _ h.1.2.2.1 _ (List.mem_of_getElem? (i := 307) (by decide +kernel))
theorem pa_3_334 {A : Array Value} {s : State} (h : zPre A s) : (Jvm.Cond.exactly (Jvm.Term.string "CoolingPlanner" (128 : Nat)) "java/lang/String").before A s = true := flat_of_before _ h.1.2.2.1 _ (List.mem_of_getElem? (i := 334) (by decide +kernel))
theorem pa_1_246 {A : Array Value} {s : State} (h : zPre A s) : (Jvm.Cond.exactly (Jvm.Term.static "CoolingPlanner$Command" "RACK" "LCoolingPlanner$Command;") "CoolingPlanner$Command").before A s = true := flat_of_before _ h.1.1 _ (List.mem_of_getElem? (i := 246) (by decide +kernel))
theorem pa_1_250 {A : Array Value} {s : State} (h : zPre A s) : (Jvm.Cond.exactly (Jvm.Term.static "CoolingPlanner$Command" "DROP" "LCoolingPlanner$Command;") "CoolingPlanner$Command").before A s = true := flat_of_before _ h.1.1 _ (List.mem_of_getElem? (i := 250) (by decide +kernel))
theorem pa_1_255 {A : Array Value} {s : State} (h : zPre A s) : (Jvm.Cond.exactly (Jvm.Term.static "CoolingPlanner$Command" "SHIFT" "LCoolingPlanner$Command;") "CoolingPlanner$Command").before A s = true := flat_of_before _ h.1.1 _ (List.mem_of_getElem? (i := 255) (by decide +kernel))
theorem pa_1_261 {A : Array Value} {s : State} (h : zPre A s) : (Jvm.Cond.exactly (Jvm.Term.static "CoolingPlanner$Command" "LOAD" "LCoolingPlanner$Command;") "CoolingPlanner$Command").before A s = true := flat_of_before _ h.1.1 _ (List.mem_of_getElem? (i := 261) (by decide +kernel))
theorem pa_1_268 {A : Array Value} {s : State} (h : zPre A s) : (Jvm.Cond.exactly (Jvm.Term.static "CoolingPlanner$Command" "SEND" "LCoolingPlanner$Command;") "CoolingPlanner$Command").before A s = true := flat_of_before _ h.1.1 _ (List.mem_of_getElem? (i := 268) (by decide +kernel))
theorem pa_1_276 {A : Array Value} {s : State} (h : zPre A s) : (Jvm.Cond.exactly (Jvm.Term.static "CoolingPlanner$Command" "FAN" "LCoolingPlanner$Command;") "CoolingPlanner$Command").before A s = true := flat_of_before _ h.1.1 _ (List.mem_of_getElem? (i := 276) (by decide +kernel))
theorem pa_1_285 {A : Array Value} {s : State} (h : zPre A s) : (Jvm.Cond.exactly (Jvm.Term.static "CoolingPlanner$Command" "CURVE" "LCoolingPlanner$Command;") "CoolingPlanner$Command").before A s = true := flat_of_before _ h.1.1 _ (List.mem_of_getElem? (i := 285) (by decide +kernel))
theorem pa_1_295 {A : Array Value} {s : State} (h : zPre A s) : (Jvm.Cond.exactly (Jvm.Term.static "CoolingPlanner$Command" "LIMIT" "LCoolingPlanner$Command;") "CoolingPlanner$Command").before A s = true := flat_of_before _ h.1.1 _ (List.mem_of_getElem? (i := 295) (by decide +kernel))
theorem pa_1_306 {A : Array Value} {s : State} (h : zPre A s) : (Jvm.Cond.exactly (Jvm.Term.static "CoolingPlanner$Command" "WAIT" "LCoolingPlanner$Command;") "CoolingPlanner$Command").before A s = true := flat_of_before _ h.1.1 _ (List.mem_of_getElem? (i := 306) (by decide +kernel))
theorem pa_1_3 {A : Array Value} {s : State} (h : zPre A s) : (Jvm.Cond.exactly (Jvm.Term.static "CoolingPlanner$Command" "WAIT_A_MINUTE" "LCoolingPlanner$Command;") "CoolingPlanner$Command").before A s = true := flat_of_before _ h.1.1 _ (List.mem_of_getElem? (i := 3) (by decide +kernel))
theorem pa_1_247 {A : Array Value} {s : State} (h : zPre A s) : (Jvm.Cond.eq (Jvm.Term.field (Jvm.Term.static "CoolingPlanner$Command" "RACK" "LCoolingPlanner$Command;") "java/lang/Enum" "ordinal" "I") (Jvm.Term.int (0 : Int32))).before A s = true := flat_of_before _ h.1.1 _ (List.mem_of_getElem? (i := 247) (by decide +kernel))
theorem pa_1_251 {A : Array Value} {s : State} (h : zPre A s) : (Jvm.Cond.eq (Jvm.Term.field (Jvm.Term.static "CoolingPlanner$Command" "DROP" "LCoolingPlanner$Command;") "java/lang/Enum" "ordinal" "I") (Jvm.Term.int (1 : Int32))).before A s = true := flat_of_before _ h.1.1 _ (List.mem_of_getElem? (i := 251) (by decide +kernel))
theorem pa_1_256 {A : Array Value} {s : State} (h : zPre A s) : (Jvm.Cond.eq (Jvm.Term.field (Jvm.Term.static "CoolingPlanner$Command" "SHIFT" "LCoolingPlanner$Command;") "java/lang/Enum" "ordinal" "I") (Jvm.Term.int (2 : Int32))).before A s = true := flat_of_before _ h.1.1 _ (List.mem_of_getElem? (i := 256) (by decide +kernel))
theorem pa_1_262 {A : Array Value} {s : State} (h : zPre A s) : (Jvm.Cond.eq (Jvm.Term.field (Jvm.Term.static "CoolingPlanner$Command" "LOAD" "LCoolingPlanner$Command;") "java/lang/Enum" "ordinal" "I") (Jvm.Term.int (3 : Int32))).before A s = true := flat_of_before _ h.1.1 _ (List.mem_of_getElem? (i := 262) (by decide +kernel))
theorem pa_1_269 {A : Array Value} {s : State} (h : zPre A s) : (Jvm.Cond.eq (Jvm.Term.field (Jvm.Term.static "CoolingPlanner$Command" "SEND" "LCoolingPlanner$Command;") "java/lang/Enum" "ordinal" "I") (Jvm.Term.int (4 : Int32))).before A s = true := flat_of_before _ h.1.1 _ (List.mem_of_getElem? (i := 269) (by decide +kernel))
theorem pa_1_277 {A : Array Value} {s : State} (h : zPre A s) : (Jvm.Cond.eq (Jvm.Term.field (Jvm.Term.static "CoolingPlanner$Command" "FAN" "LCoolingPlanner$Command;") "java/lang/Enum" "ordinal" "I") (Jvm.Term.int (5 : Int32))).before A s = true := flat_of_before _ h.1.1 _ (List.mem_of_getElem? (i := 277) (by decide +kernel))
theorem pa_1_286 {A : Array Value} {s : State} (h : zPre A s) : (Jvm.Cond.eq (Jvm.Term.field (Jvm.Term.static "CoolingPlanner$Command" "CURVE" "LCoolingPlanner$Command;") "java/lang/Enum" "ordinal" "I") (Jvm.Term.int (6 : Int32))).before A s = true := flat_of_before _ h.1.1 _ (List.mem_of_getElem? (i := 286) (by decide +kernel))
theorem pa_1_296 {A : Array Value} {s : State} (h : zPre A s) : (Jvm.Cond.eq (Jvm.Term.field (Jvm.Term.static "CoolingPlanner$Command" "LIMIT" "LCoolingPlanner$Command;") "java/lang/Enum" "ordinal" "I") (Jvm.Term.int (7 : Int32))).before A s = true := flat_of_before _ h.1.1 _ (List.mem_of_getElem? (i := 296) (by decide +kernel))
theorem pa_1_307 {A : Array Value} {s : State} (h : zPre A s) : (Jvm.Cond.eq (Jvm.Term.field (Jvm.Term.static "CoolingPlanner$Command" "WAIT" "LCoolingPlanner$Command;") "java/lang/Enum" "ordinal" "I") (Jvm.Term.int (8 : Int32))).before A s = true := flat_of_before _ h.1.1 _ (List.mem_of_getElem? (i := 307) (by decide +kernel))
theorem pa_1_4 {A : Array Value} {s : State} (h : zPre A s) : (Jvm.Cond.eq (Jvm.Term.field (Jvm.Term.static "CoolingPlanner$Command" "WAIT_A_MINUTE" "LCoolingPlanner$Command;") "java/lang/Enum" "ordinal" "I") (Jvm.Term.int (9 : Int32))).before A s = true := flat_of_before _ h.1.1 _ (List.mem_of_getElem? (i := 4) (by decide +kernel))
theorem pa_1_248 {A : Array Value} {s : State} (h : zPre A s) : (Jvm.Cond.eq (Jvm.Term.field (Jvm.Term.static "CoolingPlanner$Command" "RACK" "LCoolingPlanner$Command;") "CoolingPlanner$Command" "form" "Ljava/lang/String;") (Jvm.Term.string "CoolingPlanner$Command" (58 : Nat))).before A s = true := flat_of_before _ h.1.1 _ (List.mem_of_getElem? (i := 248) (by decide +kernel))
theorem pa_1_252 {A : Array Value} {s : State} (h : zPre A s) : (Jvm.Cond.eq (Jvm.Term.field (Jvm.Term.static "CoolingPlanner$Command" "DROP" "LCoolingPlanner$Command;") "CoolingPlanner$Command" "form" "Ljava/lang/String;") (Jvm.Term.string "CoolingPlanner$Command" (64 : Nat))).before A s = true := flat_of_before _ h.1.1 _ (List.mem_of_getElem? (i := 252) (by decide +kernel))
theorem pa_1_257 {A : Array Value} {s : State} (h : zPre A s) : (Jvm.Cond.eq (Jvm.Term.field (Jvm.Term.static "CoolingPlanner$Command" "SHIFT" "LCoolingPlanner$Command;") "CoolingPlanner$Command" "form" "Ljava/lang/String;") (Jvm.Term.string "CoolingPlanner$Command" (67 : Nat))).before A s = true := flat_of_before _ h.1.1 _ (List.mem_of_getElem? (i := 257) (by decide +kernel))
theorem pa_1_263 {A : Array Value} {s : State} (h : zPre A s) : (Jvm.Cond.eq (Jvm.Term.field (Jvm.Term.static "CoolingPlanner$Command" "LOAD" "LCoolingPlanner$Command;") "CoolingPlanner$Command" "form" "Ljava/lang/String;") (Jvm.Term.string "CoolingPlanner$Command" (70 : Nat))).before A s = true := flat_of_before _ h.1.1 _ (List.mem_of_getElem? (i := 263) (by decide +kernel))
theorem pa_1_270 {A : Array Value} {s : State} (h : zPre A s) : (Jvm.Cond.eq (Jvm.Term.field (Jvm.Term.static "CoolingPlanner$Command" "SEND" "LCoolingPlanner$Command;") "CoolingPlanner$Command" "form" "Ljava/lang/String;") (Jvm.Term.string "CoolingPlanner$Command" (73 : Nat))).before A s = true := flat_of_before _ h.1.1 _ (List.mem_of_getElem? (i := 270) (by decide +kernel))
theorem pa_1_278 {A : Array Value} {s : State} (h : zPre A s) : (Jvm.Cond.eq (Jvm.Term.field (Jvm.Term.static "CoolingPlanner$Command" "FAN" "LCoolingPlanner$Command;") "CoolingPlanner$Command" "form" "Ljava/lang/String;") (Jvm.Term.string "CoolingPlanner$Command" (76 : Nat))).before A s = true := flat_of_before _ h.1.1 _ (List.mem_of_getElem? (i := 278) (by decide +kernel))
theorem pa_1_287 {A : Array Value} {s : State} (h : zPre A s) : (Jvm.Cond.eq (Jvm.Term.field (Jvm.Term.static "CoolingPlanner$Command" "CURVE" "LCoolingPlanner$Command;") "CoolingPlanner$Command" "form" "Ljava/lang/String;") (Jvm.Term.string "CoolingPlanner$Command" (79 : Nat))).before A s = true := flat_of_before _ h.1.1 _ (List.mem_of_getElem? (i := 287) (by decide +kernel))
theorem pa_1_297 {A : Array Value} {s : State} (h : zPre A s) : (Jvm.Cond.eq (Jvm.Term.field (Jvm.Term.static "CoolingPlanner$Command" "LIMIT" "LCoolingPlanner$Command;") "CoolingPlanner$Command" "form" "Ljava/lang/String;") (Jvm.Term.string "CoolingPlanner$Command" (82 : Nat))).before A s = true := flat_of_before _ h.1.1 _ (List.mem_of_getElem? (i := 297) (by decide +kernel))
theorem pa_1_308 {A : Array Value} {s : State} (h : zPre A s) : (Jvm.Cond.eq (Jvm.Term.field (Jvm.Term.static "CoolingPlanner$Command" "WAIT" "LCoolingPlanner$Command;") "CoolingPlanner$Command" "form" "Ljava/lang/String;") (Jvm.Term.string "CoolingPlanner$Command" (85 : Nat))).before A s = true := flat_of_before _ h.1.1 _ (List.mem_of_getElem? (i := 308) (by decide +kernel))
theorem pa_1_5 {A : Array Value} {s : State} (h : zPre A s) : (Jvm.Cond.eq (Jvm.Term.field (Jvm.Term.static "CoolingPlanner$Command" "WAIT_A_MINUTE" "LCoolingPlanner$Command;") "CoolingPlanner$Command" "form" "Ljava/lang/String;") (Jvm.Term.string "CoolingPlanner$Command" (88 : Nat))).before A s = true := flat_of_before _ h.1.1 _ (List.mem_of_getElem? (i := 5) (by decide +kernel))
theorem pa_1_14 {A : Array Value} {s : State} (h : zPre A s) : (Jvm.Cond.arrayOf (Jvm.Term.static "CoolingPlanner" "COMMANDS" "[LCoolingPlanner$Command;") (Jvm.ClassFile.FieldType.object "CoolingPlanner$Command")).before A s = true := flat_of_before _ h.1.1 _ (List.mem_of_getElem? (i := 14) (by decide +kernel))
theorem pa_1_15 {A : Array Value} {s : State} (h : zPre A s) : (Jvm.Cond.eq (Jvm.Term.length (Jvm.Term.static "CoolingPlanner" "COMMANDS" "[LCoolingPlanner$Command;")) (Jvm.Term.int (10 : Int32))).before A s = true := flat_of_before _ h.1.1 _ (List.mem_of_getElem? (i := 15) (by decide +kernel))
theorem pa_1_28 {A : Array Value} {s : State} (h : zPre A s) : (Jvm.Cond.arrayOf (Jvm.Term.static "java/lang/Integer" "DigitOnes" "[B") Jvm.ClassFile.FieldType.byte).before A s = true := flat_of_before _ h.1.1 _ (List.mem_of_getElem? (i := 28) (by decide +kernel))
theorem pa_1_29 {A : Array Value} {s : State} (h : zPre A s) : (Jvm.Cond.eq (Jvm.Term.length (Jvm.Term.static "java/lang/Integer" "DigitOnes" "[B")) (Jvm.Term.int (100 : Int32))).before A s = true := flat_of_before _ h.1.1 _ (List.mem_of_getElem? (i := 29) (by decide +kernel))
theorem pa_1_131 {A : Array Value} {s : State} (h : zPre A s) : (Jvm.Cond.arrayOf (Jvm.Term.static "java/lang/Integer" "DigitTens" "[B") Jvm.ClassFile.FieldType.byte).before A s = true := flat_of_before _ h.1.1 _ (List.mem_of_getElem? (i := 131) (by decide +kernel))
theorem pa_1_132 {A : Array Value} {s : State} (h : zPre A s) : (Jvm.Cond.eq (Jvm.Term.length (Jvm.Term.static "java/lang/Integer" "DigitTens" "[B")) (Jvm.Term.int (100 : Int32))).before A s = true := flat_of_before _ h.1.1 _ (List.mem_of_getElem? (i := 132) (by decide +kernel))
theorem pa_1_234 {A : Array Value} {s : State} (h : zPre A s) : (Jvm.Cond.arrayOf (Jvm.Term.static "CoolingPlanner$1" "$SwitchMap$CoolingPlanner$Command" "[I") Jvm.ClassFile.FieldType.int).before A s = true := flat_of_before _ h.1.1 _ (List.mem_of_getElem? (i := 234) (by decide +kernel))
theorem pa_1_235 {A : Array Value} {s : State} (h : zPre A s) : (Jvm.Cond.eq (Jvm.Term.length (Jvm.Term.static "CoolingPlanner$1" "$SwitchMap$CoolingPlanner$Command" "[I")) (Jvm.Term.int (10 : Int32))).before A s = true := flat_of_before _ h.1.1 _ (List.mem_of_getElem? (i := 235) (by decide +kernel))
theorem pa_1_2 {A : Array Value} {s : State} (h : zPre A s) : (Jvm.Cond.eq (Jvm.Term.static "java/lang/String" "COMPACT_STRINGS" "Z") (Jvm.Term.int (1 : Int32))).before A s = true := flat_of_before _ h.1.1 _ (List.mem_of_getElem? (i := 2) (by decide +kernel))
theorem pa_1_6 {A : Array Value} {s : State} (h : zPre A s) : (Jvm.Cond.isRef (Jvm.Term.static "java/lang/Throwable" "UNASSIGNED_STACK" "[Ljava/lang/StackTraceElement;")).before A s = true := flat_of_before _ h.1.1 _ (List.mem_of_getElem? (i := 6) (by decide +kernel))
theorem pa_1_7 {A : Array Value} {s : State} (h : zPre A s) : (Jvm.Cond.isRef (Jvm.Term.static "java/lang/Throwable" "SUPPRESSED_SENTINEL" "Ljava/util/List;")).before A s = true := flat_of_before _ h.1.1 _ (List.mem_of_getElem? (i := 7) (by decide +kernel))
theorem pa_1_8 {A : Array Value} {s : State} (h : zPre A s) : (Jvm.Cond.isRef (Jvm.Term.static "jdk/internal/util/Preconditions" "SIOOBE_FORMATTER" "Ljava/util/function/BiFunction;")).before A s = true := flat_of_before _ h.1.1 _ (List.mem_of_getElem? (i := 8) (by decide +kernel))
theorem pa_1_359 {A : Array Value} {s : State} (h : zPre A s) : (Jvm.Cond.not (Jvm.Cond.castable "java/util/NoSuchElementException" "java/lang/IllegalStateException")).before A s = true := flat_of_before _ h.1.1 _ (List.mem_of_getElem? (i := 359) (by decide +kernel))
theorem pa_1_342 {A : Array Value} {s : State} (h : zPre A s) : (Jvm.Cond.not (Jvm.Cond.castable "java/util/NoSuchElementException" "java/lang/IllegalArgumentException")).before A s = true := flat_of_before _ h.1.1 _ (List.mem_of_getElem? (i := 342) (by decide +kernel))
theorem pa_1_327 {A : Array Value} {s : State} (h : zPre A s) : (Jvm.Cond.not (Jvm.Cond.castable "java/util/NoSuchElementException" "java/lang/IndexOutOfBoundsException")).before A s = true := flat_of_before _ h.1.1 _ (List.mem_of_getElem? (i := 327) (by decide +kernel))
theorem pa_1_376 {A : Array Value} {s : State} (h : zPre A s) : (Jvm.Cond.not (Jvm.Cond.castable "java/util/NoSuchElementException" "java/lang/UnsupportedOperationException")).before A s = true := flat_of_before _ h.1.1 _ (List.mem_of_getElem? (i := 376) (by decide +kernel))
theorem pa_2_10 {A : Array Value} {s : State} (h : zPre A s) : (Jvm.Cond.not (Jvm.Cond.castable "java/util/NoSuchElementException" "java/lang/ArithmeticException")).before A s = true := flat_of_before _ h.1.2.1 _ (List.mem_of_getElem? (i := 10) (by decide +kernel))
theorem pa_1_393 {A : Array Value} {s : State} (h : zPre A s) : (Jvm.Cond.not (Jvm.Cond.castable "java/lang/IllegalStateException" "java/util/NoSuchElementException")).before A s = true := flat_of_before _ h.1.1 _ (List.mem_of_getElem? (i := 393) (by decide +kernel))
theorem pa_1_343 {A : Array Value} {s : State} (h : zPre A s) : (Jvm.Cond.not (Jvm.Cond.castable "java/lang/IllegalStateException" "java/lang/IllegalArgumentException")).before A s = true := flat_of_before _ h.1.1 _ (List.mem_of_getElem? (i := 343) (by decide +kernel))
theorem pa_1_328 {A : Array Value} {s : State} (h : zPre A s) : (Jvm.Cond.not (Jvm.Cond.castable "java/lang/IllegalStateException" "java/lang/IndexOutOfBoundsException")).before A s = true := flat_of_before _ h.1.1 _ (List.mem_of_getElem? (i := 328) (by decide +kernel))
theorem pa_1_377 {A : Array Value} {s : State} (h : zPre A s) : (Jvm.Cond.not (Jvm.Cond.castable "java/lang/IllegalStateException" "java/lang/UnsupportedOperationException")).before A s = true := flat_of_before _ h.1.1 _ (List.mem_of_getElem? (i := 377) (by decide +kernel))
theorem pa_2_11 {A : Array Value} {s : State} (h : zPre A s) : (Jvm.Cond.not (Jvm.Cond.castable "java/lang/IllegalStateException" "java/lang/ArithmeticException")).before A s = true := flat_of_before _ h.1.2.1 _ (List.mem_of_getElem? (i := 11) (by decide +kernel))
theorem pa_1_395 {A : Array Value} {s : State} (h : zPre A s) : (Jvm.Cond.not (Jvm.Cond.castable "java/lang/IllegalArgumentException" "java/util/NoSuchElementException")).before A s = true := flat_of_before _ h.1.1 _ (List.mem_of_getElem? (i := 395) (by decide +kernel))
theorem pa_1_361 {A : Array Value} {s : State} (h : zPre A s) : (Jvm.Cond.not (Jvm.Cond.castable "java/lang/IllegalArgumentException" "java/lang/IllegalStateException")).before A s = true := flat_of_before _ h.1.1 _ (List.mem_of_getElem? (i := 361) (by decide +kernel))
theorem pa_1_329 {A : Array Value} {s : State} (h : zPre A s) : (Jvm.Cond.not (Jvm.Cond.castable "java/lang/IllegalArgumentException" "java/lang/IndexOutOfBoundsException")).before A s = true := flat_of_before _ h.1.1 _ (List.mem_of_getElem? (i := 329) (by decide +kernel))
theorem pa_1_379 {A : Array Value} {s : State} (h : zPre A s) : (Jvm.Cond.not (Jvm.Cond.castable "java/lang/IllegalArgumentException" "java/lang/UnsupportedOperationException")).before A s = true := flat_of_before _ h.1.1 _ (List.mem_of_getElem? (i := 379) (by decide +kernel))
theorem pa_2_13 {A : Array Value} {s : State} (h : zPre A s) : (Jvm.Cond.not (Jvm.Cond.castable "java/lang/IllegalArgumentException" "java/lang/ArithmeticException")).before A s = true := flat_of_before _ h.1.2.1 _ (List.mem_of_getElem? (i := 13) (by decide +kernel))
theorem pa_1_394 {A : Array Value} {s : State} (h : zPre A s) : (Jvm.Cond.not (Jvm.Cond.castable "java/lang/IndexOutOfBoundsException" "java/util/NoSuchElementException")).before A s = true := flat_of_before _ h.1.1 _ (List.mem_of_getElem? (i := 394) (by decide +kernel))
theorem pa_1_360 {A : Array Value} {s : State} (h : zPre A s) : (Jvm.Cond.not (Jvm.Cond.castable "java/lang/IndexOutOfBoundsException" "java/lang/IllegalStateException")).before A s = true := flat_of_before _ h.1.1 _ (List.mem_of_getElem? (i := 360) (by decide +kernel))
theorem pa_1_344 {A : Array Value} {s : State} (h : zPre A s) : (Jvm.Cond.not (Jvm.Cond.castable "java/lang/IndexOutOfBoundsException" "java/lang/IllegalArgumentException")).before A s = true := flat_of_before _ h.1.1 _ (List.mem_of_getElem? (i := 344) (by decide +kernel))
theorem pa_1_378 {A : Array Value} {s : State} (h : zPre A s) : (Jvm.Cond.not (Jvm.Cond.castable "java/lang/IndexOutOfBoundsException" "java/lang/UnsupportedOperationException")).before A s = true := flat_of_before _ h.1.1 _ (List.mem_of_getElem? (i := 378) (by decide +kernel))
theorem pa_2_12 {A : Array Value} {s : State} (h : zPre A s) : (Jvm.Cond.not (Jvm.Cond.castable "java/lang/IndexOutOfBoundsException" "java/lang/ArithmeticException")).before A s = true := flat_of_before _ h.1.2.1 _ (List.mem_of_getElem? (i := 12) (by decide +kernel))
theorem pa_1_396 {A : Array Value} {s : State} (h : zPre A s) : (Jvm.Cond.not (Jvm.Cond.castable "java/lang/UnsupportedOperationException" "java/util/NoSuchElementException")).before A s = true := flat_of_before _ h.1.1 _ (List.mem_of_getElem? (i := 396) (by decide +kernel))
theorem pa_1_362 {A : Array Value} {s : State} (h : zPre A s) : (Jvm.Cond.not (Jvm.Cond.castable "java/lang/UnsupportedOperationException" "java/lang/IllegalStateException")).before A s = true := flat_of_before _ h.1.1 _ (List.mem_of_getElem? (i := 362) (by decide +kernel))
theorem pa_1_345 {A : Array Value} {s : State} (h : zPre A s) : (Jvm.Cond.not (Jvm.Cond.castable "java/lang/UnsupportedOperationException" "java/lang/IllegalArgumentException")).before A s = true := flat_of_before _ h.1.1 _ (List.mem_of_getElem? (i := 345) (by decide +kernel))
theorem pa_1_330 {A : Array Value} {s : State} (h : zPre A s) : (Jvm.Cond.not (Jvm.Cond.castable "java/lang/UnsupportedOperationException" "java/lang/IndexOutOfBoundsException")).before A s = true := flat_of_before _ h.1.1 _ (List.mem_of_getElem? (i := 330) (by decide +kernel))
theorem pa_2_14 {A : Array Value} {s : State} (h : zPre A s) : (Jvm.Cond.not (Jvm.Cond.castable "java/lang/UnsupportedOperationException" "java/lang/ArithmeticException")).before A s = true := flat_of_before _ h.1.2.1 _ (List.mem_of_getElem? (i := 14) (by decide +kernel))
theorem pa_2_0 {A : Array Value} {s : State} (h : zPre A s) : (Jvm.Cond.not (Jvm.Cond.castable "java/lang/ArithmeticException" "java/util/NoSuchElementException")).before A s = true := flat_of_before _ h.1.2.1 _ (List.mem_of_getElem? (i := 0) (by decide +kernel))
theorem pa_1_366 {A : Array Value} {s : State} (h : zPre A s) : (Jvm.Cond.not (Jvm.Cond.castable "java/lang/ArithmeticException" "java/lang/IllegalStateException")).before A s = true := flat_of_before _ h.1.1 _ (List.mem_of_getElem? (i := 366) (by decide +kernel))
theorem pa_1_349 {A : Array Value} {s : State} (h : zPre A s) : (Jvm.Cond.not (Jvm.Cond.castable "java/lang/ArithmeticException" "java/lang/IllegalArgumentException")).before A s = true := flat_of_before _ h.1.1 _ (List.mem_of_getElem? (i := 349) (by decide +kernel))
theorem pa_1_332 {A : Array Value} {s : State} (h : zPre A s) : (Jvm.Cond.not (Jvm.Cond.castable "java/lang/ArithmeticException" "java/lang/IndexOutOfBoundsException")).before A s = true := flat_of_before _ h.1.1 _ (List.mem_of_getElem? (i := 332) (by decide +kernel))
theorem pa_1_383 {A : Array Value} {s : State} (h : zPre A s) : (Jvm.Cond.not (Jvm.Cond.castable "java/lang/ArithmeticException" "java/lang/UnsupportedOperationException")).before A s = true := flat_of_before _ h.1.1 _ (List.mem_of_getElem? (i := 383) (by decide +kernel))
theorem sX_all {A : Array Value} {s : State} (h : zPre A s) (i : Nat) (hi : i < 33) : ∃ a : Nat, (sT i).eval A s none [] s = some (.ref a) := by
  match i, hi with
  | 0, _ => exact s_ex (sB_0 h _ List.mem_cons_self)
  | 1, _ => exact s_ex (sB_1 h _ List.mem_cons_self)
  | 2, _ => exact s_ex (sB_2 h _ List.mem_cons_self)
  | 3, _ => exact s_ex (sB_3 h _ List.mem_cons_self)
  | 4, _ => exact s_ex (sB_4 h _ List.mem_cons_self)
  | 5, _ => exact s_ex (sB_5 h _ List.mem_cons_self)
  | 6, _ => exact s_ex (sB_6 h _ List.mem_cons_self)
  | 7, _ => exact s_ex (sB_7 h _ List.mem_cons_self)
  | 8, _ => exact s_ex (sB_8 h _ List.mem_cons_self)
  | 9, _ => exact s_ex (sB_9 h _ List.mem_cons_self)
  | 10, _ => exact s_ex (sB_10 h _ List.mem_cons_self)
  | 11, _ => exact s_ex (sB_11 h _ List.mem_cons_self)
  | 12, _ => exact s_ex (sB_12 h _ List.mem_cons_self)
  | 13, _ => exact s_ex (sB_13 h _ List.mem_cons_self)
  | 14, _ => exact s_ex (sB_14 h _ List.mem_cons_self)
  | 15, _ => exact s_ex (sB_15 h _ List.mem_cons_self)
  | 16, _ => exact s_ex (pa_2_54 h)
  | 17, _ => exact s_ex (pa_2_96 h)
  | 18, _ => exact s_ex (pa_2_133 h)
  | 19, _ => exact s_ex (pa_2_177 h)
  | 20, _ => exact s_ex (pa_2_226 h)
  | 21, _ => exact s_ex (pa_2_252 h)
  | 22, _ => exact s_ex (pa_2_279 h)
  | 23, _ => exact s_ex (pa_2_313 h)
  | 24, _ => exact s_ex (pa_3_46 h)
  | 25, _ => exact s_ex (pa_3_93 h)
  | 26, _ => exact s_ex (pa_3_128 h)
  | 27, _ => exact s_ex (pa_3_162 h)
  | 28, _ => exact s_ex (pa_3_187 h)
  | 29, _ => exact s_ex (pa_3_210 h)
  | 30, _ => exact s_ex (pa_3_241 h)
  | 31, _ => exact s_ex (pa_3_307 h)
  | 32, _ => exact s_ex (pa_3_334 h)
  | n + 33, hi => exact absurd hi (by omega)
theorem sR_all {A : Array Value} {s : State} (h : zPre A s) (i : Nat) (q : String × Nat × String) (hq : zStr[i]? = some q) : (Cond.stringRef q.1 q.2.1 q.2.2).before A s = true := by
  match i, hq with
  | 0, hq => cases hq; exact (h.2 _ (m_a6 189 rfl))
  | 1, hq => cases hq; exact (h.2 _ (m_a6 193 rfl))
  | 2, hq => cases hq; exact (h.2 _ (m_a6 194 rfl))
  | 3, hq => cases hq; exact (h.2 _ (m_a7 36 rfl))
  | 4, hq => cases hq; exact (h.2 _ (m_a7 37 rfl))
  | 5, hq => cases hq; exact (h.2 _ (m_a7 45 rfl))
  | 6, hq => cases hq; exact (h.2 _ (m_a7 94 rfl))
  | 7, hq => cases hq; exact (h.2 _ (m_a7 95 rfl))
  | 8, hq => cases hq; exact (h.2 _ (m_a7 96 rfl))
  | 9, hq => cases hq; exact (h.2 _ (m_a7 97 rfl))
  | 10, hq => cases hq; exact (h.2 _ (m_a7 98 rfl))
  | 11, hq => cases hq; exact (h.2 _ (m_a7 99 rfl))
  | 12, hq => cases hq; exact (h.2 _ (m_a7 100 rfl))
  | 13, hq => cases hq; exact (h.2 _ (m_a7 101 rfl))
  | 14, hq => cases hq; exact (h.2 _ (m_a7 102 rfl))
  | 15, hq => cases hq; exact (h.2 _ (m_a7 84 rfl))
  | 16, hq => cases hq; exact (h.2 _ (m_a2 214 rfl))
  | 17, hq => cases hq; exact (h.2 _ (m_a2 227 rfl))
  | 18, hq => cases hq; exact (h.2 _ (m_a3 3 rfl))
  | 19, hq => cases hq; exact (h.2 _ (m_a3 19 rfl))
  | 20, hq => cases hq; exact (h.2 _ (m_a3 172 rfl))
  | 21, hq => cases hq; exact (h.2 _ (m_a3 184 rfl))
  | 22, hq => cases hq; exact (h.2 _ (m_a3 204 rfl))
  | 23, hq => cases hq; exact (h.2 _ (m_a3 216 rfl))
  | 24, hq => cases hq; exact (h.2 _ (m_a5 83 rfl))
  | 25, hq => cases hq; exact (h.2 _ (m_a5 126 rfl))
  | 26, hq => cases hq; exact (h.2 _ (m_a5 147 rfl))
  | 27, hq => cases hq; exact (h.2 _ (m_a5 172 rfl))
  | 28, hq => cases hq; exact (h.2 _ (m_a5 229 rfl))
  | 29, hq => cases hq; exact (h.2 _ (m_a6 109 rfl))
  | 30, hq => cases hq; exact (h.2 _ (m_a6 119 rfl))
  | 31, hq => cases hq; exact (h.2 _ (m_a6 211 rfl))
  | 32, hq => cases hq; exact (h.2 _ (m_a6 238 rfl))
  | n + 33, hq => exact absurd hq (by simp [zStr])
def cT (j : Nat) : Term := .static "CoolingPlanner$Command" (["RACK", "DROP", "SHIFT", "LOAD", "SEND", "FAN", "CURVE", "LIMIT", "WAIT", "WAIT_A_MINUTE"].getD j "") "LCoolingPlanner$Command;"
theorem cE_all {A : Array Value} {s : State} (h : zPre A s) (j : Nat) (hj : j < 10) : (Cond.exactly (cT j) "CoolingPlanner$Command").before A s = true := by
  match j, hj with
  | 0, _ => exact pa_1_246 h
  | 1, _ => exact pa_1_250 h
  | 2, _ => exact pa_1_255 h
  | 3, _ => exact pa_1_261 h
  | 4, _ => exact pa_1_268 h
  | 5, _ => exact pa_1_276 h
  | 6, _ => exact pa_1_285 h
  | 7, _ => exact pa_1_295 h
  | 8, _ => exact pa_1_306 h
  | 9, _ => exact pa_1_3 h
  | n + 10, hj => exact absurd hj (by omega)
theorem cO_all {A : Array Value} {s : State} (h : zPre A s) (j : Nat) (hj : j < 10) : (Cond.eq (.field (cT j) "java/lang/Enum" "ordinal" "I") (.int (nI j))).before A s = true := by
  match j, hj with
  | 0, _ => exact pa_1_247 h
  | 1, _ => exact pa_1_251 h
  | 2, _ => exact pa_1_256 h
  | 3, _ => exact pa_1_262 h
  | 4, _ => exact pa_1_269 h
  | 5, _ => exact pa_1_277 h
  | 6, _ => exact pa_1_286 h
  | 7, _ => exact pa_1_296 h
  | 8, _ => exact pa_1_307 h
  | 9, _ => exact pa_1_4 h
  | n + 10, hj => exact absurd hj (by omega)
theorem cF_all {A : Array Value} {s : State} (h : zPre A s) (j : Nat) (hj : j < 10) : (Cond.eq (.field (cT j) "CoolingPlanner$Command" "form" "Ljava/lang/String;") (sT (6 + j))).before A s = true := by
  match j, hj with
  | 0, _ => exact pa_1_248 h
  | 1, _ => exact pa_1_252 h
  | 2, _ => exact pa_1_257 h
  | 3, _ => exact pa_1_263 h
  | 4, _ => exact pa_1_270 h
  | 5, _ => exact pa_1_278 h
  | 6, _ => exact pa_1_287 h
  | 7, _ => exact pa_1_297 h
  | 8, _ => exact pa_1_308 h
  | 9, _ => exact pa_1_5 h
  | n + 10, hj => exact absurd hj (by omega)
theorem cL_all {A : Array Value} {s : State} (h : zPre A s) : ∀ j, j < 10 → (Cond.eq (.elem (.static "CoolingPlanner" "COMMANDS" "[LCoolingPlanner$Command;") (.int (Int32.ofNat j))) (cT j)).before A s = true := q_rng (q_mem 17 10 h.1.1 (by decide +kernel))
theorem dO_all {A : Array Value} {s : State} (h : zPre A s) : ∀ j, j < 100 → (Cond.eq (.elem (.static "java/lang/Integer" "DigitOnes" "[B") (.int (Int32.ofNat j))) (.int (nI (48 + j % 10)))).before A s = true := q_rng (q_mem 30 100 h.1.1 (by decide +kernel))
theorem dT_all {A : Array Value} {s : State} (h : zPre A s) : ∀ j, j < 100 → (Cond.eq (.elem (.static "java/lang/Integer" "DigitTens" "[B") (.int (Int32.ofNat j))) (.int (nI (48 + j / 10)))).before A s = true := q_rng (q_mem 133 100 h.1.1 (by decide +kernel))
theorem dS_all {A : Array Value} {s : State} (h : zPre A s) : ∀ j, j < 10 → (Cond.eq (.elem (.static "CoolingPlanner$1" "$SwitchMap$CoolingPlanner$Command" "[I") (.int (Int32.ofNat j))) (.int (if j < 9 then nI (j + 1) else 0))).before A s = true := q_rng (q_mem 236 10 h.1.1 (by decide +kernel))
theorem zNc_lit : zNc = [("java/util/NoSuchElementException", "java/lang/IllegalStateException"), ("java/util/NoSuchElementException", "java/lang/IllegalArgumentException"), ("java/util/NoSuchElementException", "java/lang/IndexOutOfBoundsException"), ("java/util/NoSuchElementException", "java/lang/UnsupportedOperationException"), ("java/util/NoSuchElementException", "java/lang/ArithmeticException"), ("java/lang/IllegalStateException", "java/util/NoSuchElementException"), ("java/lang/IllegalStateException", "java/lang/IllegalArgumentException"), ("java/lang/IllegalStateException", "java/lang/IndexOutOfBoundsException"), ("java/lang/IllegalStateException", "java/lang/UnsupportedOperationException"), ("java/lang/IllegalStateException", "java/lang/ArithmeticException"), ("java/lang/IllegalArgumentException", "java/util/NoSuchElementException"), ("java/lang/IllegalArgumentException", "java/lang/IllegalStateException"), ("java/lang/IllegalArgumentException", "java/lang/IndexOutOfBoundsException"), ("java/lang/IllegalArgumentException", "java/lang/UnsupportedOperationException"), ("java/lang/IllegalArgumentException", "java/lang/ArithmeticException"), ("java/lang/IndexOutOfBoundsException", "java/util/NoSuchElementException"), ("java/lang/IndexOutOfBoundsException", "java/lang/IllegalStateException"), ("java/lang/IndexOutOfBoundsException", "java/lang/IllegalArgumentException"), ("java/lang/IndexOutOfBoundsException", "java/lang/UnsupportedOperationException"), ("java/lang/IndexOutOfBoundsException", "java/lang/ArithmeticException"), ("java/lang/UnsupportedOperationException", "java/util/NoSuchElementException"), ("java/lang/UnsupportedOperationException", "java/lang/IllegalStateException"), ("java/lang/UnsupportedOperationException", "java/lang/IllegalArgumentException"), ("java/lang/UnsupportedOperationException", "java/lang/IndexOutOfBoundsException"), ("java/lang/UnsupportedOperationException", "java/lang/ArithmeticException"), ("java/lang/ArithmeticException", "java/util/NoSuchElementException"), ("java/lang/ArithmeticException", "java/lang/IllegalStateException"), ("java/lang/ArithmeticException", "java/lang/IllegalArgumentException"), ("java/lang/ArithmeticException", "java/lang/IndexOutOfBoundsException"), ("java/lang/ArithmeticException", "java/lang/UnsupportedOperationException")] := by decide +kernel
theorem nC_all {A : Array Value} {s : State} (h : zPre A s) : ∀ q ∈ zNc, va_Nc q.1 q.2 s := by
  rw [zNc_lit]
  exact List.forall_mem_cons.mpr ⟨va_Nc.of (pa_1_359 h), List.forall_mem_cons.mpr ⟨va_Nc.of (pa_1_342 h), List.forall_mem_cons.mpr ⟨va_Nc.of (pa_1_327 h), List.forall_mem_cons.mpr ⟨va_Nc.of (pa_1_376 h), List.forall_mem_cons.mpr ⟨va_Nc.of (pa_2_10 h), List.forall_mem_cons.mpr ⟨va_Nc.of (pa_1_393 h), List.forall_mem_cons.mpr ⟨va_Nc.of (pa_1_343 h), List.forall_mem_cons.mpr ⟨va_Nc.of (pa_1_328 h), List.forall_mem_cons.mpr ⟨va_Nc.of (pa_1_377 h), List.forall_mem_cons.mpr ⟨va_Nc.of (pa_2_11 h), List.forall_mem_cons.mpr ⟨va_Nc.of (pa_1_395 h), List.forall_mem_cons.mpr ⟨va_Nc.of (pa_1_361 h), List.forall_mem_cons.mpr ⟨va_Nc.of (pa_1_329 h), List.forall_mem_cons.mpr ⟨va_Nc.of (pa_1_379 h), List.forall_mem_cons.mpr ⟨va_Nc.of (pa_2_13 h), List.forall_mem_cons.mpr ⟨va_Nc.of (pa_1_394 h), List.forall_mem_cons.mpr ⟨va_Nc.of (pa_1_360 h), List.forall_mem_cons.mpr ⟨va_Nc.of (pa_1_344 h), List.forall_mem_cons.mpr ⟨va_Nc.of (pa_1_378 h), List.forall_mem_cons.mpr ⟨va_Nc.of (pa_2_12 h), List.forall_mem_cons.mpr ⟨va_Nc.of (pa_1_396 h), List.forall_mem_cons.mpr ⟨va_Nc.of (pa_1_362 h), List.forall_mem_cons.mpr ⟨va_Nc.of (pa_1_345 h), List.forall_mem_cons.mpr ⟨va_Nc.of (pa_1_330 h), List.forall_mem_cons.mpr ⟨va_Nc.of (pa_2_14 h), List.forall_mem_cons.mpr ⟨va_Nc.of (pa_2_0 h), List.forall_mem_cons.mpr ⟨va_Nc.of (pa_1_366 h), List.forall_mem_cons.mpr ⟨va_Nc.of (pa_1_349 h), List.forall_mem_cons.mpr ⟨va_Nc.of (pa_1_332 h), List.forall_mem_cons.mpr ⟨va_Nc.of (pa_1_383 h), (fun _ hq => absurd hq List.not_mem_nil)⟩⟩⟩⟩⟩⟩⟩⟩⟩⟩⟩⟩⟩⟩⟩⟩⟩⟩⟩⟩⟩⟩⟩⟩⟩⟩⟩⟩⟩⟩
/-- the String constants of one text are one object, and those of two are two -/
theorem va_OF.same {o n d : String} {v v' : Value} {t : Nat} {F F' : Nat → Prop} {U : State} {H : Heap} (h : va_OF o n d v t F U H) (h' : va_OF o n d v' t F' U H) : v = v' := by
  obtain ⟨cf, k, i, f, cell, h1, h2, h3, h4, h5, h6⟩ := h
  obtain ⟨cf', k', i', f', cell', g1, g2, g3, g4, g5, g6⟩ := h'
  cases h1.symm.trans g1
  cases h3.symm.trans g3
  exact Option.some.inj (h5.symm.trans g5)
theorem va_T.same {ty : FieldType} {t N N' : Nat} {f f' : Nat → Value} {F F' : Nat → Prop} {U : State} {H : Heap} (hN : N < 2 ^ 31) (hN' : N' < 2 ^ 31) (h : va_T ty t N f F U H) (h' : va_T ty t N' f' F' U H) : N = N' ∧ ∀ j, j < N → f j = f' j := by
  obtain ⟨cell, h1, h2, h3, h4, h5, h6, h7⟩ := h
  obtain ⟨cell', g1, g2, g3, g4, g5, g6, g7⟩ := h'
  cases h1.symm.trans g1
  have e : Int32.ofNat N = Int32.ofNat N' := h5.symm.trans g5
  have e2 : N = N' := by
    have a1 := Int32.toNatClampNeg_ofNat_of_lt hN
    have a2 := Int32.toNatClampNeg_ofNat_of_lt hN'
    rw [e] at a1
    exact a1.symm.trans a2
  exact ⟨e2, fun j hj => Option.some.inj ((h6 j hj).symm.trans (g6 j (e2 ▸ hj)))⟩
def zLit : List (List Int32) := [[119, 97, 105, 116, 32, 51, 59, 100, 114, 111, 112, 32], [108, 105, 109, 105, 116, 32, 51, 48, 59, 102, 97, 110, 32], [32, 52], [113], [119, 97, 105, 116, 59, 119, 97, 105, 116, 32, 50, 59, 100, 114, 111, 112, 32, 57, 57], [108, 105, 109, 105, 116, 32, 57, 57], [114, 97, 99, 107, 32, 35, 32, 35, 32, 42], [100, 114, 111, 112, 32, 42], [115, 104, 105, 102, 116, 32, 42, 32, 35, 32, 35], [108, 111, 97, 100, 32, 42, 32, 42], [115, 101, 110, 100, 32, 42, 32, 42, 32, 42], [102, 97, 110, 32, 35, 32, 42], [99, 117, 114, 118, 101, 32, 35, 32, 42], [108, 105, 109, 105, 116, 32, 42], [119, 97, 105, 116, 32, 42], [119, 97, 105, 116]]
theorem zByts_lit : zByts = zLit := by decide +kernel
theorem zLens_lit : zLens = [12, 13, 2, 1, 19, 8, 10, 6, 11, 8, 10, 7, 9, 7, 6, 4] := by decide +kernel
theorem zByts_ne : ∀ i, i < 16 → ∀ j, j < 16 → zLens.getD i 0 = zLens.getD j 0 → (∀ k, k < zLens.getD i 0 → (zByts.getD i []).getD k 0 = (zByts.getD j []).getD k 0) → i = j := by
  rw [zByts_lit, zLens_lit]
  decide +kernel
theorem zLens_lt : ∀ i, i < 16 → zLens.getD i 0 < 2 ^ 31 := by
  rw [zLens_lit]
  decide +kernel
theorem zG_of {A : Array Value} {s : State} {b L : Nat} {xs : Nat → Int32} (h : zPre A s) (hX : va_X b L xs s s.heap) (hb : b < s.heap.size) (hL : L ≤ 260) : ∃ σ : zSg, σ.1 0 = s.heap.size ∧ σ.1 1 = b ∧ zG σ s s.heap := by
  have hF : ∀ a : Nat, a < s.heap.size → ¬ (fun q : Nat => s.heap.size ≤ q) a := fun a ha => Nat.not_le.mpr ha
  obtain ⟨K, hK⟩ := Classical.axiomOfChoice (fun i : Nat => (show ∃ a : Nat, i < 33 → (sT i).eval A s none [] s = some (.ref a) from if hi : i < 33 then (sX_all h i hi).elim (fun a ha => ⟨a, fun _ => ha⟩) else ⟨0, fun z => absurd z hi⟩))
  obtain ⟨V, hV⟩ := Classical.axiomOfChoice (fun i : Nat => (show ∃ t : Nat, i < 16 → va_O "java/lang/String" (K i) (fun q : Nat => s.heap.size ≤ q) s s.heap ∧ va_OF "java/lang/String" "coder" "B" (.int 0) (K i) (fun q : Nat => s.heap.size ≤ q) s s.heap ∧ va_OF "java/lang/String" "value" "[B" (.ref t) (K i) (fun q : Nat => s.heap.size ≤ q) s s.heap ∧ va_T .byte t (zLens.getD i 0) (fun j => .int ((zByts.getD i []).getD j 0)) (fun q : Nat => s.heap.size ≤ q) s s.heap from by
    by_cases hi : i < 16
    · obtain ⟨a, t, q1, q2⟩ := sBk_of (zLens_lt i hi) (sB_all h i hi) hF
      have e : K i = a := by
        have := (hK i (by omega)).symm.trans q1
        injection this with this
        injection this
      exact ⟨t, fun _ => e ▸ q2⟩
    · exact ⟨0, fun z => absurd z hi⟩))
  obtain ⟨C, hC⟩ := Classical.axiomOfChoice (fun j : Nat => (show ∃ a : Nat, j < 10 → (cT j).eval A s none [] s = some (.ref a) from if hj : j < 10 then (s_ex (cE_all h j hj)).elim (fun a ha => ⟨a, fun _ => ha⟩) else ⟨0, fun z => absurd z hj⟩))
  obtain ⟨tC, eC, TC⟩ := va_Tof (N := 10) (f := fun j => .ref (C j)) (by decide) (pa_1_14 h) (va_eqt (pa_1_15 h)) (fun j hj => va_eqv (cL_all h j hj) (hC j hj)) hF
  obtain ⟨tS, eS, TS⟩ := va_Tof (N := 10) (f := fun j => .int (if j < 9 then nI (j + 1) else 0)) (by decide) (pa_1_234 h) (va_eqt (pa_1_235 h)) (fun j hj => va_eqt (dS_all h j hj)) hF
  obtain ⟨tO, eO, TO⟩ := va_Tof (N := 100) (f := fun j => .int (nI (48 + j % 10))) (by decide) (pa_1_28 h) (va_eqt (pa_1_29 h)) (fun j hj => va_eqt (dO_all h j hj)) hF
  obtain ⟨tT, eT, TT⟩ := va_Tof (N := 100) (f := fun j => .int (nI (48 + j / 10))) (by decide) (pa_1_131 h) (va_eqt (pa_1_132 h)) (fun j hj => va_eqt (dT_all h j hj)) hF
  refine ⟨(fun n => if n < 7 then [s.heap.size, b, L, tC, tS, tO, tT].getD n 0 else if n < 200 then K (n - 100) else if n < 300 then V (n - 200) else C (n - 300), xs), rfl, rfl, ?_⟩
  generalize hσ : ((fun n => if n < 7 then [s.heap.size, b, L, tC, tS, tO, tT].getD n 0 else if n < 200 then K (n - 100) else if n < 300 then V (n - 200) else C (n - 300), xs) : zSg) = σ
  have e0 : σ.1 0 = s.heap.size := by rw [← hσ]; rfl
  have e1 : σ.1 1 = b := by rw [← hσ]; rfl
  have e2 : σ.1 2 = L := by rw [← hσ]; rfl
  have e3 : σ.1 3 = tC := by rw [← hσ]; rfl
  have e4 : σ.1 4 = tS := by rw [← hσ]; rfl
  have e5 : σ.1 5 = tO := by rw [← hσ]; rfl
  have e6 : σ.1 6 = tT := by rw [← hσ]; rfl
  have ex : σ.2 = xs := by rw [← hσ]
  have eK : ∀ i, i < 33 → zK σ i = K i := fun i hi => by
    rw [← hσ]
    show (if 100 + i < 7 then _ else if 100 + i < 200 then K (100 + i - 100) else _) = K i
    rw [if_neg (by omega), if_pos (by omega), Nat.add_sub_cancel_left]
  have eV : ∀ i, i < 16 → zVv σ i = V i := fun i hi => by
    rw [← hσ]
    show (if 200 + i < 7 then _ else if 200 + i < 200 then _ else if 200 + i < 300 then V (200 + i - 200) else _) = V i
    rw [if_neg (by omega), if_neg (by omega), if_pos (by omega), Nat.add_sub_cancel_left]
  have eM : ∀ j, j < 10 → zCm σ j = C j := fun j hj => by
    rw [← hσ]
    show (if 300 + j < 7 then _ else if 300 + j < 200 then _ else if 300 + j < 300 then _ else C (300 + j - 300)) = C j
    rw [if_neg (by omega), if_neg (by omega), if_neg (by omega), Nat.add_sub_cancel_left]
  have eA : zA σ = (fun q : Nat => s.heap.size ≤ q) := by
    funext q
    show (σ.1 0 ≤ q) = _
    rw [e0]
  clear hσ
  refine ⟨fun w hw A' => zkeep_warm (List.mem_filter.mp hw).2 (State.WarmedH.refl s) (h.2 w (List.mem_filter.mp hw).1), ?_, ?_, nC_all h, ?_, ?_, ?_, ?_, ?_, ?_, ?_, ?_, ?_, ?_, ?_, ?_, ?_, ?_, ?_, ?_, ?_, ?_⟩
  · rw [eA]; exact vx_Zqof (h.2 _ (m_a2 95 rfl)) (h.2 _ (m_a1 15 rfl)) (pa_1_6 h) hF
  · rw [eA]; exact vx_Zqof (h.2 _ (m_a2 97 rfl)) (h.2 _ (m_a1 15 rfl)) (pa_1_7 h) hF
  · intro i q hq
    have hi : i < 33 := (List.getElem?_eq_some_iff.mp hq).1
    rw [eK i hi]
    refine vk_R.of (A := A) (sR_all h i q hq) ?_
    have := hK i hi
    unfold sT at this
    rw [hq] at this
    exact this
  · refine ⟨fun i hi => ?_, fun i j hi hj e => ?_⟩
    · rw [eA, eK i (by omega), eV i hi]
      exact hV i hi
    · rw [eK i (by omega), eK j (by omega)] at e
      obtain ⟨-, -, a1, a2⟩ := hV i hi
      obtain ⟨-, -, b1, b2⟩ := hV j hj
      rw [e] at a1
      have e9 : V i = V j := by
        have := va_OF.same a1 b1
        injection this
      rw [e9] at a2
      obtain ⟨c1, c2⟩ := va_T.same (zLens_lt i hi) (zLens_lt j hj) a2 b2
      exact zByts_ne i hi j hj c1 (fun k hk => by
        have := c2 k hk
        injection this)
  · rw [eA]; exact va_Zof (h.2 _ (m_a1 177 rfl)) (h.2 _ (m_a1 10 rfl)) (va_eqt (pa_1_2 h)) hF
  · rw [eA, e3]; exact va_Zof (h.2 _ (m_a4 86 rfl)) (h.2 _ (m_a1 1 rfl)) eC hF
  · rw [eA, e3]
    obtain ⟨cell, a1, a2, a3, a4, a5, a6, a7⟩ := TC
    exact ⟨cell, a1, a2, a3, a4, a5, fun j hj => by show cell.slots[j]? = some (.ref (zCm σ j)); rw [eM j hj]; exact a6 j hj, a7⟩
  · intro j hj
    rw [eA, eM j hj, eK (6 + j) (by omega)]
    exact ⟨va_Oof (cE_all h j hj) (hC j hj) hF, vk_OFof (hC j hj) (va_eqt (cO_all h j hj)) hF, vk_OFof (hC j hj) (va_eqv (cF_all h j hj) (hK (6 + j) (by omega))) hF⟩
  · rw [eA, eM 9 (by decide)]; exact va_Zof (h.2 _ (m_a1 201 rfl)) (h.2 _ (m_a1 13 rfl)) (hC 9 (by decide)) hF
  · rw [eA, e4]; exact va_Zof (h.2 _ (m_a5 94 rfl)) (h.2 _ (m_a1 32 rfl)) eS hF
  · rw [eA, e4]; exact TS
  · rw [eA, e5]; exact va_Zof (h.2 _ (m_a4 225 rfl)) (h.2 _ (m_a1 30 rfl)) eO hF
  · rw [eA, e5]; exact TO
  · rw [eA, e6]; exact va_Zof (h.2 _ (m_a4 227 rfl)) (h.2 _ (m_a1 30 rfl)) eT hF
  · rw [eA, e6]; exact TT
  · rw [e1, e2, ex]; exact hX
  · show ¬ (σ.1 0 ≤ σ.1 1)
    rw [e0, e1]
    omega
  · rw [e1]; exact hb
  · rw [e2]; exact hL
  · rw [eA]; exact va_Zqof (h.2 _ (m_a4 45 rfl)) (h.2 _ (m_a1 27 rfl)) (pa_1_8 h) hF
theorem arrOf_p {A : Array Value} {s : State} {ty : FieldType} (h : (Cond.arrayClass ty).before A s = true) : ∃ c : ClassId, ArrOfT s c ty ∧ s.vm.findClass ("[" ++ ty.toString) = some c := by
  obtain ⟨c, k, comp, h1, h2, h3⟩ := Cond.arrayClass_spec h
  exact ⟨c, fun N z => ⟨(fun k h => by cases h), k, h2, comp, h3⟩, h1⟩
theorem arrOf_o {A : Array Value} {s : State} {C : String} (h : (Cond.arrayOver (.object C)).before A s = true) : ∃ c : ClassId, ArrOfT s c (.object C) ∧ va_RA s c (.object C) := by
  obtain ⟨comp, c, k, h1, h2, h3, h4, h5⟩ := Cond.arrayOver_spec h
  exact ⟨c, fun N z => ⟨(fun k h => by cases h), k, h3, comp, h4⟩, k, comp, h3, h4, h1, h5⟩
theorem uin_0 : ∀ w ∈ u_ws RJ0 TJ0 4, w ∈ lw_tbl := by
  rw [show u_ws RJ0 TJ0 4 = [u_lay RJ0 TJ0 0, u_lay RJ0 TJ0 1, u_lay RJ0 TJ0 2, u_lay RJ0 TJ0 3] from rfl]
  exact List.forall_mem_cons.mpr ⟨m_a2 153 rfl, List.forall_mem_cons.mpr ⟨m_a2 155 rfl, List.forall_mem_cons.mpr ⟨m_a5 44 rfl, List.forall_mem_cons.mpr ⟨m_a5 46 rfl, (fun _ hq => absurd hq List.not_mem_nil)⟩⟩⟩⟩
theorem uin_1 : ∀ w ∈ u_ws RJ4 TJ4 4, w ∈ lw_tbl := by
  rw [show u_ws RJ4 TJ4 4 = [u_lay RJ4 TJ4 0, u_lay RJ4 TJ4 1, u_lay RJ4 TJ4 2, u_lay RJ4 TJ4 3] from rfl]
  exact List.forall_mem_cons.mpr ⟨m_a1 190 rfl, List.forall_mem_cons.mpr ⟨m_a1 192 rfl, List.forall_mem_cons.mpr ⟨m_a1 194 rfl, List.forall_mem_cons.mpr ⟨m_a1 196 rfl, (fun _ hq => absurd hq List.not_mem_nil)⟩⟩⟩⟩
theorem uin_2 : ∀ w ∈ u_ws RJx00060 TJx00060 6, w ∈ lw_tbl := by
  rw [show u_ws RJx00060 TJx00060 6 = [u_lay RJx00060 TJx00060 0, u_lay RJx00060 TJx00060 1, u_lay RJx00060 TJx00060 2, u_lay RJx00060 TJx00060 3, u_lay RJx00060 TJx00060 4, u_lay RJx00060 TJx00060 5] from rfl]
  exact List.forall_mem_cons.mpr ⟨m_a2 120 rfl, List.forall_mem_cons.mpr ⟨m_a2 122 rfl, List.forall_mem_cons.mpr ⟨m_a2 124 rfl, List.forall_mem_cons.mpr ⟨m_a2 126 rfl, List.forall_mem_cons.mpr ⟨m_a2 128 rfl, List.forall_mem_cons.mpr ⟨m_a2 130 rfl, (fun _ hq => absurd hq List.not_mem_nil)⟩⟩⟩⟩⟩⟩
theorem uin_3 : ∀ w ∈ u_ws RJx7c733 TJx7c733 6, w ∈ lw_tbl := by
  rw [show u_ws RJx7c733 TJx7c733 6 = [u_lay RJx7c733 TJx7c733 0, u_lay RJx7c733 TJx7c733 1, u_lay RJx7c733 TJx7c733 2, u_lay RJx7c733 TJx7c733 3, u_lay RJx7c733 TJx7c733 4, u_lay RJx7c733 TJx7c733 5] from rfl]
  exact List.forall_mem_cons.mpr ⟨m_a5 50 rfl, List.forall_mem_cons.mpr ⟨m_a5 51 rfl, List.forall_mem_cons.mpr ⟨m_a5 52 rfl, List.forall_mem_cons.mpr ⟨m_a5 53 rfl, List.forall_mem_cons.mpr ⟨m_a5 54 rfl, List.forall_mem_cons.mpr ⟨m_a5 55 rfl, (fun _ hq => absurd hq List.not_mem_nil)⟩⟩⟩⟩⟩⟩
theorem uin_4 : ∀ w ∈ u_ws RX1 TX1 9, w ∈ lw_tbl := by
  rw [show u_ws RX1 TX1 9 = [u_lay RX1 TX1 0, u_lay RX1 TX1 1, u_lay RX1 TX1 2, u_lay RX1 TX1 3, u_lay RX1 TX1 4, u_lay RX1 TX1 5, u_lay RX1 TX1 6, u_lay RX1 TX1 7, u_lay RX1 TX1 8] from rfl]
  exact List.forall_mem_cons.mpr ⟨m_a1 129 rfl, List.forall_mem_cons.mpr ⟨m_a1 131 rfl, List.forall_mem_cons.mpr ⟨m_a1 133 rfl, List.forall_mem_cons.mpr ⟨m_a1 135 rfl, List.forall_mem_cons.mpr ⟨m_a1 137 rfl, List.forall_mem_cons.mpr ⟨m_a1 139 rfl, List.forall_mem_cons.mpr ⟨m_a1 141 rfl, List.forall_mem_cons.mpr ⟨m_a1 143 rfl, List.forall_mem_cons.mpr ⟨m_a1 145 rfl, (fun _ hq => absurd hq List.not_mem_nil)⟩⟩⟩⟩⟩⟩⟩⟩⟩
theorem uin_5 : ∀ w ∈ u_ws RX3 TX3 2, w ∈ lw_tbl := by
  rw [show u_ws RX3 TX3 2 = [u_lay RX3 TX3 0, u_lay RX3 TX3 1] from rfl]
  exact List.forall_mem_cons.mpr ⟨m_a1 106 rfl, List.forall_mem_cons.mpr ⟨m_a1 108 rfl, (fun _ hq => absurd hq List.not_mem_nil)⟩⟩
theorem uin_6 : ∀ w ∈ u_ws RX4 TX4 3, w ∈ lw_tbl := by
  rw [show u_ws RX4 TX4 3 = [u_lay RX4 TX4 0, u_lay RX4 TX4 1, u_lay RX4 TX4 2] from rfl]
  exact List.forall_mem_cons.mpr ⟨m_a1 82 rfl, List.forall_mem_cons.mpr ⟨m_a1 84 rfl, List.forall_mem_cons.mpr ⟨m_a1 86 rfl, (fun _ hq => absurd hq List.not_mem_nil)⟩⟩⟩
theorem uin_7 : ∀ w ∈ u_ws RX5 TX5 2, w ∈ lw_tbl := by
  rw [show u_ws RX5 TX5 2 = [u_lay RX5 TX5 0, u_lay RX5 TX5 1] from rfl]
  exact List.forall_mem_cons.mpr ⟨m_a1 93 rfl, List.forall_mem_cons.mpr ⟨m_a1 95 rfl, (fun _ hq => absurd hq List.not_mem_nil)⟩⟩
theorem uin_8 : ∀ w ∈ u_ws RX6 TX6 6, w ∈ lw_tbl := by
  rw [show u_ws RX6 TX6 6 = [u_lay RX6 TX6 0, u_lay RX6 TX6 1, u_lay RX6 TX6 2, u_lay RX6 TX6 3, u_lay RX6 TX6 4, u_lay RX6 TX6 5] from rfl]
  exact List.forall_mem_cons.mpr ⟨m_a1 209 rfl, List.forall_mem_cons.mpr ⟨m_a1 211 rfl, List.forall_mem_cons.mpr ⟨m_a1 213 rfl, List.forall_mem_cons.mpr ⟨m_a1 215 rfl, List.forall_mem_cons.mpr ⟨m_a1 217 rfl, List.forall_mem_cons.mpr ⟨m_a1 219 rfl, (fun _ hq => absurd hq List.not_mem_nil)⟩⟩⟩⟩⟩⟩
theorem uin_9 : ∀ w ∈ u_ws RX7 TX7 3, w ∈ lw_tbl := by
  rw [show u_ws RX7 TX7 3 = [u_lay RX7 TX7 0, u_lay RX7 TX7 1, u_lay RX7 TX7 2] from rfl]
  exact List.forall_mem_cons.mpr ⟨m_a1 152 rfl, List.forall_mem_cons.mpr ⟨m_a1 154 rfl, List.forall_mem_cons.mpr ⟨m_a1 156 rfl, (fun _ hq => absurd hq List.not_mem_nil)⟩⟩⟩
theorem uin_10 : ∀ w ∈ u_ws RX8 TX8 7, w ∈ lw_tbl := by
  rw [show u_ws RX8 TX8 7 = [u_lay RX8 TX8 0, u_lay RX8 TX8 1, u_lay RX8 TX8 2, u_lay RX8 TX8 3, u_lay RX8 TX8 4, u_lay RX8 TX8 5, u_lay RX8 TX8 6] from rfl]
  exact List.forall_mem_cons.mpr ⟨m_a1 231 rfl, List.forall_mem_cons.mpr ⟨m_a1 233 rfl, List.forall_mem_cons.mpr ⟨m_a1 235 rfl, List.forall_mem_cons.mpr ⟨m_a1 237 rfl, List.forall_mem_cons.mpr ⟨m_a1 239 rfl, List.forall_mem_cons.mpr ⟨m_a2 1 rfl, List.forall_mem_cons.mpr ⟨m_a2 3 rfl, (fun _ hq => absurd hq List.not_mem_nil)⟩⟩⟩⟩⟩⟩⟩
theorem zK_of {A : Array Value} {s : State} (h : zPre A s) : ∃ κ : zKp, va_K κ.1 vwCl (zTys κ) s := by
  obtain ⟨c0, i0, k0⟩ := u_known h.2 uin_0 (h.2 (.instantiable RJ0 4) (m_a2 152 rfl))
  obtain ⟨c1, i1, k1⟩ := u_known h.2 uin_1 (h.2 (.instantiable RJ4 4) (m_a1 168 rfl))
  obtain ⟨c2, i2, k2⟩ := u_known h.2 uin_2 (h.2 (.instantiable RJx00060 6) (m_a2 78 rfl))
  obtain ⟨c3, i3, k3⟩ := u_known h.2 uin_3 (h.2 (.instantiable RJx7c733 6) (m_a4 165 rfl))
  obtain ⟨c4, i4, k4⟩ := u_known h.2 uin_4 (h.2 (.instantiable RX1 9) (m_a1 52 rfl))
  obtain ⟨c5, i5, k5⟩ := u_known h.2 uin_5 (h.2 (.instantiable RX3 2) (m_a1 99 rfl))
  obtain ⟨c6, i6, k6⟩ := u_known h.2 uin_6 (h.2 (.instantiable RX4 3) (m_a1 65 rfl))
  obtain ⟨c7, i7, k7⟩ := u_known h.2 uin_7 (h.2 (.instantiable RX5 2) (m_a1 58 rfl))
  obtain ⟨c8, i8, k8⟩ := u_known h.2 uin_8 (h.2 (.instantiable RX6 6) (m_a1 162 rfl))
  obtain ⟨c9, i9, k9⟩ := u_known h.2 uin_9 (h.2 (.instantiable RX7 3) (m_a1 45 rfl))
  obtain ⟨c10, i10, k10⟩ := u_known h.2 uin_10 (h.2 (.instantiable RX8 7) (m_a1 37 rfl))
  obtain ⟨a0, b0, d0⟩ := arrOf_p (h.2 (.arrayClass .byte) (m_a1 199 rfl))
  obtain ⟨a1, b1, d1⟩ := arrOf_p (h.2 (.arrayClass .float) (m_a1 148 rfl))
  obtain ⟨a2, b2, d2⟩ := arrOf_p (h.2 (.arrayClass .int) (m_a1 111 rfl))
  obtain ⟨a3, b3, d3⟩ := arrOf_o (h.2 (.arrayOver (.object RX1)) (m_a1 51 rfl))
  obtain ⟨a4, b4, d4⟩ := arrOf_o (h.2 (.arrayOver (.object RX4)) (m_a1 64 rfl))
  obtain ⟨a5, b5, d5⟩ := arrOf_p (h.2 (.arrayClass .long) (m_a7 46 rfl))
  refine ⟨((fun k => [c0, c1, c2, c3, c4, c5, c6, c7, c8, c9, c10].getD k c0, fun k => [i0, i1, i2, i3, i4, i5, i6, i7, i8, i9, i10].getD k i0), fun k => [a0, a1, a2, a3, a4, a5].getD k a0), fun k q hq => ?_, fun k q hq => ?_⟩
  · match k, hq with
    | 0, hq => cases hq; exact k0
    | 1, hq => cases hq; exact k1
    | 2, hq => cases hq; exact k2
    | 3, hq => cases hq; exact k3
    | 4, hq => cases hq; exact k4
    | 5, hq => cases hq; exact k5
    | 6, hq => cases hq; exact k6
    | 7, hq => cases hq; exact k7
    | 8, hq => cases hq; exact k8
    | 9, hq => cases hq; exact k9
    | 10, hq => cases hq; exact k10
    | k + 11, hq => simp [vwCl] at hq
  · match k, hq with
    | 0, hq => cases hq; exact ⟨b0, d0⟩
    | 1, hq => cases hq; exact ⟨b1, d1⟩
    | 2, hq => cases hq; exact ⟨b2, d2⟩
    | 3, hq => cases hq; exact ⟨b3, d3⟩
    | 4, hq => cases hq; exact ⟨b4, d4⟩
    | 5, hq => cases hq; exact ⟨b5, d5⟩
    | k + 6, hq => simp [zTys] at hq

section ACTS
variable {h h' g : Sto} {w : Nat → Nat} {n p k q : Nat} {r : Nat → Int32}
/-- what a STATEMENT does to a row; none: it is not as it must be -/
def actN (w : Nat → Nat) (p : Nat) (r : Nat → Int32) : Option (Nat → Int32) :=
  if w p = 110 then (if 2 ≤ num2 w (p + 1) ∧ num2 w (p + 1) ≤ 12 then some (upd r 0 (nI (num2 w (p + 1)))) else none)
  else if w p = 105 then (if nI (num2 w (p + 1 + 1)) < r 0 then some (upd (upd r (8 + 2 * num2 w (p + 1 + 1)) (kdN (nI (w (p + 1))))) (9 + 2 * num2 w (p + 1 + 1)) (nI (num1 w (p + 1 + 1 + 1 + 1)))) else none)
  else if w p = 101 then (if num1 w (p + 1) ≤ 1 ∧ ¬ sgv w (p + 1 + 1) < -40 ∧ ¬ 24 < sgv w (p + 1 + 1) then some (upd r (1 + num1 w (p + 1)) (sgv w (p + 1 + 1))) else none)
  else if w p = 107 then (if num1 w (p + 1) ≤ 1 then some (upd r (3 + num1 w (p + 1)) (r (3 + num1 w (p + 1)) ^^^ 1)) else none)
  else if w p = 115 then some (upd r 5 (r 5 ^^^ 1))
  else if w p = 112 then (if 1 ≤ num1 w (p + 1) then some (upd (upd r 6 (nI (num1 w (p + 1)))) 7 (nI (num1 w (p + 1 + 1)))) else none)
  else (if 1 ≤ num2 w (p + 1) ∧ num2 w (p + 1) ≤ 40 then some (wsN r (num2 w (p + 1))) else none)
theorem ok_nw (hc : w p = 110 ∨ w p = 119) (hs : (stN w n p).2 = true) : Tk w n 35 (p + 1) ∧ Tk w n 35 (p + 1 + 1) ∧ Tk w n 59 (p + 1 + 1 + 1) := by
  have hp := (stN_ok hs).1
  have fi : fiN (nI (w p)) = 0 := by rcases hc with z | z <;> rw [z] <;> decide
  have hst : stN w n p = scI w n 0 3 0 (p + 1) := by
    unfold stN
    rw [if_pos ⟨hp, by rw [fi]; omega⟩, fi]
    rfl
  rw [hst, sc0] at hs
  by_cases t1 : Tk w n 35 (p + 1)
  · rw [if_pos t1] at hs
    by_cases t2 : Tk w n 35 (p + 1 + 1)
    · rw [if_pos t2] at hs
      by_cases t3 : Tk w n 59 (p + 1 + 1 + 1)
      · exact ⟨t1, t2, t3⟩
      · rw [if_neg t3] at hs; cases hs
    · rw [if_neg t2] at hs; cases hs
  · rw [if_neg t1] at hs; cases hs
theorem ok_p (hc : w p = 112) (hs : (stN w n p).2 = true) : Tk w n 35 (p + 1) ∧ Tk w n 35 (p + 1 + 1) ∧ Tk w n 59 (p + 1 + 1 + 1) := by
  have hp := (stN_ok hs).1
  have hst : stN w n p = scI w n 0 3 0 (p + 1) := by
    unfold stN
    rw [if_pos ⟨hp, by rw [hc]; decide⟩, hc]
    rfl
  rw [hst, sc0] at hs
  by_cases t1 : Tk w n 35 (p + 1)
  · rw [if_pos t1] at hs
    by_cases t2 : Tk w n 35 (p + 1 + 1)
    · rw [if_pos t2] at hs
      by_cases t3 : Tk w n 59 (p + 1 + 1 + 1)
      · exact ⟨t1, t2, t3⟩
      · rw [if_neg t3] at hs; cases hs
    · rw [if_neg t2] at hs; cases hs
  · rw [if_neg t1] at hs; cases hs
theorem ok_kk (hc : w p = 107) (hs : (stN w n p).2 = true) : Tk w n 35 (p + 1) ∧ Tk w n 59 (p + 1 + 1) := by
  have hp := (stN_ok hs).1
  have hst : stN w n p = scI w n 3 2 0 (p + 1) := by
    unfold stN
    rw [if_pos ⟨hp, by rw [hc]; decide⟩, hc]
    rfl
  rw [hst, sc3] at hs
  by_cases t1 : Tk w n 35 (p + 1)
  · rw [if_pos t1] at hs
    by_cases t3 : Tk w n 59 (p + 1 + 1)
    · exact ⟨t1, t3⟩
    · rw [if_neg t3] at hs; cases hs
  · rw [if_neg t1] at hs; cases hs
theorem ok_s (hc : w p = 115) (hs : (stN w n p).2 = true) : Tk w n 59 (p + 1) := by
  have hp := (stN_ok hs).1
  have hst : stN w n p = scI w n 4 1 0 (p + 1) := by
    unfold stN
    rw [if_pos ⟨hp, by rw [hc]; decide⟩, hc]
    rfl
  rw [hst, sc4] at hs
  by_cases t1 : Tk w n 59 (p + 1)
  · exact t1
  · rw [if_neg t1] at hs; cases hs
theorem ok_e (hc : w p = 101) (hs : (stN w n p).2 = true) : Tk w n 35 (p + 1) ∧ Tk w n 43 (p + 1 + 1) ∧ Tk w n 35 (p + 1 + 1 + 1) ∧ Tk w n 35 (p + 1 + 1 + 1 + 1) := by
  have hp := (stN_ok hs).1
  have hst : stN w n p = scI w n 2 5 0 (p + 1) := by
    unfold stN
    rw [if_pos ⟨hp, by rw [hc]; decide⟩, hc]
    rfl
  rw [hst, sc2] at hs
  by_cases t1 : Tk w n 35 (p + 1)
  · rw [if_pos t1] at hs
    by_cases t2 : Tk w n 43 (p + 1 + 1)
    · rw [if_pos t2] at hs
      by_cases t3 : Tk w n 35 (p + 1 + 1 + 1)
      · rw [if_pos t3] at hs
        by_cases t4 : Tk w n 35 (p + 1 + 1 + 1 + 1)
        · exact ⟨t1, t2, t3, t4⟩
        · rw [if_neg t4] at hs; cases hs
      · rw [if_neg t3] at hs; cases hs
    · rw [if_neg t2] at hs; cases hs
  · rw [if_neg t1] at hs; cases hs
theorem ok_i (hc : w p = 105) (hs : (stN w n p).2 = true) : Tk w n 107 (p + 1) ∧ Tk w n 35 (p + 1 + 1) ∧ Tk w n 35 (p + 1 + 1 + 1) ∧ Tk w n 35 (p + 1 + 1 + 1 + 1) := by
  have hp := (stN_ok hs).1
  have hst : stN w n p = scI w n 1 5 0 (p + 1) := by
    unfold stN
    rw [if_pos ⟨hp, by rw [hc]; decide⟩, hc]
    rfl
  rw [hst, sc1] at hs
  by_cases t1 : Tk w n 107 (p + 1)
  · rw [if_pos t1] at hs
    by_cases t2 : Tk w n 35 (p + 1 + 1)
    · rw [if_pos t2] at hs
      by_cases t3 : Tk w n 35 (p + 1 + 1 + 1)
      · rw [if_pos t3] at hs
        by_cases t4 : Tk w n 35 (p + 1 + 1 + 1 + 1)
        · exact ⟨t1, t2, t3, t4⟩
        · rw [if_neg t4] at hs; cases hs
      · rw [if_neg t3] at hs; cases hs
    · rw [if_neg t2] at hs; cases hs
  · rw [if_neg t1] at hs; cases hs
theorem f_digit0 (L : LX h n w) (hq : q < n) : ev mX2_digit 0 [.ref 12, .int (nI q)] [] h = some (some (.int (nI (w q) - 48)), h) := by
  simp [eX2_digit_0, eX2_digit_1, eX2_digit_2, eX2_digit_5, eX2_digit_7, eX2_digit_8, f_signAt L hq]
theorem dig_v (L : LX h n w) (t : Tk w n 35 q) : nI (w q) - 48 = nI (num1 w q) ∧ num1 w q < 10 := by
  obtain ⟨d1, d2, -, -⟩ := tk_dig t (L.2.2 q t.1).2
  unfold num1
  refine ⟨?_, by omega⟩
  rw [show (48 : Int32) = nI 48 from rfl, pk_sub d1]
theorem f_digit (L : LX h n w) (t : Tk w n 35 q) : ev mX2_digit 0 [.ref 12, .int (nI q)] [] h = some (some (.int (nI (num1 w q))), h) := by
  rw [f_digit0 L t.1, (dig_v L t).1]
theorem num2_lt (L : LX h n w) (t1 : Tk w n 35 q) (t2 : Tk w n 35 (q + 1)) : num2 w q < 100 := by
  have a := (dig_v L t1).2
  have b := (dig_v L t2).2
  unfold num1 at a b
  unfold num2
  omega
theorem f_number (L : LX h n w) (t1 : Tk w n 35 q) (t2 : Tk w n 35 (q + 1)) : ev mX2_number 0 [.ref 12, .int (nI q)] [] h = some (some (.int (nI (num2 w q))), h) := by
  have e : (10 : Int32) * nI (num1 w q) + nI (num1 w (q + 1)) = nI (num2 w q) := by
    rw [show (10 : Int32) = nI 10 from rfl, pk_mul, nI_add]
    rfl
  simp [eX2_number_0, eX2_number_2, eX2_number_3, eX2_number_4, eX2_number_7, eX2_number_8, eX2_number_9, eX2_number_10, eX2_number_11, eX2_number_12, eX2_number_15, eX2_number_16, f_digit L t1, f_digit L t2, nI_1, e]
theorem f_signed (L : LX h n w) (t0 : Tk w n 43 q) (t1 : Tk w n 35 (q + 1)) (t2 : Tk w n 35 (q + 1 + 1)) : ev mX2_signed 0 [.ref 12, .int (nI q)] [] h = some (some (.int (sgv w q)), h) := by
  unfold sgv
  by_cases m : nI (w q) = 45
  · simp [eX2_signed_0, eX2_signed_1, eX2_signed_2, eX2_signed_5, eX2_signed_7, eX2_signed_10, eX2_signed_11, eX2_signed_12, eX2_signed_13, eX2_signed_14, eX2_signed_17, eX2_signed_18, eX2_signed_21, eX2_signed_22, eX2_signed_23, eX2_signed_24, eX2_signed_25, eX2_signed_28, f_signAt L t0.1, m, nI_1, f_number L t1 t2]
  · simp [eX2_signed_0, eX2_signed_1, eX2_signed_2, eX2_signed_5, eX2_signed_7, eX2_signed_10, eX2_signed_11, eX2_signed_12, eX2_signed_13, eX2_signed_14, eX2_signed_17, eX2_signed_18, eX2_signed_21, eX2_signed_22, eX2_signed_23, eX2_signed_24, eX2_signed_25, eX2_signed_28, f_signAt L t0.1, m, nI_1, f_number L t1 t2]
theorem nI_p2 : nI p + 2 = nI (p + 1 + 1) := nI_add p 2
theorem nI_p4 : nI p + 4 = nI (p + 1 + 1 + 1 + 1) := nI_add p 4
def CAct (h : Sto) (p : Nat) (o : Option (Nat → Int32)) : Prop := match o with
  | none => ev mX6_isAsItMustBe 0 [.ref 0, .int (nI p)] [] h = some (some (.int 0), h)
  | some r' => ev mX6_isAsItMustBe 0 [.ref 0, .int (nI p)] [] h = some (some (.int 1), h) ∧ ∃ h' : Sto, ev mX6_comes 0 [.ref 0, .int (nI p), .null] [] h = some (none, h') ∧ hm h' 4 = r' ∧ ∀ a, a ≠ 4 → a ≠ 5 → a ≠ 6 → h' a = h a
theorem nlt {a b : Nat} (ha : a < 1000) (hb : b < 1000) : (nI a < nI b) ↔ a < b := nI_ltI (by omega) (by omega)
theorem ca_n (L : LX h n w) (hc : w p = 110) (hs : (stN w n p).2 = true) : CAct h p (actN w p (hm h 4)) := by
  obtain ⟨t1, t2, t3⟩ := ok_nw (Or.inl hc) hs
  have hp := (stN_ok hs).1
  have fs := f_signAt L hp
  rw [hc, show nI 110 = 110 from rfl] at fs
  have fn := f_number L t1 t2
  have nl := num2_lt L t1 t2
  have a1 : (nI (num2 w (p + 1)) < 2) ↔ num2 w (p + 1) < 2 := nlt (b := 2) (by omega) (by omega)
  have a2 : (12 < nI (num2 w (p + 1))) ↔ 12 < num2 w (p + 1) := nlt (a := 12) (by omega) (by omega)
  unfold actN
  rw [if_pos hc]
  by_cases c1 : num2 w (p + 1) < 2
  · rw [if_neg (by omega)]
    have d1 := a1.mpr c1
    show ev mX6_isAsItMustBe 0 [.ref 0, .int (nI p)] [] h = _
    simp [eX6_isAsItMustBe_0, eX6_isAsItMustBe_1, eX6_isAsItMustBe_4, eX6_isAsItMustBe_5, eX6_isAsItMustBe_8, eX6_isAsItMustBe_100, eX6_isAsItMustBe_101, eX6_isAsItMustBe_104, eX6_isAsItMustBe_105, eX6_isAsItMustBe_106, eX6_isAsItMustBe_107, eX6_isAsItMustBe_110, eX6_isAsItMustBe_111, eX6_isAsItMustBe_113, eX6_isAsItMustBe_116, eX6_isAsItMustBe_119, eX6_isAsItMustBe_120, eX6_isAsItMustBe_123, eX6_isAsItMustBe_124, eX6_isAsItMustBe_125, eX6_isAsItMustBe_126, eX6_isAsItMustBe_129, eX6_isAsItMustBe_130, eX6_isAsItMustBe_133, eX6_isAsItMustBe_134, eX6_isAsItMustBe_135, eX6_isAsItMustBe_136, eX6_isAsItMustBe_139, eX6_isAsItMustBe_142, eX6_isAsItMustBe_143, eX6_isAsItMustBe_144, eX6_isAsItMustBe_147, eX6_isAsItMustBe_148, eX6_isAsItMustBe_149, eX6_isAsItMustBe_150, eX6_isAsItMustBe_153, eX6_isAsItMustBe_156, eX6_isAsItMustBe_159, eX6_isAsItMustBe_160, eX6_isAsItMustBe_163, eX6_isAsItMustBe_164, eX6_isAsItMustBe_165, eX6_isAsItMustBe_166, eX6_isAsItMustBe_169, eX6_isAsItMustBe_171, eX6_isAsItMustBe_173, eX6_isAsItMustBe_176, eX6_isAsItMustBe_179, eX6_isAsItMustBe_180, eX6_isAsItMustBe_183, eX6_isAsItMustBe_184, eX6_isAsItMustBe_185, eX6_isAsItMustBe_186, eX6_isAsItMustBe_189, eX6_isAsItMustBe_190, eX6_isAsItMustBe_191, eX6_isAsItMustBe_192, eX6_isAsItMustBe_195, eX6_isAsItMustBe_198, eX6_isAsItMustBe_199, eX6_isAsItMustBe_200, eX6_isAsItMustBe_203, eX6_isAsItMustBe_204, eX6_isAsItMustBe_205, eX6_isAsItMustBe_206, eX6_isAsItMustBe_209, eX6_isAsItMustBe_210, eX6_isAsItMustBe_213, eX6_isAsItMustBe_214, eX6_isAsItMustBe_217, eX6_isAsItMustBe_218, eX6_isAsItMustBe_219, eX6_isAsItMustBe_220, eX6_isAsItMustBe_223, eX6_isAsItMustBe_224, eX6_isAsItMustBe_225, eX6_isAsItMustBe_226, eX6_isAsItMustBe_229, eX6_isAsItMustBe_230, eX6_isAsItMustBe_232, eX6_isAsItMustBe_235, eX6_isAsItMustBe_238, eX6_isAsItMustBe_239, eX6_isAsItMustBe_242, eX6_isAsItMustBe_243, eX6_isAsItMustBe_244, eX6_isAsItMustBe_245, fs, fn, nI_1, f_outside, d1]
  · have d1 : ¬ nI (num2 w (p + 1)) < 2 := fun z => c1 (a1.mp z)
    by_cases c2 : 12 < num2 w (p + 1)
    · rw [if_neg (by omega)]
      have d2 := a2.mpr c2
      show ev mX6_isAsItMustBe 0 [.ref 0, .int (nI p)] [] h = _
      simp [eX6_isAsItMustBe_0, eX6_isAsItMustBe_1, eX6_isAsItMustBe_4, eX6_isAsItMustBe_5, eX6_isAsItMustBe_8, eX6_isAsItMustBe_100, eX6_isAsItMustBe_101, eX6_isAsItMustBe_104, eX6_isAsItMustBe_105, eX6_isAsItMustBe_106, eX6_isAsItMustBe_107, eX6_isAsItMustBe_110, eX6_isAsItMustBe_111, eX6_isAsItMustBe_113, eX6_isAsItMustBe_116, eX6_isAsItMustBe_119, eX6_isAsItMustBe_120, eX6_isAsItMustBe_123, eX6_isAsItMustBe_124, eX6_isAsItMustBe_125, eX6_isAsItMustBe_126, eX6_isAsItMustBe_129, eX6_isAsItMustBe_130, eX6_isAsItMustBe_133, eX6_isAsItMustBe_134, eX6_isAsItMustBe_135, eX6_isAsItMustBe_136, eX6_isAsItMustBe_139, eX6_isAsItMustBe_142, eX6_isAsItMustBe_143, eX6_isAsItMustBe_144, eX6_isAsItMustBe_147, eX6_isAsItMustBe_148, eX6_isAsItMustBe_149, eX6_isAsItMustBe_150, eX6_isAsItMustBe_153, eX6_isAsItMustBe_156, eX6_isAsItMustBe_159, eX6_isAsItMustBe_160, eX6_isAsItMustBe_163, eX6_isAsItMustBe_164, eX6_isAsItMustBe_165, eX6_isAsItMustBe_166, eX6_isAsItMustBe_169, eX6_isAsItMustBe_171, eX6_isAsItMustBe_173, eX6_isAsItMustBe_176, eX6_isAsItMustBe_179, eX6_isAsItMustBe_180, eX6_isAsItMustBe_183, eX6_isAsItMustBe_184, eX6_isAsItMustBe_185, eX6_isAsItMustBe_186, eX6_isAsItMustBe_189, eX6_isAsItMustBe_190, eX6_isAsItMustBe_191, eX6_isAsItMustBe_192, eX6_isAsItMustBe_195, eX6_isAsItMustBe_198, eX6_isAsItMustBe_199, eX6_isAsItMustBe_200, eX6_isAsItMustBe_203, eX6_isAsItMustBe_204, eX6_isAsItMustBe_205, eX6_isAsItMustBe_206, eX6_isAsItMustBe_209, eX6_isAsItMustBe_210, eX6_isAsItMustBe_213, eX6_isAsItMustBe_214, eX6_isAsItMustBe_217, eX6_isAsItMustBe_218, eX6_isAsItMustBe_219, eX6_isAsItMustBe_220, eX6_isAsItMustBe_223, eX6_isAsItMustBe_224, eX6_isAsItMustBe_225, eX6_isAsItMustBe_226, eX6_isAsItMustBe_229, eX6_isAsItMustBe_230, eX6_isAsItMustBe_232, eX6_isAsItMustBe_235, eX6_isAsItMustBe_238, eX6_isAsItMustBe_239, eX6_isAsItMustBe_242, eX6_isAsItMustBe_243, eX6_isAsItMustBe_244, eX6_isAsItMustBe_245, fs, fn, nI_1, f_outside, d1, d2]
    · have d2 : ¬ 12 < nI (num2 w (p + 1)) := fun z => c2 (a2.mp z)
      rw [if_pos (by omega)]
      refine ⟨?_, st h 4 2 (nI (num2 w (p + 1))), ?_, ?_, fun a z1 z2 z3 => st_cell z1⟩
      · simp [eX6_isAsItMustBe_0, eX6_isAsItMustBe_1, eX6_isAsItMustBe_4, eX6_isAsItMustBe_5, eX6_isAsItMustBe_8, eX6_isAsItMustBe_100, eX6_isAsItMustBe_101, eX6_isAsItMustBe_104, eX6_isAsItMustBe_105, eX6_isAsItMustBe_106, eX6_isAsItMustBe_107, eX6_isAsItMustBe_110, eX6_isAsItMustBe_111, eX6_isAsItMustBe_113, eX6_isAsItMustBe_116, eX6_isAsItMustBe_119, eX6_isAsItMustBe_120, eX6_isAsItMustBe_123, eX6_isAsItMustBe_124, eX6_isAsItMustBe_125, eX6_isAsItMustBe_126, eX6_isAsItMustBe_129, eX6_isAsItMustBe_130, eX6_isAsItMustBe_133, eX6_isAsItMustBe_134, eX6_isAsItMustBe_135, eX6_isAsItMustBe_136, eX6_isAsItMustBe_139, eX6_isAsItMustBe_142, eX6_isAsItMustBe_143, eX6_isAsItMustBe_144, eX6_isAsItMustBe_147, eX6_isAsItMustBe_148, eX6_isAsItMustBe_149, eX6_isAsItMustBe_150, eX6_isAsItMustBe_153, eX6_isAsItMustBe_156, eX6_isAsItMustBe_159, eX6_isAsItMustBe_160, eX6_isAsItMustBe_163, eX6_isAsItMustBe_164, eX6_isAsItMustBe_165, eX6_isAsItMustBe_166, eX6_isAsItMustBe_169, eX6_isAsItMustBe_171, eX6_isAsItMustBe_173, eX6_isAsItMustBe_176, eX6_isAsItMustBe_179, eX6_isAsItMustBe_180, eX6_isAsItMustBe_183, eX6_isAsItMustBe_184, eX6_isAsItMustBe_185, eX6_isAsItMustBe_186, eX6_isAsItMustBe_189, eX6_isAsItMustBe_190, eX6_isAsItMustBe_191, eX6_isAsItMustBe_192, eX6_isAsItMustBe_195, eX6_isAsItMustBe_198, eX6_isAsItMustBe_199, eX6_isAsItMustBe_200, eX6_isAsItMustBe_203, eX6_isAsItMustBe_204, eX6_isAsItMustBe_205, eX6_isAsItMustBe_206, eX6_isAsItMustBe_209, eX6_isAsItMustBe_210, eX6_isAsItMustBe_213, eX6_isAsItMustBe_214, eX6_isAsItMustBe_217, eX6_isAsItMustBe_218, eX6_isAsItMustBe_219, eX6_isAsItMustBe_220, eX6_isAsItMustBe_223, eX6_isAsItMustBe_224, eX6_isAsItMustBe_225, eX6_isAsItMustBe_226, eX6_isAsItMustBe_229, eX6_isAsItMustBe_230, eX6_isAsItMustBe_232, eX6_isAsItMustBe_235, eX6_isAsItMustBe_238, eX6_isAsItMustBe_239, eX6_isAsItMustBe_242, eX6_isAsItMustBe_243, eX6_isAsItMustBe_244, eX6_isAsItMustBe_245, fs, fn, nI_1, f_outside, d1, d2]
      · have fd := f_digit L t1
        simp [eX6_comes_0, eX6_comes_1, eX6_comes_4, eX6_comes_5, eX6_comes_6, eX6_comes_7, eX6_comes_10, eX6_comes_11, eX6_comes_12, eX6_comes_15, eX6_comes_16, eX6_comes_19, eX6_comes_92, eX6_comes_93, eX6_comes_96, eX6_comes_97, eX6_comes_100, eX6_comes_101, eX6_comes_102, eX6_comes_103, eX6_comes_106, eX6_comes_109, eX6_comes_112, eX6_comes_113, eX6_comes_116, eX6_comes_117, eX6_comes_120, eX6_comes_121, eX6_comes_122, eX6_comes_123, eX6_comes_126, eX6_comes_127, eX6_comes_130, eX6_comes_131, eX6_comes_132, eX6_comes_133, eX6_comes_136, eX6_comes_139, eX6_comes_140, eX6_comes_143, eX6_comes_144, eX6_comes_145, eX6_comes_146, eX6_comes_149, eX6_comes_152, eX6_comes_155, eX6_comes_156, eX6_comes_159, eX6_comes_160, eX6_comes_161, eX6_comes_164, eX6_comes_165, eX6_comes_166, eX6_comes_167, eX6_comes_170, eX6_comes_173, eX6_comes_176, eX6_comes_177, eX6_comes_180, eX6_comes_181, eX6_comes_182, eX6_comes_185, eX6_comes_186, eX6_comes_189, eX6_comes_192, eX6_comes_193, eX6_comes_196, eX6_comes_197, eX6_comes_200, eX6_comes_203, eX6_comes_204, eX6_comes_207, eX6_comes_208, eX6_comes_211, eX6_comes_214, eX6_comes_217, eX6_comes_218, eX6_comes_221, eX6_comes_222, eX6_comes_225, eX6_comes_228, eX6_comes_229, eX6_comes_232, eX6_comes_233, eX6_comes_236, eX6_comes_237, eX6_comes_240, eX6_comes_241, eX6_comes_244, eX6_comes_245, eX6_comes_246, eX6_comes_247, eX6_comes_250, eX6_comes_253, eX6_comes_256, eX6_comes_257, eX6_comes_260, eX6_comes_261, eX6_comes_264, eX6_comes_265, eX6_comes_266, eX6_comes_267, eX6_comes_270, eX6_comes_273, fs, fn, fd, nI_1, show lyC 1 = 0 from rfl, show rcv 1 = 0 from rfl, show rcv 4 = 0 from rfl, show lyC 4 = 0 from rfl]
      · exact hm_st (c := 4) (j := 0) (by omega)
theorem ca_w (L : LX h n w) (ok : Ok (hm h 4)) (hc : w p = 119) (hs : (stN w n p).2 = true) : CAct h p (actN w p (hm h 4)) := by
  obtain ⟨t1, t2, t3⟩ := ok_nw (Or.inr hc) hs
  have hp := (stN_ok hs).1
  have fs := f_signAt L hp
  rw [hc, show nI 119 = 119 from rfl] at fs
  have fn := f_number L t1 t2
  have nl := num2_lt L t1 t2
  have a1 : (nI (num2 w (p + 1)) < 1) ↔ num2 w (p + 1) < 1 := nlt (b := 1) (by omega) (by omega)
  have a2 : (40 < nI (num2 w (p + 1))) ↔ 40 < num2 w (p + 1) := nlt (a := 40) (by omega) (by omega)
  unfold actN
  rw [if_neg (by omega), if_neg (by omega), if_neg (by omega), if_neg (by omega), if_neg (by omega), if_neg (by omega)]
  by_cases c1 : num2 w (p + 1) < 1
  · rw [if_neg (by omega)]
    have d1 := a1.mpr c1
    show ev mX6_isAsItMustBe 0 [.ref 0, .int (nI p)] [] h = _
    simp [eX6_isAsItMustBe_0, eX6_isAsItMustBe_1, eX6_isAsItMustBe_4, eX6_isAsItMustBe_5, eX6_isAsItMustBe_8, eX6_isAsItMustBe_100, eX6_isAsItMustBe_101, eX6_isAsItMustBe_104, eX6_isAsItMustBe_105, eX6_isAsItMustBe_106, eX6_isAsItMustBe_107, eX6_isAsItMustBe_110, eX6_isAsItMustBe_111, eX6_isAsItMustBe_113, eX6_isAsItMustBe_116, eX6_isAsItMustBe_119, eX6_isAsItMustBe_120, eX6_isAsItMustBe_123, eX6_isAsItMustBe_124, eX6_isAsItMustBe_125, eX6_isAsItMustBe_126, eX6_isAsItMustBe_129, eX6_isAsItMustBe_130, eX6_isAsItMustBe_133, eX6_isAsItMustBe_134, eX6_isAsItMustBe_135, eX6_isAsItMustBe_136, eX6_isAsItMustBe_139, eX6_isAsItMustBe_142, eX6_isAsItMustBe_143, eX6_isAsItMustBe_144, eX6_isAsItMustBe_147, eX6_isAsItMustBe_148, eX6_isAsItMustBe_149, eX6_isAsItMustBe_150, eX6_isAsItMustBe_153, eX6_isAsItMustBe_156, eX6_isAsItMustBe_159, eX6_isAsItMustBe_160, eX6_isAsItMustBe_163, eX6_isAsItMustBe_164, eX6_isAsItMustBe_165, eX6_isAsItMustBe_166, eX6_isAsItMustBe_169, eX6_isAsItMustBe_171, eX6_isAsItMustBe_173, eX6_isAsItMustBe_176, eX6_isAsItMustBe_179, eX6_isAsItMustBe_180, eX6_isAsItMustBe_183, eX6_isAsItMustBe_184, eX6_isAsItMustBe_185, eX6_isAsItMustBe_186, eX6_isAsItMustBe_189, eX6_isAsItMustBe_190, eX6_isAsItMustBe_191, eX6_isAsItMustBe_192, eX6_isAsItMustBe_195, eX6_isAsItMustBe_198, eX6_isAsItMustBe_199, eX6_isAsItMustBe_200, eX6_isAsItMustBe_203, eX6_isAsItMustBe_204, eX6_isAsItMustBe_205, eX6_isAsItMustBe_206, eX6_isAsItMustBe_209, eX6_isAsItMustBe_210, eX6_isAsItMustBe_213, eX6_isAsItMustBe_214, eX6_isAsItMustBe_217, eX6_isAsItMustBe_218, eX6_isAsItMustBe_219, eX6_isAsItMustBe_220, eX6_isAsItMustBe_223, eX6_isAsItMustBe_224, eX6_isAsItMustBe_225, eX6_isAsItMustBe_226, eX6_isAsItMustBe_229, eX6_isAsItMustBe_230, eX6_isAsItMustBe_232, eX6_isAsItMustBe_235, eX6_isAsItMustBe_238, eX6_isAsItMustBe_239, eX6_isAsItMustBe_242, eX6_isAsItMustBe_243, eX6_isAsItMustBe_244, eX6_isAsItMustBe_245, fs, fn, nI_1, f_outside, d1]
  · have d1 : ¬ nI (num2 w (p + 1)) < 1 := fun z => c1 (a1.mp z)
    by_cases c2 : 40 < num2 w (p + 1)
    · rw [if_neg (by omega)]
      have d2 := a2.mpr c2
      show ev mX6_isAsItMustBe 0 [.ref 0, .int (nI p)] [] h = _
      simp [eX6_isAsItMustBe_0, eX6_isAsItMustBe_1, eX6_isAsItMustBe_4, eX6_isAsItMustBe_5, eX6_isAsItMustBe_8, eX6_isAsItMustBe_100, eX6_isAsItMustBe_101, eX6_isAsItMustBe_104, eX6_isAsItMustBe_105, eX6_isAsItMustBe_106, eX6_isAsItMustBe_107, eX6_isAsItMustBe_110, eX6_isAsItMustBe_111, eX6_isAsItMustBe_113, eX6_isAsItMustBe_116, eX6_isAsItMustBe_119, eX6_isAsItMustBe_120, eX6_isAsItMustBe_123, eX6_isAsItMustBe_124, eX6_isAsItMustBe_125, eX6_isAsItMustBe_126, eX6_isAsItMustBe_129, eX6_isAsItMustBe_130, eX6_isAsItMustBe_133, eX6_isAsItMustBe_134, eX6_isAsItMustBe_135, eX6_isAsItMustBe_136, eX6_isAsItMustBe_139, eX6_isAsItMustBe_142, eX6_isAsItMustBe_143, eX6_isAsItMustBe_144, eX6_isAsItMustBe_147, eX6_isAsItMustBe_148, eX6_isAsItMustBe_149, eX6_isAsItMustBe_150, eX6_isAsItMustBe_153, eX6_isAsItMustBe_156, eX6_isAsItMustBe_159, eX6_isAsItMustBe_160, eX6_isAsItMustBe_163, eX6_isAsItMustBe_164, eX6_isAsItMustBe_165, eX6_isAsItMustBe_166, eX6_isAsItMustBe_169, eX6_isAsItMustBe_171, eX6_isAsItMustBe_173, eX6_isAsItMustBe_176, eX6_isAsItMustBe_179, eX6_isAsItMustBe_180, eX6_isAsItMustBe_183, eX6_isAsItMustBe_184, eX6_isAsItMustBe_185, eX6_isAsItMustBe_186, eX6_isAsItMustBe_189, eX6_isAsItMustBe_190, eX6_isAsItMustBe_191, eX6_isAsItMustBe_192, eX6_isAsItMustBe_195, eX6_isAsItMustBe_198, eX6_isAsItMustBe_199, eX6_isAsItMustBe_200, eX6_isAsItMustBe_203, eX6_isAsItMustBe_204, eX6_isAsItMustBe_205, eX6_isAsItMustBe_206, eX6_isAsItMustBe_209, eX6_isAsItMustBe_210, eX6_isAsItMustBe_213, eX6_isAsItMustBe_214, eX6_isAsItMustBe_217, eX6_isAsItMustBe_218, eX6_isAsItMustBe_219, eX6_isAsItMustBe_220, eX6_isAsItMustBe_223, eX6_isAsItMustBe_224, eX6_isAsItMustBe_225, eX6_isAsItMustBe_226, eX6_isAsItMustBe_229, eX6_isAsItMustBe_230, eX6_isAsItMustBe_232, eX6_isAsItMustBe_235, eX6_isAsItMustBe_238, eX6_isAsItMustBe_239, eX6_isAsItMustBe_242, eX6_isAsItMustBe_243, eX6_isAsItMustBe_244, eX6_isAsItMustBe_245, fs, fn, nI_1, f_outside, d1, d2]
    · have d2 : ¬ 40 < nI (num2 w (p + 1)) := fun z => c2 (a2.mp z)
      have wt := f_washTimes (h := h) (N := num2 w (p + 1)) HC4 (by omega) ok
      rw [if_pos (by omega)]
      refine ⟨?_, dep h 4 (wsN (hm h 4) (num2 w (p + 1)) 1) (wsN (hm h 4) (num2 w (p + 1)) 2), ?_, ?_, fun a z1 z2 z3 => dep_cell z1⟩
      · simp [eX6_isAsItMustBe_0, eX6_isAsItMustBe_1, eX6_isAsItMustBe_4, eX6_isAsItMustBe_5, eX6_isAsItMustBe_8, eX6_isAsItMustBe_100, eX6_isAsItMustBe_101, eX6_isAsItMustBe_104, eX6_isAsItMustBe_105, eX6_isAsItMustBe_106, eX6_isAsItMustBe_107, eX6_isAsItMustBe_110, eX6_isAsItMustBe_111, eX6_isAsItMustBe_113, eX6_isAsItMustBe_116, eX6_isAsItMustBe_119, eX6_isAsItMustBe_120, eX6_isAsItMustBe_123, eX6_isAsItMustBe_124, eX6_isAsItMustBe_125, eX6_isAsItMustBe_126, eX6_isAsItMustBe_129, eX6_isAsItMustBe_130, eX6_isAsItMustBe_133, eX6_isAsItMustBe_134, eX6_isAsItMustBe_135, eX6_isAsItMustBe_136, eX6_isAsItMustBe_139, eX6_isAsItMustBe_142, eX6_isAsItMustBe_143, eX6_isAsItMustBe_144, eX6_isAsItMustBe_147, eX6_isAsItMustBe_148, eX6_isAsItMustBe_149, eX6_isAsItMustBe_150, eX6_isAsItMustBe_153, eX6_isAsItMustBe_156, eX6_isAsItMustBe_159, eX6_isAsItMustBe_160, eX6_isAsItMustBe_163, eX6_isAsItMustBe_164, eX6_isAsItMustBe_165, eX6_isAsItMustBe_166, eX6_isAsItMustBe_169, eX6_isAsItMustBe_171, eX6_isAsItMustBe_173, eX6_isAsItMustBe_176, eX6_isAsItMustBe_179, eX6_isAsItMustBe_180, eX6_isAsItMustBe_183, eX6_isAsItMustBe_184, eX6_isAsItMustBe_185, eX6_isAsItMustBe_186, eX6_isAsItMustBe_189, eX6_isAsItMustBe_190, eX6_isAsItMustBe_191, eX6_isAsItMustBe_192, eX6_isAsItMustBe_195, eX6_isAsItMustBe_198, eX6_isAsItMustBe_199, eX6_isAsItMustBe_200, eX6_isAsItMustBe_203, eX6_isAsItMustBe_204, eX6_isAsItMustBe_205, eX6_isAsItMustBe_206, eX6_isAsItMustBe_209, eX6_isAsItMustBe_210, eX6_isAsItMustBe_213, eX6_isAsItMustBe_214, eX6_isAsItMustBe_217, eX6_isAsItMustBe_218, eX6_isAsItMustBe_219, eX6_isAsItMustBe_220, eX6_isAsItMustBe_223, eX6_isAsItMustBe_224, eX6_isAsItMustBe_225, eX6_isAsItMustBe_226, eX6_isAsItMustBe_229, eX6_isAsItMustBe_230, eX6_isAsItMustBe_232, eX6_isAsItMustBe_235, eX6_isAsItMustBe_238, eX6_isAsItMustBe_239, eX6_isAsItMustBe_242, eX6_isAsItMustBe_243, eX6_isAsItMustBe_244, eX6_isAsItMustBe_245, fs, fn, nI_1, f_outside, d1, d2]
      · have fd := f_digit L t1
        simp [eX6_comes_0, eX6_comes_1, eX6_comes_4, eX6_comes_5, eX6_comes_6, eX6_comes_7, eX6_comes_10, eX6_comes_11, eX6_comes_12, eX6_comes_15, eX6_comes_16, eX6_comes_19, eX6_comes_92, eX6_comes_93, eX6_comes_96, eX6_comes_97, eX6_comes_100, eX6_comes_101, eX6_comes_102, eX6_comes_103, eX6_comes_106, eX6_comes_109, eX6_comes_112, eX6_comes_113, eX6_comes_116, eX6_comes_117, eX6_comes_120, eX6_comes_121, eX6_comes_122, eX6_comes_123, eX6_comes_126, eX6_comes_127, eX6_comes_130, eX6_comes_131, eX6_comes_132, eX6_comes_133, eX6_comes_136, eX6_comes_139, eX6_comes_140, eX6_comes_143, eX6_comes_144, eX6_comes_145, eX6_comes_146, eX6_comes_149, eX6_comes_152, eX6_comes_155, eX6_comes_156, eX6_comes_159, eX6_comes_160, eX6_comes_161, eX6_comes_164, eX6_comes_165, eX6_comes_166, eX6_comes_167, eX6_comes_170, eX6_comes_173, eX6_comes_176, eX6_comes_177, eX6_comes_180, eX6_comes_181, eX6_comes_182, eX6_comes_185, eX6_comes_186, eX6_comes_189, eX6_comes_192, eX6_comes_193, eX6_comes_196, eX6_comes_197, eX6_comes_200, eX6_comes_203, eX6_comes_204, eX6_comes_207, eX6_comes_208, eX6_comes_211, eX6_comes_214, eX6_comes_217, eX6_comes_218, eX6_comes_221, eX6_comes_222, eX6_comes_225, eX6_comes_228, eX6_comes_229, eX6_comes_232, eX6_comes_233, eX6_comes_236, eX6_comes_237, eX6_comes_240, eX6_comes_241, eX6_comes_244, eX6_comes_245, eX6_comes_246, eX6_comes_247, eX6_comes_250, eX6_comes_253, eX6_comes_256, eX6_comes_257, eX6_comes_260, eX6_comes_261, eX6_comes_264, eX6_comes_265, eX6_comes_266, eX6_comes_267, eX6_comes_270, eX6_comes_273, fs, fn, fd, nI_1, wt, show lyC 1 = 0 from rfl, show rcv 1 = 0 from rfl, show rcv 4 = 0 from rfl, show lyC 4 = 0 from rfl]
      · rw [hm_dep, ← wsN_form]
theorem ca_i (L : LX h n w) (ok : Ok (hm h 4)) (hc : w p = 105) (hs : (stN w n p).2 = true) : CAct h p (actN w p (hm h 4)) := by
  obtain ⟨t1, t2, t3, t4⟩ := ok_i hc hs
  have hp := (stN_ok hs).1
  have fs := f_signAt L hp
  rw [hc, show nI 105 = 105 from rfl] at fs
  have fs1 := f_signAt L t1.1
  have fn := f_number L t2 t3
  have nl := num2_lt L t2 t3
  have kd := (tk_kind.mp t1).2
  have fo := f_ofSign (h := h) (L.2.2 _ t1.1).2 kd
  have fd := f_digit L t4
  have fd0 := f_digit0 L t1.1
  have hi := f_hasInch (h := h) (x := nI (num2 w (p + 1 + 1))) HC4
  have n0 : ¬ nI (num2 w (p + 1 + 1)) < 0 := nI_pos (by omega)
  have r0 : hm h 4 0 = h 4 2 := rfl
  have l := ok.1
  rw [r0] at l
  unfold actN
  rw [if_neg (by omega), if_pos hc, r0]
  by_cases c : nI (num2 w (p + 1 + 1)) < h 4 2
  · have c' : ¬ h 4 2 ≤ nI (num2 w (p + 1 + 1)) := Int32.not_le.mpr c
    have b12 : num2 w (p + 1 + 1) < 12 := by
      rw [t_lt, t_nI (by omega)] at c
      omega
    rw [if_neg n0, if_neg c'] at hi
    have fm := f_make (h := h) (v := kdN (nI (w (p + 1)))) (w := nI (num1 w (p + 1 + 1 + 1 + 1))) HC4 b12
    rw [if_pos c]
    refine ⟨?_, st (st h (4 + 1) (num2 w (p + 1 + 1)) (kdN (nI (w (p + 1))))) (4 + 2) (num2 w (p + 1 + 1)) (nI (num1 w (p + 1 + 1 + 1 + 1))), ?_, hm_kf b12, fun a z1 z2 z3 => by rw [st_cell z3, st_cell z2]⟩
    · simp [eX6_isAsItMustBe_0, eX6_isAsItMustBe_1, eX6_isAsItMustBe_4, eX6_isAsItMustBe_5, eX6_isAsItMustBe_8, eX6_isAsItMustBe_100, eX6_isAsItMustBe_101, eX6_isAsItMustBe_104, eX6_isAsItMustBe_105, eX6_isAsItMustBe_106, eX6_isAsItMustBe_107, eX6_isAsItMustBe_110, eX6_isAsItMustBe_111, eX6_isAsItMustBe_113, eX6_isAsItMustBe_116, eX6_isAsItMustBe_119, eX6_isAsItMustBe_120, eX6_isAsItMustBe_123, eX6_isAsItMustBe_124, eX6_isAsItMustBe_125, eX6_isAsItMustBe_126, eX6_isAsItMustBe_129, eX6_isAsItMustBe_130, eX6_isAsItMustBe_133, eX6_isAsItMustBe_134, eX6_isAsItMustBe_135, eX6_isAsItMustBe_136, eX6_isAsItMustBe_139, eX6_isAsItMustBe_142, eX6_isAsItMustBe_143, eX6_isAsItMustBe_144, eX6_isAsItMustBe_147, eX6_isAsItMustBe_148, eX6_isAsItMustBe_149, eX6_isAsItMustBe_150, eX6_isAsItMustBe_153, eX6_isAsItMustBe_156, eX6_isAsItMustBe_159, eX6_isAsItMustBe_160, eX6_isAsItMustBe_163, eX6_isAsItMustBe_164, eX6_isAsItMustBe_165, eX6_isAsItMustBe_166, eX6_isAsItMustBe_169, eX6_isAsItMustBe_171, eX6_isAsItMustBe_173, eX6_isAsItMustBe_176, eX6_isAsItMustBe_179, eX6_isAsItMustBe_180, eX6_isAsItMustBe_183, eX6_isAsItMustBe_184, eX6_isAsItMustBe_185, eX6_isAsItMustBe_186, eX6_isAsItMustBe_189, eX6_isAsItMustBe_190, eX6_isAsItMustBe_191, eX6_isAsItMustBe_192, eX6_isAsItMustBe_195, eX6_isAsItMustBe_198, eX6_isAsItMustBe_199, eX6_isAsItMustBe_200, eX6_isAsItMustBe_203, eX6_isAsItMustBe_204, eX6_isAsItMustBe_205, eX6_isAsItMustBe_206, eX6_isAsItMustBe_209, eX6_isAsItMustBe_210, eX6_isAsItMustBe_213, eX6_isAsItMustBe_214, eX6_isAsItMustBe_217, eX6_isAsItMustBe_218, eX6_isAsItMustBe_219, eX6_isAsItMustBe_220, eX6_isAsItMustBe_223, eX6_isAsItMustBe_224, eX6_isAsItMustBe_225, eX6_isAsItMustBe_226, eX6_isAsItMustBe_229, eX6_isAsItMustBe_230, eX6_isAsItMustBe_232, eX6_isAsItMustBe_235, eX6_isAsItMustBe_238, eX6_isAsItMustBe_239, eX6_isAsItMustBe_242, eX6_isAsItMustBe_243, eX6_isAsItMustBe_244, eX6_isAsItMustBe_245, fs, fn, nI_p2, hi, show lyC 1 = 0 from rfl, show rcv 1 = 0 from rfl, show rcv 4 = 0 from rfl, show lyC 4 = 0 from rfl]
    · simp [eX6_comes_0, eX6_comes_1, eX6_comes_4, eX6_comes_5, eX6_comes_6, eX6_comes_7, eX6_comes_10, eX6_comes_11, eX6_comes_12, eX6_comes_15, eX6_comes_16, eX6_comes_19, eX6_comes_92, eX6_comes_93, eX6_comes_96, eX6_comes_97, eX6_comes_100, eX6_comes_101, eX6_comes_102, eX6_comes_103, eX6_comes_106, eX6_comes_109, eX6_comes_112, eX6_comes_113, eX6_comes_116, eX6_comes_117, eX6_comes_120, eX6_comes_121, eX6_comes_122, eX6_comes_123, eX6_comes_126, eX6_comes_127, eX6_comes_130, eX6_comes_131, eX6_comes_132, eX6_comes_133, eX6_comes_136, eX6_comes_139, eX6_comes_140, eX6_comes_143, eX6_comes_144, eX6_comes_145, eX6_comes_146, eX6_comes_149, eX6_comes_152, eX6_comes_155, eX6_comes_156, eX6_comes_159, eX6_comes_160, eX6_comes_161, eX6_comes_164, eX6_comes_165, eX6_comes_166, eX6_comes_167, eX6_comes_170, eX6_comes_173, eX6_comes_176, eX6_comes_177, eX6_comes_180, eX6_comes_181, eX6_comes_182, eX6_comes_185, eX6_comes_186, eX6_comes_189, eX6_comes_192, eX6_comes_193, eX6_comes_196, eX6_comes_197, eX6_comes_200, eX6_comes_203, eX6_comes_204, eX6_comes_207, eX6_comes_208, eX6_comes_211, eX6_comes_214, eX6_comes_217, eX6_comes_218, eX6_comes_221, eX6_comes_222, eX6_comes_225, eX6_comes_228, eX6_comes_229, eX6_comes_232, eX6_comes_233, eX6_comes_236, eX6_comes_237, eX6_comes_240, eX6_comes_241, eX6_comes_244, eX6_comes_245, eX6_comes_246, eX6_comes_247, eX6_comes_250, eX6_comes_253, eX6_comes_256, eX6_comes_257, eX6_comes_260, eX6_comes_261, eX6_comes_264, eX6_comes_265, eX6_comes_266, eX6_comes_267, eX6_comes_270, eX6_comes_273, fs, fs1, fn, fd, fd0, fo, fm, nI_1, nI_p2, nI_p4, show lyC 1 = 0 from rfl, show rcv 1 = 0 from rfl, show rcv 4 = 0 from rfl, show lyC 4 = 0 from rfl]
  · have c' : h 4 2 ≤ nI (num2 w (p + 1 + 1)) := Int32.not_lt.mp c
    rw [if_neg n0, if_pos c'] at hi
    rw [if_neg c]
    show ev mX6_isAsItMustBe 0 [.ref 0, .int (nI p)] [] h = _
    simp [eX6_isAsItMustBe_0, eX6_isAsItMustBe_1, eX6_isAsItMustBe_4, eX6_isAsItMustBe_5, eX6_isAsItMustBe_8, eX6_isAsItMustBe_100, eX6_isAsItMustBe_101, eX6_isAsItMustBe_104, eX6_isAsItMustBe_105, eX6_isAsItMustBe_106, eX6_isAsItMustBe_107, eX6_isAsItMustBe_110, eX6_isAsItMustBe_111, eX6_isAsItMustBe_113, eX6_isAsItMustBe_116, eX6_isAsItMustBe_119, eX6_isAsItMustBe_120, eX6_isAsItMustBe_123, eX6_isAsItMustBe_124, eX6_isAsItMustBe_125, eX6_isAsItMustBe_126, eX6_isAsItMustBe_129, eX6_isAsItMustBe_130, eX6_isAsItMustBe_133, eX6_isAsItMustBe_134, eX6_isAsItMustBe_135, eX6_isAsItMustBe_136, eX6_isAsItMustBe_139, eX6_isAsItMustBe_142, eX6_isAsItMustBe_143, eX6_isAsItMustBe_144, eX6_isAsItMustBe_147, eX6_isAsItMustBe_148, eX6_isAsItMustBe_149, eX6_isAsItMustBe_150, eX6_isAsItMustBe_153, eX6_isAsItMustBe_156, eX6_isAsItMustBe_159, eX6_isAsItMustBe_160, eX6_isAsItMustBe_163, eX6_isAsItMustBe_164, eX6_isAsItMustBe_165, eX6_isAsItMustBe_166, eX6_isAsItMustBe_169, eX6_isAsItMustBe_171, eX6_isAsItMustBe_173, eX6_isAsItMustBe_176, eX6_isAsItMustBe_179, eX6_isAsItMustBe_180, eX6_isAsItMustBe_183, eX6_isAsItMustBe_184, eX6_isAsItMustBe_185, eX6_isAsItMustBe_186, eX6_isAsItMustBe_189, eX6_isAsItMustBe_190, eX6_isAsItMustBe_191, eX6_isAsItMustBe_192, eX6_isAsItMustBe_195, eX6_isAsItMustBe_198, eX6_isAsItMustBe_199, eX6_isAsItMustBe_200, eX6_isAsItMustBe_203, eX6_isAsItMustBe_204, eX6_isAsItMustBe_205, eX6_isAsItMustBe_206, eX6_isAsItMustBe_209, eX6_isAsItMustBe_210, eX6_isAsItMustBe_213, eX6_isAsItMustBe_214, eX6_isAsItMustBe_217, eX6_isAsItMustBe_218, eX6_isAsItMustBe_219, eX6_isAsItMustBe_220, eX6_isAsItMustBe_223, eX6_isAsItMustBe_224, eX6_isAsItMustBe_225, eX6_isAsItMustBe_226, eX6_isAsItMustBe_229, eX6_isAsItMustBe_230, eX6_isAsItMustBe_232, eX6_isAsItMustBe_235, eX6_isAsItMustBe_238, eX6_isAsItMustBe_239, eX6_isAsItMustBe_242, eX6_isAsItMustBe_243, eX6_isAsItMustBe_244, eX6_isAsItMustBe_245, fs, fn, nI_p2, hi, show lyC 1 = 0 from rfl, show rcv 1 = 0 from rfl, show rcv 4 = 0 from rfl, show lyC 4 = 0 from rfl]
theorem end_n {d : Nat} (hd : d < 10) : (nI d = 0 ∨ nI d = 1) ↔ d ≤ 1 := by
  rw [show (0 : Int32) = nI 0 from rfl, show (1 : Int32) = nI 1 from rfl, nI_eq (by omega) (by omega), nI_eq (by omega) (by omega)]
  omega
theorem ca_e (L : LX h n w) (hc : w p = 101) (hs : (stN w n p).2 = true) : CAct h p (actN w p (hm h 4)) := by
  obtain ⟨t1, t2, t3, t4⟩ := ok_e hc hs
  have hp := (stN_ok hs).1
  have fs := f_signAt L hp
  rw [hc, show nI 101 = 101 from rfl] at fs
  have fg := f_signed L t2 t3 t4
  have fd := f_digit L t1
  have d10 := (dig_v L t1).2
  have en := end_n d10
  unfold actN
  rw [if_neg (by omega), if_neg (by omega), if_pos hc]
  by_cases c : num1 w (p + 1) ≤ 1
  · have c' := en.mpr c
    by_cases s1 : sgv w (p + 1 + 1) < -40
    · rw [if_neg (fun z => z.2.1 s1)]
      show ev mX6_isAsItMustBe 0 [.ref 0, .int (nI p)] [] h = _
      simp [eX6_isAsItMustBe_0, eX6_isAsItMustBe_1, eX6_isAsItMustBe_4, eX6_isAsItMustBe_5, eX6_isAsItMustBe_8, eX6_isAsItMustBe_100, eX6_isAsItMustBe_101, eX6_isAsItMustBe_104, eX6_isAsItMustBe_105, eX6_isAsItMustBe_106, eX6_isAsItMustBe_107, eX6_isAsItMustBe_110, eX6_isAsItMustBe_111, eX6_isAsItMustBe_113, eX6_isAsItMustBe_116, eX6_isAsItMustBe_119, eX6_isAsItMustBe_120, eX6_isAsItMustBe_123, eX6_isAsItMustBe_124, eX6_isAsItMustBe_125, eX6_isAsItMustBe_126, eX6_isAsItMustBe_129, eX6_isAsItMustBe_130, eX6_isAsItMustBe_133, eX6_isAsItMustBe_134, eX6_isAsItMustBe_135, eX6_isAsItMustBe_136, eX6_isAsItMustBe_139, eX6_isAsItMustBe_142, eX6_isAsItMustBe_143, eX6_isAsItMustBe_144, eX6_isAsItMustBe_147, eX6_isAsItMustBe_148, eX6_isAsItMustBe_149, eX6_isAsItMustBe_150, eX6_isAsItMustBe_153, eX6_isAsItMustBe_156, eX6_isAsItMustBe_159, eX6_isAsItMustBe_160, eX6_isAsItMustBe_163, eX6_isAsItMustBe_164, eX6_isAsItMustBe_165, eX6_isAsItMustBe_166, eX6_isAsItMustBe_169, eX6_isAsItMustBe_171, eX6_isAsItMustBe_173, eX6_isAsItMustBe_176, eX6_isAsItMustBe_179, eX6_isAsItMustBe_180, eX6_isAsItMustBe_183, eX6_isAsItMustBe_184, eX6_isAsItMustBe_185, eX6_isAsItMustBe_186, eX6_isAsItMustBe_189, eX6_isAsItMustBe_190, eX6_isAsItMustBe_191, eX6_isAsItMustBe_192, eX6_isAsItMustBe_195, eX6_isAsItMustBe_198, eX6_isAsItMustBe_199, eX6_isAsItMustBe_200, eX6_isAsItMustBe_203, eX6_isAsItMustBe_204, eX6_isAsItMustBe_205, eX6_isAsItMustBe_206, eX6_isAsItMustBe_209, eX6_isAsItMustBe_210, eX6_isAsItMustBe_213, eX6_isAsItMustBe_214, eX6_isAsItMustBe_217, eX6_isAsItMustBe_218, eX6_isAsItMustBe_219, eX6_isAsItMustBe_220, eX6_isAsItMustBe_223, eX6_isAsItMustBe_224, eX6_isAsItMustBe_225, eX6_isAsItMustBe_226, eX6_isAsItMustBe_229, eX6_isAsItMustBe_230, eX6_isAsItMustBe_232, eX6_isAsItMustBe_235, eX6_isAsItMustBe_238, eX6_isAsItMustBe_239, eX6_isAsItMustBe_242, eX6_isAsItMustBe_243, eX6_isAsItMustBe_244, eX6_isAsItMustBe_245, fs, fd, fg, nI_1, nI_p2, f_isEnd, c', f_outside, s1]
    · by_cases s2 : 24 < sgv w (p + 1 + 1)
      · rw [if_neg (fun z => z.2.2 s2)]
        show ev mX6_isAsItMustBe 0 [.ref 0, .int (nI p)] [] h = _
        simp [eX6_isAsItMustBe_0, eX6_isAsItMustBe_1, eX6_isAsItMustBe_4, eX6_isAsItMustBe_5, eX6_isAsItMustBe_8, eX6_isAsItMustBe_100, eX6_isAsItMustBe_101, eX6_isAsItMustBe_104, eX6_isAsItMustBe_105, eX6_isAsItMustBe_106, eX6_isAsItMustBe_107, eX6_isAsItMustBe_110, eX6_isAsItMustBe_111, eX6_isAsItMustBe_113, eX6_isAsItMustBe_116, eX6_isAsItMustBe_119, eX6_isAsItMustBe_120, eX6_isAsItMustBe_123, eX6_isAsItMustBe_124, eX6_isAsItMustBe_125, eX6_isAsItMustBe_126, eX6_isAsItMustBe_129, eX6_isAsItMustBe_130, eX6_isAsItMustBe_133, eX6_isAsItMustBe_134, eX6_isAsItMustBe_135, eX6_isAsItMustBe_136, eX6_isAsItMustBe_139, eX6_isAsItMustBe_142, eX6_isAsItMustBe_143, eX6_isAsItMustBe_144, eX6_isAsItMustBe_147, eX6_isAsItMustBe_148, eX6_isAsItMustBe_149, eX6_isAsItMustBe_150, eX6_isAsItMustBe_153, eX6_isAsItMustBe_156, eX6_isAsItMustBe_159, eX6_isAsItMustBe_160, eX6_isAsItMustBe_163, eX6_isAsItMustBe_164, eX6_isAsItMustBe_165, eX6_isAsItMustBe_166, eX6_isAsItMustBe_169, eX6_isAsItMustBe_171, eX6_isAsItMustBe_173, eX6_isAsItMustBe_176, eX6_isAsItMustBe_179, eX6_isAsItMustBe_180, eX6_isAsItMustBe_183, eX6_isAsItMustBe_184, eX6_isAsItMustBe_185, eX6_isAsItMustBe_186, eX6_isAsItMustBe_189, eX6_isAsItMustBe_190, eX6_isAsItMustBe_191, eX6_isAsItMustBe_192, eX6_isAsItMustBe_195, eX6_isAsItMustBe_198, eX6_isAsItMustBe_199, eX6_isAsItMustBe_200, eX6_isAsItMustBe_203, eX6_isAsItMustBe_204, eX6_isAsItMustBe_205, eX6_isAsItMustBe_206, eX6_isAsItMustBe_209, eX6_isAsItMustBe_210, eX6_isAsItMustBe_213, eX6_isAsItMustBe_214, eX6_isAsItMustBe_217, eX6_isAsItMustBe_218, eX6_isAsItMustBe_219, eX6_isAsItMustBe_220, eX6_isAsItMustBe_223, eX6_isAsItMustBe_224, eX6_isAsItMustBe_225, eX6_isAsItMustBe_226, eX6_isAsItMustBe_229, eX6_isAsItMustBe_230, eX6_isAsItMustBe_232, eX6_isAsItMustBe_235, eX6_isAsItMustBe_238, eX6_isAsItMustBe_239, eX6_isAsItMustBe_242, eX6_isAsItMustBe_243, eX6_isAsItMustBe_244, eX6_isAsItMustBe_245, fs, fd, fg, nI_1, nI_p2, f_isEnd, c', f_outside, s1, s2]
      · rw [if_pos ⟨c, s1, s2⟩]
        have d01 : num1 w (p + 1) = 0 ∨ num1 w (p + 1) = 1 := by omega
        refine ⟨by simp [eX6_isAsItMustBe_0, eX6_isAsItMustBe_1, eX6_isAsItMustBe_4, eX6_isAsItMustBe_5, eX6_isAsItMustBe_8, eX6_isAsItMustBe_100, eX6_isAsItMustBe_101, eX6_isAsItMustBe_104, eX6_isAsItMustBe_105, eX6_isAsItMustBe_106, eX6_isAsItMustBe_107, eX6_isAsItMustBe_110, eX6_isAsItMustBe_111, eX6_isAsItMustBe_113, eX6_isAsItMustBe_116, eX6_isAsItMustBe_119, eX6_isAsItMustBe_120, eX6_isAsItMustBe_123, eX6_isAsItMustBe_124, eX6_isAsItMustBe_125, eX6_isAsItMustBe_126, eX6_isAsItMustBe_129, eX6_isAsItMustBe_130, eX6_isAsItMustBe_133, eX6_isAsItMustBe_134, eX6_isAsItMustBe_135, eX6_isAsItMustBe_136, eX6_isAsItMustBe_139, eX6_isAsItMustBe_142, eX6_isAsItMustBe_143, eX6_isAsItMustBe_144, eX6_isAsItMustBe_147, eX6_isAsItMustBe_148, eX6_isAsItMustBe_149, eX6_isAsItMustBe_150, eX6_isAsItMustBe_153, eX6_isAsItMustBe_156, eX6_isAsItMustBe_159, eX6_isAsItMustBe_160, eX6_isAsItMustBe_163, eX6_isAsItMustBe_164, eX6_isAsItMustBe_165, eX6_isAsItMustBe_166, eX6_isAsItMustBe_169, eX6_isAsItMustBe_171, eX6_isAsItMustBe_173, eX6_isAsItMustBe_176, eX6_isAsItMustBe_179, eX6_isAsItMustBe_180, eX6_isAsItMustBe_183, eX6_isAsItMustBe_184, eX6_isAsItMustBe_185, eX6_isAsItMustBe_186, eX6_isAsItMustBe_189, eX6_isAsItMustBe_190, eX6_isAsItMustBe_191, eX6_isAsItMustBe_192, eX6_isAsItMustBe_195, eX6_isAsItMustBe_198, eX6_isAsItMustBe_199, eX6_isAsItMustBe_200, eX6_isAsItMustBe_203, eX6_isAsItMustBe_204, eX6_isAsItMustBe_205, eX6_isAsItMustBe_206, eX6_isAsItMustBe_209, eX6_isAsItMustBe_210, eX6_isAsItMustBe_213, eX6_isAsItMustBe_214, eX6_isAsItMustBe_217, eX6_isAsItMustBe_218, eX6_isAsItMustBe_219, eX6_isAsItMustBe_220, eX6_isAsItMustBe_223, eX6_isAsItMustBe_224, eX6_isAsItMustBe_225, eX6_isAsItMustBe_226, eX6_isAsItMustBe_229, eX6_isAsItMustBe_230, eX6_isAsItMustBe_232, eX6_isAsItMustBe_235, eX6_isAsItMustBe_238, eX6_isAsItMustBe_239, eX6_isAsItMustBe_242, eX6_isAsItMustBe_243, eX6_isAsItMustBe_244, eX6_isAsItMustBe_245, fs, fd, fg, nI_1, nI_p2, f_isEnd, c', f_outside, s1, s2], ?_⟩
        rcases d01 with z | z
        · rw [z, nI_0] at fd
          refine ⟨st h 4 3 (sgv w (p + 1 + 1)), by simp [eX6_comes_0, eX6_comes_1, eX6_comes_4, eX6_comes_5, eX6_comes_6, eX6_comes_7, eX6_comes_10, eX6_comes_11, eX6_comes_12, eX6_comes_15, eX6_comes_16, eX6_comes_19, eX6_comes_92, eX6_comes_93, eX6_comes_96, eX6_comes_97, eX6_comes_100, eX6_comes_101, eX6_comes_102, eX6_comes_103, eX6_comes_106, eX6_comes_109, eX6_comes_112, eX6_comes_113, eX6_comes_116, eX6_comes_117, eX6_comes_120, eX6_comes_121, eX6_comes_122, eX6_comes_123, eX6_comes_126, eX6_comes_127, eX6_comes_130, eX6_comes_131, eX6_comes_132, eX6_comes_133, eX6_comes_136, eX6_comes_139, eX6_comes_140, eX6_comes_143, eX6_comes_144, eX6_comes_145, eX6_comes_146, eX6_comes_149, eX6_comes_152, eX6_comes_155, eX6_comes_156, eX6_comes_159, eX6_comes_160, eX6_comes_161, eX6_comes_164, eX6_comes_165, eX6_comes_166, eX6_comes_167, eX6_comes_170, eX6_comes_173, eX6_comes_176, eX6_comes_177, eX6_comes_180, eX6_comes_181, eX6_comes_182, eX6_comes_185, eX6_comes_186, eX6_comes_189, eX6_comes_192, eX6_comes_193, eX6_comes_196, eX6_comes_197, eX6_comes_200, eX6_comes_203, eX6_comes_204, eX6_comes_207, eX6_comes_208, eX6_comes_211, eX6_comes_214, eX6_comes_217, eX6_comes_218, eX6_comes_221, eX6_comes_222, eX6_comes_225, eX6_comes_228, eX6_comes_229, eX6_comes_232, eX6_comes_233, eX6_comes_236, eX6_comes_237, eX6_comes_240, eX6_comes_241, eX6_comes_244, eX6_comes_245, eX6_comes_246, eX6_comes_247, eX6_comes_250, eX6_comes_253, eX6_comes_256, eX6_comes_257, eX6_comes_260, eX6_comes_261, eX6_comes_264, eX6_comes_265, eX6_comes_266, eX6_comes_267, eX6_comes_270, eX6_comes_273, fs, fd, fg, nI_1, nI_p2, f_place HC4, show lyC 1 = 0 from rfl, show rcv 1 = 0 from rfl, show rcv 4 = 0 from rfl, show lyC 4 = 0 from rfl], ?_, fun a z1 z2 z3 => st_cell z1⟩
          rw [z]
          exact hm_st (c := 4) (j := 1) (by omega)
        · rw [z, show nI 1 = 1 from rfl] at fd
          refine ⟨st h 4 4 (sgv w (p + 1 + 1)), by simp [eX6_comes_0, eX6_comes_1, eX6_comes_4, eX6_comes_5, eX6_comes_6, eX6_comes_7, eX6_comes_10, eX6_comes_11, eX6_comes_12, eX6_comes_15, eX6_comes_16, eX6_comes_19, eX6_comes_92, eX6_comes_93, eX6_comes_96, eX6_comes_97, eX6_comes_100, eX6_comes_101, eX6_comes_102, eX6_comes_103, eX6_comes_106, eX6_comes_109, eX6_comes_112, eX6_comes_113, eX6_comes_116, eX6_comes_117, eX6_comes_120, eX6_comes_121, eX6_comes_122, eX6_comes_123, eX6_comes_126, eX6_comes_127, eX6_comes_130, eX6_comes_131, eX6_comes_132, eX6_comes_133, eX6_comes_136, eX6_comes_139, eX6_comes_140, eX6_comes_143, eX6_comes_144, eX6_comes_145, eX6_comes_146, eX6_comes_149, eX6_comes_152, eX6_comes_155, eX6_comes_156, eX6_comes_159, eX6_comes_160, eX6_comes_161, eX6_comes_164, eX6_comes_165, eX6_comes_166, eX6_comes_167, eX6_comes_170, eX6_comes_173, eX6_comes_176, eX6_comes_177, eX6_comes_180, eX6_comes_181, eX6_comes_182, eX6_comes_185, eX6_comes_186, eX6_comes_189, eX6_comes_192, eX6_comes_193, eX6_comes_196, eX6_comes_197, eX6_comes_200, eX6_comes_203, eX6_comes_204, eX6_comes_207, eX6_comes_208, eX6_comes_211, eX6_comes_214, eX6_comes_217, eX6_comes_218, eX6_comes_221, eX6_comes_222, eX6_comes_225, eX6_comes_228, eX6_comes_229, eX6_comes_232, eX6_comes_233, eX6_comes_236, eX6_comes_237, eX6_comes_240, eX6_comes_241, eX6_comes_244, eX6_comes_245, eX6_comes_246, eX6_comes_247, eX6_comes_250, eX6_comes_253, eX6_comes_256, eX6_comes_257, eX6_comes_260, eX6_comes_261, eX6_comes_264, eX6_comes_265, eX6_comes_266, eX6_comes_267, eX6_comes_270, eX6_comes_273, fs, fd, fg, nI_1, nI_p2, f_place HC4, show lyC 1 = 0 from rfl, show rcv 1 = 0 from rfl, show rcv 4 = 0 from rfl, show lyC 4 = 0 from rfl], ?_, fun a z1 z2 z3 => st_cell z1⟩
          rw [z]
          exact hm_st (c := 4) (j := 2) (by omega)
  · have c' : ¬ (nI (num1 w (p + 1)) = 0 ∨ nI (num1 w (p + 1)) = 1) := fun z => c (en.mp z)
    rw [if_neg (fun z => c z.1)]
    show ev mX6_isAsItMustBe 0 [.ref 0, .int (nI p)] [] h = _
    simp [eX6_isAsItMustBe_0, eX6_isAsItMustBe_1, eX6_isAsItMustBe_4, eX6_isAsItMustBe_5, eX6_isAsItMustBe_8, eX6_isAsItMustBe_100, eX6_isAsItMustBe_101, eX6_isAsItMustBe_104, eX6_isAsItMustBe_105, eX6_isAsItMustBe_106, eX6_isAsItMustBe_107, eX6_isAsItMustBe_110, eX6_isAsItMustBe_111, eX6_isAsItMustBe_113, eX6_isAsItMustBe_116, eX6_isAsItMustBe_119, eX6_isAsItMustBe_120, eX6_isAsItMustBe_123, eX6_isAsItMustBe_124, eX6_isAsItMustBe_125, eX6_isAsItMustBe_126, eX6_isAsItMustBe_129, eX6_isAsItMustBe_130, eX6_isAsItMustBe_133, eX6_isAsItMustBe_134, eX6_isAsItMustBe_135, eX6_isAsItMustBe_136, eX6_isAsItMustBe_139, eX6_isAsItMustBe_142, eX6_isAsItMustBe_143, eX6_isAsItMustBe_144, eX6_isAsItMustBe_147, eX6_isAsItMustBe_148, eX6_isAsItMustBe_149, eX6_isAsItMustBe_150, eX6_isAsItMustBe_153, eX6_isAsItMustBe_156, eX6_isAsItMustBe_159, eX6_isAsItMustBe_160, eX6_isAsItMustBe_163, eX6_isAsItMustBe_164, eX6_isAsItMustBe_165, eX6_isAsItMustBe_166, eX6_isAsItMustBe_169, eX6_isAsItMustBe_171, eX6_isAsItMustBe_173, eX6_isAsItMustBe_176, eX6_isAsItMustBe_179, eX6_isAsItMustBe_180, eX6_isAsItMustBe_183, eX6_isAsItMustBe_184, eX6_isAsItMustBe_185, eX6_isAsItMustBe_186, eX6_isAsItMustBe_189, eX6_isAsItMustBe_190, eX6_isAsItMustBe_191, eX6_isAsItMustBe_192, eX6_isAsItMustBe_195, eX6_isAsItMustBe_198, eX6_isAsItMustBe_199, eX6_isAsItMustBe_200, eX6_isAsItMustBe_203, eX6_isAsItMustBe_204, eX6_isAsItMustBe_205, eX6_isAsItMustBe_206, eX6_isAsItMustBe_209, eX6_isAsItMustBe_210, eX6_isAsItMustBe_213, eX6_isAsItMustBe_214, eX6_isAsItMustBe_217, eX6_isAsItMustBe_218, eX6_isAsItMustBe_219, eX6_isAsItMustBe_220, eX6_isAsItMustBe_223, eX6_isAsItMustBe_224, eX6_isAsItMustBe_225, eX6_isAsItMustBe_226, eX6_isAsItMustBe_229, eX6_isAsItMustBe_230, eX6_isAsItMustBe_232, eX6_isAsItMustBe_235, eX6_isAsItMustBe_238, eX6_isAsItMustBe_239, eX6_isAsItMustBe_242, eX6_isAsItMustBe_243, eX6_isAsItMustBe_244, eX6_isAsItMustBe_245, fs, fd, nI_1, f_isEnd, c']
theorem ca_k (L : LX h n w) (ok : Ok (hm h 4)) (hc : w p = 107) (hs : (stN w n p).2 = true) : CAct h p (actN w p (hm h 4)) := by
  obtain ⟨t1, t2⟩ := ok_kk hc hs
  have hp := (stN_ok hs).1
  have fs := f_signAt L hp
  rw [hc, show nI 107 = 107 from rfl] at fs
  have fd := f_digit L t1
  have d10 := (dig_v L t1).2
  have en := end_n d10
  have o := id ok
  obtain ⟨-, -, -, o3, o4, -⟩ := o
  have o3 : h 4 5 = 0 ∨ h 4 5 = 1 := o3
  have o4 : h 4 6 = 0 ∨ h 4 6 = 1 := o4
  unfold actN
  rw [if_neg (by omega), if_neg (by omega), if_neg (by omega), if_pos hc]
  by_cases c : num1 w (p + 1) ≤ 1
  · have c' := en.mpr c
    rw [if_pos c]
    refine ⟨by simp [eX6_isAsItMustBe_0, eX6_isAsItMustBe_1, eX6_isAsItMustBe_4, eX6_isAsItMustBe_5, eX6_isAsItMustBe_8, eX6_isAsItMustBe_100, eX6_isAsItMustBe_101, eX6_isAsItMustBe_104, eX6_isAsItMustBe_105, eX6_isAsItMustBe_106, eX6_isAsItMustBe_107, eX6_isAsItMustBe_110, eX6_isAsItMustBe_111, eX6_isAsItMustBe_113, eX6_isAsItMustBe_116, eX6_isAsItMustBe_119, eX6_isAsItMustBe_120, eX6_isAsItMustBe_123, eX6_isAsItMustBe_124, eX6_isAsItMustBe_125, eX6_isAsItMustBe_126, eX6_isAsItMustBe_129, eX6_isAsItMustBe_130, eX6_isAsItMustBe_133, eX6_isAsItMustBe_134, eX6_isAsItMustBe_135, eX6_isAsItMustBe_136, eX6_isAsItMustBe_139, eX6_isAsItMustBe_142, eX6_isAsItMustBe_143, eX6_isAsItMustBe_144, eX6_isAsItMustBe_147, eX6_isAsItMustBe_148, eX6_isAsItMustBe_149, eX6_isAsItMustBe_150, eX6_isAsItMustBe_153, eX6_isAsItMustBe_156, eX6_isAsItMustBe_159, eX6_isAsItMustBe_160, eX6_isAsItMustBe_163, eX6_isAsItMustBe_164, eX6_isAsItMustBe_165, eX6_isAsItMustBe_166, eX6_isAsItMustBe_169, eX6_isAsItMustBe_171, eX6_isAsItMustBe_173, eX6_isAsItMustBe_176, eX6_isAsItMustBe_179, eX6_isAsItMustBe_180, eX6_isAsItMustBe_183, eX6_isAsItMustBe_184, eX6_isAsItMustBe_185, eX6_isAsItMustBe_186, eX6_isAsItMustBe_189, eX6_isAsItMustBe_190, eX6_isAsItMustBe_191, eX6_isAsItMustBe_192, eX6_isAsItMustBe_195, eX6_isAsItMustBe_198, eX6_isAsItMustBe_199, eX6_isAsItMustBe_200, eX6_isAsItMustBe_203, eX6_isAsItMustBe_204, eX6_isAsItMustBe_205, eX6_isAsItMustBe_206, eX6_isAsItMustBe_209, eX6_isAsItMustBe_210, eX6_isAsItMustBe_213, eX6_isAsItMustBe_214, eX6_isAsItMustBe_217, eX6_isAsItMustBe_218, eX6_isAsItMustBe_219, eX6_isAsItMustBe_220, eX6_isAsItMustBe_223, eX6_isAsItMustBe_224, eX6_isAsItMustBe_225, eX6_isAsItMustBe_226, eX6_isAsItMustBe_229, eX6_isAsItMustBe_230, eX6_isAsItMustBe_232, eX6_isAsItMustBe_235, eX6_isAsItMustBe_238, eX6_isAsItMustBe_239, eX6_isAsItMustBe_242, eX6_isAsItMustBe_243, eX6_isAsItMustBe_244, eX6_isAsItMustBe_245, fs, fd, nI_1, f_isEnd, c'], ?_⟩
    have d01 : num1 w (p + 1) = 0 ∨ num1 w (p + 1) = 1 := by omega
    rcases d01 with z | z
    · rw [z, nI_0] at fd
      have fk := f_isKnotted (h := h) (e := 0) HC4 o3 o4
      rw [if_pos rfl] at fk
      have ba := x01 o3
      have kn := f_knot (h := h) (e := 0) HC4 ba.1
      rw [if_pos rfl] at kn
      refine ⟨st h 4 5 (h 4 5 ^^^ 1), ?_, ?_, fun a z1 z2 z3 => st_cell z1⟩
      · rcases o3 with y | y
        · have y1 : (0 : Int32) ^^^ 1 = 1 := by decide
          rw [y, y1] at kn ⊢
          rw [y] at fk
          simp [eX6_comes_0, eX6_comes_1, eX6_comes_4, eX6_comes_5, eX6_comes_6, eX6_comes_7, eX6_comes_10, eX6_comes_11, eX6_comes_12, eX6_comes_15, eX6_comes_16, eX6_comes_19, eX6_comes_92, eX6_comes_93, eX6_comes_96, eX6_comes_97, eX6_comes_100, eX6_comes_101, eX6_comes_102, eX6_comes_103, eX6_comes_106, eX6_comes_109, eX6_comes_112, eX6_comes_113, eX6_comes_116, eX6_comes_117, eX6_comes_120, eX6_comes_121, eX6_comes_122, eX6_comes_123, eX6_comes_126, eX6_comes_127, eX6_comes_130, eX6_comes_131, eX6_comes_132, eX6_comes_133, eX6_comes_136, eX6_comes_139, eX6_comes_140, eX6_comes_143, eX6_comes_144, eX6_comes_145, eX6_comes_146, eX6_comes_149, eX6_comes_152, eX6_comes_155, eX6_comes_156, eX6_comes_159, eX6_comes_160, eX6_comes_161, eX6_comes_164, eX6_comes_165, eX6_comes_166, eX6_comes_167, eX6_comes_170, eX6_comes_173, eX6_comes_176, eX6_comes_177, eX6_comes_180, eX6_comes_181, eX6_comes_182, eX6_comes_185, eX6_comes_186, eX6_comes_189, eX6_comes_192, eX6_comes_193, eX6_comes_196, eX6_comes_197, eX6_comes_200, eX6_comes_203, eX6_comes_204, eX6_comes_207, eX6_comes_208, eX6_comes_211, eX6_comes_214, eX6_comes_217, eX6_comes_218, eX6_comes_221, eX6_comes_222, eX6_comes_225, eX6_comes_228, eX6_comes_229, eX6_comes_232, eX6_comes_233, eX6_comes_236, eX6_comes_237, eX6_comes_240, eX6_comes_241, eX6_comes_244, eX6_comes_245, eX6_comes_246, eX6_comes_247, eX6_comes_250, eX6_comes_253, eX6_comes_256, eX6_comes_257, eX6_comes_260, eX6_comes_261, eX6_comes_264, eX6_comes_265, eX6_comes_266, eX6_comes_267, eX6_comes_270, eX6_comes_273, fs, fd, nI_1, fk, kn, show lyC 1 = 0 from rfl, show rcv 1 = 0 from rfl, show rcv 4 = 0 from rfl, show lyC 4 = 0 from rfl]
        · have y1 : (1 : Int32) ^^^ 1 = 0 := by decide
          rw [y, y1] at kn ⊢
          rw [y] at fk
          simp [eX6_comes_0, eX6_comes_1, eX6_comes_4, eX6_comes_5, eX6_comes_6, eX6_comes_7, eX6_comes_10, eX6_comes_11, eX6_comes_12, eX6_comes_15, eX6_comes_16, eX6_comes_19, eX6_comes_92, eX6_comes_93, eX6_comes_96, eX6_comes_97, eX6_comes_100, eX6_comes_101, eX6_comes_102, eX6_comes_103, eX6_comes_106, eX6_comes_109, eX6_comes_112, eX6_comes_113, eX6_comes_116, eX6_comes_117, eX6_comes_120, eX6_comes_121, eX6_comes_122, eX6_comes_123, eX6_comes_126, eX6_comes_127, eX6_comes_130, eX6_comes_131, eX6_comes_132, eX6_comes_133, eX6_comes_136, eX6_comes_139, eX6_comes_140, eX6_comes_143, eX6_comes_144, eX6_comes_145, eX6_comes_146, eX6_comes_149, eX6_comes_152, eX6_comes_155, eX6_comes_156, eX6_comes_159, eX6_comes_160, eX6_comes_161, eX6_comes_164, eX6_comes_165, eX6_comes_166, eX6_comes_167, eX6_comes_170, eX6_comes_173, eX6_comes_176, eX6_comes_177, eX6_comes_180, eX6_comes_181, eX6_comes_182, eX6_comes_185, eX6_comes_186, eX6_comes_189, eX6_comes_192, eX6_comes_193, eX6_comes_196, eX6_comes_197, eX6_comes_200, eX6_comes_203, eX6_comes_204, eX6_comes_207, eX6_comes_208, eX6_comes_211, eX6_comes_214, eX6_comes_217, eX6_comes_218, eX6_comes_221, eX6_comes_222, eX6_comes_225, eX6_comes_228, eX6_comes_229, eX6_comes_232, eX6_comes_233, eX6_comes_236, eX6_comes_237, eX6_comes_240, eX6_comes_241, eX6_comes_244, eX6_comes_245, eX6_comes_246, eX6_comes_247, eX6_comes_250, eX6_comes_253, eX6_comes_256, eX6_comes_257, eX6_comes_260, eX6_comes_261, eX6_comes_264, eX6_comes_265, eX6_comes_266, eX6_comes_267, eX6_comes_270, eX6_comes_273, fs, fd, nI_1, fk, kn, show lyC 1 = 0 from rfl, show rcv 1 = 0 from rfl, show rcv 4 = 0 from rfl, show lyC 4 = 0 from rfl]
      · rw [z]
        exact hm_st (c := 4) (j := 3) (by omega)
    · rw [z, show nI 1 = 1 from rfl] at fd
      have fk := f_isKnotted (h := h) (e := 1) HC4 o3 o4
      rw [if_neg (by decide)] at fk
      have ba := x01 o4
      have kn := f_knot (h := h) (e := 1) HC4 ba.1
      rw [if_neg (by decide)] at kn
      refine ⟨st h 4 6 (h 4 6 ^^^ 1), ?_, ?_, fun a z1 z2 z3 => st_cell z1⟩
      · rcases o4 with y | y
        · have y1 : (0 : Int32) ^^^ 1 = 1 := by decide
          rw [y, y1] at kn ⊢
          rw [y] at fk
          simp [eX6_comes_0, eX6_comes_1, eX6_comes_4, eX6_comes_5, eX6_comes_6, eX6_comes_7, eX6_comes_10, eX6_comes_11, eX6_comes_12, eX6_comes_15, eX6_comes_16, eX6_comes_19, eX6_comes_92, eX6_comes_93, eX6_comes_96, eX6_comes_97, eX6_comes_100, eX6_comes_101, eX6_comes_102, eX6_comes_103, eX6_comes_106, eX6_comes_109, eX6_comes_112, eX6_comes_113, eX6_comes_116, eX6_comes_117, eX6_comes_120, eX6_comes_121, eX6_comes_122, eX6_comes_123, eX6_comes_126, eX6_comes_127, eX6_comes_130, eX6_comes_131, eX6_comes_132, eX6_comes_133, eX6_comes_136, eX6_comes_139, eX6_comes_140, eX6_comes_143, eX6_comes_144, eX6_comes_145, eX6_comes_146, eX6_comes_149, eX6_comes_152, eX6_comes_155, eX6_comes_156, eX6_comes_159, eX6_comes_160, eX6_comes_161, eX6_comes_164, eX6_comes_165, eX6_comes_166, eX6_comes_167, eX6_comes_170, eX6_comes_173, eX6_comes_176, eX6_comes_177, eX6_comes_180, eX6_comes_181, eX6_comes_182, eX6_comes_185, eX6_comes_186, eX6_comes_189, eX6_comes_192, eX6_comes_193, eX6_comes_196, eX6_comes_197, eX6_comes_200, eX6_comes_203, eX6_comes_204, eX6_comes_207, eX6_comes_208, eX6_comes_211, eX6_comes_214, eX6_comes_217, eX6_comes_218, eX6_comes_221, eX6_comes_222, eX6_comes_225, eX6_comes_228, eX6_comes_229, eX6_comes_232, eX6_comes_233, eX6_comes_236, eX6_comes_237, eX6_comes_240, eX6_comes_241, eX6_comes_244, eX6_comes_245, eX6_comes_246, eX6_comes_247, eX6_comes_250, eX6_comes_253, eX6_comes_256, eX6_comes_257, eX6_comes_260, eX6_comes_261, eX6_comes_264, eX6_comes_265, eX6_comes_266, eX6_comes_267, eX6_comes_270, eX6_comes_273, fs, fd, nI_1, fk, kn, show lyC 1 = 0 from rfl, show rcv 1 = 0 from rfl, show rcv 4 = 0 from rfl, show lyC 4 = 0 from rfl]
        · have y1 : (1 : Int32) ^^^ 1 = 0 := by decide
          rw [y, y1] at kn ⊢
          rw [y] at fk
          simp [eX6_comes_0, eX6_comes_1, eX6_comes_4, eX6_comes_5, eX6_comes_6, eX6_comes_7, eX6_comes_10, eX6_comes_11, eX6_comes_12, eX6_comes_15, eX6_comes_16, eX6_comes_19, eX6_comes_92, eX6_comes_93, eX6_comes_96, eX6_comes_97, eX6_comes_100, eX6_comes_101, eX6_comes_102, eX6_comes_103, eX6_comes_106, eX6_comes_109, eX6_comes_112, eX6_comes_113, eX6_comes_116, eX6_comes_117, eX6_comes_120, eX6_comes_121, eX6_comes_122, eX6_comes_123, eX6_comes_126, eX6_comes_127, eX6_comes_130, eX6_comes_131, eX6_comes_132, eX6_comes_133, eX6_comes_136, eX6_comes_139, eX6_comes_140, eX6_comes_143, eX6_comes_144, eX6_comes_145, eX6_comes_146, eX6_comes_149, eX6_comes_152, eX6_comes_155, eX6_comes_156, eX6_comes_159, eX6_comes_160, eX6_comes_161, eX6_comes_164, eX6_comes_165, eX6_comes_166, eX6_comes_167, eX6_comes_170, eX6_comes_173, eX6_comes_176, eX6_comes_177, eX6_comes_180, eX6_comes_181, eX6_comes_182, eX6_comes_185, eX6_comes_186, eX6_comes_189, eX6_comes_192, eX6_comes_193, eX6_comes_196, eX6_comes_197, eX6_comes_200, eX6_comes_203, eX6_comes_204, eX6_comes_207, eX6_comes_208, eX6_comes_211, eX6_comes_214, eX6_comes_217, eX6_comes_218, eX6_comes_221, eX6_comes_222, eX6_comes_225, eX6_comes_228, eX6_comes_229, eX6_comes_232, eX6_comes_233, eX6_comes_236, eX6_comes_237, eX6_comes_240, eX6_comes_241, eX6_comes_244, eX6_comes_245, eX6_comes_246, eX6_comes_247, eX6_comes_250, eX6_comes_253, eX6_comes_256, eX6_comes_257, eX6_comes_260, eX6_comes_261, eX6_comes_264, eX6_comes_265, eX6_comes_266, eX6_comes_267, eX6_comes_270, eX6_comes_273, fs, fd, nI_1, fk, kn, show lyC 1 = 0 from rfl, show rcv 1 = 0 from rfl, show rcv 4 = 0 from rfl, show lyC 4 = 0 from rfl]
      · rw [z]
        exact hm_st (c := 4) (j := 4) (by omega)
  · have c' : ¬ (nI (num1 w (p + 1)) = 0 ∨ nI (num1 w (p + 1)) = 1) := fun z => c (en.mp z)
    rw [if_neg c]
    show ev mX6_isAsItMustBe 0 [.ref 0, .int (nI p)] [] h = _
    simp [eX6_isAsItMustBe_0, eX6_isAsItMustBe_1, eX6_isAsItMustBe_4, eX6_isAsItMustBe_5, eX6_isAsItMustBe_8, eX6_isAsItMustBe_100, eX6_isAsItMustBe_101, eX6_isAsItMustBe_104, eX6_isAsItMustBe_105, eX6_isAsItMustBe_106, eX6_isAsItMustBe_107, eX6_isAsItMustBe_110, eX6_isAsItMustBe_111, eX6_isAsItMustBe_113, eX6_isAsItMustBe_116, eX6_isAsItMustBe_119, eX6_isAsItMustBe_120, eX6_isAsItMustBe_123, eX6_isAsItMustBe_124, eX6_isAsItMustBe_125, eX6_isAsItMustBe_126, eX6_isAsItMustBe_129, eX6_isAsItMustBe_130, eX6_isAsItMustBe_133, eX6_isAsItMustBe_134, eX6_isAsItMustBe_135, eX6_isAsItMustBe_136, eX6_isAsItMustBe_139, eX6_isAsItMustBe_142, eX6_isAsItMustBe_143, eX6_isAsItMustBe_144, eX6_isAsItMustBe_147, eX6_isAsItMustBe_148, eX6_isAsItMustBe_149, eX6_isAsItMustBe_150, eX6_isAsItMustBe_153, eX6_isAsItMustBe_156, eX6_isAsItMustBe_159, eX6_isAsItMustBe_160, eX6_isAsItMustBe_163, eX6_isAsItMustBe_164, eX6_isAsItMustBe_165, eX6_isAsItMustBe_166, eX6_isAsItMustBe_169, eX6_isAsItMustBe_171, eX6_isAsItMustBe_173, eX6_isAsItMustBe_176, eX6_isAsItMustBe_179, eX6_isAsItMustBe_180, eX6_isAsItMustBe_183, eX6_isAsItMustBe_184, eX6_isAsItMustBe_185, eX6_isAsItMustBe_186, eX6_isAsItMustBe_189, eX6_isAsItMustBe_190, eX6_isAsItMustBe_191, eX6_isAsItMustBe_192, eX6_isAsItMustBe_195, eX6_isAsItMustBe_198, eX6_isAsItMustBe_199, eX6_isAsItMustBe_200, eX6_isAsItMustBe_203, eX6_isAsItMustBe_204, eX6_isAsItMustBe_205, eX6_isAsItMustBe_206, eX6_isAsItMustBe_209, eX6_isAsItMustBe_210, eX6_isAsItMustBe_213, eX6_isAsItMustBe_214, eX6_isAsItMustBe_217, eX6_isAsItMustBe_218, eX6_isAsItMustBe_219, eX6_isAsItMustBe_220, eX6_isAsItMustBe_223, eX6_isAsItMustBe_224, eX6_isAsItMustBe_225, eX6_isAsItMustBe_226, eX6_isAsItMustBe_229, eX6_isAsItMustBe_230, eX6_isAsItMustBe_232, eX6_isAsItMustBe_235, eX6_isAsItMustBe_238, eX6_isAsItMustBe_239, eX6_isAsItMustBe_242, eX6_isAsItMustBe_243, eX6_isAsItMustBe_244, eX6_isAsItMustBe_245, fs, fd, nI_1, f_isEnd, c']
theorem ca_s (L : LX h n w) (ok : Ok (hm h 4)) (hc : w p = 115) (hs : (stN w n p).2 = true) : CAct h p (actN w p (hm h 4)) := by
  have t1 := ok_s hc hs
  have hp := (stN_ok hs).1
  have fs := f_signAt L hp
  rw [hc, show nI 115 = 115 from rfl] at fs
  have fd := f_digit0 L t1.1
  have o := id ok
  obtain ⟨-, -, -, -, -, o5, -⟩ := o
  have o5 : h 4 7 = 0 ∨ h 4 7 = 1 := o5
  unfold actN
  rw [if_neg (by omega), if_neg (by omega), if_neg (by omega), if_neg (by omega), if_pos hc]
  refine ⟨by simp [eX6_isAsItMustBe_0, eX6_isAsItMustBe_1, eX6_isAsItMustBe_4, eX6_isAsItMustBe_5, eX6_isAsItMustBe_8, eX6_isAsItMustBe_100, eX6_isAsItMustBe_101, eX6_isAsItMustBe_104, eX6_isAsItMustBe_105, eX6_isAsItMustBe_106, eX6_isAsItMustBe_107, eX6_isAsItMustBe_110, eX6_isAsItMustBe_111, eX6_isAsItMustBe_113, eX6_isAsItMustBe_116, eX6_isAsItMustBe_119, eX6_isAsItMustBe_120, eX6_isAsItMustBe_123, eX6_isAsItMustBe_124, eX6_isAsItMustBe_125, eX6_isAsItMustBe_126, eX6_isAsItMustBe_129, eX6_isAsItMustBe_130, eX6_isAsItMustBe_133, eX6_isAsItMustBe_134, eX6_isAsItMustBe_135, eX6_isAsItMustBe_136, eX6_isAsItMustBe_139, eX6_isAsItMustBe_142, eX6_isAsItMustBe_143, eX6_isAsItMustBe_144, eX6_isAsItMustBe_147, eX6_isAsItMustBe_148, eX6_isAsItMustBe_149, eX6_isAsItMustBe_150, eX6_isAsItMustBe_153, eX6_isAsItMustBe_156, eX6_isAsItMustBe_159, eX6_isAsItMustBe_160, eX6_isAsItMustBe_163, eX6_isAsItMustBe_164, eX6_isAsItMustBe_165, eX6_isAsItMustBe_166, eX6_isAsItMustBe_169, eX6_isAsItMustBe_171, eX6_isAsItMustBe_173, eX6_isAsItMustBe_176, eX6_isAsItMustBe_179, eX6_isAsItMustBe_180, eX6_isAsItMustBe_183, eX6_isAsItMustBe_184, eX6_isAsItMustBe_185, eX6_isAsItMustBe_186, eX6_isAsItMustBe_189, eX6_isAsItMustBe_190, eX6_isAsItMustBe_191, eX6_isAsItMustBe_192, eX6_isAsItMustBe_195, eX6_isAsItMustBe_198, eX6_isAsItMustBe_199, eX6_isAsItMustBe_200, eX6_isAsItMustBe_203, eX6_isAsItMustBe_204, eX6_isAsItMustBe_205, eX6_isAsItMustBe_206, eX6_isAsItMustBe_209, eX6_isAsItMustBe_210, eX6_isAsItMustBe_213, eX6_isAsItMustBe_214, eX6_isAsItMustBe_217, eX6_isAsItMustBe_218, eX6_isAsItMustBe_219, eX6_isAsItMustBe_220, eX6_isAsItMustBe_223, eX6_isAsItMustBe_224, eX6_isAsItMustBe_225, eX6_isAsItMustBe_226, eX6_isAsItMustBe_229, eX6_isAsItMustBe_230, eX6_isAsItMustBe_232, eX6_isAsItMustBe_235, eX6_isAsItMustBe_238, eX6_isAsItMustBe_239, eX6_isAsItMustBe_242, eX6_isAsItMustBe_243, eX6_isAsItMustBe_244, eX6_isAsItMustBe_245, fs], st h 4 7 (h 4 7 ^^^ 1), ?_, hm_st (c := 4) (j := 5) (by omega), fun a z1 z2 z3 => st_cell z1⟩
  rcases o5 with y | y
  · have y1 : (0 : Int32) ^^^ 1 = 1 := by decide
    simp [eX6_comes_0, eX6_comes_1, eX6_comes_4, eX6_comes_5, eX6_comes_6, eX6_comes_7, eX6_comes_10, eX6_comes_11, eX6_comes_12, eX6_comes_15, eX6_comes_16, eX6_comes_19, eX6_comes_92, eX6_comes_93, eX6_comes_96, eX6_comes_97, eX6_comes_100, eX6_comes_101, eX6_comes_102, eX6_comes_103, eX6_comes_106, eX6_comes_109, eX6_comes_112, eX6_comes_113, eX6_comes_116, eX6_comes_117, eX6_comes_120, eX6_comes_121, eX6_comes_122, eX6_comes_123, eX6_comes_126, eX6_comes_127, eX6_comes_130, eX6_comes_131, eX6_comes_132, eX6_comes_133, eX6_comes_136, eX6_comes_139, eX6_comes_140, eX6_comes_143, eX6_comes_144, eX6_comes_145, eX6_comes_146, eX6_comes_149, eX6_comes_152, eX6_comes_155, eX6_comes_156, eX6_comes_159, eX6_comes_160, eX6_comes_161, eX6_comes_164, eX6_comes_165, eX6_comes_166, eX6_comes_167, eX6_comes_170, eX6_comes_173, eX6_comes_176, eX6_comes_177, eX6_comes_180, eX6_comes_181, eX6_comes_182, eX6_comes_185, eX6_comes_186, eX6_comes_189, eX6_comes_192, eX6_comes_193, eX6_comes_196, eX6_comes_197, eX6_comes_200, eX6_comes_203, eX6_comes_204, eX6_comes_207, eX6_comes_208, eX6_comes_211, eX6_comes_214, eX6_comes_217, eX6_comes_218, eX6_comes_221, eX6_comes_222, eX6_comes_225, eX6_comes_228, eX6_comes_229, eX6_comes_232, eX6_comes_233, eX6_comes_236, eX6_comes_237, eX6_comes_240, eX6_comes_241, eX6_comes_244, eX6_comes_245, eX6_comes_246, eX6_comes_247, eX6_comes_250, eX6_comes_253, eX6_comes_256, eX6_comes_257, eX6_comes_260, eX6_comes_261, eX6_comes_264, eX6_comes_265, eX6_comes_266, eX6_comes_267, eX6_comes_270, eX6_comes_273, fs, fd, nI_1, y, y1, show lyC 1 = 0 from rfl, show rcv 1 = 0 from rfl, show rcv 4 = 0 from rfl, show lyC 4 = 0 from rfl]
  · have y1 : (1 : Int32) ^^^ 1 = 0 := by decide
    simp [eX6_comes_0, eX6_comes_1, eX6_comes_4, eX6_comes_5, eX6_comes_6, eX6_comes_7, eX6_comes_10, eX6_comes_11, eX6_comes_12, eX6_comes_15, eX6_comes_16, eX6_comes_19, eX6_comes_92, eX6_comes_93, eX6_comes_96, eX6_comes_97, eX6_comes_100, eX6_comes_101, eX6_comes_102, eX6_comes_103, eX6_comes_106, eX6_comes_109, eX6_comes_112, eX6_comes_113, eX6_comes_116, eX6_comes_117, eX6_comes_120, eX6_comes_121, eX6_comes_122, eX6_comes_123, eX6_comes_126, eX6_comes_127, eX6_comes_130, eX6_comes_131, eX6_comes_132, eX6_comes_133, eX6_comes_136, eX6_comes_139, eX6_comes_140, eX6_comes_143, eX6_comes_144, eX6_comes_145, eX6_comes_146, eX6_comes_149, eX6_comes_152, eX6_comes_155, eX6_comes_156, eX6_comes_159, eX6_comes_160, eX6_comes_161, eX6_comes_164, eX6_comes_165, eX6_comes_166, eX6_comes_167, eX6_comes_170, eX6_comes_173, eX6_comes_176, eX6_comes_177, eX6_comes_180, eX6_comes_181, eX6_comes_182, eX6_comes_185, eX6_comes_186, eX6_comes_189, eX6_comes_192, eX6_comes_193, eX6_comes_196, eX6_comes_197, eX6_comes_200, eX6_comes_203, eX6_comes_204, eX6_comes_207, eX6_comes_208, eX6_comes_211, eX6_comes_214, eX6_comes_217, eX6_comes_218, eX6_comes_221, eX6_comes_222, eX6_comes_225, eX6_comes_228, eX6_comes_229, eX6_comes_232, eX6_comes_233, eX6_comes_236, eX6_comes_237, eX6_comes_240, eX6_comes_241, eX6_comes_244, eX6_comes_245, eX6_comes_246, eX6_comes_247, eX6_comes_250, eX6_comes_253, eX6_comes_256, eX6_comes_257, eX6_comes_260, eX6_comes_261, eX6_comes_264, eX6_comes_265, eX6_comes_266, eX6_comes_267, eX6_comes_270, eX6_comes_273, fs, fd, nI_1, y, y1, show lyC 1 = 0 from rfl, show rcv 1 = 0 from rfl, show rcv 4 = 0 from rfl, show lyC 4 = 0 from rfl]
theorem ca_p (L : LX h n w) (hc : w p = 112) (hs : (stN w n p).2 = true) : CAct h p (actN w p (hm h 4)) := by
  obtain ⟨t1, t2, t3⟩ := ok_p hc hs
  have hp := (stN_ok hs).1
  have fs := f_signAt L hp
  rw [hc, show nI 112 = 112 from rfl] at fs
  have fd := f_digit L t1
  have fd2 := f_digit L t2
  have d10 := (dig_v L t1).2
  have a1 : (nI (num1 w (p + 1)) < 1) ↔ num1 w (p + 1) < 1 := nlt (b := 1) (by omega) (by omega)
  unfold actN
  rw [if_neg (by omega), if_neg (by omega), if_neg (by omega), if_neg (by omega), if_neg (by omega), if_pos hc]
  by_cases c : num1 w (p + 1) < 1
  · have c' := a1.mpr c
    rw [if_neg (by omega)]
    show ev mX6_isAsItMustBe 0 [.ref 0, .int (nI p)] [] h = _
    simp [eX6_isAsItMustBe_0, eX6_isAsItMustBe_1, eX6_isAsItMustBe_4, eX6_isAsItMustBe_5, eX6_isAsItMustBe_8, eX6_isAsItMustBe_100, eX6_isAsItMustBe_101, eX6_isAsItMustBe_104, eX6_isAsItMustBe_105, eX6_isAsItMustBe_106, eX6_isAsItMustBe_107, eX6_isAsItMustBe_110, eX6_isAsItMustBe_111, eX6_isAsItMustBe_113, eX6_isAsItMustBe_116, eX6_isAsItMustBe_119, eX6_isAsItMustBe_120, eX6_isAsItMustBe_123, eX6_isAsItMustBe_124, eX6_isAsItMustBe_125, eX6_isAsItMustBe_126, eX6_isAsItMustBe_129, eX6_isAsItMustBe_130, eX6_isAsItMustBe_133, eX6_isAsItMustBe_134, eX6_isAsItMustBe_135, eX6_isAsItMustBe_136, eX6_isAsItMustBe_139, eX6_isAsItMustBe_142, eX6_isAsItMustBe_143, eX6_isAsItMustBe_144, eX6_isAsItMustBe_147, eX6_isAsItMustBe_148, eX6_isAsItMustBe_149, eX6_isAsItMustBe_150, eX6_isAsItMustBe_153, eX6_isAsItMustBe_156, eX6_isAsItMustBe_159, eX6_isAsItMustBe_160, eX6_isAsItMustBe_163, eX6_isAsItMustBe_164, eX6_isAsItMustBe_165, eX6_isAsItMustBe_166, eX6_isAsItMustBe_169, eX6_isAsItMustBe_171, eX6_isAsItMustBe_173, eX6_isAsItMustBe_176, eX6_isAsItMustBe_179, eX6_isAsItMustBe_180, eX6_isAsItMustBe_183, eX6_isAsItMustBe_184, eX6_isAsItMustBe_185, eX6_isAsItMustBe_186, eX6_isAsItMustBe_189, eX6_isAsItMustBe_190, eX6_isAsItMustBe_191, eX6_isAsItMustBe_192, eX6_isAsItMustBe_195, eX6_isAsItMustBe_198, eX6_isAsItMustBe_199, eX6_isAsItMustBe_200, eX6_isAsItMustBe_203, eX6_isAsItMustBe_204, eX6_isAsItMustBe_205, eX6_isAsItMustBe_206, eX6_isAsItMustBe_209, eX6_isAsItMustBe_210, eX6_isAsItMustBe_213, eX6_isAsItMustBe_214, eX6_isAsItMustBe_217, eX6_isAsItMustBe_218, eX6_isAsItMustBe_219, eX6_isAsItMustBe_220, eX6_isAsItMustBe_223, eX6_isAsItMustBe_224, eX6_isAsItMustBe_225, eX6_isAsItMustBe_226, eX6_isAsItMustBe_229, eX6_isAsItMustBe_230, eX6_isAsItMustBe_232, eX6_isAsItMustBe_235, eX6_isAsItMustBe_238, eX6_isAsItMustBe_239, eX6_isAsItMustBe_242, eX6_isAsItMustBe_243, eX6_isAsItMustBe_244, eX6_isAsItMustBe_245, fs, fd, nI_1, c']
  · have c' : ¬ nI (num1 w (p + 1)) < 1 := fun z => c (a1.mp z)
    rw [if_pos (by omega)]
    refine ⟨by simp [eX6_isAsItMustBe_0, eX6_isAsItMustBe_1, eX6_isAsItMustBe_4, eX6_isAsItMustBe_5, eX6_isAsItMustBe_8, eX6_isAsItMustBe_100, eX6_isAsItMustBe_101, eX6_isAsItMustBe_104, eX6_isAsItMustBe_105, eX6_isAsItMustBe_106, eX6_isAsItMustBe_107, eX6_isAsItMustBe_110, eX6_isAsItMustBe_111, eX6_isAsItMustBe_113, eX6_isAsItMustBe_116, eX6_isAsItMustBe_119, eX6_isAsItMustBe_120, eX6_isAsItMustBe_123, eX6_isAsItMustBe_124, eX6_isAsItMustBe_125, eX6_isAsItMustBe_126, eX6_isAsItMustBe_129, eX6_isAsItMustBe_130, eX6_isAsItMustBe_133, eX6_isAsItMustBe_134, eX6_isAsItMustBe_135, eX6_isAsItMustBe_136, eX6_isAsItMustBe_139, eX6_isAsItMustBe_142, eX6_isAsItMustBe_143, eX6_isAsItMustBe_144, eX6_isAsItMustBe_147, eX6_isAsItMustBe_148, eX6_isAsItMustBe_149, eX6_isAsItMustBe_150, eX6_isAsItMustBe_153, eX6_isAsItMustBe_156, eX6_isAsItMustBe_159, eX6_isAsItMustBe_160, eX6_isAsItMustBe_163, eX6_isAsItMustBe_164, eX6_isAsItMustBe_165, eX6_isAsItMustBe_166, eX6_isAsItMustBe_169, eX6_isAsItMustBe_171, eX6_isAsItMustBe_173, eX6_isAsItMustBe_176, eX6_isAsItMustBe_179, eX6_isAsItMustBe_180, eX6_isAsItMustBe_183, eX6_isAsItMustBe_184, eX6_isAsItMustBe_185, eX6_isAsItMustBe_186, eX6_isAsItMustBe_189, eX6_isAsItMustBe_190, eX6_isAsItMustBe_191, eX6_isAsItMustBe_192, eX6_isAsItMustBe_195, eX6_isAsItMustBe_198, eX6_isAsItMustBe_199, eX6_isAsItMustBe_200, eX6_isAsItMustBe_203, eX6_isAsItMustBe_204, eX6_isAsItMustBe_205, eX6_isAsItMustBe_206, eX6_isAsItMustBe_209, eX6_isAsItMustBe_210, eX6_isAsItMustBe_213, eX6_isAsItMustBe_214, eX6_isAsItMustBe_217, eX6_isAsItMustBe_218, eX6_isAsItMustBe_219, eX6_isAsItMustBe_220, eX6_isAsItMustBe_223, eX6_isAsItMustBe_224, eX6_isAsItMustBe_225, eX6_isAsItMustBe_226, eX6_isAsItMustBe_229, eX6_isAsItMustBe_230, eX6_isAsItMustBe_232, eX6_isAsItMustBe_235, eX6_isAsItMustBe_238, eX6_isAsItMustBe_239, eX6_isAsItMustBe_242, eX6_isAsItMustBe_243, eX6_isAsItMustBe_244, eX6_isAsItMustBe_245, fs, fd, nI_1, c'], st (st h 4 8 (nI (num1 w (p + 1)))) 4 9 (nI (num1 w (p + 1 + 1))), ?_, ?_, fun a z1 z2 z3 => by rw [st_cell z1, st_cell z1]⟩
    · have L2 : LX (st h 4 8 (nI (num1 w (p + 1)))) n w := by
        obtain ⟨l1, l2, l3⟩ := L
        exact ⟨l1, by rw [st_cell (by omega)]; exact l2, fun i hi => by rw [st_cell (by omega)]; exact l3 i hi⟩
      have fd3 := f_digit L2 t2
      simp [eX6_comes_0, eX6_comes_1, eX6_comes_4, eX6_comes_5, eX6_comes_6, eX6_comes_7, eX6_comes_10, eX6_comes_11, eX6_comes_12, eX6_comes_15, eX6_comes_16, eX6_comes_19, eX6_comes_92, eX6_comes_93, eX6_comes_96, eX6_comes_97, eX6_comes_100, eX6_comes_101, eX6_comes_102, eX6_comes_103, eX6_comes_106, eX6_comes_109, eX6_comes_112, eX6_comes_113, eX6_comes_116, eX6_comes_117, eX6_comes_120, eX6_comes_121, eX6_comes_122, eX6_comes_123, eX6_comes_126, eX6_comes_127, eX6_comes_130, eX6_comes_131, eX6_comes_132, eX6_comes_133, eX6_comes_136, eX6_comes_139, eX6_comes_140, eX6_comes_143, eX6_comes_144, eX6_comes_145, eX6_comes_146, eX6_comes_149, eX6_comes_152, eX6_comes_155, eX6_comes_156, eX6_comes_159, eX6_comes_160, eX6_comes_161, eX6_comes_164, eX6_comes_165, eX6_comes_166, eX6_comes_167, eX6_comes_170, eX6_comes_173, eX6_comes_176, eX6_comes_177, eX6_comes_180, eX6_comes_181, eX6_comes_182, eX6_comes_185, eX6_comes_186, eX6_comes_189, eX6_comes_192, eX6_comes_193, eX6_comes_196, eX6_comes_197, eX6_comes_200, eX6_comes_203, eX6_comes_204, eX6_comes_207, eX6_comes_208, eX6_comes_211, eX6_comes_214, eX6_comes_217, eX6_comes_218, eX6_comes_221, eX6_comes_222, eX6_comes_225, eX6_comes_228, eX6_comes_229, eX6_comes_232, eX6_comes_233, eX6_comes_236, eX6_comes_237, eX6_comes_240, eX6_comes_241, eX6_comes_244, eX6_comes_245, eX6_comes_246, eX6_comes_247, eX6_comes_250, eX6_comes_253, eX6_comes_256, eX6_comes_257, eX6_comes_260, eX6_comes_261, eX6_comes_264, eX6_comes_265, eX6_comes_266, eX6_comes_267, eX6_comes_270, eX6_comes_273, fs, fd, fd3, nI_1, nI_p2, show lyC 1 = 0 from rfl, show rcv 1 = 0 from rfl, show rcv 4 = 0 from rfl, show lyC 4 = 0 from rfl]
    · have u1 : hm (st (st h 4 8 (nI (num1 w (p + 1)))) 4 9 (nI (num1 w (p + 1 + 1)))) 4 = upd (hm (st h 4 8 (nI (num1 w (p + 1)))) 4) 7 (nI (num1 w (p + 1 + 1))) := hm_st (c := 4) (j := 7) (by omega)
      have u2 : hm (st h 4 8 (nI (num1 w (p + 1)))) 4 = upd (hm h 4) 6 (nI (num1 w (p + 1))) := hm_st (c := 4) (j := 6) (by omega)
      rw [u1, u2]
theorem c_act (L : LX h n w) (ok : Ok (hm h 4)) (hs : (stN w n p).2 = true) : CAct h p (actN w p (hm h 4)) := by
  have so := stN_ok hs
  rcases fi_ne (L.2.2 p so.1).2 so.2.1 with z | z | z | z | z | z | z
  · exact ca_e L z hs
  · exact ca_i L ok z hs
  · exact ca_k L ok z hs
  · exact ca_n L z hs
  · exact ca_p L z hs
  · exact ca_s L ok z hs
  · exact ca_w L ok z hs
theorem act_ok (L : LX h n w) (ok : Ok r) (hs : (stN w n p).2 = true) {r' : Nat → Int32} (ha : actN w p r = some r') : Ok r' := by
  have so := stN_ok hs
  have o := id ok
  obtain ⟨o0, o1, o2, o3, o4, o5, -⟩ := o
  unfold actN at ha
  by_cases z : w p = 110
  · rw [if_pos z] at ha
    split at ha
    · rename_i c
      injection ha with ha
      rw [← ha]
      exact ok_upd ok (by omega) ⟨fun _ => by rw [t_nI (by omega)]; omega, by omega, by omega, by omega, by omega⟩
    · cases ha
  rw [if_neg z] at ha
  by_cases z : w p = 105
  · obtain ⟨t1, t2, t3, t4⟩ := ok_i z hs
    have d4 := (dig_v L t4).2
    have kd := (kd_in (nI (w (p + 1)))).resolve_left (tk_kind.mp t1).2
    rw [if_pos z] at ha
    split at ha
    · injection ha with ha
      rw [← ha]
      exact ok_kf ok kd (by rw [t_nI (by omega)]; omega)
    · cases ha
  rw [if_neg z] at ha
  by_cases z : w p = 101
  · rw [if_pos z] at ha
    split at ha
    · rename_i c
      injection ha with ha
      rw [← ha]
      have sv := lit_le (A := -40) (B := 24) rfl rfl c.2.1 c.2.2
      exact ok_upd ok (by omega) ⟨by omega, fun _ => sv, by omega, by omega, by omega⟩
    · cases ha
  rw [if_neg z] at ha
  by_cases z : w p = 107
  · rw [if_pos z] at ha
    split at ha
    · rename_i c
      injection ha with ha
      rw [← ha]
      have d01 : num1 w (p + 1) = 0 ∨ num1 w (p + 1) = 1 := by omega
      refine ok_upd ok (by omega) ⟨by omega, by omega, fun _ => ?_, by omega, by omega⟩
      rcases d01 with y | y
      · rw [y]; exact (x01 o3).1
      · rw [y]; exact (x01 o4).1
    · cases ha
  rw [if_neg z] at ha
  by_cases z : w p = 115
  · rw [if_pos z] at ha
    injection ha with ha
    rw [← ha]
    exact ok_upd ok (by omega) ⟨by omega, by omega, fun _ => (x01 o5).1, by omega, by omega⟩
  rw [if_neg z] at ha
  by_cases z : w p = 112
  · obtain ⟨t1, t2, t3⟩ := ok_p z hs
    have d1 := (dig_v L t1).2
    have d2 := (dig_v L t2).2
    rw [if_pos z] at ha
    split at ha
    · rename_i c
      injection ha with ha
      rw [← ha]
      exact ok_upd (ok_upd ok (by omega) ⟨by omega, by omega, by omega, fun _ => by rw [t_nI (by omega)]; omega, by omega⟩) (by omega) ⟨by omega, by omega, by omega, by omega, fun _ => by rw [t_nI (by omega)]; omega⟩
    · cases ha
  rw [if_neg z] at ha
  split at ha
  · injection ha with ha
    rw [← ha]
    exact wsN_ok ok
  · cases ha
end ACTS

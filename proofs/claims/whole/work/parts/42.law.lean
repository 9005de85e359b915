/-! THE LAW: its calls one by one, then its loop -/
section LAW
variable {h : Sto} {N i : Nat}
theorem nI_p3 {p : Nat} : nI p + 3 = nI (p + 1 + 1 + 1) := nI_add p 3
abbrev LL (i : Nat) : List Value := [.ref 400, .ref 0, .ref 17, .int (nI i)]
def Lk (h : Sto) (i P : Nat) : Prop := ∃ h2 : Sto, ev mL_law P (LL i) [] h = ev mL_law 1060 (LL i) [] h2 ∧ Rel h2 ∧ h2 400 = h 400 ∧ h2 401 = h 401
theorem l_letter (R : Rel h) (hN : h 401 0 = nI N) (hN2 : N ≤ 2048) (hi : i + 4 ≤ N) : Lk h i 192 := by
  obtain ⟨v, h1, h2, a, b, R2⟩ := (show Sim [.int (h 400 (i + 1)), .null] [.int (h 400 (i + 1))] mX6_letter mX7_letter from s_letter) h R
  have a : ev mX6_letter 0 [.ref 0, .int (h 400 (i + 1)), .null] [] h = some (some (.int v), h1) := a
  have b : ev mX7_letter 0 [.ref 17, .int (h 400 (i + 1))] [] h1 = some (some (.int v), h2) := b
  have fa := ev_fr a
  have fb := ev_fr b
  have q1 : h1 400 = h 400 := fa 400 (by omega)
  have q2 : h1 401 0 = nI N := by rw [fa 401 (by omega)]; exact hN
  have c0 : (nI N).toNatClampNeg = N := nI_clamp (by omega)
  have n1 : ¬ nI (i + 1) < 0 := nI_pos (by omega)
  have c1 : (nI (i + 1)).toNatClampNeg = i + 1 := nI_clamp (by omega)
  have g1 : ¬ N ≤ i + 1 := by omega
  refine ⟨h2, ?_, R2, by rw [fb 400 (by omega), q1], by rw [fb 401 (by omega), fa 401 (by omega)]⟩
  simp only [LL, eL_law_192, eL_law_193, eL_law_194, eL_law_195, eL_law_196, eL_law_197, eL_law_198, eL_law_201, eL_law_202, eL_law_203, eL_law_204, eL_law_205, eL_law_206, eL_law_207, eL_law_210, eL_law_213, eL_law_214, hN, q1, q2, c0, nI_1, nI_p2, nI_p3, n1, c1, g1, a, b, or_self, ↓reduceIte, Option.bind_some, Option.toList_some, List.cons_append, List.nil_append]
theorem l_hem (R : Rel h) (hN : h 401 0 = nI N) (hN2 : N ≤ 2048) (hi : i + 4 ≤ N) : Lk h i 215 := by
  obtain ⟨v, h1, h2, a, b, R2⟩ := s_hem h R
  have a : ev mX6_hem 0 [.ref 0, .null, .null] [] h = some (some (.int v), h1) := a
  have b : ev mX7_hem 0 [.ref 17, .null, .null, .null, .null, .null] [] h1 = some (some (.int v), h2) := b
  have fa := ev_fr a
  have fb := ev_fr b
  have q1 : h1 400 = h 400 := fa 400 (by omega)
  have q2 : h1 401 0 = nI N := by rw [fa 401 (by omega)]; exact hN
  have c0 : (nI N).toNatClampNeg = N := nI_clamp (by omega)
  refine ⟨h2, ?_, R2, by rw [fb 400 (by omega), q1], by rw [fb 401 (by omega), fa 401 (by omega)]⟩
  simp only [LL, eL_law_215, eL_law_216, eL_law_219, eL_law_220, eL_law_223, eL_law_226, eL_law_227, hN, q1, q2, c0, nI_1, nI_p2, nI_p3, a, b, or_self, ↓reduceIte, Option.bind_some, Option.toList_some, List.cons_append, List.nil_append]
theorem l_inch (R : Rel h) (hN : h 401 0 = nI N) (hN2 : N ≤ 2048) (hi : i + 4 ≤ N) : Lk h i 228 := by
  obtain ⟨v, h1, h2, a, b, R2⟩ := (show Sim [.int (h 400 (i + 1)), .int (h 400 (i + 1 + 1))] [.int (h 400 (i + 1)), .int (h 400 (i + 1 + 1))] mX6_inch mX7_inch from s_inch) h R
  have a : ev mX6_inch 0 [.ref 0, .int (h 400 (i + 1)), .int (h 400 (i + 1 + 1))] [] h = some (some (.int v), h1) := a
  have b : ev mX7_inch 0 [.ref 17, .int (h 400 (i + 1)), .int (h 400 (i + 1 + 1))] [] h1 = some (some (.int v), h2) := b
  have fa := ev_fr a
  have fb := ev_fr b
  have q1 : h1 400 = h 400 := fa 400 (by omega)
  have q2 : h1 401 0 = nI N := by rw [fa 401 (by omega)]; exact hN
  have c0 : (nI N).toNatClampNeg = N := nI_clamp (by omega)
  have n1 : ¬ nI (i + 1) < 0 := nI_pos (by omega)
  have c1 : (nI (i + 1)).toNatClampNeg = i + 1 := nI_clamp (by omega)
  have g1 : ¬ N ≤ i + 1 := by omega
  have n2 : ¬ nI (i + 1 + 1) < 0 := nI_pos (by omega)
  have c2 : (nI (i + 1 + 1)).toNatClampNeg = i + 1 + 1 := nI_clamp (by omega)
  have g2 : ¬ N ≤ i + 1 + 1 := by omega
  refine ⟨h2, ?_, R2, by rw [fb 400 (by omega), q1], by rw [fb 401 (by omega), fa 401 (by omega)]⟩
  simp only [LL, eL_law_228, eL_law_229, eL_law_230, eL_law_231, eL_law_232, eL_law_233, eL_law_234, eL_law_235, eL_law_236, eL_law_237, eL_law_238, eL_law_239, eL_law_242, eL_law_243, eL_law_244, eL_law_245, eL_law_246, eL_law_247, eL_law_248, eL_law_249, eL_law_250, eL_law_251, eL_law_252, eL_law_253, eL_law_256, eL_law_259, eL_law_260, hN, q1, q2, c0, nI_1, nI_p2, nI_p3, n1, c1, g1, n2, c2, g2, a, b, or_self, ↓reduceIte, Option.bind_some, Option.toList_some, List.cons_append, List.nil_append]
theorem l_turn (R : Rel h) (hN : h 401 0 = nI N) (hN2 : N ≤ 2048) (hi : i + 4 ≤ N) : Lk h i 261 := by
  obtain ⟨v, h1, h2, a, b, R2⟩ := (show Sim [.int (h 400 (i + 1)), .int (h 400 (i + 1 + 1)), .int (h 400 (i + 1 + 1 + 1)), .null, .null] [.int (h 400 (i + 1)), .int (h 400 (i + 1 + 1)), .int (h 400 (i + 1 + 1 + 1)), .null] mX6_turn mX7_turn from s_turn) h R
  have a : ev mX6_turn 0 [.ref 0, .int (h 400 (i + 1)), .int (h 400 (i + 1 + 1)), .int (h 400 (i + 1 + 1 + 1)), .null, .null] [] h = some (some (.int v), h1) := a
  have b : ev mX7_turn 0 [.ref 17, .int (h 400 (i + 1)), .int (h 400 (i + 1 + 1)), .int (h 400 (i + 1 + 1 + 1)), .null] [] h1 = some (some (.int v), h2) := b
  have fa := ev_fr a
  have fb := ev_fr b
  have q1 : h1 400 = h 400 := fa 400 (by omega)
  have q2 : h1 401 0 = nI N := by rw [fa 401 (by omega)]; exact hN
  have c0 : (nI N).toNatClampNeg = N := nI_clamp (by omega)
  have n1 : ¬ nI (i + 1) < 0 := nI_pos (by omega)
  have c1 : (nI (i + 1)).toNatClampNeg = i + 1 := nI_clamp (by omega)
  have g1 : ¬ N ≤ i + 1 := by omega
  have n2 : ¬ nI (i + 1 + 1) < 0 := nI_pos (by omega)
  have c2 : (nI (i + 1 + 1)).toNatClampNeg = i + 1 + 1 := nI_clamp (by omega)
  have g2 : ¬ N ≤ i + 1 + 1 := by omega
  have n3 : ¬ nI (i + 1 + 1 + 1) < 0 := nI_pos (by omega)
  have c3 : (nI (i + 1 + 1 + 1)).toNatClampNeg = i + 1 + 1 + 1 := nI_clamp (by omega)
  have g3 : ¬ N ≤ i + 1 + 1 + 1 := by omega
  refine ⟨h2, ?_, R2, by rw [fb 400 (by omega), q1], by rw [fb 401 (by omega), fa 401 (by omega)]⟩
  simp only [LL, eL_law_261, eL_law_262, eL_law_263, eL_law_264, eL_law_265, eL_law_266, eL_law_267, eL_law_268, eL_law_269, eL_law_270, eL_law_271, eL_law_272, eL_law_273, eL_law_274, eL_law_275, eL_law_276, eL_law_277, eL_law_280, eL_law_281, eL_law_282, eL_law_283, eL_law_284, eL_law_285, eL_law_286, eL_law_287, eL_law_288, eL_law_289, eL_law_290, eL_law_291, eL_law_292, eL_law_293, eL_law_294, eL_law_295, eL_law_296, eL_law_299, eL_law_302, eL_law_303, hN, q1, q2, c0, nI_1, nI_p2, nI_p3, n1, c1, g1, n2, c2, g2, n3, c3, g3, a, b, or_self, ↓reduceIte, Option.bind_some, Option.toList_some, List.cons_append, List.nil_append]
theorem l_inches (R : Rel h) (hN : h 401 0 = nI N) (hN2 : N ≤ 2048) (hi : i + 4 ≤ N) : Lk h i 304 := by
  obtain ⟨v, h1, h2, a, b, R2⟩ := (show Sim [.int (h 400 (i + 1)), .null, .null] [.int (h 400 (i + 1)), .null] mX6_inches mX7_inches from s_inches) h R
  have a : ev mX6_inches 0 [.ref 0, .int (h 400 (i + 1)), .null, .null] [] h = some (some (.int v), h1) := a
  have b : ev mX7_inches 0 [.ref 17, .int (h 400 (i + 1)), .null] [] h1 = some (some (.int v), h2) := b
  have fa := ev_fr a
  have fb := ev_fr b
  have q1 : h1 400 = h 400 := fa 400 (by omega)
  have q2 : h1 401 0 = nI N := by rw [fa 401 (by omega)]; exact hN
  have c0 : (nI N).toNatClampNeg = N := nI_clamp (by omega)
  have n1 : ¬ nI (i + 1) < 0 := nI_pos (by omega)
  have c1 : (nI (i + 1)).toNatClampNeg = i + 1 := nI_clamp (by omega)
  have g1 : ¬ N ≤ i + 1 := by omega
  refine ⟨h2, ?_, R2, by rw [fb 400 (by omega), q1], by rw [fb 401 (by omega), fa 401 (by omega)]⟩
  simp only [LL, eL_law_304, eL_law_305, eL_law_306, eL_law_307, eL_law_308, eL_law_309, eL_law_310, eL_law_313, eL_law_314, eL_law_315, eL_law_316, eL_law_317, eL_law_318, eL_law_319, eL_law_322, eL_law_325, eL_law_326, hN, q1, q2, c0, nI_1, nI_p2, nI_p3, n1, c1, g1, a, b, or_self, ↓reduceIte, Option.bind_some, Option.toList_some, List.cons_append, List.nil_append]
theorem l_end (R : Rel h) (hN : h 401 0 = nI N) (hN2 : N ≤ 2048) (hi : i + 4 ≤ N) : Lk h i 327 := by
  obtain ⟨v, h1, h2, a, b, R2⟩ := (show Sim [.int (h 400 (i + 1)), .int (h 400 (i + 1 + 1)), .null, .null] [.int (h 400 (i + 1)), .int (h 400 (i + 1 + 1)), .null] mX6_end mX7_end from s_end) h R
  have a : ev mX6_end 0 [.ref 0, .int (h 400 (i + 1)), .int (h 400 (i + 1 + 1)), .null, .null] [] h = some (some (.int v), h1) := a
  have b : ev mX7_end 0 [.ref 17, .int (h 400 (i + 1)), .int (h 400 (i + 1 + 1)), .null] [] h1 = some (some (.int v), h2) := b
  have fa := ev_fr a
  have fb := ev_fr b
  have q1 : h1 400 = h 400 := fa 400 (by omega)
  have q2 : h1 401 0 = nI N := by rw [fa 401 (by omega)]; exact hN
  have c0 : (nI N).toNatClampNeg = N := nI_clamp (by omega)
  have n1 : ¬ nI (i + 1) < 0 := nI_pos (by omega)
  have c1 : (nI (i + 1)).toNatClampNeg = i + 1 := nI_clamp (by omega)
  have g1 : ¬ N ≤ i + 1 := by omega
  have n2 : ¬ nI (i + 1 + 1) < 0 := nI_pos (by omega)
  have c2 : (nI (i + 1 + 1)).toNatClampNeg = i + 1 + 1 := nI_clamp (by omega)
  have g2 : ¬ N ≤ i + 1 + 1 := by omega
  refine ⟨h2, ?_, R2, by rw [fb 400 (by omega), q1], by rw [fb 401 (by omega), fa 401 (by omega)]⟩
  simp only [LL, eL_law_327, eL_law_328, eL_law_329, eL_law_330, eL_law_331, eL_law_332, eL_law_333, eL_law_334, eL_law_335, eL_law_336, eL_law_337, eL_law_338, eL_law_341, eL_law_342, eL_law_343, eL_law_344, eL_law_345, eL_law_346, eL_law_347, eL_law_348, eL_law_349, eL_law_350, eL_law_351, eL_law_352, eL_law_355, eL_law_358, eL_law_359, hN, q1, q2, c0, nI_1, nI_p2, nI_p3, n1, c1, g1, n2, c2, g2, a, b, or_self, ↓reduceIte, Option.bind_some, Option.toList_some, List.cons_append, List.nil_append]
theorem l_tie (R : Rel h) (hN : h 401 0 = nI N) (hN2 : N ≤ 2048) (hi : i + 4 ≤ N) : Lk h i 360 := by
  obtain ⟨v, h1, h2, a, b, R2⟩ := (show Sim [.int (h 400 (i + 1))] [.int (h 400 (i + 1))] mX6_tie mX7_tie from s_tie) h R
  have a : ev mX6_tie 0 [.ref 0, .int (h 400 (i + 1))] [] h = some (some (.int v), h1) := a
  have b : ev mX7_tie 0 [.ref 17, .int (h 400 (i + 1))] [] h1 = some (some (.int v), h2) := b
  have fa := ev_fr a
  have fb := ev_fr b
  have q1 : h1 400 = h 400 := fa 400 (by omega)
  have q2 : h1 401 0 = nI N := by rw [fa 401 (by omega)]; exact hN
  have c0 : (nI N).toNatClampNeg = N := nI_clamp (by omega)
  have n1 : ¬ nI (i + 1) < 0 := nI_pos (by omega)
  have c1 : (nI (i + 1)).toNatClampNeg = i + 1 := nI_clamp (by omega)
  have g1 : ¬ N ≤ i + 1 := by omega
  refine ⟨h2, ?_, R2, by rw [fb 400 (by omega), q1], by rw [fb 401 (by omega), fa 401 (by omega)]⟩
  simp only [LL, eL_law_360, eL_law_361, eL_law_362, eL_law_363, eL_law_364, eL_law_365, eL_law_366, eL_law_369, eL_law_370, eL_law_371, eL_law_372, eL_law_373, eL_law_374, eL_law_375, eL_law_378, eL_law_381, eL_law_382, hN, q1, q2, c0, nI_1, nI_p2, nI_p3, n1, c1, g1, a, b, or_self, ↓reduceIte, Option.bind_some, Option.toList_some, List.cons_append, List.nil_append]
theorem l_sew (R : Rel h) (hN : h 401 0 = nI N) (hN2 : N ≤ 2048) (hi : i + 4 ≤ N) : Lk h i 383 := by
  obtain ⟨v, h1, h2, a, b, R2⟩ := s_sew h R
  have a : ev mX6_sew 0 [.ref 0] [] h = some (some (.int v), h1) := a
  have b : ev mX7_sew 0 [.ref 17] [] h1 = some (some (.int v), h2) := b
  have fa := ev_fr a
  have fb := ev_fr b
  have q1 : h1 400 = h 400 := fa 400 (by omega)
  have q2 : h1 401 0 = nI N := by rw [fa 401 (by omega)]; exact hN
  have c0 : (nI N).toNatClampNeg = N := nI_clamp (by omega)
  refine ⟨h2, ?_, R2, by rw [fb 400 (by omega), q1], by rw [fb 401 (by omega), fa 401 (by omega)]⟩
  simp only [LL, eL_law_383, eL_law_384, eL_law_387, eL_law_388, eL_law_391, eL_law_394, eL_law_395, hN, q1, q2, c0, nI_1, nI_p2, nI_p3, a, b, or_self, ↓reduceIte, Option.bind_some, Option.toList_some, List.cons_append, List.nil_append]
theorem l_set (R : Rel h) (hN : h 401 0 = nI N) (hN2 : N ≤ 2048) (hi : i + 4 ≤ N) : Lk h i 396 := by
  obtain ⟨v, h1, h2, a, b, R2⟩ := (show Sim [.int (h 400 (i + 1)), .int (h 400 (i + 1 + 1)), .null, .null] [.int (h 400 (i + 1)), .int (h 400 (i + 1 + 1)), .null] mX6_set mX7_set from s_set) h R
  have a : ev mX6_set 0 [.ref 0, .int (h 400 (i + 1)), .int (h 400 (i + 1 + 1)), .null, .null] [] h = some (some (.int v), h1) := a
  have b : ev mX7_set 0 [.ref 17, .int (h 400 (i + 1)), .int (h 400 (i + 1 + 1)), .null] [] h1 = some (some (.int v), h2) := b
  have fa := ev_fr a
  have fb := ev_fr b
  have q1 : h1 400 = h 400 := fa 400 (by omega)
  have q2 : h1 401 0 = nI N := by rw [fa 401 (by omega)]; exact hN
  have c0 : (nI N).toNatClampNeg = N := nI_clamp (by omega)
  have n1 : ¬ nI (i + 1) < 0 := nI_pos (by omega)
  have c1 : (nI (i + 1)).toNatClampNeg = i + 1 := nI_clamp (by omega)
  have g1 : ¬ N ≤ i + 1 := by omega
  have n2 : ¬ nI (i + 1 + 1) < 0 := nI_pos (by omega)
  have c2 : (nI (i + 1 + 1)).toNatClampNeg = i + 1 + 1 := nI_clamp (by omega)
  have g2 : ¬ N ≤ i + 1 + 1 := by omega
  refine ⟨h2, ?_, R2, by rw [fb 400 (by omega), q1], by rw [fb 401 (by omega), fa 401 (by omega)]⟩
  simp only [LL, eL_law_396, eL_law_397, eL_law_398, eL_law_399, eL_law_400, eL_law_401, eL_law_402, eL_law_403, eL_law_404, eL_law_405, eL_law_406, eL_law_407, eL_law_410, eL_law_411, eL_law_412, eL_law_413, eL_law_414, eL_law_415, eL_law_416, eL_law_417, eL_law_418, eL_law_419, eL_law_420, eL_law_421, eL_law_424, eL_law_427, eL_law_428, hN, q1, q2, c0, nI_1, nI_p2, nI_p3, n1, c1, g1, n2, c2, g2, a, b, or_self, ↓reduceIte, Option.bind_some, Option.toList_some, List.cons_append, List.nil_append]
theorem l_pull (R : Rel h) (hN : h 401 0 = nI N) (hN2 : N ≤ 2048) (hi : i + 4 ≤ N) : Lk h i 429 := by
  obtain ⟨v, h1, h2, a, b, R2⟩ := (show Sim [.int (h 400 (i + 1)), .int (h 400 (i + 1 + 1)), .null] [.int (h 400 (i + 1)), .int (h 400 (i + 1 + 1)), .null] mX6_pull mX7_pull from s_pull) h R
  have a : ev mX6_pull 0 [.ref 0, .int (h 400 (i + 1)), .int (h 400 (i + 1 + 1)), .null] [] h = some (some (.int v), h1) := a
  have b : ev mX7_pull 0 [.ref 17, .int (h 400 (i + 1)), .int (h 400 (i + 1 + 1)), .null] [] h1 = some (some (.int v), h2) := b
  have fa := ev_fr a
  have fb := ev_fr b
  have q1 : h1 400 = h 400 := fa 400 (by omega)
  have q2 : h1 401 0 = nI N := by rw [fa 401 (by omega)]; exact hN
  have c0 : (nI N).toNatClampNeg = N := nI_clamp (by omega)
  have n1 : ¬ nI (i + 1) < 0 := nI_pos (by omega)
  have c1 : (nI (i + 1)).toNatClampNeg = i + 1 := nI_clamp (by omega)
  have g1 : ¬ N ≤ i + 1 := by omega
  have n2 : ¬ nI (i + 1 + 1) < 0 := nI_pos (by omega)
  have c2 : (nI (i + 1 + 1)).toNatClampNeg = i + 1 + 1 := nI_clamp (by omega)
  have g2 : ¬ N ≤ i + 1 + 1 := by omega
  refine ⟨h2, ?_, R2, by rw [fb 400 (by omega), q1], by rw [fb 401 (by omega), fa 401 (by omega)]⟩
  simp only [LL, eL_law_429, eL_law_430, eL_law_431, eL_law_432, eL_law_433, eL_law_434, eL_law_435, eL_law_436, eL_law_437, eL_law_438, eL_law_439, eL_law_440, eL_law_443, eL_law_444, eL_law_445, eL_law_446, eL_law_447, eL_law_448, eL_law_449, eL_law_450, eL_law_451, eL_law_452, eL_law_453, eL_law_454, eL_law_457, eL_law_460, eL_law_461, hN, q1, q2, c0, nI_1, nI_p2, nI_p3, n1, c1, g1, n2, c2, g2, a, b, or_self, ↓reduceIte, Option.bind_some, Option.toList_some, List.cons_append, List.nil_append]
theorem l_bunch (R : Rel h) (hN : h 401 0 = nI N) (hN2 : N ≤ 2048) (hi : i + 4 ≤ N) : Lk h i 462 := by
  obtain ⟨v, h1, h2, a, b, R2⟩ := (show Sim [.int (h 400 (i + 1)), .null] [.int (h 400 (i + 1))] mX6_bunch mX7_bunch from s_bunch) h R
  have a : ev mX6_bunch 0 [.ref 0, .int (h 400 (i + 1)), .null] [] h = some (some (.int v), h1) := a
  have b : ev mX7_bunch 0 [.ref 17, .int (h 400 (i + 1))] [] h1 = some (some (.int v), h2) := b
  have fa := ev_fr a
  have fb := ev_fr b
  have q1 : h1 400 = h 400 := fa 400 (by omega)
  have q2 : h1 401 0 = nI N := by rw [fa 401 (by omega)]; exact hN
  have c0 : (nI N).toNatClampNeg = N := nI_clamp (by omega)
  have n1 : ¬ nI (i + 1) < 0 := nI_pos (by omega)
  have c1 : (nI (i + 1)).toNatClampNeg = i + 1 := nI_clamp (by omega)
  have g1 : ¬ N ≤ i + 1 := by omega
  refine ⟨h2, ?_, R2, by rw [fb 400 (by omega), q1], by rw [fb 401 (by omega), fa 401 (by omega)]⟩
  simp only [LL, eL_law_462, eL_law_463, eL_law_464, eL_law_465, eL_law_466, eL_law_467, eL_law_468, eL_law_471, eL_law_472, eL_law_473, eL_law_474, eL_law_475, eL_law_476, eL_law_477, eL_law_480, eL_law_483, eL_law_484, hN, q1, q2, c0, nI_1, nI_p2, nI_p3, n1, c1, g1, a, b, or_self, ↓reduceIte, Option.bind_some, Option.toList_some, List.cons_append, List.nil_append]
theorem l_anew (R : Rel h) (hN : h 401 0 = nI N) (hN2 : N ≤ 2048) (hi : i + 4 ≤ N) : Lk h i 485 := by
  obtain ⟨v, h1, h2, a, b, R2⟩ := s_anew h R
  have a : ev mX6_anew 0 [.ref 0] [] h = some (some (.int v), h1) := a
  have b : ev mX7_anew 0 [.ref 17] [] h1 = some (some (.int v), h2) := b
  have fa := ev_fr a
  have fb := ev_fr b
  have q1 : h1 400 = h 400 := fa 400 (by omega)
  have q2 : h1 401 0 = nI N := by rw [fa 401 (by omega)]; exact hN
  have c0 : (nI N).toNatClampNeg = N := nI_clamp (by omega)
  refine ⟨h2, ?_, R2, by rw [fb 400 (by omega), q1], by rw [fb 401 (by omega), fa 401 (by omega)]⟩
  simp only [LL, eL_law_485, eL_law_486, eL_law_489, eL_law_490, eL_law_493, eL_law_496, eL_law_497, hN, q1, q2, c0, nI_1, nI_p2, nI_p3, a, b, or_self, ↓reduceIte, Option.bind_some, Option.toList_some, List.cons_append, List.nil_append]
theorem l_wash (R : Rel h) (hN : h 401 0 = nI N) (hN2 : N ≤ 2048) (hi : i + 4 ≤ N) : Lk h i 498 := by
  obtain ⟨v, h1, h2, a, b, R2⟩ := (show Sim [.int (h 400 (i + 1)), .null] [.int (h 400 (i + 1))] mX6_wash mX7_wash from s_wash) h R
  have a : ev mX6_wash 0 [.ref 0, .int (h 400 (i + 1)), .null] [] h = some (some (.int v), h1) := a
  have b : ev mX7_wash 0 [.ref 17, .int (h 400 (i + 1))] [] h1 = some (some (.int v), h2) := b
  have fa := ev_fr a
  have fb := ev_fr b
  have q1 : h1 400 = h 400 := fa 400 (by omega)
  have q2 : h1 401 0 = nI N := by rw [fa 401 (by omega)]; exact hN
  have c0 : (nI N).toNatClampNeg = N := nI_clamp (by omega)
  have n1 : ¬ nI (i + 1) < 0 := nI_pos (by omega)
  have c1 : (nI (i + 1)).toNatClampNeg = i + 1 := nI_clamp (by omega)
  have g1 : ¬ N ≤ i + 1 := by omega
  refine ⟨h2, ?_, R2, by rw [fb 400 (by omega), q1], by rw [fb 401 (by omega), fa 401 (by omega)]⟩
  simp only [LL, eL_law_498, eL_law_499, eL_law_500, eL_law_501, eL_law_502, eL_law_503, eL_law_504, eL_law_507, eL_law_508, eL_law_509, eL_law_510, eL_law_511, eL_law_512, eL_law_513, eL_law_516, eL_law_519, eL_law_520, hN, q1, q2, c0, nI_1, nI_p2, nI_p3, n1, c1, g1, a, b, or_self, ↓reduceIte, Option.bind_some, Option.toList_some, List.cons_append, List.nil_append]
theorem l_of (R : Rel h) (hN : h 401 0 = nI N) (hN2 : N ≤ 2048) (hi : i + 4 ≤ N) : Lk h i 521 := by
  obtain ⟨v, h1, h2, a, b, R2⟩ := (show Sim [.int (h 400 (i + 1)), .int (h 400 (i + 1 + 1)), .null] [.int (h 400 (i + 1)), .int (h 400 (i + 1 + 1)), .null] mX6_of mX7_of from s_of) h R
  have a : ev mX6_of 0 [.ref 0, .int (h 400 (i + 1)), .int (h 400 (i + 1 + 1)), .null] [] h = some (some (.int v), h1) := a
  have b : ev mX7_of 0 [.ref 17, .int (h 400 (i + 1)), .int (h 400 (i + 1 + 1)), .null] [] h1 = some (some (.int v), h2) := b
  have fa := ev_fr a
  have fb := ev_fr b
  have q1 : h1 400 = h 400 := fa 400 (by omega)
  have q2 : h1 401 0 = nI N := by rw [fa 401 (by omega)]; exact hN
  have c0 : (nI N).toNatClampNeg = N := nI_clamp (by omega)
  have n1 : ¬ nI (i + 1) < 0 := nI_pos (by omega)
  have c1 : (nI (i + 1)).toNatClampNeg = i + 1 := nI_clamp (by omega)
  have g1 : ¬ N ≤ i + 1 := by omega
  have n2 : ¬ nI (i + 1 + 1) < 0 := nI_pos (by omega)
  have c2 : (nI (i + 1 + 1)).toNatClampNeg = i + 1 + 1 := nI_clamp (by omega)
  have g2 : ¬ N ≤ i + 1 + 1 := by omega
  refine ⟨h2, ?_, R2, by rw [fb 400 (by omega), q1], by rw [fb 401 (by omega), fa 401 (by omega)]⟩
  simp only [LL, eL_law_521, eL_law_522, eL_law_523, eL_law_524, eL_law_525, eL_law_526, eL_law_527, eL_law_528, eL_law_529, eL_law_530, eL_law_531, eL_law_532, eL_law_535, eL_law_536, eL_law_537, eL_law_538, eL_law_539, eL_law_540, eL_law_541, eL_law_542, eL_law_543, eL_law_544, eL_law_545, eL_law_546, eL_law_549, eL_law_552, eL_law_553, hN, q1, q2, c0, nI_1, nI_p2, nI_p3, n1, c1, g1, n2, c2, g2, a, b, or_self, ↓reduceIte, Option.bind_some, Option.toList_some, List.cons_append, List.nil_append]
theorem l_out (R : Rel h) (hN : h 401 0 = nI N) (hN2 : N ≤ 2048) (hi : i + 4 ≤ N) : Lk h i 554 := by
  obtain ⟨v, h1, h2, a, b, R2⟩ := (show Sim [.int (h 400 (i + 1)), .int (h 400 (i + 1 + 1))] [.int (h 400 (i + 1)), .int (h 400 (i + 1 + 1)), .null] mX6_out mX7_out from s_out) h R
  have a : ev mX6_out 0 [.ref 0, .int (h 400 (i + 1)), .int (h 400 (i + 1 + 1))] [] h = some (some (.int v), h1) := a
  have b : ev mX7_out 0 [.ref 17, .int (h 400 (i + 1)), .int (h 400 (i + 1 + 1)), .null] [] h1 = some (some (.int v), h2) := b
  have fa := ev_fr a
  have fb := ev_fr b
  have q1 : h1 400 = h 400 := fa 400 (by omega)
  have q2 : h1 401 0 = nI N := by rw [fa 401 (by omega)]; exact hN
  have c0 : (nI N).toNatClampNeg = N := nI_clamp (by omega)
  have n1 : ¬ nI (i + 1) < 0 := nI_pos (by omega)
  have c1 : (nI (i + 1)).toNatClampNeg = i + 1 := nI_clamp (by omega)
  have g1 : ¬ N ≤ i + 1 := by omega
  have n2 : ¬ nI (i + 1 + 1) < 0 := nI_pos (by omega)
  have c2 : (nI (i + 1 + 1)).toNatClampNeg = i + 1 + 1 := nI_clamp (by omega)
  have g2 : ¬ N ≤ i + 1 + 1 := by omega
  refine ⟨h2, ?_, R2, by rw [fb 400 (by omega), q1], by rw [fb 401 (by omega), fa 401 (by omega)]⟩
  simp only [LL, eL_law_554, eL_law_555, eL_law_556, eL_law_557, eL_law_558, eL_law_559, eL_law_560, eL_law_561, eL_law_562, eL_law_563, eL_law_564, eL_law_565, eL_law_568, eL_law_569, eL_law_570, eL_law_571, eL_law_572, eL_law_573, eL_law_574, eL_law_575, eL_law_576, eL_law_577, eL_law_578, eL_law_579, eL_law_582, eL_law_585, eL_law_586, hN, q1, q2, c0, nI_1, nI_p2, nI_p3, n1, c1, g1, n2, c2, g2, a, b, or_self, ↓reduceIte, Option.bind_some, Option.toList_some, List.cons_append, List.nil_append]
theorem l_soonest (R : Rel h) (hN : h 401 0 = nI N) (hN2 : N ≤ 2048) (hi : i + 4 ≤ N) : Lk h i 587 := by
  obtain ⟨v, h1, h2, a, b, R2⟩ := s_soonest h R
  have a : ev mX6_soonest 0 [.ref 0, .null, .null] [] h = some (some (.int v), h1) := a
  have b : ev mX7_soonest 0 [.ref 17, .null, .null] [] h1 = some (some (.int v), h2) := b
  have fa := ev_fr a
  have fb := ev_fr b
  have q1 : h1 400 = h 400 := fa 400 (by omega)
  have q2 : h1 401 0 = nI N := by rw [fa 401 (by omega)]; exact hN
  have c0 : (nI N).toNatClampNeg = N := nI_clamp (by omega)
  refine ⟨h2, ?_, R2, by rw [fb 400 (by omega), q1], by rw [fb 401 (by omega), fa 401 (by omega)]⟩
  simp only [LL, eL_law_587, eL_law_588, eL_law_591, eL_law_592, eL_law_595, eL_law_598, eL_law_599, hN, q1, q2, c0, nI_1, nI_p2, nI_p3, a, b, or_self, ↓reduceIte, Option.bind_some, Option.toList_some, List.cons_append, List.nil_append]
theorem l_better (R : Rel h) (hN : h 401 0 = nI N) (hN2 : N ≤ 2048) (hi : i + 4 ≤ N) : Lk h i 600 := by
  obtain ⟨v, h1, h2, a, b, R2⟩ := (show Sim [.int (h 400 (i + 1)), .null, .null] [.int (h 400 (i + 1)), .null, .null] mX6_better mX7_better from s_better) h R
  have a : ev mX6_better 0 [.ref 0, .int (h 400 (i + 1)), .null, .null] [] h = some (some (.int v), h1) := a
  have b : ev mX7_better 0 [.ref 17, .int (h 400 (i + 1)), .null, .null] [] h1 = some (some (.int v), h2) := b
  have fa := ev_fr a
  have fb := ev_fr b
  have q1 : h1 400 = h 400 := fa 400 (by omega)
  have q2 : h1 401 0 = nI N := by rw [fa 401 (by omega)]; exact hN
  have c0 : (nI N).toNatClampNeg = N := nI_clamp (by omega)
  have n1 : ¬ nI (i + 1) < 0 := nI_pos (by omega)
  have c1 : (nI (i + 1)).toNatClampNeg = i + 1 := nI_clamp (by omega)
  have g1 : ¬ N ≤ i + 1 := by omega
  refine ⟨h2, ?_, R2, by rw [fb 400 (by omega), q1], by rw [fb 401 (by omega), fa 401 (by omega)]⟩
  simp only [LL, eL_law_600, eL_law_601, eL_law_602, eL_law_603, eL_law_604, eL_law_605, eL_law_606, eL_law_609, eL_law_610, eL_law_611, eL_law_612, eL_law_613, eL_law_614, eL_law_615, eL_law_618, eL_law_621, eL_law_622, hN, q1, q2, c0, nI_1, nI_p2, nI_p3, n1, c1, g1, a, b, or_self, ↓reduceIte, Option.bind_some, Option.toList_some, List.cons_append, List.nil_append]
theorem l_inIn (R : Rel h) (hN : h 401 0 = nI N) (hN2 : N ≤ 2048) (hi : i + 4 ≤ N) : Lk h i 623 := by
  obtain ⟨v, h1, h2, a, b, R2⟩ := (show Sim [.int (h 400 (i + 1)), .int (h 400 (i + 1 + 1)), .null] [.int (h 400 (i + 1)), .int (h 400 (i + 1 + 1)), .null] mX6_inIn mX7_inIn from s_inIn) h R
  have a : ev mX6_inIn 0 [.ref 0, .int (h 400 (i + 1)), .int (h 400 (i + 1 + 1)), .null] [] h = some (some (.int v), h1) := a
  have b : ev mX7_inIn 0 [.ref 17, .int (h 400 (i + 1)), .int (h 400 (i + 1 + 1)), .null] [] h1 = some (some (.int v), h2) := b
  have fa := ev_fr a
  have fb := ev_fr b
  have q1 : h1 400 = h 400 := fa 400 (by omega)
  have q2 : h1 401 0 = nI N := by rw [fa 401 (by omega)]; exact hN
  have c0 : (nI N).toNatClampNeg = N := nI_clamp (by omega)
  have n1 : ¬ nI (i + 1) < 0 := nI_pos (by omega)
  have c1 : (nI (i + 1)).toNatClampNeg = i + 1 := nI_clamp (by omega)
  have g1 : ¬ N ≤ i + 1 := by omega
  have n2 : ¬ nI (i + 1 + 1) < 0 := nI_pos (by omega)
  have c2 : (nI (i + 1 + 1)).toNatClampNeg = i + 1 + 1 := nI_clamp (by omega)
  have g2 : ¬ N ≤ i + 1 + 1 := by omega
  refine ⟨h2, ?_, R2, by rw [fb 400 (by omega), q1], by rw [fb 401 (by omega), fa 401 (by omega)]⟩
  simp only [LL, eL_law_623, eL_law_624, eL_law_625, eL_law_626, eL_law_627, eL_law_628, eL_law_629, eL_law_630, eL_law_631, eL_law_632, eL_law_633, eL_law_634, eL_law_637, eL_law_638, eL_law_639, eL_law_640, eL_law_641, eL_law_642, eL_law_643, eL_law_644, eL_law_645, eL_law_646, eL_law_647, eL_law_648, eL_law_651, eL_law_654, eL_law_655, hN, q1, q2, c0, nI_1, nI_p2, nI_p3, n1, c1, g1, n2, c2, g2, a, b, or_self, ↓reduceIte, Option.bind_some, Option.toList_some, List.cons_append, List.nil_append]
theorem l_lost (R : Rel h) (hN : h 401 0 = nI N) (hN2 : N ≤ 2048) (hi : i + 4 ≤ N) : Lk h i 656 := by
  obtain ⟨v, h1, h2, a, b, R2⟩ := (show Sim [.int (h 400 (i + 1)), .null] [.int (h 400 (i + 1)), .null, .null] mX6_lost mX7_lost from s_lost) h R
  have a : ev mX6_lost 0 [.ref 0, .int (h 400 (i + 1)), .null] [] h = some (some (.int v), h1) := a
  have b : ev mX7_lost 0 [.ref 17, .int (h 400 (i + 1)), .null, .null] [] h1 = some (some (.int v), h2) := b
  have fa := ev_fr a
  have fb := ev_fr b
  have q1 : h1 400 = h 400 := fa 400 (by omega)
  have q2 : h1 401 0 = nI N := by rw [fa 401 (by omega)]; exact hN
  have c0 : (nI N).toNatClampNeg = N := nI_clamp (by omega)
  have n1 : ¬ nI (i + 1) < 0 := nI_pos (by omega)
  have c1 : (nI (i + 1)).toNatClampNeg = i + 1 := nI_clamp (by omega)
  have g1 : ¬ N ≤ i + 1 := by omega
  refine ⟨h2, ?_, R2, by rw [fb 400 (by omega), q1], by rw [fb 401 (by omega), fa 401 (by omega)]⟩
  simp only [LL, eL_law_656, eL_law_657, eL_law_658, eL_law_659, eL_law_660, eL_law_661, eL_law_662, eL_law_665, eL_law_666, eL_law_667, eL_law_668, eL_law_669, eL_law_670, eL_law_671, eL_law_674, eL_law_677, eL_law_678, hN, q1, q2, c0, nI_1, nI_p2, nI_p3, n1, c1, g1, a, b, or_self, ↓reduceIte, Option.bind_some, Option.toList_some, List.cons_append, List.nil_append]
theorem l_still (R : Rel h) (hN : h 401 0 = nI N) (hN2 : N ≤ 2048) (hi : i + 4 ≤ N) : Lk h i 679 := by
  obtain ⟨v, h1, h2, a, b, R2⟩ := s_still h R
  have a : ev mX6_still 0 [.ref 0, .null] [] h = some (some (.int v), h1) := a
  have b : ev mX7_still 0 [.ref 17, .null] [] h1 = some (some (.int v), h2) := b
  have fa := ev_fr a
  have fb := ev_fr b
  have q1 : h1 400 = h 400 := fa 400 (by omega)
  have q2 : h1 401 0 = nI N := by rw [fa 401 (by omega)]; exact hN
  have c0 : (nI N).toNatClampNeg = N := nI_clamp (by omega)
  refine ⟨h2, ?_, R2, by rw [fb 400 (by omega), q1], by rw [fb 401 (by omega), fa 401 (by omega)]⟩
  simp only [LL, eL_law_679, eL_law_680, eL_law_683, eL_law_684, eL_law_687, eL_law_690, eL_law_691, hN, q1, q2, c0, nI_1, nI_p2, nI_p3, a, b, or_self, ↓reduceIte, Option.bind_some, Option.toList_some, List.cons_append, List.nil_append]
theorem l_keep (R : Rel h) (hN : h 401 0 = nI N) (hN2 : N ≤ 2048) (hi : i + 4 ≤ N) : Lk h i 692 := by
  obtain ⟨v, h1, h2, a, b, R2⟩ := (show Sim [.int (h 400 (i + 1)), .null, .null, .null] [.int (h 400 (i + 1)), .null, .null, .null, .null] mX6_keep mX7_keep from s_keep) h R
  have a : ev mX6_keep 0 [.ref 0, .int (h 400 (i + 1)), .null, .null, .null] [] h = some (some (.int v), h1) := a
  have b : ev mX7_keep 0 [.ref 17, .int (h 400 (i + 1)), .null, .null, .null, .null] [] h1 = some (some (.int v), h2) := b
  have fa := ev_fr a
  have fb := ev_fr b
  have q1 : h1 400 = h 400 := fa 400 (by omega)
  have q2 : h1 401 0 = nI N := by rw [fa 401 (by omega)]; exact hN
  have c0 : (nI N).toNatClampNeg = N := nI_clamp (by omega)
  have n1 : ¬ nI (i + 1) < 0 := nI_pos (by omega)
  have c1 : (nI (i + 1)).toNatClampNeg = i + 1 := nI_clamp (by omega)
  have g1 : ¬ N ≤ i + 1 := by omega
  refine ⟨h2, ?_, R2, by rw [fb 400 (by omega), q1], by rw [fb 401 (by omega), fa 401 (by omega)]⟩
  simp only [LL, eL_law_692, eL_law_693, eL_law_694, eL_law_695, eL_law_696, eL_law_697, eL_law_698, eL_law_701, eL_law_702, eL_law_703, eL_law_704, eL_law_705, eL_law_706, eL_law_707, eL_law_710, eL_law_713, eL_law_714, hN, q1, q2, c0, nI_1, nI_p2, nI_p3, n1, c1, g1, a, b, or_self, ↓reduceIte, Option.bind_some, Option.toList_some, List.cons_append, List.nil_append]
theorem l_deep (R : Rel h) (hN : h 401 0 = nI N) (hN2 : N ≤ 2048) (hi : i + 4 ≤ N) : Lk h i 715 := by
  obtain ⟨v, h1, h2, a, b, R2⟩ := (show Sim [.int (h 400 (i + 1)), .int (h 400 (i + 1 + 1)), .null, .null] [.int (h 400 (i + 1)), .int (h 400 (i + 1 + 1)), .null, .null, .null] mX6_deep mX7_deep from s_deep) h R
  have a : ev mX6_deep 0 [.ref 0, .int (h 400 (i + 1)), .int (h 400 (i + 1 + 1)), .null, .null] [] h = some (some (.int v), h1) := a
  have b : ev mX7_deep 0 [.ref 17, .int (h 400 (i + 1)), .int (h 400 (i + 1 + 1)), .null, .null, .null] [] h1 = some (some (.int v), h2) := b
  have fa := ev_fr a
  have fb := ev_fr b
  have q1 : h1 400 = h 400 := fa 400 (by omega)
  have q2 : h1 401 0 = nI N := by rw [fa 401 (by omega)]; exact hN
  have c0 : (nI N).toNatClampNeg = N := nI_clamp (by omega)
  have n1 : ¬ nI (i + 1) < 0 := nI_pos (by omega)
  have c1 : (nI (i + 1)).toNatClampNeg = i + 1 := nI_clamp (by omega)
  have g1 : ¬ N ≤ i + 1 := by omega
  have n2 : ¬ nI (i + 1 + 1) < 0 := nI_pos (by omega)
  have c2 : (nI (i + 1 + 1)).toNatClampNeg = i + 1 + 1 := nI_clamp (by omega)
  have g2 : ¬ N ≤ i + 1 + 1 := by omega
  refine ⟨h2, ?_, R2, by rw [fb 400 (by omega), q1], by rw [fb 401 (by omega), fa 401 (by omega)]⟩
  simp only [LL, eL_law_715, eL_law_716, eL_law_717, eL_law_718, eL_law_719, eL_law_720, eL_law_721, eL_law_722, eL_law_723, eL_law_724, eL_law_725, eL_law_726, eL_law_729, eL_law_730, eL_law_731, eL_law_732, eL_law_733, eL_law_734, eL_law_735, eL_law_736, eL_law_737, eL_law_738, eL_law_739, eL_law_740, eL_law_743, eL_law_746, eL_law_747, hN, q1, q2, c0, nI_1, nI_p2, nI_p3, n1, c1, g1, n2, c2, g2, a, b, or_self, ↓reduceIte, Option.bind_some, Option.toList_some, List.cons_append, List.nil_append]
theorem l_stops (R : Rel h) (hN : h 401 0 = nI N) (hN2 : N ≤ 2048) (hi : i + 4 ≤ N) : Lk h i 748 := by
  obtain ⟨v, h1, h2, a, b, R2⟩ := (show Sim [.int (h 400 (i + 1)), .int (h 400 (i + 1 + 1)), .null, .null, .null, .null, .null] [.int (h 400 (i + 1)), .int (h 400 (i + 1 + 1)), .null, .null, .null, .null, .null] mX6_stops mX7_stops from s_stops) h R
  have a : ev mX6_stops 0 [.ref 0, .int (h 400 (i + 1)), .int (h 400 (i + 1 + 1)), .null, .null, .null, .null, .null] [] h = some (some (.int v), h1) := a
  have b : ev mX7_stops 0 [.ref 17, .int (h 400 (i + 1)), .int (h 400 (i + 1 + 1)), .null, .null, .null, .null, .null] [] h1 = some (some (.int v), h2) := b
  have fa := ev_fr a
  have fb := ev_fr b
  have q1 : h1 400 = h 400 := fa 400 (by omega)
  have q2 : h1 401 0 = nI N := by rw [fa 401 (by omega)]; exact hN
  have c0 : (nI N).toNatClampNeg = N := nI_clamp (by omega)
  have n1 : ¬ nI (i + 1) < 0 := nI_pos (by omega)
  have c1 : (nI (i + 1)).toNatClampNeg = i + 1 := nI_clamp (by omega)
  have g1 : ¬ N ≤ i + 1 := by omega
  have n2 : ¬ nI (i + 1 + 1) < 0 := nI_pos (by omega)
  have c2 : (nI (i + 1 + 1)).toNatClampNeg = i + 1 + 1 := nI_clamp (by omega)
  have g2 : ¬ N ≤ i + 1 + 1 := by omega
  refine ⟨h2, ?_, R2, by rw [fb 400 (by omega), q1], by rw [fb 401 (by omega), fa 401 (by omega)]⟩
  simp only [LL, eL_law_748, eL_law_749, eL_law_750, eL_law_751, eL_law_752, eL_law_753, eL_law_754, eL_law_755, eL_law_756, eL_law_757, eL_law_758, eL_law_759, eL_law_762, eL_law_763, eL_law_764, eL_law_765, eL_law_766, eL_law_767, eL_law_768, eL_law_769, eL_law_770, eL_law_771, eL_law_772, eL_law_773, eL_law_776, eL_law_779, eL_law_780, hN, q1, q2, c0, nI_1, nI_p2, nI_p3, n1, c1, g1, n2, c2, g2, a, b, or_self, ↓reduceIte, Option.bind_some, Option.toList_some, List.cons_append, List.nil_append]
theorem l_care (R : Rel h) (hN : h 401 0 = nI N) (hN2 : N ≤ 2048) (hi : i + 4 ≤ N) : Lk h i 781 := by
  obtain ⟨v, h1, h2, a, b, R2⟩ := (show Sim [.int (h 400 (i + 1)), .null] [.int (h 400 (i + 1)), .null, .null] mX6_care mX7_care from s_care) h R
  have a : ev mX6_care 0 [.ref 0, .int (h 400 (i + 1)), .null] [] h = some (some (.int v), h1) := a
  have b : ev mX7_care 0 [.ref 17, .int (h 400 (i + 1)), .null, .null] [] h1 = some (some (.int v), h2) := b
  have fa := ev_fr a
  have fb := ev_fr b
  have q1 : h1 400 = h 400 := fa 400 (by omega)
  have q2 : h1 401 0 = nI N := by rw [fa 401 (by omega)]; exact hN
  have c0 : (nI N).toNatClampNeg = N := nI_clamp (by omega)
  have n1 : ¬ nI (i + 1) < 0 := nI_pos (by omega)
  have c1 : (nI (i + 1)).toNatClampNeg = i + 1 := nI_clamp (by omega)
  have g1 : ¬ N ≤ i + 1 := by omega
  refine ⟨h2, ?_, R2, by rw [fb 400 (by omega), q1], by rw [fb 401 (by omega), fa 401 (by omega)]⟩
  simp only [LL, eL_law_781, eL_law_782, eL_law_783, eL_law_784, eL_law_785, eL_law_786, eL_law_787, eL_law_790, eL_law_791, eL_law_792, eL_law_793, eL_law_794, eL_law_795, eL_law_796, eL_law_799, eL_law_802, eL_law_803, hN, q1, q2, c0, nI_1, nI_p2, nI_p3, n1, c1, g1, a, b, or_self, ↓reduceIte, Option.bind_some, Option.toList_some, List.cons_append, List.nil_append]
theorem l_holdsUp (R : Rel h) (hN : h 401 0 = nI N) (hN2 : N ≤ 2048) (hi : i + 4 ≤ N) : Lk h i 804 := by
  obtain ⟨v, h1, h2, a, b, R2⟩ := (show Sim [.int (h 400 (i + 1)), .null, .null, .null, .null] [.int (h 400 (i + 1)), .null, .null, .null, .null] mX6_holdsUp mX7_holdsUp from s_holdsUp) h R
  have a : ev mX6_holdsUp 0 [.ref 0, .int (h 400 (i + 1)), .null, .null, .null, .null] [] h = some (some (.int v), h1) := a
  have b : ev mX7_holdsUp 0 [.ref 17, .int (h 400 (i + 1)), .null, .null, .null, .null] [] h1 = some (some (.int v), h2) := b
  have fa := ev_fr a
  have fb := ev_fr b
  have q1 : h1 400 = h 400 := fa 400 (by omega)
  have q2 : h1 401 0 = nI N := by rw [fa 401 (by omega)]; exact hN
  have c0 : (nI N).toNatClampNeg = N := nI_clamp (by omega)
  have n1 : ¬ nI (i + 1) < 0 := nI_pos (by omega)
  have c1 : (nI (i + 1)).toNatClampNeg = i + 1 := nI_clamp (by omega)
  have g1 : ¬ N ≤ i + 1 := by omega
  refine ⟨h2, ?_, R2, by rw [fb 400 (by omega), q1], by rw [fb 401 (by omega), fa 401 (by omega)]⟩
  simp only [LL, eL_law_804, eL_law_805, eL_law_806, eL_law_807, eL_law_808, eL_law_809, eL_law_810, eL_law_813, eL_law_814, eL_law_815, eL_law_816, eL_law_817, eL_law_818, eL_law_819, eL_law_822, eL_law_825, eL_law_826, hN, q1, q2, c0, nI_1, nI_p2, nI_p3, n1, c1, g1, a, b, or_self, ↓reduceIte, Option.bind_some, Option.toList_some, List.cons_append, List.nil_append]
theorem l_middle (R : Rel h) (hN : h 401 0 = nI N) (hN2 : N ≤ 2048) (hi : i + 4 ≤ N) : Lk h i 827 := by
  obtain ⟨v, h1, h2, a, b, R2⟩ := s_middle h R
  have a : ev mX6_middle 0 [.ref 0, .null, .null, .null] [] h = some (some (.int v), h1) := a
  have b : ev mX7_middle 0 [.ref 17, .null, .null] [] h1 = some (some (.int v), h2) := b
  have fa := ev_fr a
  have fb := ev_fr b
  have q1 : h1 400 = h 400 := fa 400 (by omega)
  have q2 : h1 401 0 = nI N := by rw [fa 401 (by omega)]; exact hN
  have c0 : (nI N).toNatClampNeg = N := nI_clamp (by omega)
  refine ⟨h2, ?_, R2, by rw [fb 400 (by omega), q1], by rw [fb 401 (by omega), fa 401 (by omega)]⟩
  simp only [LL, eL_law_827, eL_law_828, eL_law_831, eL_law_832, eL_law_835, eL_law_838, eL_law_839, hN, q1, q2, c0, nI_1, nI_p2, nI_p3, a, b, or_self, ↓reduceIte, Option.bind_some, Option.toList_some, List.cons_append, List.nil_append]
theorem l_cutOff (R : Rel h) (hN : h 401 0 = nI N) (hN2 : N ≤ 2048) (hi : i + 4 ≤ N) : Lk h i 840 := by
  obtain ⟨v, h1, h2, a, b, R2⟩ := s_cutOff h R
  have a : ev mX6_cutOff 0 [.ref 0] [] h = some (some (.int v), h1) := a
  have b : ev mX7_cutOff 0 [.ref 17] [] h1 = some (some (.int v), h2) := b
  have fa := ev_fr a
  have fb := ev_fr b
  have q1 : h1 400 = h 400 := fa 400 (by omega)
  have q2 : h1 401 0 = nI N := by rw [fa 401 (by omega)]; exact hN
  have c0 : (nI N).toNatClampNeg = N := nI_clamp (by omega)
  refine ⟨h2, ?_, R2, by rw [fb 400 (by omega), q1], by rw [fb 401 (by omega), fa 401 (by omega)]⟩
  simp only [LL, eL_law_840, eL_law_841, eL_law_844, eL_law_845, eL_law_848, eL_law_851, eL_law_852, hN, q1, q2, c0, nI_1, nI_p2, nI_p3, a, b, or_self, ↓reduceIte, Option.bind_some, Option.toList_some, List.cons_append, List.nil_append]
theorem l_bestPin (R : Rel h) (hN : h 401 0 = nI N) (hN2 : N ≤ 2048) (hi : i + 4 ≤ N) : Lk h i 853 := by
  obtain ⟨v, h1, h2, a, b, R2⟩ := (show Sim [.int (h 400 (i + 1)), .null, .null] [.int (h 400 (i + 1)), .null, .null] mX6_bestPin mX7_bestPin from s_bestPin) h R
  have a : ev mX6_bestPin 0 [.ref 0, .int (h 400 (i + 1)), .null, .null] [] h = some (some (.int v), h1) := a
  have b : ev mX7_bestPin 0 [.ref 17, .int (h 400 (i + 1)), .null, .null] [] h1 = some (some (.int v), h2) := b
  have fa := ev_fr a
  have fb := ev_fr b
  have q1 : h1 400 = h 400 := fa 400 (by omega)
  have q2 : h1 401 0 = nI N := by rw [fa 401 (by omega)]; exact hN
  have c0 : (nI N).toNatClampNeg = N := nI_clamp (by omega)
  have n1 : ¬ nI (i + 1) < 0 := nI_pos (by omega)
  have c1 : (nI (i + 1)).toNatClampNeg = i + 1 := nI_clamp (by omega)
  have g1 : ¬ N ≤ i + 1 := by omega
  refine ⟨h2, ?_, R2, by rw [fb 400 (by omega), q1], by rw [fb 401 (by omega), fa 401 (by omega)]⟩
  simp only [LL, eL_law_853, eL_law_854, eL_law_855, eL_law_856, eL_law_857, eL_law_858, eL_law_859, eL_law_862, eL_law_863, eL_law_864, eL_law_865, eL_law_866, eL_law_867, eL_law_868, eL_law_871, eL_law_874, eL_law_875, hN, q1, q2, c0, nI_1, nI_p2, nI_p3, n1, c1, g1, a, b, or_self, ↓reduceIte, Option.bind_some, Option.toList_some, List.cons_append, List.nil_append]
theorem l_worst (R : Rel h) (hN : h 401 0 = nI N) (hN2 : N ≤ 2048) (hi : i + 4 ≤ N) : Lk h i 876 := by
  obtain ⟨v, h1, h2, a, b, R2⟩ := s_worst h R
  have a : ev mX6_worst 0 [.ref 0, .null, .null] [] h = some (some (.int v), h1) := a
  have b : ev mX7_worst 0 [.ref 17, .null, .null] [] h1 = some (some (.int v), h2) := b
  have fa := ev_fr a
  have fb := ev_fr b
  have q1 : h1 400 = h 400 := fa 400 (by omega)
  have q2 : h1 401 0 = nI N := by rw [fa 401 (by omega)]; exact hN
  have c0 : (nI N).toNatClampNeg = N := nI_clamp (by omega)
  refine ⟨h2, ?_, R2, by rw [fb 400 (by omega), q1], by rw [fb 401 (by omega), fa 401 (by omega)]⟩
  simp only [LL, eL_law_876, eL_law_877, eL_law_880, eL_law_881, eL_law_884, eL_law_887, eL_law_888, hN, q1, q2, c0, nI_1, nI_p2, nI_p3, a, b, or_self, ↓reduceIte, Option.bind_some, Option.toList_some, List.cons_append, List.nil_append]
theorem l_which (R : Rel h) (hN : h 401 0 = nI N) (hN2 : N ≤ 2048) (hi : i + 4 ≤ N) : Lk h i 889 := by
  obtain ⟨v, h1, h2, a, b, R2⟩ := (show Sim [.int (h 400 (i + 1)), .int (h 400 (i + 1 + 1))] [.int (h 400 (i + 1)), .int (h 400 (i + 1 + 1)), .null, .null] mX6_which mX7_which from s_which) h R
  have a : ev mX6_which 0 [.ref 0, .int (h 400 (i + 1)), .int (h 400 (i + 1 + 1))] [] h = some (some (.int v), h1) := a
  have b : ev mX7_which 0 [.ref 17, .int (h 400 (i + 1)), .int (h 400 (i + 1 + 1)), .null, .null] [] h1 = some (some (.int v), h2) := b
  have fa := ev_fr a
  have fb := ev_fr b
  have q1 : h1 400 = h 400 := fa 400 (by omega)
  have q2 : h1 401 0 = nI N := by rw [fa 401 (by omega)]; exact hN
  have c0 : (nI N).toNatClampNeg = N := nI_clamp (by omega)
  have n1 : ¬ nI (i + 1) < 0 := nI_pos (by omega)
  have c1 : (nI (i + 1)).toNatClampNeg = i + 1 := nI_clamp (by omega)
  have g1 : ¬ N ≤ i + 1 := by omega
  have n2 : ¬ nI (i + 1 + 1) < 0 := nI_pos (by omega)
  have c2 : (nI (i + 1 + 1)).toNatClampNeg = i + 1 + 1 := nI_clamp (by omega)
  have g2 : ¬ N ≤ i + 1 + 1 := by omega
  refine ⟨h2, ?_, R2, by rw [fb 400 (by omega), q1], by rw [fb 401 (by omega), fa 401 (by omega)]⟩
  simp only [LL, eL_law_889, eL_law_890, eL_law_891, eL_law_892, eL_law_893, eL_law_894, eL_law_895, eL_law_896, eL_law_897, eL_law_898, eL_law_899, eL_law_900, eL_law_903, eL_law_904, eL_law_905, eL_law_906, eL_law_907, eL_law_908, eL_law_909, eL_law_910, eL_law_911, eL_law_912, eL_law_913, eL_law_914, eL_law_917, eL_law_920, eL_law_921, hN, q1, q2, c0, nI_1, nI_p2, nI_p3, n1, c1, g1, n2, c2, g2, a, b, or_self, ↓reduceIte, Option.bind_some, Option.toList_some, List.cons_append, List.nil_append]
theorem l_row (R : Rel h) (hN : h 401 0 = nI N) (hN2 : N ≤ 2048) (hi : i + 4 ≤ N) : Lk h i 922 := by
  obtain ⟨v, h1, h2, a, b, R2⟩ := (show Sim [.int (h 400 (i + 1)), .null] [.int (h 400 (i + 1))] mX6_row mX7_row from s_row) h R
  have a : ev mX6_row 0 [.ref 0, .int (h 400 (i + 1)), .null] [] h = some (some (.int v), h1) := a
  have b : ev mX7_row 0 [.ref 17, .int (h 400 (i + 1))] [] h1 = some (some (.int v), h2) := b
  have fa := ev_fr a
  have fb := ev_fr b
  have q1 : h1 400 = h 400 := fa 400 (by omega)
  have q2 : h1 401 0 = nI N := by rw [fa 401 (by omega)]; exact hN
  have c0 : (nI N).toNatClampNeg = N := nI_clamp (by omega)
  have n1 : ¬ nI (i + 1) < 0 := nI_pos (by omega)
  have c1 : (nI (i + 1)).toNatClampNeg = i + 1 := nI_clamp (by omega)
  have g1 : ¬ N ≤ i + 1 := by omega
  refine ⟨h2, ?_, R2, by rw [fb 400 (by omega), q1], by rw [fb 401 (by omega), fa 401 (by omega)]⟩
  simp only [LL, eL_law_922, eL_law_923, eL_law_924, eL_law_925, eL_law_926, eL_law_927, eL_law_928, eL_law_931, eL_law_932, eL_law_933, eL_law_934, eL_law_935, eL_law_936, eL_law_937, eL_law_940, eL_law_943, eL_law_944, hN, q1, q2, c0, nI_1, nI_p2, nI_p3, n1, c1, g1, a, b, or_self, ↓reduceIte, Option.bind_some, Option.toList_some, List.cons_append, List.nil_append]
theorem l_judge (R : Rel h) (hN : h 401 0 = nI N) (hN2 : N ≤ 2048) (hi : i + 4 ≤ N) : Lk h i 945 := by
  obtain ⟨v, h1, h2, a, b, R2⟩ := (show Sim [.int (h 400 (i + 1)), .null] [.int (h 400 (i + 1)), .null] mX6_judge mX7_judge from s_judge) h R
  have a : ev mX6_judge 0 [.ref 0, .int (h 400 (i + 1)), .null] [] h = some (some (.int v), h1) := a
  have b : ev mX7_judge 0 [.ref 17, .int (h 400 (i + 1)), .null] [] h1 = some (some (.int v), h2) := b
  have fa := ev_fr a
  have fb := ev_fr b
  have q1 : h1 400 = h 400 := fa 400 (by omega)
  have q2 : h1 401 0 = nI N := by rw [fa 401 (by omega)]; exact hN
  have c0 : (nI N).toNatClampNeg = N := nI_clamp (by omega)
  have n1 : ¬ nI (i + 1) < 0 := nI_pos (by omega)
  have c1 : (nI (i + 1)).toNatClampNeg = i + 1 := nI_clamp (by omega)
  have g1 : ¬ N ≤ i + 1 := by omega
  refine ⟨h2, ?_, R2, by rw [fb 400 (by omega), q1], by rw [fb 401 (by omega), fa 401 (by omega)]⟩
  simp only [LL, eL_law_945, eL_law_946, eL_law_947, eL_law_948, eL_law_949, eL_law_950, eL_law_951, eL_law_954, eL_law_955, eL_law_956, eL_law_957, eL_law_958, eL_law_959, eL_law_960, eL_law_963, eL_law_966, eL_law_967, hN, q1, q2, c0, nI_1, nI_p2, nI_p3, n1, c1, g1, a, b, or_self, ↓reduceIte, Option.bind_some, Option.toList_some, List.cons_append, List.nil_append]
theorem l_lots (R : Rel h) (hN : h 401 0 = nI N) (hN2 : N ≤ 2048) (hi : i + 4 ≤ N) : Lk h i 968 := by
  obtain ⟨v, h1, h2, a, b, R2⟩ := (show Sim [.int (h 400 (i + 1)), .int (h 400 (i + 1 + 1)), .int (h 400 (i + 1 + 1 + 1)), .null, .null, .null, .null, .null] [.int (h 400 (i + 1)), .int (h 400 (i + 1 + 1)), .int (h 400 (i + 1 + 1 + 1)), .null, .null, .null] mX6_lots mX7_lots from s_lots) h R
  have a : ev mX6_lots 0 [.ref 0, .int (h 400 (i + 1)), .int (h 400 (i + 1 + 1)), .int (h 400 (i + 1 + 1 + 1)), .null, .null, .null, .null, .null] [] h = some (some (.int v), h1) := a
  have b : ev mX7_lots 0 [.ref 17, .int (h 400 (i + 1)), .int (h 400 (i + 1 + 1)), .int (h 400 (i + 1 + 1 + 1)), .null, .null, .null] [] h1 = some (some (.int v), h2) := b
  have fa := ev_fr a
  have fb := ev_fr b
  have q1 : h1 400 = h 400 := fa 400 (by omega)
  have q2 : h1 401 0 = nI N := by rw [fa 401 (by omega)]; exact hN
  have c0 : (nI N).toNatClampNeg = N := nI_clamp (by omega)
  have n1 : ¬ nI (i + 1) < 0 := nI_pos (by omega)
  have c1 : (nI (i + 1)).toNatClampNeg = i + 1 := nI_clamp (by omega)
  have g1 : ¬ N ≤ i + 1 := by omega
  have n2 : ¬ nI (i + 1 + 1) < 0 := nI_pos (by omega)
  have c2 : (nI (i + 1 + 1)).toNatClampNeg = i + 1 + 1 := nI_clamp (by omega)
  have g2 : ¬ N ≤ i + 1 + 1 := by omega
  have n3 : ¬ nI (i + 1 + 1 + 1) < 0 := nI_pos (by omega)
  have c3 : (nI (i + 1 + 1 + 1)).toNatClampNeg = i + 1 + 1 + 1 := nI_clamp (by omega)
  have g3 : ¬ N ≤ i + 1 + 1 + 1 := by omega
  refine ⟨h2, ?_, R2, by rw [fb 400 (by omega), q1], by rw [fb 401 (by omega), fa 401 (by omega)]⟩
  simp only [LL, eL_law_968, eL_law_969, eL_law_970, eL_law_971, eL_law_972, eL_law_973, eL_law_974, eL_law_975, eL_law_976, eL_law_977, eL_law_978, eL_law_979, eL_law_980, eL_law_981, eL_law_982, eL_law_983, eL_law_984, eL_law_987, eL_law_988, eL_law_989, eL_law_990, eL_law_991, eL_law_992, eL_law_993, eL_law_994, eL_law_995, eL_law_996, eL_law_997, eL_law_998, eL_law_999, eL_law_1000, eL_law_1001, eL_law_1002, eL_law_1003, eL_law_1006, eL_law_1009, eL_law_1010, hN, q1, q2, c0, nI_1, nI_p2, nI_p3, n1, c1, g1, n2, c2, g2, n3, c3, g3, a, b, or_self, ↓reduceIte, Option.bind_some, Option.toList_some, List.cons_append, List.nil_append]
theorem l_image (R : Rel h) (hN : h 401 0 = nI N) (hN2 : N ≤ 2048) (hi : i + 4 ≤ N) : Lk h i 1011 := by
  obtain ⟨v, h1, h2, a, b, R2⟩ := s_image h R
  have a : ev mX6_image 0 [.ref 0] [] h = some (some (.int v), h1) := a
  have b : ev mX7_image 0 [.ref 17] [] h1 = some (some (.int v), h2) := b
  have fa := ev_fr a
  have fb := ev_fr b
  have q1 : h1 400 = h 400 := fa 400 (by omega)
  have q2 : h1 401 0 = nI N := by rw [fa 401 (by omega)]; exact hN
  have c0 : (nI N).toNatClampNeg = N := nI_clamp (by omega)
  refine ⟨h2, ?_, R2, by rw [fb 400 (by omega), q1], by rw [fb 401 (by omega), fa 401 (by omega)]⟩
  simp only [LL, eL_law_1011, eL_law_1012, eL_law_1015, eL_law_1016, eL_law_1019, eL_law_1022, eL_law_1023, hN, q1, q2, c0, nI_1, nI_p2, nI_p3, a, b, or_self, ↓reduceIte, Option.bind_some, Option.toList_some, List.cons_append, List.nil_append]
theorem l_on (R : Rel h) (hN : h 401 0 = nI N) (hN2 : N ≤ 2048) (hi : i + 4 ≤ N) : Lk h i 1024 := by
  obtain ⟨v, h1, h2, a, b, R2⟩ := s_on h R
  have a : ev mX6_on 0 [.ref 0] [] h = some (some (.int v), h1) := a
  have b : ev mX7_on 0 [.ref 17] [] h1 = some (some (.int v), h2) := b
  have fa := ev_fr a
  have fb := ev_fr b
  have q1 : h1 400 = h 400 := fa 400 (by omega)
  have q2 : h1 401 0 = nI N := by rw [fa 401 (by omega)]; exact hN
  have c0 : (nI N).toNatClampNeg = N := nI_clamp (by omega)
  refine ⟨h2, ?_, R2, by rw [fb 400 (by omega), q1], by rw [fb 401 (by omega), fa 401 (by omega)]⟩
  simp only [LL, eL_law_1024, eL_law_1025, eL_law_1028, eL_law_1029, eL_law_1032, eL_law_1035, eL_law_1036, hN, q1, q2, c0, nI_1, nI_p2, nI_p3, a, b, or_self, ↓reduceIte, Option.bind_some, Option.toList_some, List.cons_append, List.nil_append]
theorem l_count (R : Rel h) (hN : h 401 0 = nI N) (hN2 : N ≤ 2048) (hi : i + 4 ≤ N) : Lk h i 1037 := by
  obtain ⟨v, h1, h2, a, b, R2⟩ := (show Sim [.int (h 400 (i + 1))] [.int (h 400 (i + 1)), .null, .null] mX6_count mX7_count from s_count) h R
  have a : ev mX6_count 0 [.ref 0, .int (h 400 (i + 1))] [] h = some (some (.int v), h1) := a
  have b : ev mX7_count 0 [.ref 17, .int (h 400 (i + 1)), .null, .null] [] h1 = some (some (.int v), h2) := b
  have fa := ev_fr a
  have fb := ev_fr b
  have q1 : h1 400 = h 400 := fa 400 (by omega)
  have q2 : h1 401 0 = nI N := by rw [fa 401 (by omega)]; exact hN
  have c0 : (nI N).toNatClampNeg = N := nI_clamp (by omega)
  have n1 : ¬ nI (i + 1) < 0 := nI_pos (by omega)
  have c1 : (nI (i + 1)).toNatClampNeg = i + 1 := nI_clamp (by omega)
  have g1 : ¬ N ≤ i + 1 := by omega
  refine ⟨h2, ?_, R2, by rw [fb 400 (by omega), q1], by rw [fb 401 (by omega), fa 401 (by omega)]⟩
  simp only [LL, eL_law_1037, eL_law_1038, eL_law_1039, eL_law_1040, eL_law_1041, eL_law_1042, eL_law_1043, eL_law_1046, eL_law_1047, eL_law_1048, eL_law_1049, eL_law_1050, eL_law_1051, eL_law_1052, eL_law_1055, eL_law_1058, eL_law_1059, hN, q1, q2, c0, nI_1, nI_p2, nI_p3, n1, c1, g1, a, b, or_self, ↓reduceIte, Option.bind_some, Option.toList_some, List.cons_append, List.nil_append]
theorem law_step (R : Rel h) (hN : h 401 0 = nI N) (hN2 : N ≤ 2048) (hi : i + 4 ≤ N) : ∃ h2 : Sto, ev mL_law 18 (LL i) [] h = ev mL_law 18 (LL (i + 4)) [] h2 ∧ Rel h2 ∧ h2 400 = h 400 ∧ h2 401 = h 401 := by
  have n0 : ¬ nI i < 0 := nI_pos (by omega)
  have c0 : (nI N).toNatClampNeg = N := nI_clamp (by omega)
  have c1 : (nI i).toNatClampNeg = i := nI_clamp (by omega)
  have g0 : ¬ N ≤ i := by omega
  have e4 : nI N - 4 = nI (N - 4) := pk_sub (b := 4) (by omega)
  have lt : ¬ nI (N - 4) < nI i := nI_nlt (by omega) (by omega)
  have head : ev mL_law 18 (LL i) [] h = ev mL_law 32 (LL i) [.int (h 400 i &&& 63)] h := by
    simp only [LL, eL_law_18, eL_law_19, eL_law_20, eL_law_21, eL_law_22, eL_law_23, eL_law_26, eL_law_27, eL_law_28, eL_law_29, eL_law_31, hN, e4, lt, n0, c0, c1, g0, or_self, ↓reduceIte]
  have fin : ∀ P, Lk h i P → ∃ h2 : Sto, ev mL_law P (LL i) [] h = ev mL_law 18 (LL (i + 4)) [] h2 ∧ Rel h2 ∧ h2 400 = h 400 ∧ h2 401 = h 401 := by
    rintro P ⟨h2, a, b, c, d⟩
    refine ⟨h2, ?_, b, c, d⟩
    have s4 : nI i + 4 = nI (i + 4) := nI_add i 4
    rw [a]
    simp only [LL, eL_law_1060, eL_law_1063, s4]
  rw [head]
  generalize h 400 i &&& 63 = x
  rw [eL_law_32]
  by_cases q0 : x = 0
  · rw [if_pos q0]; exact fin _ (l_letter R hN hN2 hi)
  rw [if_neg q0]
  by_cases q1 : x = 1
  · rw [if_pos q1]; exact fin _ (l_hem R hN hN2 hi)
  rw [if_neg q1]
  by_cases q2 : x = 2
  · rw [if_pos q2]; exact fin _ (l_inch R hN hN2 hi)
  rw [if_neg q2]
  by_cases q3 : x = 3
  · rw [if_pos q3]; exact fin _ (l_turn R hN hN2 hi)
  rw [if_neg q3]
  by_cases q4 : x = 4
  · rw [if_pos q4]; exact fin _ (l_inches R hN hN2 hi)
  rw [if_neg q4]
  by_cases q5 : x = 5
  · rw [if_pos q5]; exact fin _ (l_end R hN hN2 hi)
  rw [if_neg q5]
  by_cases q6 : x = 6
  · rw [if_pos q6]; exact fin _ (l_tie R hN hN2 hi)
  rw [if_neg q6]
  by_cases q7 : x = 7
  · rw [if_pos q7]; exact fin _ (l_sew R hN hN2 hi)
  rw [if_neg q7]
  by_cases q8 : x = 8
  · rw [if_pos q8]; exact fin _ (l_set R hN hN2 hi)
  rw [if_neg q8]
  by_cases q9 : x = 9
  · rw [if_pos q9]; exact fin _ (l_pull R hN hN2 hi)
  rw [if_neg q9]
  by_cases q10 : x = 10
  · rw [if_pos q10]; exact fin _ (l_bunch R hN hN2 hi)
  rw [if_neg q10]
  by_cases q11 : x = 11
  · rw [if_pos q11]; exact fin _ (l_anew R hN hN2 hi)
  rw [if_neg q11]
  by_cases q12 : x = 12
  · rw [if_pos q12]; exact fin _ (l_wash R hN hN2 hi)
  rw [if_neg q12]
  by_cases q13 : x = 13
  · rw [if_pos q13]; exact fin _ (l_of R hN hN2 hi)
  rw [if_neg q13]
  by_cases q14 : x = 14
  · rw [if_pos q14]; exact fin _ (l_out R hN hN2 hi)
  rw [if_neg q14]
  by_cases q15 : x = 15
  · rw [if_pos q15]; exact fin _ (l_soonest R hN hN2 hi)
  rw [if_neg q15]
  by_cases q16 : x = 16
  · rw [if_pos q16]; exact fin _ (l_better R hN hN2 hi)
  rw [if_neg q16]
  by_cases q17 : x = 17
  · rw [if_pos q17]; exact fin _ (l_inIn R hN hN2 hi)
  rw [if_neg q17]
  by_cases q18 : x = 18
  · rw [if_pos q18]; exact fin _ (l_lost R hN hN2 hi)
  rw [if_neg q18]
  by_cases q19 : x = 19
  · rw [if_pos q19]; exact fin _ (l_still R hN hN2 hi)
  rw [if_neg q19]
  by_cases q20 : x = 20
  · rw [if_pos q20]; exact fin _ (l_keep R hN hN2 hi)
  rw [if_neg q20]
  by_cases q21 : x = 21
  · rw [if_pos q21]; exact fin _ (l_deep R hN hN2 hi)
  rw [if_neg q21]
  by_cases q22 : x = 22
  · rw [if_pos q22]; exact fin _ (l_stops R hN hN2 hi)
  rw [if_neg q22]
  by_cases q23 : x = 23
  · rw [if_pos q23]; exact fin _ (l_care R hN hN2 hi)
  rw [if_neg q23]
  by_cases q24 : x = 24
  · rw [if_pos q24]; exact fin _ (l_holdsUp R hN hN2 hi)
  rw [if_neg q24]
  by_cases q25 : x = 25
  · rw [if_pos q25]; exact fin _ (l_middle R hN hN2 hi)
  rw [if_neg q25]
  by_cases q26 : x = 26
  · rw [if_pos q26]; exact fin _ (l_cutOff R hN hN2 hi)
  rw [if_neg q26]
  by_cases q27 : x = 27
  · rw [if_pos q27]; exact fin _ (l_bestPin R hN hN2 hi)
  rw [if_neg q27]
  by_cases q28 : x = 28
  · rw [if_pos q28]; exact fin _ (l_worst R hN hN2 hi)
  rw [if_neg q28]
  by_cases q29 : x = 29
  · rw [if_pos q29]; exact fin _ (l_which R hN hN2 hi)
  rw [if_neg q29]
  by_cases q30 : x = 30
  · rw [if_pos q30]; exact fin _ (l_row R hN hN2 hi)
  rw [if_neg q30]
  by_cases q31 : x = 31
  · rw [if_pos q31]; exact fin _ (l_judge R hN hN2 hi)
  rw [if_neg q31]
  by_cases q32 : x = 32
  · rw [if_pos q32]; exact fin _ (l_lots R hN hN2 hi)
  rw [if_neg q32]
  by_cases q33 : x = 33
  · rw [if_pos q33]; exact fin _ (l_image R hN hN2 hi)
  rw [if_neg q33]
  by_cases q34 : x = 34
  · rw [if_pos q34]; exact fin _ (l_on R hN hN2 hi)
  rw [if_neg q34]
  by_cases q35 : x = 35
  · rw [if_pos q35]; exact fin _ (l_count R hN hN2 hi)
  rw [if_neg q35]
  exact fin 1060 ⟨h, rfl, R, rfl, rfl⟩
theorem law_loop (hN2 : N ≤ 2048) : ∀ (m i : Nat) (h : Sto), Rel h → h 401 0 = nI N → N ≤ i + 4 * m + 3 → i ≤ N → ∃ h2 : Sto, ev mL_law 18 (LL i) [] h = some (some (.int 1), h2) := by
  intro m
  induction m with
  | zero =>
    intro i h R hN hm hi
    refine ⟨h, ?_⟩
    have e4 : nI N - 4 < nI i := by
      rw [t_lt, show (4 : Int32) = nI 4 from rfl, pk_sub_toInt (by omega) (by omega), t_nI (by omega)]
      omega
    simp [LL, eL_law_18, eL_law_19, eL_law_20, eL_law_21, eL_law_22, eL_law_23, eL_law_1066, eL_law_1067, hN, e4]
  | succ m ih =>
    intro i h R hN hm hi
    by_cases h4 : i + 4 ≤ N
    · obtain ⟨h2, a, b, c, d⟩ := law_step R hN hN2 h4
      obtain ⟨h3, k⟩ := ih (i + 4) h2 b (by rw [d]; exact hN) (by omega) h4
      exact ⟨h3, by rw [a]; exact k⟩
    · refine ⟨h, ?_⟩
      have e4 : nI N - 4 < nI i := by
        rw [t_lt, show (4 : Int32) = nI 4 from rfl, pk_sub_toInt (by omega) (by omega), t_nI (by omega)]
        omega
      simp [LL, eL_law_18, eL_law_19, eL_law_20, eL_law_21, eL_law_22, eL_law_23, eL_law_1066, eL_law_1067, hN, e4]
theorem law_all (L : Nat) (xs : Nat → Int32) (hL : L ≤ 2048) : ∃ h2 : Sto, ev mL_law 18 [.ref 400, .ref 0, .ref 17, .int 0] [] (sto0 L xs) = some (some (.int 1), h2) := by
  have k := law_loop (N := L) hL L 0 (sto0 L xs) (rel0 L xs) rfl (by omega) (Nat.zero_le _)
  rw [show LL 0 = [.ref 400, .ref 0, .ref 17, .int 0] from rfl] at k
  exact k
end LAW

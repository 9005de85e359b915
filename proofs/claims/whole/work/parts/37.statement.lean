section STMT
variable {h h' g : Sto} {w : Nat → Nat} {n p k q : Nat}
def NB (w : Nat → Nat) (p : Nat) (h' : Sto) : Prop := (w p = 110 ∨ w p = 119 → h' 26 0 = nI (num2 w (p + 1))) ∧ (w p = 105 → h' 26 0 = kdN (nI (w (p + 1))) ∧ h' 26 1 = nI (num2 w (p + 1 + 1)) ∧ h' 26 2 = nI (num1 w (p + 1 + 1 + 1 + 1))) ∧ (w p = 101 → h' 26 0 = nI (num1 w (p + 1)) ∧ h' 26 1 = sgv w (p + 1 + 1)) ∧ (w p = 107 → h' 26 0 = nI (num1 w (p + 1))) ∧ (w p = 112 → h' 26 0 = nI (num1 w (p + 1)) ∧ h' 26 1 = nI (num1 w (p + 1 + 1)))
def RS (h : Sto) (n : Nat) (w : Nat → Nat) (p : Nat) : Prop := ∃ h' : Sto, ev mX7_readsStatement 0 [.ref 17, .null, .null] [] h = some (some (.int (if (stN w n p).2 = true then 1 else 0)), h') ∧ h' 17 12 = nI (stN w n p).1 ∧ ((stN w n p).2 = true → NB w p h') ∧ Fr h h'
theorem RS_t (hs : stN w n p = (q, true)) (a : ev mX7_readsStatement 0 [.ref 17, .null, .null] [] h = some (some (.int 1), g)) (b : g 17 12 = nI q) (c : NB w p g) (d : Fr h g) : RS h n w p := by
  refine ⟨g, ?_, ?_, fun _ => c, d⟩
  · rw [hs, if_pos rfl]; exact a
  · rw [hs]; exact b
theorem RS_f (hs : stN w n p = (q, false)) (a : ev mX7_readsStatement 0 [.ref 17, .null, .null] [] h = some (some (.int 0), g)) (b : g 17 12 = nI q) (d : Fr h g) : RS h n w p := by
  refine ⟨g, ?_, ?_, ?_, d⟩
  · rw [hs, if_neg (show ¬ (q, false).2 = true from Bool.false_ne_true)]; exact a
  · rw [hs]; exact b
  · rw [hs]; exact fun z => absurd z Bool.false_ne_true
theorem sc0 {q : Nat} : scI w n 0 3 0 q = if Tk w n 35 q then (if Tk w n 35 (q + 1) then (if Tk w n 59 (q + 1 + 1) then (q + 1 + 1 + 1, true) else (q + 1 + 1, false)) else (q + 1, false)) else (q, false) := rfl
theorem sc1 {q : Nat} : scI w n 1 5 0 q = if Tk w n 107 q then (if Tk w n 35 (q + 1) then (if Tk w n 35 (q + 1 + 1) then (if Tk w n 35 (q + 1 + 1 + 1) then (if Tk w n 59 (q + 1 + 1 + 1 + 1) then (q + 1 + 1 + 1 + 1 + 1, true) else (q + 1 + 1 + 1 + 1, false)) else (q + 1 + 1 + 1, false)) else (q + 1 + 1, false)) else (q + 1, false)) else (q, false) := rfl
theorem sc2 {q : Nat} : scI w n 2 5 0 q = if Tk w n 35 q then (if Tk w n 43 (q + 1) then (if Tk w n 35 (q + 1 + 1) then (if Tk w n 35 (q + 1 + 1 + 1) then (if Tk w n 59 (q + 1 + 1 + 1 + 1) then (q + 1 + 1 + 1 + 1 + 1, true) else (q + 1 + 1 + 1 + 1, false)) else (q + 1 + 1 + 1, false)) else (q + 1 + 1, false)) else (q + 1, false)) else (q, false) := rfl
theorem sc3 {q : Nat} : scI w n 3 2 0 q = if Tk w n 35 q then (if Tk w n 59 (q + 1) then (q + 1 + 1, true) else (q + 1, false)) else (q, false) := rfl
theorem sc4 {q : Nat} : scI w n 4 1 0 q = if Tk w n 59 q then (q + 1, true) else (q, false) := rfl
theorem rs_start (L : LM h n w) (hp : h 17 12 = nI p) (hp2 : p < n) : ev mX7_readsStatement 0 [.ref 17, .null, .null] [] h = ev mX7_readsStatement 18 [.ref 17, .int (nI (w p)), .int 1] [.int (nI (w p))] (st h 17 12 (nI (p + 1))) := by
  have l1 := L.1
  have mh := m_here L hp (by omega)
  rw [if_pos hp2] at mh
  simp [eX7_readsStatement_0, eX7_readsStatement_1, eX7_readsStatement_4, eX7_readsStatement_5, eX7_readsStatement_6, eX7_readsStatement_7, eX7_readsStatement_8, eX7_readsStatement_9, eX7_readsStatement_12, eX7_readsStatement_13, eX7_readsStatement_14, eX7_readsStatement_17, eX7_readsStatement_108, eX7_readsStatement_109, eX7_readsStatement_110, eX7_readsStatement_111, eX7_readsStatement_114, eX7_readsStatement_115, eX7_readsStatement_118, eX7_readsStatement_119, eX7_readsStatement_122, eX7_readsStatement_125, eX7_readsStatement_126, eX7_readsStatement_127, eX7_readsStatement_128, eX7_readsStatement_131, eX7_readsStatement_134, eX7_readsStatement_135, eX7_readsStatement_136, eX7_readsStatement_137, eX7_readsStatement_140, eX7_readsStatement_143, eX7_readsStatement_144, eX7_readsStatement_147, eX7_readsStatement_148, eX7_readsStatement_149, eX7_readsStatement_152, eX7_readsStatement_153, eX7_readsStatement_154, eX7_readsStatement_155, eX7_readsStatement_158, eX7_readsStatement_161, eX7_readsStatement_162, eX7_readsStatement_165, eX7_readsStatement_168, eX7_readsStatement_169, eX7_readsStatement_172, eX7_readsStatement_173, eX7_readsStatement_174, eX7_readsStatement_177, eX7_readsStatement_178, eX7_readsStatement_179, eX7_readsStatement_180, eX7_readsStatement_183, eX7_readsStatement_184, eX7_readsStatement_187, eX7_readsStatement_190, eX7_readsStatement_191, eX7_readsStatement_192, eX7_readsStatement_193, eX7_readsStatement_196, eX7_readsStatement_199, eX7_readsStatement_200, eX7_readsStatement_201, eX7_readsStatement_202, eX7_readsStatement_205, eX7_readsStatement_208, eX7_readsStatement_209, eX7_readsStatement_212, eX7_readsStatement_213, eX7_readsStatement_214, eX7_readsStatement_217, eX7_readsStatement_218, eX7_readsStatement_219, eX7_readsStatement_222, eX7_readsStatement_223, eX7_readsStatement_224, eX7_readsStatement_227, eX7_readsStatement_228, eX7_readsStatement_230, eX7_readsStatement_233, eX7_readsStatement_234, eX7_readsStatement_237, eX7_readsStatement_239, eX7_readsStatement_242, eX7_readsStatement_243, eX7_readsStatement_244, eX7_readsStatement_245, eX7_readsStatement_246, eX7_readsStatement_249, eX7_readsStatement_250, eX7_readsStatement_251, eX7_readsStatement_254, eX7_readsStatement_255, mh, hp, nI_1]
theorem rs_bad (L : LM h n w) (hp : h 17 12 = nI p) (hp2 : p ≤ n) (hc : ¬ (p < n ∧ fiN (nI (w p)) ≠ 5)) : RS h n w p := by
  have l1 := L.1
  have hs : stN w n p = (p, false) := by unfold stN; rw [if_neg hc]
  have mh := m_here L hp (by omega)
  refine RS_f hs (g := st (st h 17 12 (nI (p + 1))) 17 12 (nI p)) ?_ (by rw [st_at, if_pos ⟨rfl, rfl⟩]) (Fr.pl.trans Fr.pl)
  have pr : nI (p + 1) - 1 = nI p := nI_pred p
  by_cases c : p < n
  · have f5 : fiN (nI (w p)) = 5 := by
      by_cases z : fiN (nI (w p)) = 5
      · exact z
      · exact absurd ⟨c, z⟩ hc
    rw [if_pos c] at mh
    generalize nI (w p) = x at *
    have x1 : ¬ x = 101 := fun z => by rw [z] at f5; exact absurd f5 (by decide)
    have x2 : ¬ x = 105 := fun z => by rw [z] at f5; exact absurd f5 (by decide)
    have x3 : ¬ x = 107 := fun z => by rw [z] at f5; exact absurd f5 (by decide)
    have x4 : ¬ x = 110 := fun z => by rw [z] at f5; exact absurd f5 (by decide)
    have x5 : ¬ x = 112 := fun z => by rw [z] at f5; exact absurd f5 (by decide)
    have x6 : ¬ x = 115 := fun z => by rw [z] at f5; exact absurd f5 (by decide)
    have x7 : ¬ x = 119 := fun z => by rw [z] at f5; exact absurd f5 (by decide)
    simp [eX7_readsStatement_0, eX7_readsStatement_1, eX7_readsStatement_4, eX7_readsStatement_5, eX7_readsStatement_6, eX7_readsStatement_7, eX7_readsStatement_8, eX7_readsStatement_9, eX7_readsStatement_12, eX7_readsStatement_13, eX7_readsStatement_14, eX7_readsStatement_17, eX7_readsStatement_18, eX7_readsStatement_108, eX7_readsStatement_109, eX7_readsStatement_110, eX7_readsStatement_111, eX7_readsStatement_114, eX7_readsStatement_115, eX7_readsStatement_118, eX7_readsStatement_119, eX7_readsStatement_122, eX7_readsStatement_125, eX7_readsStatement_126, eX7_readsStatement_127, eX7_readsStatement_128, eX7_readsStatement_131, eX7_readsStatement_134, eX7_readsStatement_135, eX7_readsStatement_136, eX7_readsStatement_137, eX7_readsStatement_140, eX7_readsStatement_143, eX7_readsStatement_144, eX7_readsStatement_147, eX7_readsStatement_148, eX7_readsStatement_149, eX7_readsStatement_152, eX7_readsStatement_153, eX7_readsStatement_154, eX7_readsStatement_155, eX7_readsStatement_158, eX7_readsStatement_161, eX7_readsStatement_162, eX7_readsStatement_165, eX7_readsStatement_168, eX7_readsStatement_169, eX7_readsStatement_172, eX7_readsStatement_173, eX7_readsStatement_174, eX7_readsStatement_177, eX7_readsStatement_178, eX7_readsStatement_179, eX7_readsStatement_180, eX7_readsStatement_183, eX7_readsStatement_184, eX7_readsStatement_187, eX7_readsStatement_190, eX7_readsStatement_191, eX7_readsStatement_192, eX7_readsStatement_193, eX7_readsStatement_196, eX7_readsStatement_199, eX7_readsStatement_200, eX7_readsStatement_201, eX7_readsStatement_202, eX7_readsStatement_205, eX7_readsStatement_208, eX7_readsStatement_209, eX7_readsStatement_212, eX7_readsStatement_213, eX7_readsStatement_214, eX7_readsStatement_217, eX7_readsStatement_218, eX7_readsStatement_219, eX7_readsStatement_222, eX7_readsStatement_223, eX7_readsStatement_224, eX7_readsStatement_227, eX7_readsStatement_228, eX7_readsStatement_230, eX7_readsStatement_233, eX7_readsStatement_234, eX7_readsStatement_237, eX7_readsStatement_239, eX7_readsStatement_242, eX7_readsStatement_243, eX7_readsStatement_244, eX7_readsStatement_245, eX7_readsStatement_246, eX7_readsStatement_249, eX7_readsStatement_250, eX7_readsStatement_251, eX7_readsStatement_254, eX7_readsStatement_255, mh, hp, nI_1, x1, x2, x3, x4, x5, x6, x7, st_at, pr]
  · rw [if_neg c] at mh
    simp [eX7_readsStatement_0, eX7_readsStatement_1, eX7_readsStatement_4, eX7_readsStatement_5, eX7_readsStatement_6, eX7_readsStatement_7, eX7_readsStatement_8, eX7_readsStatement_9, eX7_readsStatement_12, eX7_readsStatement_13, eX7_readsStatement_14, eX7_readsStatement_17, eX7_readsStatement_18, eX7_readsStatement_108, eX7_readsStatement_109, eX7_readsStatement_110, eX7_readsStatement_111, eX7_readsStatement_114, eX7_readsStatement_115, eX7_readsStatement_118, eX7_readsStatement_119, eX7_readsStatement_122, eX7_readsStatement_125, eX7_readsStatement_126, eX7_readsStatement_127, eX7_readsStatement_128, eX7_readsStatement_131, eX7_readsStatement_134, eX7_readsStatement_135, eX7_readsStatement_136, eX7_readsStatement_137, eX7_readsStatement_140, eX7_readsStatement_143, eX7_readsStatement_144, eX7_readsStatement_147, eX7_readsStatement_148, eX7_readsStatement_149, eX7_readsStatement_152, eX7_readsStatement_153, eX7_readsStatement_154, eX7_readsStatement_155, eX7_readsStatement_158, eX7_readsStatement_161, eX7_readsStatement_162, eX7_readsStatement_165, eX7_readsStatement_168, eX7_readsStatement_169, eX7_readsStatement_172, eX7_readsStatement_173, eX7_readsStatement_174, eX7_readsStatement_177, eX7_readsStatement_178, eX7_readsStatement_179, eX7_readsStatement_180, eX7_readsStatement_183, eX7_readsStatement_184, eX7_readsStatement_187, eX7_readsStatement_190, eX7_readsStatement_191, eX7_readsStatement_192, eX7_readsStatement_193, eX7_readsStatement_196, eX7_readsStatement_199, eX7_readsStatement_200, eX7_readsStatement_201, eX7_readsStatement_202, eX7_readsStatement_205, eX7_readsStatement_208, eX7_readsStatement_209, eX7_readsStatement_212, eX7_readsStatement_213, eX7_readsStatement_214, eX7_readsStatement_217, eX7_readsStatement_218, eX7_readsStatement_219, eX7_readsStatement_222, eX7_readsStatement_223, eX7_readsStatement_224, eX7_readsStatement_227, eX7_readsStatement_228, eX7_readsStatement_230, eX7_readsStatement_233, eX7_readsStatement_234, eX7_readsStatement_237, eX7_readsStatement_239, eX7_readsStatement_242, eX7_readsStatement_243, eX7_readsStatement_244, eX7_readsStatement_245, eX7_readsStatement_246, eX7_readsStatement_249, eX7_readsStatement_250, eX7_readsStatement_251, eX7_readsStatement_254, eX7_readsStatement_255, mh, hp, nI_1, st_at, pr]
theorem rs_nw (L : LM h n w) (hp : h 17 12 = nI p) (hp2 : p < n) (hc : w p = 110 ∨ w p = 119) : RS h n w p := by
  have st0 := rs_start L hp hp2
  have fi : fiN (nI (w p)) = 0 := by rcases hc with z | z <;> rw [z] <;> decide
  have hst : stN w n p = scI w n 0 3 0 (p + 1) := by
    unfold stN
    rw [if_pos ⟨hp2, by rw [fi]; omega⟩, fi]
    rfl
  rw [sc0] at hst
  have L1 : LM (st h 17 12 (nI (p + 1))) n w := L.fr Fr.pl
  obtain ⟨g1, r1, r2, r3, r4⟩ := m_rn2 (k := 0) (by omega) L1 (p := p + 1) (by rw [st_at, if_pos ⟨rfl, rfl⟩]) (by omega)
  rw [nI_0] at r1
  have F1 : Fr h g1 := Fr.pl.trans r4.fr
  have mid : ∀ b : Int32, ev mX7_readsNumber 0 [.ref 17, .int 0, .int 2, .null] [] (st h 17 12 (nI (p + 1))) = some (some (.int b), g1) → ev mX7_readsStatement 0 [.ref 17, .null, .null] [] h = ev mX7_readsStatement 229 [.ref 17, .int (nI (w p)), .int b] [] g1 := by
    intro b hb
    rw [st0]
    rcases hc with z | z
    · rw [z, show nI 110 = 110 from rfl]
      simp [eX7_readsStatement_1, eX7_readsStatement_4, eX7_readsStatement_5, eX7_readsStatement_6, eX7_readsStatement_7, eX7_readsStatement_8, eX7_readsStatement_9, eX7_readsStatement_12, eX7_readsStatement_13, eX7_readsStatement_14, eX7_readsStatement_17, eX7_readsStatement_18, eX7_readsStatement_108, eX7_readsStatement_109, eX7_readsStatement_110, eX7_readsStatement_111, eX7_readsStatement_114, eX7_readsStatement_115, eX7_readsStatement_118, eX7_readsStatement_119, eX7_readsStatement_122, eX7_readsStatement_125, eX7_readsStatement_126, eX7_readsStatement_127, eX7_readsStatement_128, eX7_readsStatement_131, eX7_readsStatement_134, eX7_readsStatement_135, eX7_readsStatement_136, eX7_readsStatement_137, eX7_readsStatement_140, eX7_readsStatement_143, eX7_readsStatement_144, eX7_readsStatement_147, eX7_readsStatement_148, eX7_readsStatement_149, eX7_readsStatement_152, eX7_readsStatement_153, eX7_readsStatement_154, eX7_readsStatement_155, eX7_readsStatement_158, eX7_readsStatement_161, eX7_readsStatement_162, eX7_readsStatement_165, eX7_readsStatement_168, eX7_readsStatement_169, eX7_readsStatement_172, eX7_readsStatement_173, eX7_readsStatement_174, eX7_readsStatement_177, eX7_readsStatement_178, eX7_readsStatement_179, eX7_readsStatement_180, eX7_readsStatement_183, eX7_readsStatement_184, eX7_readsStatement_187, eX7_readsStatement_190, eX7_readsStatement_191, eX7_readsStatement_192, eX7_readsStatement_193, eX7_readsStatement_196, eX7_readsStatement_199, eX7_readsStatement_200, eX7_readsStatement_201, eX7_readsStatement_202, eX7_readsStatement_205, eX7_readsStatement_208, eX7_readsStatement_209, eX7_readsStatement_212, eX7_readsStatement_213, eX7_readsStatement_214, eX7_readsStatement_217, eX7_readsStatement_218, eX7_readsStatement_219, eX7_readsStatement_222, eX7_readsStatement_223, eX7_readsStatement_224, eX7_readsStatement_227, eX7_readsStatement_228, eX7_readsStatement_230, eX7_readsStatement_233, eX7_readsStatement_234, eX7_readsStatement_237, eX7_readsStatement_239, eX7_readsStatement_242, eX7_readsStatement_243, eX7_readsStatement_244, eX7_readsStatement_245, eX7_readsStatement_246, eX7_readsStatement_249, eX7_readsStatement_250, eX7_readsStatement_251, eX7_readsStatement_254, eX7_readsStatement_255, hb]
    · rw [z, show nI 119 = 119 from rfl]
      simp [eX7_readsStatement_1, eX7_readsStatement_4, eX7_readsStatement_5, eX7_readsStatement_6, eX7_readsStatement_7, eX7_readsStatement_8, eX7_readsStatement_9, eX7_readsStatement_12, eX7_readsStatement_13, eX7_readsStatement_14, eX7_readsStatement_17, eX7_readsStatement_18, eX7_readsStatement_108, eX7_readsStatement_109, eX7_readsStatement_110, eX7_readsStatement_111, eX7_readsStatement_114, eX7_readsStatement_115, eX7_readsStatement_118, eX7_readsStatement_119, eX7_readsStatement_122, eX7_readsStatement_125, eX7_readsStatement_126, eX7_readsStatement_127, eX7_readsStatement_128, eX7_readsStatement_131, eX7_readsStatement_134, eX7_readsStatement_135, eX7_readsStatement_136, eX7_readsStatement_137, eX7_readsStatement_140, eX7_readsStatement_143, eX7_readsStatement_144, eX7_readsStatement_147, eX7_readsStatement_148, eX7_readsStatement_149, eX7_readsStatement_152, eX7_readsStatement_153, eX7_readsStatement_154, eX7_readsStatement_155, eX7_readsStatement_158, eX7_readsStatement_161, eX7_readsStatement_162, eX7_readsStatement_165, eX7_readsStatement_168, eX7_readsStatement_169, eX7_readsStatement_172, eX7_readsStatement_173, eX7_readsStatement_174, eX7_readsStatement_177, eX7_readsStatement_178, eX7_readsStatement_179, eX7_readsStatement_180, eX7_readsStatement_183, eX7_readsStatement_184, eX7_readsStatement_187, eX7_readsStatement_190, eX7_readsStatement_191, eX7_readsStatement_192, eX7_readsStatement_193, eX7_readsStatement_196, eX7_readsStatement_199, eX7_readsStatement_200, eX7_readsStatement_201, eX7_readsStatement_202, eX7_readsStatement_205, eX7_readsStatement_208, eX7_readsStatement_209, eX7_readsStatement_212, eX7_readsStatement_213, eX7_readsStatement_214, eX7_readsStatement_217, eX7_readsStatement_218, eX7_readsStatement_219, eX7_readsStatement_222, eX7_readsStatement_223, eX7_readsStatement_224, eX7_readsStatement_227, eX7_readsStatement_228, eX7_readsStatement_230, eX7_readsStatement_233, eX7_readsStatement_234, eX7_readsStatement_237, eX7_readsStatement_239, eX7_readsStatement_242, eX7_readsStatement_243, eX7_readsStatement_244, eX7_readsStatement_245, eX7_readsStatement_246, eX7_readsStatement_249, eX7_readsStatement_250, eX7_readsStatement_251, eX7_readsStatement_254, eX7_readsStatement_255, hb]
  by_cases t1 : Tk w n 35 (p + 1)
  · rw [if_pos t1] at hst r1 r2
    by_cases t2 : Tk w n 35 (p + 1 + 1)
    · rw [if_pos t2] at hst r1 r2
      have tl2 := t2.1
      obtain ⟨g2, q1, q2, q3, q4⟩ := m_tail (c := .int (nI (w p))) (L.fr F1) r2 (by omega)
      by_cases t3 : Tk w n 59 (p + 1 + 1 + 1)
      · rw [if_pos t3] at hst q1 q2
        refine RS_t hst (g := g2) (by rw [mid 1 r1]; exact q1) q2 ?_ (F1.trans q4)
        exact ⟨fun _ => by rw [q3, r3 t1 t2], fun z => by omega, fun z => by omega, fun z => by omega, fun z => by omega⟩
      · rw [if_neg t3] at hst q1 q2
        exact RS_f hst (g := g2) (by rw [mid 1 r1]; exact q1) q2 (F1.trans q4)
    · rw [if_neg t2] at hst r1 r2
      exact RS_f hst (g := g1) (by rw [mid 0 r1]; exact m_tail0) r2 F1
  · rw [if_neg t1] at hst r1 r2
    exact RS_f hst (g := g1) (by rw [mid 0 r1]; exact m_tail0) r2 F1
theorem rs_k (L : LM h n w) (hp : h 17 12 = nI p) (hp2 : p < n) (hc : w p = 107) : RS h n w p := by
  have st0 := rs_start L hp hp2
  have hst : stN w n p = scI w n 3 2 0 (p + 1) := by
    unfold stN
    rw [if_pos ⟨hp2, by rw [hc]; decide⟩, hc]
    rfl
  rw [sc3] at hst
  have L1 : LM (st h 17 12 (nI (p + 1))) n w := L.fr Fr.pl
  obtain ⟨g1, r1, r2, r3, r4⟩ := m_rn1 (k := 0) (by omega) L1 (p := p + 1) (by rw [st_at, if_pos ⟨rfl, rfl⟩]) (by omega)
  rw [nI_0] at r1
  have F1 : Fr h g1 := Fr.pl.trans r4.fr
  have mid : ∀ b : Int32, ev mX7_readsNumber 0 [.ref 17, .int 0, .int 1, .null] [] (st h 17 12 (nI (p + 1))) = some (some (.int b), g1) → ev mX7_readsStatement 0 [.ref 17, .null, .null] [] h = ev mX7_readsStatement 229 [.ref 17, .int 107, .int b] [] g1 := by
    intro b hb
    rw [st0, hc, show nI 107 = 107 from rfl]
    simp [eX7_readsStatement_1, eX7_readsStatement_4, eX7_readsStatement_5, eX7_readsStatement_6, eX7_readsStatement_7, eX7_readsStatement_8, eX7_readsStatement_9, eX7_readsStatement_12, eX7_readsStatement_13, eX7_readsStatement_14, eX7_readsStatement_17, eX7_readsStatement_18, eX7_readsStatement_108, eX7_readsStatement_109, eX7_readsStatement_110, eX7_readsStatement_111, eX7_readsStatement_114, eX7_readsStatement_115, eX7_readsStatement_118, eX7_readsStatement_119, eX7_readsStatement_122, eX7_readsStatement_125, eX7_readsStatement_126, eX7_readsStatement_127, eX7_readsStatement_128, eX7_readsStatement_131, eX7_readsStatement_134, eX7_readsStatement_135, eX7_readsStatement_136, eX7_readsStatement_137, eX7_readsStatement_140, eX7_readsStatement_143, eX7_readsStatement_144, eX7_readsStatement_147, eX7_readsStatement_148, eX7_readsStatement_149, eX7_readsStatement_152, eX7_readsStatement_153, eX7_readsStatement_154, eX7_readsStatement_155, eX7_readsStatement_158, eX7_readsStatement_161, eX7_readsStatement_162, eX7_readsStatement_165, eX7_readsStatement_168, eX7_readsStatement_169, eX7_readsStatement_172, eX7_readsStatement_173, eX7_readsStatement_174, eX7_readsStatement_177, eX7_readsStatement_178, eX7_readsStatement_179, eX7_readsStatement_180, eX7_readsStatement_183, eX7_readsStatement_184, eX7_readsStatement_187, eX7_readsStatement_190, eX7_readsStatement_191, eX7_readsStatement_192, eX7_readsStatement_193, eX7_readsStatement_196, eX7_readsStatement_199, eX7_readsStatement_200, eX7_readsStatement_201, eX7_readsStatement_202, eX7_readsStatement_205, eX7_readsStatement_208, eX7_readsStatement_209, eX7_readsStatement_212, eX7_readsStatement_213, eX7_readsStatement_214, eX7_readsStatement_217, eX7_readsStatement_218, eX7_readsStatement_219, eX7_readsStatement_222, eX7_readsStatement_223, eX7_readsStatement_224, eX7_readsStatement_227, eX7_readsStatement_228, eX7_readsStatement_230, eX7_readsStatement_233, eX7_readsStatement_234, eX7_readsStatement_237, eX7_readsStatement_239, eX7_readsStatement_242, eX7_readsStatement_243, eX7_readsStatement_244, eX7_readsStatement_245, eX7_readsStatement_246, eX7_readsStatement_249, eX7_readsStatement_250, eX7_readsStatement_251, eX7_readsStatement_254, eX7_readsStatement_255, hb]
  by_cases t1 : Tk w n 35 (p + 1)
  · rw [if_pos t1] at hst r1 r2
    have tl1 := t1.1
    obtain ⟨g2, q1, q2, q3, q4⟩ := m_tail (c := .int 107) (L.fr F1) r2 (by omega)
    by_cases t3 : Tk w n 59 (p + 1 + 1)
    · rw [if_pos t3] at hst q1 q2
      refine RS_t hst (g := g2) (by rw [mid 1 r1]; exact q1) q2 ?_ (F1.trans q4)
      exact ⟨fun z => by omega, fun z => by omega, fun z => by omega, fun _ => by rw [q3, r3 t1], fun z => by omega⟩
    · rw [if_neg t3] at hst q1 q2
      exact RS_f hst (g := g2) (by rw [mid 1 r1]; exact q1) q2 (F1.trans q4)
  · rw [if_neg t1] at hst r1 r2
    exact RS_f hst (g := g1) (by rw [mid 0 r1]; exact m_tail0) r2 F1
theorem rs_s (L : LM h n w) (hp : h 17 12 = nI p) (hp2 : p < n) (hc : w p = 115) : RS h n w p := by
  have st0 := rs_start L hp hp2
  have hst : stN w n p = scI w n 4 1 0 (p + 1) := by
    unfold stN
    rw [if_pos ⟨hp2, by rw [hc]; decide⟩, hc]
    rfl
  rw [sc4] at hst
  have L1 : LM (st h 17 12 (nI (p + 1))) n w := L.fr Fr.pl
  have mid : ev mX7_readsStatement 0 [.ref 17, .null, .null] [] h = ev mX7_readsStatement 229 [.ref 17, .int 115, .int 1] [] (st h 17 12 (nI (p + 1))) := by
    rw [st0, hc, show nI 115 = 115 from rfl]
    simp [eX7_readsStatement_1, eX7_readsStatement_4, eX7_readsStatement_5, eX7_readsStatement_6, eX7_readsStatement_7, eX7_readsStatement_8, eX7_readsStatement_9, eX7_readsStatement_12, eX7_readsStatement_13, eX7_readsStatement_14, eX7_readsStatement_17, eX7_readsStatement_18, eX7_readsStatement_108, eX7_readsStatement_109, eX7_readsStatement_110, eX7_readsStatement_111, eX7_readsStatement_114, eX7_readsStatement_115, eX7_readsStatement_118, eX7_readsStatement_119, eX7_readsStatement_122, eX7_readsStatement_125, eX7_readsStatement_126, eX7_readsStatement_127, eX7_readsStatement_128, eX7_readsStatement_131, eX7_readsStatement_134, eX7_readsStatement_135, eX7_readsStatement_136, eX7_readsStatement_137, eX7_readsStatement_140, eX7_readsStatement_143, eX7_readsStatement_144, eX7_readsStatement_147, eX7_readsStatement_148, eX7_readsStatement_149, eX7_readsStatement_152, eX7_readsStatement_153, eX7_readsStatement_154, eX7_readsStatement_155, eX7_readsStatement_158, eX7_readsStatement_161, eX7_readsStatement_162, eX7_readsStatement_165, eX7_readsStatement_168, eX7_readsStatement_169, eX7_readsStatement_172, eX7_readsStatement_173, eX7_readsStatement_174, eX7_readsStatement_177, eX7_readsStatement_178, eX7_readsStatement_179, eX7_readsStatement_180, eX7_readsStatement_183, eX7_readsStatement_184, eX7_readsStatement_187, eX7_readsStatement_190, eX7_readsStatement_191, eX7_readsStatement_192, eX7_readsStatement_193, eX7_readsStatement_196, eX7_readsStatement_199, eX7_readsStatement_200, eX7_readsStatement_201, eX7_readsStatement_202, eX7_readsStatement_205, eX7_readsStatement_208, eX7_readsStatement_209, eX7_readsStatement_212, eX7_readsStatement_213, eX7_readsStatement_214, eX7_readsStatement_217, eX7_readsStatement_218, eX7_readsStatement_219, eX7_readsStatement_222, eX7_readsStatement_223, eX7_readsStatement_224, eX7_readsStatement_227, eX7_readsStatement_228, eX7_readsStatement_230, eX7_readsStatement_233, eX7_readsStatement_234, eX7_readsStatement_237, eX7_readsStatement_239, eX7_readsStatement_242, eX7_readsStatement_243, eX7_readsStatement_244, eX7_readsStatement_245, eX7_readsStatement_246, eX7_readsStatement_249, eX7_readsStatement_250, eX7_readsStatement_251, eX7_readsStatement_254, eX7_readsStatement_255]
  obtain ⟨g2, q1, q2, q3, q4⟩ := m_tail (c := .int 115) L1 (p := p + 1) (by rw [st_at, if_pos ⟨rfl, rfl⟩]) (by omega)
  by_cases t3 : Tk w n 59 (p + 1)
  · rw [if_pos t3] at hst q1 q2
    refine RS_t hst (g := g2) (by rw [mid]; exact q1) q2 ?_ (Fr.pl.trans q4)
    exact ⟨fun z => by omega, fun z => by omega, fun z => by omega, fun z => by omega, fun z => by omega⟩
  · rw [if_neg t3] at hst q1 q2
    exact RS_f hst (g := g2) (by rw [mid]; exact q1) q2 (Fr.pl.trans q4)
theorem rs_p (L : LM h n w) (hp : h 17 12 = nI p) (hp2 : p < n) (hc : w p = 112) : RS h n w p := by
  have st0 := rs_start L hp hp2
  have hst : stN w n p = scI w n 0 3 0 (p + 1) := by
    unfold stN
    rw [if_pos ⟨hp2, by rw [hc]; decide⟩, hc]
    rfl
  rw [sc0] at hst
  have L1 : LM (st h 17 12 (nI (p + 1))) n w := L.fr Fr.pl
  obtain ⟨g1, r1, r2, r3, r4⟩ := m_rn1 (k := 0) (by omega) L1 (p := p + 1) (by rw [st_at, if_pos ⟨rfl, rfl⟩]) (by omega)
  rw [nI_0] at r1
  have F1 : Fr h g1 := Fr.pl.trans r4.fr
  by_cases t1 : Tk w n 35 (p + 1)
  · rw [if_pos t1] at hst r1 r2
    have tl1 := t1.1
    obtain ⟨g2, s1, s2, s3, s4⟩ := m_rn1 (k := 1) (by omega) (L.fr F1) r2 (by omega)
    rw [show nI 1 = 1 from rfl] at s1
    have F2 : Fr h g2 := F1.trans s4.fr
    have mid : ∀ b : Int32, (b = 0 ∨ b = 1) → ev mX7_readsNumber 0 [.ref 17, .int 1, .int 1, .null] [] g1 = some (some (.int b), g2) → ev mX7_readsStatement 0 [.ref 17, .null, .null] [] h = ev mX7_readsStatement 229 [.ref 17, .int 112, .int b] [] g2 := by
      intro b hb hb2
      rw [st0, hc, show nI 112 = 112 from rfl]
      rcases hb with rfl | rfl <;> simp [eX7_readsStatement_1, eX7_readsStatement_4, eX7_readsStatement_5, eX7_readsStatement_6, eX7_readsStatement_7, eX7_readsStatement_8, eX7_readsStatement_9, eX7_readsStatement_12, eX7_readsStatement_13, eX7_readsStatement_14, eX7_readsStatement_17, eX7_readsStatement_18, eX7_readsStatement_108, eX7_readsStatement_109, eX7_readsStatement_110, eX7_readsStatement_111, eX7_readsStatement_114, eX7_readsStatement_115, eX7_readsStatement_118, eX7_readsStatement_119, eX7_readsStatement_122, eX7_readsStatement_125, eX7_readsStatement_126, eX7_readsStatement_127, eX7_readsStatement_128, eX7_readsStatement_131, eX7_readsStatement_134, eX7_readsStatement_135, eX7_readsStatement_136, eX7_readsStatement_137, eX7_readsStatement_140, eX7_readsStatement_143, eX7_readsStatement_144, eX7_readsStatement_147, eX7_readsStatement_148, eX7_readsStatement_149, eX7_readsStatement_152, eX7_readsStatement_153, eX7_readsStatement_154, eX7_readsStatement_155, eX7_readsStatement_158, eX7_readsStatement_161, eX7_readsStatement_162, eX7_readsStatement_165, eX7_readsStatement_168, eX7_readsStatement_169, eX7_readsStatement_172, eX7_readsStatement_173, eX7_readsStatement_174, eX7_readsStatement_177, eX7_readsStatement_178, eX7_readsStatement_179, eX7_readsStatement_180, eX7_readsStatement_183, eX7_readsStatement_184, eX7_readsStatement_187, eX7_readsStatement_190, eX7_readsStatement_191, eX7_readsStatement_192, eX7_readsStatement_193, eX7_readsStatement_196, eX7_readsStatement_199, eX7_readsStatement_200, eX7_readsStatement_201, eX7_readsStatement_202, eX7_readsStatement_205, eX7_readsStatement_208, eX7_readsStatement_209, eX7_readsStatement_212, eX7_readsStatement_213, eX7_readsStatement_214, eX7_readsStatement_217, eX7_readsStatement_218, eX7_readsStatement_219, eX7_readsStatement_222, eX7_readsStatement_223, eX7_readsStatement_224, eX7_readsStatement_227, eX7_readsStatement_228, eX7_readsStatement_230, eX7_readsStatement_233, eX7_readsStatement_234, eX7_readsStatement_237, eX7_readsStatement_239, eX7_readsStatement_242, eX7_readsStatement_243, eX7_readsStatement_244, eX7_readsStatement_245, eX7_readsStatement_246, eX7_readsStatement_249, eX7_readsStatement_250, eX7_readsStatement_251, eX7_readsStatement_254, eX7_readsStatement_255, r1, hb2]
    by_cases t2 : Tk w n 35 (p + 1 + 1)
    · rw [if_pos t2] at hst s1 s2
      have tl2 := t2.1
      obtain ⟨g3, q1, q2, q3, q4⟩ := m_tail (c := .int 112) (L.fr F2) s2 (by omega)
      by_cases t3 : Tk w n 59 (p + 1 + 1 + 1)
      · rw [if_pos t3] at hst q1 q2
        refine RS_t hst (g := g3) (by rw [mid 1 (Or.inr rfl) s1]; exact q1) q2 ?_ (F2.trans q4)
        exact ⟨fun z => by omega, fun z => by omega, fun z => by omega, fun z => by omega, fun _ => ⟨by rw [q3, s4 26 0 (by omega) (by omega), r3 t1], by rw [q3, s3 t2]⟩⟩
      · rw [if_neg t3] at hst q1 q2
        exact RS_f hst (g := g3) (by rw [mid 1 (Or.inr rfl) s1]; exact q1) q2 (F2.trans q4)
    · rw [if_neg t2] at hst s1 s2
      exact RS_f hst (g := g2) (by rw [mid 0 (Or.inl rfl) s1]; exact m_tail0) s2 F2
  · rw [if_neg t1] at hst r1 r2
    refine RS_f hst (g := g1) ?_ r2 F1
    rw [st0, hc, show nI 112 = 112 from rfl]
    simp [eX7_readsStatement_1, eX7_readsStatement_4, eX7_readsStatement_5, eX7_readsStatement_6, eX7_readsStatement_7, eX7_readsStatement_8, eX7_readsStatement_9, eX7_readsStatement_12, eX7_readsStatement_13, eX7_readsStatement_14, eX7_readsStatement_17, eX7_readsStatement_18, eX7_readsStatement_108, eX7_readsStatement_109, eX7_readsStatement_110, eX7_readsStatement_111, eX7_readsStatement_114, eX7_readsStatement_115, eX7_readsStatement_118, eX7_readsStatement_119, eX7_readsStatement_122, eX7_readsStatement_125, eX7_readsStatement_126, eX7_readsStatement_127, eX7_readsStatement_128, eX7_readsStatement_131, eX7_readsStatement_134, eX7_readsStatement_135, eX7_readsStatement_136, eX7_readsStatement_137, eX7_readsStatement_140, eX7_readsStatement_143, eX7_readsStatement_144, eX7_readsStatement_147, eX7_readsStatement_148, eX7_readsStatement_149, eX7_readsStatement_152, eX7_readsStatement_153, eX7_readsStatement_154, eX7_readsStatement_155, eX7_readsStatement_158, eX7_readsStatement_161, eX7_readsStatement_162, eX7_readsStatement_165, eX7_readsStatement_168, eX7_readsStatement_169, eX7_readsStatement_172, eX7_readsStatement_173, eX7_readsStatement_174, eX7_readsStatement_177, eX7_readsStatement_178, eX7_readsStatement_179, eX7_readsStatement_180, eX7_readsStatement_183, eX7_readsStatement_184, eX7_readsStatement_187, eX7_readsStatement_190, eX7_readsStatement_191, eX7_readsStatement_192, eX7_readsStatement_193, eX7_readsStatement_196, eX7_readsStatement_199, eX7_readsStatement_200, eX7_readsStatement_201, eX7_readsStatement_202, eX7_readsStatement_205, eX7_readsStatement_208, eX7_readsStatement_209, eX7_readsStatement_212, eX7_readsStatement_213, eX7_readsStatement_214, eX7_readsStatement_217, eX7_readsStatement_218, eX7_readsStatement_219, eX7_readsStatement_222, eX7_readsStatement_223, eX7_readsStatement_224, eX7_readsStatement_227, eX7_readsStatement_228, eX7_readsStatement_230, eX7_readsStatement_233, eX7_readsStatement_234, eX7_readsStatement_237, eX7_readsStatement_239, eX7_readsStatement_242, eX7_readsStatement_243, eX7_readsStatement_244, eX7_readsStatement_245, eX7_readsStatement_246, eX7_readsStatement_249, eX7_readsStatement_250, eX7_readsStatement_251, eX7_readsStatement_254, eX7_readsStatement_255, r1]
    exact m_tail0
theorem rs_e (L : LM h n w) (hp : h 17 12 = nI p) (hp2 : p < n) (hc : w p = 101) : RS h n w p := by
  have st0 := rs_start L hp hp2
  have hst : stN w n p = scI w n 2 5 0 (p + 1) := by
    unfold stN
    rw [if_pos ⟨hp2, by rw [hc]; decide⟩, hc]
    rfl
  rw [sc2] at hst
  have L1 : LM (st h 17 12 (nI (p + 1))) n w := L.fr Fr.pl
  obtain ⟨g1, r1, r2, r3, r4⟩ := m_rn1 (k := 0) (by omega) L1 (p := p + 1) (by rw [st_at, if_pos ⟨rfl, rfl⟩]) (by omega)
  rw [nI_0] at r1
  have F1 : Fr h g1 := Fr.pl.trans r4.fr
  by_cases t1 : Tk w n 35 (p + 1)
  · rw [if_pos t1] at hst r1 r2
    have tl1 := t1.1
    obtain ⟨g2, s1, s2, s3, s4⟩ := m_rs (L.fr F1) r2 (by omega)
    have F2 : Fr h g2 := F1.trans s4.fr
    have mid : ∀ b : Int32, (b = 0 ∨ b = 1) → ev mX7_readsSigned 0 [.ref 17, .null, .null] [] g1 = some (some (.int b), g2) → ev mX7_readsStatement 0 [.ref 17, .null, .null] [] h = ev mX7_readsStatement 229 [.ref 17, .int 101, .int b] [] g2 := by
      intro b hb hb2
      rw [st0, hc, show nI 101 = 101 from rfl]
      rcases hb with rfl | rfl <;> simp [eX7_readsStatement_1, eX7_readsStatement_4, eX7_readsStatement_5, eX7_readsStatement_6, eX7_readsStatement_7, eX7_readsStatement_8, eX7_readsStatement_9, eX7_readsStatement_12, eX7_readsStatement_13, eX7_readsStatement_14, eX7_readsStatement_17, eX7_readsStatement_18, eX7_readsStatement_108, eX7_readsStatement_109, eX7_readsStatement_110, eX7_readsStatement_111, eX7_readsStatement_114, eX7_readsStatement_115, eX7_readsStatement_118, eX7_readsStatement_119, eX7_readsStatement_122, eX7_readsStatement_125, eX7_readsStatement_126, eX7_readsStatement_127, eX7_readsStatement_128, eX7_readsStatement_131, eX7_readsStatement_134, eX7_readsStatement_135, eX7_readsStatement_136, eX7_readsStatement_137, eX7_readsStatement_140, eX7_readsStatement_143, eX7_readsStatement_144, eX7_readsStatement_147, eX7_readsStatement_148, eX7_readsStatement_149, eX7_readsStatement_152, eX7_readsStatement_153, eX7_readsStatement_154, eX7_readsStatement_155, eX7_readsStatement_158, eX7_readsStatement_161, eX7_readsStatement_162, eX7_readsStatement_165, eX7_readsStatement_168, eX7_readsStatement_169, eX7_readsStatement_172, eX7_readsStatement_173, eX7_readsStatement_174, eX7_readsStatement_177, eX7_readsStatement_178, eX7_readsStatement_179, eX7_readsStatement_180, eX7_readsStatement_183, eX7_readsStatement_184, eX7_readsStatement_187, eX7_readsStatement_190, eX7_readsStatement_191, eX7_readsStatement_192, eX7_readsStatement_193, eX7_readsStatement_196, eX7_readsStatement_199, eX7_readsStatement_200, eX7_readsStatement_201, eX7_readsStatement_202, eX7_readsStatement_205, eX7_readsStatement_208, eX7_readsStatement_209, eX7_readsStatement_212, eX7_readsStatement_213, eX7_readsStatement_214, eX7_readsStatement_217, eX7_readsStatement_218, eX7_readsStatement_219, eX7_readsStatement_222, eX7_readsStatement_223, eX7_readsStatement_224, eX7_readsStatement_227, eX7_readsStatement_228, eX7_readsStatement_230, eX7_readsStatement_233, eX7_readsStatement_234, eX7_readsStatement_237, eX7_readsStatement_239, eX7_readsStatement_242, eX7_readsStatement_243, eX7_readsStatement_244, eX7_readsStatement_245, eX7_readsStatement_246, eX7_readsStatement_249, eX7_readsStatement_250, eX7_readsStatement_251, eX7_readsStatement_254, eX7_readsStatement_255, r1, hb2]
    by_cases t2 : Tk w n 43 (p + 1 + 1)
    · rw [if_pos t2] at hst s1 s2
      by_cases t3 : Tk w n 35 (p + 1 + 1 + 1)
      · rw [if_pos t3] at hst s1 s2
        by_cases t4 : Tk w n 35 (p + 1 + 1 + 1 + 1)
        · rw [if_pos t4] at hst s1 s2
          have tl4 := t4.1
          obtain ⟨g3, q1, q2, q3, q4⟩ := m_tail (c := .int 101) (L.fr F2) s2 (by omega)
          by_cases t5 : Tk w n 59 (p + 1 + 1 + 1 + 1 + 1)
          · rw [if_pos t5] at hst q1 q2
            refine RS_t hst (g := g3) (by rw [mid 1 (Or.inr rfl) s1]; exact q1) q2 ?_ (F2.trans q4)
            exact ⟨fun z => by omega, fun z => by omega, fun _ => ⟨by rw [q3, s4 26 0 (by omega) (by omega), r3 t1], by rw [q3, s3 t2 t3 t4]⟩, fun z => by omega, fun z => by omega⟩
          · rw [if_neg t5] at hst q1 q2
            exact RS_f hst (g := g3) (by rw [mid 1 (Or.inr rfl) s1]; exact q1) q2 (F2.trans q4)
        · rw [if_neg t4] at hst s1 s2
          exact RS_f hst (g := g2) (by rw [mid 0 (Or.inl rfl) s1]; exact m_tail0) s2 F2
      · rw [if_neg t3] at hst s1 s2
        exact RS_f hst (g := g2) (by rw [mid 0 (Or.inl rfl) s1]; exact m_tail0) s2 F2
    · rw [if_neg t2] at hst s1 s2
      exact RS_f hst (g := g2) (by rw [mid 0 (Or.inl rfl) s1]; exact m_tail0) s2 F2
  · rw [if_neg t1] at hst r1 r2
    refine RS_f hst (g := g1) ?_ r2 F1
    rw [st0, hc, show nI 101 = 101 from rfl]
    simp [eX7_readsStatement_1, eX7_readsStatement_4, eX7_readsStatement_5, eX7_readsStatement_6, eX7_readsStatement_7, eX7_readsStatement_8, eX7_readsStatement_9, eX7_readsStatement_12, eX7_readsStatement_13, eX7_readsStatement_14, eX7_readsStatement_17, eX7_readsStatement_18, eX7_readsStatement_108, eX7_readsStatement_109, eX7_readsStatement_110, eX7_readsStatement_111, eX7_readsStatement_114, eX7_readsStatement_115, eX7_readsStatement_118, eX7_readsStatement_119, eX7_readsStatement_122, eX7_readsStatement_125, eX7_readsStatement_126, eX7_readsStatement_127, eX7_readsStatement_128, eX7_readsStatement_131, eX7_readsStatement_134, eX7_readsStatement_135, eX7_readsStatement_136, eX7_readsStatement_137, eX7_readsStatement_140, eX7_readsStatement_143, eX7_readsStatement_144, eX7_readsStatement_147, eX7_readsStatement_148, eX7_readsStatement_149, eX7_readsStatement_152, eX7_readsStatement_153, eX7_readsStatement_154, eX7_readsStatement_155, eX7_readsStatement_158, eX7_readsStatement_161, eX7_readsStatement_162, eX7_readsStatement_165, eX7_readsStatement_168, eX7_readsStatement_169, eX7_readsStatement_172, eX7_readsStatement_173, eX7_readsStatement_174, eX7_readsStatement_177, eX7_readsStatement_178, eX7_readsStatement_179, eX7_readsStatement_180, eX7_readsStatement_183, eX7_readsStatement_184, eX7_readsStatement_187, eX7_readsStatement_190, eX7_readsStatement_191, eX7_readsStatement_192, eX7_readsStatement_193, eX7_readsStatement_196, eX7_readsStatement_199, eX7_readsStatement_200, eX7_readsStatement_201, eX7_readsStatement_202, eX7_readsStatement_205, eX7_readsStatement_208, eX7_readsStatement_209, eX7_readsStatement_212, eX7_readsStatement_213, eX7_readsStatement_214, eX7_readsStatement_217, eX7_readsStatement_218, eX7_readsStatement_219, eX7_readsStatement_222, eX7_readsStatement_223, eX7_readsStatement_224, eX7_readsStatement_227, eX7_readsStatement_228, eX7_readsStatement_230, eX7_readsStatement_233, eX7_readsStatement_234, eX7_readsStatement_237, eX7_readsStatement_239, eX7_readsStatement_242, eX7_readsStatement_243, eX7_readsStatement_244, eX7_readsStatement_245, eX7_readsStatement_246, eX7_readsStatement_249, eX7_readsStatement_250, eX7_readsStatement_251, eX7_readsStatement_254, eX7_readsStatement_255, r1]
    exact m_tail0
theorem rs_i (L : LM h n w) (hp : h 17 12 = nI p) (hp2 : p < n) (hc : w p = 105) : RS h n w p := by
  have st0 := rs_start L hp hp2
  have hst : stN w n p = scI w n 1 5 0 (p + 1) := by
    unfold stN
    rw [if_pos ⟨hp2, by rw [hc]; decide⟩, hc]
    rfl
  rw [sc1] at hst
  have L1 : LM (st h 17 12 (nI (p + 1))) n w := L.fr Fr.pl
  obtain ⟨g1, r1, r2, r3, r4⟩ := m_rk L1 (p := p + 1) (by rw [st_at, if_pos ⟨rfl, rfl⟩]) (by omega)
  have F1 : Fr h g1 := Fr.pl.trans r4.fr
  by_cases t1 : Tk w n 107 (p + 1)
  · rw [if_pos t1] at hst r1 r2
    have tl1 := t1.1
    obtain ⟨g2, s1, s2, s3, s4⟩ := m_rn2 (k := 1) (by omega) (L.fr F1) r2 (by omega)
    rw [show nI 1 = 1 from rfl] at s1
    have F2 : Fr h g2 := F1.trans s4.fr
    have bad : ev mX7_readsNumber 0 [.ref 17, .int 1, .int 2, .null] [] g1 = some (some (.int 0), g2) → ev mX7_readsStatement 0 [.ref 17, .null, .null] [] h = some (some (.int 0), g2) := by
      intro hb2
      rw [st0, hc, show nI 105 = 105 from rfl]
      simp [eX7_readsStatement_1, eX7_readsStatement_4, eX7_readsStatement_5, eX7_readsStatement_6, eX7_readsStatement_7, eX7_readsStatement_8, eX7_readsStatement_9, eX7_readsStatement_12, eX7_readsStatement_13, eX7_readsStatement_14, eX7_readsStatement_17, eX7_readsStatement_18, eX7_readsStatement_108, eX7_readsStatement_109, eX7_readsStatement_110, eX7_readsStatement_111, eX7_readsStatement_114, eX7_readsStatement_115, eX7_readsStatement_118, eX7_readsStatement_119, eX7_readsStatement_122, eX7_readsStatement_125, eX7_readsStatement_126, eX7_readsStatement_127, eX7_readsStatement_128, eX7_readsStatement_131, eX7_readsStatement_134, eX7_readsStatement_135, eX7_readsStatement_136, eX7_readsStatement_137, eX7_readsStatement_140, eX7_readsStatement_143, eX7_readsStatement_144, eX7_readsStatement_147, eX7_readsStatement_148, eX7_readsStatement_149, eX7_readsStatement_152, eX7_readsStatement_153, eX7_readsStatement_154, eX7_readsStatement_155, eX7_readsStatement_158, eX7_readsStatement_161, eX7_readsStatement_162, eX7_readsStatement_165, eX7_readsStatement_168, eX7_readsStatement_169, eX7_readsStatement_172, eX7_readsStatement_173, eX7_readsStatement_174, eX7_readsStatement_177, eX7_readsStatement_178, eX7_readsStatement_179, eX7_readsStatement_180, eX7_readsStatement_183, eX7_readsStatement_184, eX7_readsStatement_187, eX7_readsStatement_190, eX7_readsStatement_191, eX7_readsStatement_192, eX7_readsStatement_193, eX7_readsStatement_196, eX7_readsStatement_199, eX7_readsStatement_200, eX7_readsStatement_201, eX7_readsStatement_202, eX7_readsStatement_205, eX7_readsStatement_208, eX7_readsStatement_209, eX7_readsStatement_212, eX7_readsStatement_213, eX7_readsStatement_214, eX7_readsStatement_217, eX7_readsStatement_218, eX7_readsStatement_219, eX7_readsStatement_222, eX7_readsStatement_223, eX7_readsStatement_224, eX7_readsStatement_227, eX7_readsStatement_228, eX7_readsStatement_230, eX7_readsStatement_233, eX7_readsStatement_234, eX7_readsStatement_237, eX7_readsStatement_239, eX7_readsStatement_242, eX7_readsStatement_243, eX7_readsStatement_244, eX7_readsStatement_245, eX7_readsStatement_246, eX7_readsStatement_249, eX7_readsStatement_250, eX7_readsStatement_251, eX7_readsStatement_254, eX7_readsStatement_255, r1, hb2]
      exact m_tail0
    by_cases t2 : Tk w n 35 (p + 1 + 1)
    · rw [if_pos t2] at hst s1 s2
      by_cases t3 : Tk w n 35 (p + 1 + 1 + 1)
      · rw [if_pos t3] at hst s1 s2
        have tl3 := t3.1
        obtain ⟨g3, u1, u2, u3, u4⟩ := m_rn1 (k := 2) (by omega) (L.fr F2) s2 (by omega)
        rw [show nI 2 = 2 from rfl] at u1
        have F3 : Fr h g3 := F2.trans u4.fr
        have mid : ∀ b : Int32, (b = 0 ∨ b = 1) → ev mX7_readsNumber 0 [.ref 17, .int 2, .int 1, .null] [] g2 = some (some (.int b), g3) → ev mX7_readsStatement 0 [.ref 17, .null, .null] [] h = ev mX7_readsStatement 229 [.ref 17, .int 105, .int b] [] g3 := by
          intro b hb hb2
          rw [st0, hc, show nI 105 = 105 from rfl]
          rcases hb with rfl | rfl <;> simp [eX7_readsStatement_1, eX7_readsStatement_4, eX7_readsStatement_5, eX7_readsStatement_6, eX7_readsStatement_7, eX7_readsStatement_8, eX7_readsStatement_9, eX7_readsStatement_12, eX7_readsStatement_13, eX7_readsStatement_14, eX7_readsStatement_17, eX7_readsStatement_18, eX7_readsStatement_108, eX7_readsStatement_109, eX7_readsStatement_110, eX7_readsStatement_111, eX7_readsStatement_114, eX7_readsStatement_115, eX7_readsStatement_118, eX7_readsStatement_119, eX7_readsStatement_122, eX7_readsStatement_125, eX7_readsStatement_126, eX7_readsStatement_127, eX7_readsStatement_128, eX7_readsStatement_131, eX7_readsStatement_134, eX7_readsStatement_135, eX7_readsStatement_136, eX7_readsStatement_137, eX7_readsStatement_140, eX7_readsStatement_143, eX7_readsStatement_144, eX7_readsStatement_147, eX7_readsStatement_148, eX7_readsStatement_149, eX7_readsStatement_152, eX7_readsStatement_153, eX7_readsStatement_154, eX7_readsStatement_155, eX7_readsStatement_158, eX7_readsStatement_161, eX7_readsStatement_162, eX7_readsStatement_165, eX7_readsStatement_168, eX7_readsStatement_169, eX7_readsStatement_172, eX7_readsStatement_173, eX7_readsStatement_174, eX7_readsStatement_177, eX7_readsStatement_178, eX7_readsStatement_179, eX7_readsStatement_180, eX7_readsStatement_183, eX7_readsStatement_184, eX7_readsStatement_187, eX7_readsStatement_190, eX7_readsStatement_191, eX7_readsStatement_192, eX7_readsStatement_193, eX7_readsStatement_196, eX7_readsStatement_199, eX7_readsStatement_200, eX7_readsStatement_201, eX7_readsStatement_202, eX7_readsStatement_205, eX7_readsStatement_208, eX7_readsStatement_209, eX7_readsStatement_212, eX7_readsStatement_213, eX7_readsStatement_214, eX7_readsStatement_217, eX7_readsStatement_218, eX7_readsStatement_219, eX7_readsStatement_222, eX7_readsStatement_223, eX7_readsStatement_224, eX7_readsStatement_227, eX7_readsStatement_228, eX7_readsStatement_230, eX7_readsStatement_233, eX7_readsStatement_234, eX7_readsStatement_237, eX7_readsStatement_239, eX7_readsStatement_242, eX7_readsStatement_243, eX7_readsStatement_244, eX7_readsStatement_245, eX7_readsStatement_246, eX7_readsStatement_249, eX7_readsStatement_250, eX7_readsStatement_251, eX7_readsStatement_254, eX7_readsStatement_255, r1, s1, hb2]
        by_cases t4 : Tk w n 35 (p + 1 + 1 + 1 + 1)
        · rw [if_pos t4] at hst u1 u2
          have tl4 := t4.1
          obtain ⟨g4, q1, q2, q3, q4⟩ := m_tail (c := .int 105) (L.fr F3) u2 (by omega)
          by_cases t5 : Tk w n 59 (p + 1 + 1 + 1 + 1 + 1)
          · rw [if_pos t5] at hst q1 q2
            refine RS_t hst (g := g4) (by rw [mid 1 (Or.inr rfl) u1]; exact q1) q2 ?_ (F3.trans q4)
            exact ⟨fun z => by omega, fun _ => ⟨by rw [q3, u4 26 0 (by omega) (by omega), s4 26 0 (by omega) (by omega), r3 t1], by rw [q3, u4 26 1 (by omega) (by omega), s3 t2 t3], by rw [q3, u3 t4]⟩, fun z => by omega, fun z => by omega, fun z => by omega⟩
          · rw [if_neg t5] at hst q1 q2
            exact RS_f hst (g := g4) (by rw [mid 1 (Or.inr rfl) u1]; exact q1) q2 (F3.trans q4)
        · rw [if_neg t4] at hst u1 u2
          exact RS_f hst (g := g3) (by rw [mid 0 (Or.inl rfl) u1]; exact m_tail0) u2 F3
      · rw [if_neg t3] at hst s1 s2
        exact RS_f hst (g := g2) (bad s1) s2 F2
    · rw [if_neg t2] at hst s1 s2
      exact RS_f hst (g := g2) (bad s1) s2 F2
  · rw [if_neg t1] at hst r1 r2
    refine RS_f hst (g := g1) ?_ r2 F1
    rw [st0, hc, show nI 105 = 105 from rfl]
    simp [eX7_readsStatement_1, eX7_readsStatement_4, eX7_readsStatement_5, eX7_readsStatement_6, eX7_readsStatement_7, eX7_readsStatement_8, eX7_readsStatement_9, eX7_readsStatement_12, eX7_readsStatement_13, eX7_readsStatement_14, eX7_readsStatement_17, eX7_readsStatement_18, eX7_readsStatement_108, eX7_readsStatement_109, eX7_readsStatement_110, eX7_readsStatement_111, eX7_readsStatement_114, eX7_readsStatement_115, eX7_readsStatement_118, eX7_readsStatement_119, eX7_readsStatement_122, eX7_readsStatement_125, eX7_readsStatement_126, eX7_readsStatement_127, eX7_readsStatement_128, eX7_readsStatement_131, eX7_readsStatement_134, eX7_readsStatement_135, eX7_readsStatement_136, eX7_readsStatement_137, eX7_readsStatement_140, eX7_readsStatement_143, eX7_readsStatement_144, eX7_readsStatement_147, eX7_readsStatement_148, eX7_readsStatement_149, eX7_readsStatement_152, eX7_readsStatement_153, eX7_readsStatement_154, eX7_readsStatement_155, eX7_readsStatement_158, eX7_readsStatement_161, eX7_readsStatement_162, eX7_readsStatement_165, eX7_readsStatement_168, eX7_readsStatement_169, eX7_readsStatement_172, eX7_readsStatement_173, eX7_readsStatement_174, eX7_readsStatement_177, eX7_readsStatement_178, eX7_readsStatement_179, eX7_readsStatement_180, eX7_readsStatement_183, eX7_readsStatement_184, eX7_readsStatement_187, eX7_readsStatement_190, eX7_readsStatement_191, eX7_readsStatement_192, eX7_readsStatement_193, eX7_readsStatement_196, eX7_readsStatement_199, eX7_readsStatement_200, eX7_readsStatement_201, eX7_readsStatement_202, eX7_readsStatement_205, eX7_readsStatement_208, eX7_readsStatement_209, eX7_readsStatement_212, eX7_readsStatement_213, eX7_readsStatement_214, eX7_readsStatement_217, eX7_readsStatement_218, eX7_readsStatement_219, eX7_readsStatement_222, eX7_readsStatement_223, eX7_readsStatement_224, eX7_readsStatement_227, eX7_readsStatement_228, eX7_readsStatement_230, eX7_readsStatement_233, eX7_readsStatement_234, eX7_readsStatement_237, eX7_readsStatement_239, eX7_readsStatement_242, eX7_readsStatement_243, eX7_readsStatement_244, eX7_readsStatement_245, eX7_readsStatement_246, eX7_readsStatement_249, eX7_readsStatement_250, eX7_readsStatement_251, eX7_readsStatement_254, eX7_readsStatement_255, r1]
    exact m_tail0
theorem fi_ne {c : Nat} (hc : c < 256) (h5 : fiN (nI c) ≠ 5) : c = 101 ∨ c = 105 ∨ c = 107 ∨ c = 110 ∨ c = 112 ∨ c = 115 ∨ c = 119 := by
  unfold fiN at h5
  have k : ∀ j : Nat, j < 256 → (nI c = nI j ↔ c = j) := fun j hj => nI_eq (by omega) (by omega)
  rw [show (101 : Int32) = nI 101 from rfl, show (105 : Int32) = nI 105 from rfl, show (107 : Int32) = nI 107 from rfl, show (110 : Int32) = nI 110 from rfl, show (112 : Int32) = nI 112 from rfl, show (115 : Int32) = nI 115 from rfl, show (119 : Int32) = nI 119 from rfl] at h5
  simp only [k 101 (by omega), k 105 (by omega), k 107 (by omega), k 110 (by omega), k 112 (by omega), k 115 (by omega), k 119 (by omega)] at h5
  by_cases a1 : c = 101
  · omega
  by_cases a2 : c = 105
  · omega
  by_cases a3 : c = 107
  · omega
  by_cases a4 : c = 110
  · omega
  by_cases a5 : c = 112
  · omega
  by_cases a6 : c = 115
  · omega
  by_cases a7 : c = 119
  · omega
  rw [if_neg a1, if_neg a2, if_neg a3, if_neg a4, if_neg a5, if_neg a6, if_neg a7] at h5
  exact absurd rfl h5
theorem m_readsStatement (L : LM h n w) (hp : h 17 12 = nI p) (hp2 : p ≤ n) : RS h n w p := by
  by_cases c : p < n ∧ fiN (nI (w p)) ≠ 5
  · rcases fi_ne (L.2.2 p c.1).2 c.2 with z | z | z | z | z | z | z
    · exact rs_e L hp c.1 z
    · exact rs_i L hp c.1 z
    · exact rs_k L hp c.1 z
    · exact rs_nw L hp c.1 (Or.inl z)
    · exact rs_p L hp c.1 z
    · exact rs_s L hp c.1 z
    · exact rs_nw L hp c.1 (Or.inr z)
  · exact rs_bad L hp hp2 c
end STMT

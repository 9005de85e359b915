section HEMS
variable {h h' g : Sto} {w : Nat → Nat} {n p k q : Nat} {r : Nat → Int32}
def MAct (h : Sto) (w : Nat → Nat) (p : Nat) (o : Option (Nat → Int32)) : Prop := ∃ h' : Sto, ev mX7_isDone 0 [.ref 17, .int (nI (w p)), .null, .null] [] h = some (some (.int (if o.isSome = true then 1 else 0)), h') ∧ (∀ r', o = some r' → mr h' 18 = r') ∧ ∀ a, a ≠ 18 → h' a = h a
theorem MAct_t {r' : Nat → Int32} (a : ev mX7_isDone 0 [.ref 17, .int (nI (w p)), .null, .null] [] h = some (some (.int 1), g)) (b : mr g 18 = r') (c : ∀ a, a ≠ 18 → g a = h a) : MAct h w p (some r') := ⟨g, a, fun r'' e => by injection e with e; rw [b, e], c⟩
theorem MAct_f (a : ev mX7_isDone 0 [.ref 17, .int (nI (w p)), .null, .null] [] h = some (some (.int 0), g)) (c : ∀ a, a ≠ 18 → g a = h a) : MAct h w p none := ⟨g, a, fun _ e => (by cases e), c⟩
theorem m_act {h0 : Sto} (L : LX h0 n w) (nb : NB w p h) (ok : Ok (mr h 18)) (hs : (stN w n p).2 = true) : MAct h w p (actN w p (mr h 18)) := by
  have so := stN_ok hs
  have o := id ok
  obtain ⟨o0, o1, o2, o3, o4, o5, -⟩ := o
  obtain ⟨nb1, nb2, nb3, nb4, nb5⟩ := nb
  have r0 : mr h 18 0 = h 18 0 := rfl
  rcases fi_ne (L.2.2 p so.1).2 so.2.1 with z | z | z | z | z | z | z
  · -- e
    obtain ⟨t1, t2, t3, t4⟩ := ok_e z hs
    have d10 := (dig_v L t1).2
    have en := end_n d10
    obtain ⟨b0, b1⟩ := nb3 z
    have zz : nI (w p) = 101 := by rw [z]; rfl
    unfold actN
    rw [if_neg (by omega), if_neg (by omega), if_pos z]
    by_cases c : num1 w (p + 1) ≤ 1
    · have c' := en.mpr c
      by_cases s1 : sgv w (p + 1 + 1) < -40
      · rw [if_neg (fun y => y.2.1 s1)]
        refine MAct_f (g := h) ?_ (fun _ _ => rfl)
        rw [zz]
        simp [eX7_isDone_0, eX7_isDone_1, eX7_isDone_4, eX7_isDone_5, eX7_isDone_6, eX7_isDone_7, eX7_isDone_8, eX7_isDone_11, eX7_isDone_12, eX7_isDone_13, eX7_isDone_14, eX7_isDone_15, eX7_isDone_88, eX7_isDone_89, eX7_isDone_92, eX7_isDone_93, eX7_isDone_94, eX7_isDone_95, eX7_isDone_96, eX7_isDone_97, eX7_isDone_99, eX7_isDone_102, eX7_isDone_103, eX7_isDone_104, eX7_isDone_105, eX7_isDone_108, eX7_isDone_111, eX7_isDone_112, eX7_isDone_113, eX7_isDone_114, eX7_isDone_117, eX7_isDone_119, eX7_isDone_120, eX7_isDone_121, eX7_isDone_122, eX7_isDone_123, eX7_isDone_124, eX7_isDone_125, eX7_isDone_126, eX7_isDone_129, eX7_isDone_131, eX7_isDone_132, eX7_isDone_133, eX7_isDone_134, eX7_isDone_135, eX7_isDone_136, eX7_isDone_137, eX7_isDone_138, eX7_isDone_141, eX7_isDone_142, eX7_isDone_143, eX7_isDone_144, eX7_isDone_145, eX7_isDone_146, eX7_isDone_147, eX7_isDone_150, eX7_isDone_153, eX7_isDone_154, eX7_isDone_156, eX7_isDone_158, eX7_isDone_161, eX7_isDone_164, eX7_isDone_165, eX7_isDone_166, eX7_isDone_167, eX7_isDone_170, eX7_isDone_171, eX7_isDone_172, eX7_isDone_173, eX7_isDone_174, eX7_isDone_175, eX7_isDone_176, eX7_isDone_177, eX7_isDone_178, eX7_isDone_181, eX7_isDone_184, eX7_isDone_185, eX7_isDone_186, eX7_isDone_187, eX7_isDone_190, eX7_isDone_191, eX7_isDone_192, eX7_isDone_193, eX7_isDone_194, eX7_isDone_195, eX7_isDone_196, eX7_isDone_197, eX7_isDone_198, eX7_isDone_199, eX7_isDone_200, eX7_isDone_201, eX7_isDone_204, eX7_isDone_205, eX7_isDone_206, eX7_isDone_207, eX7_isDone_208, eX7_isDone_209, eX7_isDone_210, eX7_isDone_211, eX7_isDone_212, eX7_isDone_213, eX7_isDone_216, eX7_isDone_218, eX7_isDone_219, eX7_isDone_220, eX7_isDone_221, eX7_isDone_224, eX7_isDone_226, eX7_isDone_227, eX7_isDone_228, eX7_isDone_229, eX7_isDone_230, eX7_isDone_233, eX7_isDone_234, eX7_isDone_237, eX7_isDone_238, eX7_isDone_239, eX7_isDone_240, eX7_isDone_241, eX7_isDone_243, eX7_isDone_246, eX7_isDone_249, eX7_isDone_250, eX7_isDone_251, eX7_isDone_252, eX7_isDone_255, eX7_isDone_256, eX7_isDone_259, eX7_isDone_260, b0, b1, m_isEnd2, c', m_isIn, s1, show lyA 26 = some 3 from rfl]
      · by_cases s2 : 24 < sgv w (p + 1 + 1)
        · rw [if_neg (fun y => y.2.2 s2)]
          refine MAct_f (g := h) ?_ (fun _ _ => rfl)
          rw [zz]
          simp [eX7_isDone_0, eX7_isDone_1, eX7_isDone_4, eX7_isDone_5, eX7_isDone_6, eX7_isDone_7, eX7_isDone_8, eX7_isDone_11, eX7_isDone_12, eX7_isDone_13, eX7_isDone_14, eX7_isDone_15, eX7_isDone_88, eX7_isDone_89, eX7_isDone_92, eX7_isDone_93, eX7_isDone_94, eX7_isDone_95, eX7_isDone_96, eX7_isDone_97, eX7_isDone_99, eX7_isDone_102, eX7_isDone_103, eX7_isDone_104, eX7_isDone_105, eX7_isDone_108, eX7_isDone_111, eX7_isDone_112, eX7_isDone_113, eX7_isDone_114, eX7_isDone_117, eX7_isDone_119, eX7_isDone_120, eX7_isDone_121, eX7_isDone_122, eX7_isDone_123, eX7_isDone_124, eX7_isDone_125, eX7_isDone_126, eX7_isDone_129, eX7_isDone_131, eX7_isDone_132, eX7_isDone_133, eX7_isDone_134, eX7_isDone_135, eX7_isDone_136, eX7_isDone_137, eX7_isDone_138, eX7_isDone_141, eX7_isDone_142, eX7_isDone_143, eX7_isDone_144, eX7_isDone_145, eX7_isDone_146, eX7_isDone_147, eX7_isDone_150, eX7_isDone_153, eX7_isDone_154, eX7_isDone_156, eX7_isDone_158, eX7_isDone_161, eX7_isDone_164, eX7_isDone_165, eX7_isDone_166, eX7_isDone_167, eX7_isDone_170, eX7_isDone_171, eX7_isDone_172, eX7_isDone_173, eX7_isDone_174, eX7_isDone_175, eX7_isDone_176, eX7_isDone_177, eX7_isDone_178, eX7_isDone_181, eX7_isDone_184, eX7_isDone_185, eX7_isDone_186, eX7_isDone_187, eX7_isDone_190, eX7_isDone_191, eX7_isDone_192, eX7_isDone_193, eX7_isDone_194, eX7_isDone_195, eX7_isDone_196, eX7_isDone_197, eX7_isDone_198, eX7_isDone_199, eX7_isDone_200, eX7_isDone_201, eX7_isDone_204, eX7_isDone_205, eX7_isDone_206, eX7_isDone_207, eX7_isDone_208, eX7_isDone_209, eX7_isDone_210, eX7_isDone_211, eX7_isDone_212, eX7_isDone_213, eX7_isDone_216, eX7_isDone_218, eX7_isDone_219, eX7_isDone_220, eX7_isDone_221, eX7_isDone_224, eX7_isDone_226, eX7_isDone_227, eX7_isDone_228, eX7_isDone_229, eX7_isDone_230, eX7_isDone_233, eX7_isDone_234, eX7_isDone_237, eX7_isDone_238, eX7_isDone_239, eX7_isDone_240, eX7_isDone_241, eX7_isDone_243, eX7_isDone_246, eX7_isDone_249, eX7_isDone_250, eX7_isDone_251, eX7_isDone_252, eX7_isDone_255, eX7_isDone_256, eX7_isDone_259, eX7_isDone_260, b0, b1, m_isEnd2, c', m_isIn, s1, s2, show lyA 26 = some 3 from rfl]
        · rw [if_pos ⟨c, s1, s2⟩]
          have d01 : num1 w (p + 1) = 0 ∨ num1 w (p + 1) = 1 := by omega
          rcases d01 with y | y
          · rw [y, nI_0] at b0
            refine MAct_t (g := st h 18 1 (sgv w (p + 1 + 1))) ?_ ?_ (fun a y => st_cell y)
            · rw [zz]
              simp [eX7_isDone_0, eX7_isDone_1, eX7_isDone_4, eX7_isDone_5, eX7_isDone_6, eX7_isDone_7, eX7_isDone_8, eX7_isDone_11, eX7_isDone_12, eX7_isDone_13, eX7_isDone_14, eX7_isDone_15, eX7_isDone_88, eX7_isDone_89, eX7_isDone_92, eX7_isDone_93, eX7_isDone_94, eX7_isDone_95, eX7_isDone_96, eX7_isDone_97, eX7_isDone_99, eX7_isDone_102, eX7_isDone_103, eX7_isDone_104, eX7_isDone_105, eX7_isDone_108, eX7_isDone_111, eX7_isDone_112, eX7_isDone_113, eX7_isDone_114, eX7_isDone_117, eX7_isDone_119, eX7_isDone_120, eX7_isDone_121, eX7_isDone_122, eX7_isDone_123, eX7_isDone_124, eX7_isDone_125, eX7_isDone_126, eX7_isDone_129, eX7_isDone_131, eX7_isDone_132, eX7_isDone_133, eX7_isDone_134, eX7_isDone_135, eX7_isDone_136, eX7_isDone_137, eX7_isDone_138, eX7_isDone_141, eX7_isDone_142, eX7_isDone_143, eX7_isDone_144, eX7_isDone_145, eX7_isDone_146, eX7_isDone_147, eX7_isDone_150, eX7_isDone_153, eX7_isDone_154, eX7_isDone_156, eX7_isDone_158, eX7_isDone_161, eX7_isDone_164, eX7_isDone_165, eX7_isDone_166, eX7_isDone_167, eX7_isDone_170, eX7_isDone_171, eX7_isDone_172, eX7_isDone_173, eX7_isDone_174, eX7_isDone_175, eX7_isDone_176, eX7_isDone_177, eX7_isDone_178, eX7_isDone_181, eX7_isDone_184, eX7_isDone_185, eX7_isDone_186, eX7_isDone_187, eX7_isDone_190, eX7_isDone_191, eX7_isDone_192, eX7_isDone_193, eX7_isDone_194, eX7_isDone_195, eX7_isDone_196, eX7_isDone_197, eX7_isDone_198, eX7_isDone_199, eX7_isDone_200, eX7_isDone_201, eX7_isDone_204, eX7_isDone_205, eX7_isDone_206, eX7_isDone_207, eX7_isDone_208, eX7_isDone_209, eX7_isDone_210, eX7_isDone_211, eX7_isDone_212, eX7_isDone_213, eX7_isDone_216, eX7_isDone_218, eX7_isDone_219, eX7_isDone_220, eX7_isDone_221, eX7_isDone_224, eX7_isDone_226, eX7_isDone_227, eX7_isDone_228, eX7_isDone_229, eX7_isDone_230, eX7_isDone_233, eX7_isDone_234, eX7_isDone_237, eX7_isDone_238, eX7_isDone_239, eX7_isDone_240, eX7_isDone_241, eX7_isDone_243, eX7_isDone_246, eX7_isDone_249, eX7_isDone_250, eX7_isDone_251, eX7_isDone_252, eX7_isDone_255, eX7_isDone_256, eX7_isDone_259, eX7_isDone_260, b0, b1, m_isEnd2, m_isIn, s1, s2, show lyA 26 = some 3 from rfl, show lyA 18 = some 32 from rfl]
            · rw [y]
              exact mr_st (by omega)
          · rw [y, show nI 1 = 1 from rfl] at b0
            refine MAct_t (g := st h 18 2 (sgv w (p + 1 + 1))) ?_ ?_ (fun a y => st_cell y)
            · rw [zz]
              simp [eX7_isDone_0, eX7_isDone_1, eX7_isDone_4, eX7_isDone_5, eX7_isDone_6, eX7_isDone_7, eX7_isDone_8, eX7_isDone_11, eX7_isDone_12, eX7_isDone_13, eX7_isDone_14, eX7_isDone_15, eX7_isDone_88, eX7_isDone_89, eX7_isDone_92, eX7_isDone_93, eX7_isDone_94, eX7_isDone_95, eX7_isDone_96, eX7_isDone_97, eX7_isDone_99, eX7_isDone_102, eX7_isDone_103, eX7_isDone_104, eX7_isDone_105, eX7_isDone_108, eX7_isDone_111, eX7_isDone_112, eX7_isDone_113, eX7_isDone_114, eX7_isDone_117, eX7_isDone_119, eX7_isDone_120, eX7_isDone_121, eX7_isDone_122, eX7_isDone_123, eX7_isDone_124, eX7_isDone_125, eX7_isDone_126, eX7_isDone_129, eX7_isDone_131, eX7_isDone_132, eX7_isDone_133, eX7_isDone_134, eX7_isDone_135, eX7_isDone_136, eX7_isDone_137, eX7_isDone_138, eX7_isDone_141, eX7_isDone_142, eX7_isDone_143, eX7_isDone_144, eX7_isDone_145, eX7_isDone_146, eX7_isDone_147, eX7_isDone_150, eX7_isDone_153, eX7_isDone_154, eX7_isDone_156, eX7_isDone_158, eX7_isDone_161, eX7_isDone_164, eX7_isDone_165, eX7_isDone_166, eX7_isDone_167, eX7_isDone_170, eX7_isDone_171, eX7_isDone_172, eX7_isDone_173, eX7_isDone_174, eX7_isDone_175, eX7_isDone_176, eX7_isDone_177, eX7_isDone_178, eX7_isDone_181, eX7_isDone_184, eX7_isDone_185, eX7_isDone_186, eX7_isDone_187, eX7_isDone_190, eX7_isDone_191, eX7_isDone_192, eX7_isDone_193, eX7_isDone_194, eX7_isDone_195, eX7_isDone_196, eX7_isDone_197, eX7_isDone_198, eX7_isDone_199, eX7_isDone_200, eX7_isDone_201, eX7_isDone_204, eX7_isDone_205, eX7_isDone_206, eX7_isDone_207, eX7_isDone_208, eX7_isDone_209, eX7_isDone_210, eX7_isDone_211, eX7_isDone_212, eX7_isDone_213, eX7_isDone_216, eX7_isDone_218, eX7_isDone_219, eX7_isDone_220, eX7_isDone_221, eX7_isDone_224, eX7_isDone_226, eX7_isDone_227, eX7_isDone_228, eX7_isDone_229, eX7_isDone_230, eX7_isDone_233, eX7_isDone_234, eX7_isDone_237, eX7_isDone_238, eX7_isDone_239, eX7_isDone_240, eX7_isDone_241, eX7_isDone_243, eX7_isDone_246, eX7_isDone_249, eX7_isDone_250, eX7_isDone_251, eX7_isDone_252, eX7_isDone_255, eX7_isDone_256, eX7_isDone_259, eX7_isDone_260, b0, b1, m_isEnd2, m_isIn, s1, s2, show lyA 26 = some 3 from rfl, show lyA 18 = some 32 from rfl]
            · rw [y]
              exact mr_st (by omega)
    · have c' : ¬ (nI (num1 w (p + 1)) = 0 ∨ nI (num1 w (p + 1)) = 1) := fun y => c (en.mp y)
      rw [if_neg (fun y => c y.1)]
      refine MAct_f (g := h) ?_ (fun _ _ => rfl)
      rw [zz]
      simp [eX7_isDone_0, eX7_isDone_1, eX7_isDone_4, eX7_isDone_5, eX7_isDone_6, eX7_isDone_7, eX7_isDone_8, eX7_isDone_11, eX7_isDone_12, eX7_isDone_13, eX7_isDone_14, eX7_isDone_15, eX7_isDone_88, eX7_isDone_89, eX7_isDone_92, eX7_isDone_93, eX7_isDone_94, eX7_isDone_95, eX7_isDone_96, eX7_isDone_97, eX7_isDone_99, eX7_isDone_102, eX7_isDone_103, eX7_isDone_104, eX7_isDone_105, eX7_isDone_108, eX7_isDone_111, eX7_isDone_112, eX7_isDone_113, eX7_isDone_114, eX7_isDone_117, eX7_isDone_119, eX7_isDone_120, eX7_isDone_121, eX7_isDone_122, eX7_isDone_123, eX7_isDone_124, eX7_isDone_125, eX7_isDone_126, eX7_isDone_129, eX7_isDone_131, eX7_isDone_132, eX7_isDone_133, eX7_isDone_134, eX7_isDone_135, eX7_isDone_136, eX7_isDone_137, eX7_isDone_138, eX7_isDone_141, eX7_isDone_142, eX7_isDone_143, eX7_isDone_144, eX7_isDone_145, eX7_isDone_146, eX7_isDone_147, eX7_isDone_150, eX7_isDone_153, eX7_isDone_154, eX7_isDone_156, eX7_isDone_158, eX7_isDone_161, eX7_isDone_164, eX7_isDone_165, eX7_isDone_166, eX7_isDone_167, eX7_isDone_170, eX7_isDone_171, eX7_isDone_172, eX7_isDone_173, eX7_isDone_174, eX7_isDone_175, eX7_isDone_176, eX7_isDone_177, eX7_isDone_178, eX7_isDone_181, eX7_isDone_184, eX7_isDone_185, eX7_isDone_186, eX7_isDone_187, eX7_isDone_190, eX7_isDone_191, eX7_isDone_192, eX7_isDone_193, eX7_isDone_194, eX7_isDone_195, eX7_isDone_196, eX7_isDone_197, eX7_isDone_198, eX7_isDone_199, eX7_isDone_200, eX7_isDone_201, eX7_isDone_204, eX7_isDone_205, eX7_isDone_206, eX7_isDone_207, eX7_isDone_208, eX7_isDone_209, eX7_isDone_210, eX7_isDone_211, eX7_isDone_212, eX7_isDone_213, eX7_isDone_216, eX7_isDone_218, eX7_isDone_219, eX7_isDone_220, eX7_isDone_221, eX7_isDone_224, eX7_isDone_226, eX7_isDone_227, eX7_isDone_228, eX7_isDone_229, eX7_isDone_230, eX7_isDone_233, eX7_isDone_234, eX7_isDone_237, eX7_isDone_238, eX7_isDone_239, eX7_isDone_240, eX7_isDone_241, eX7_isDone_243, eX7_isDone_246, eX7_isDone_249, eX7_isDone_250, eX7_isDone_251, eX7_isDone_252, eX7_isDone_255, eX7_isDone_256, eX7_isDone_259, eX7_isDone_260, b0, b1, m_isEnd2, c', show lyA 26 = some 3 from rfl]
  · -- i
    obtain ⟨t1, t2, t3, t4⟩ := ok_i z hs
    have nl := num2_lt L t2 t3
    obtain ⟨b0, b1, b2⟩ := nb2 z
    have zz : nI (w p) = 105 := by rw [z]; rfl
    have l : (h 18 0).toInt ≤ 12 ∧ 2 ≤ (h 18 0).toInt := ⟨o0.2, o0.1⟩
    have mi := m_isInch (h := h) (x := nI (num2 w (p + 1 + 1))) l
    have n0 : ¬ nI (num2 w (p + 1 + 1)) < 0 := nI_pos (by omega)
    unfold actN
    rw [if_neg (by omega), if_pos z, r0]
    by_cases c : nI (num2 w (p + 1 + 1)) < h 18 0
    · have b12 : num2 w (p + 1 + 1) < 12 := by
        rw [t_lt, t_nI (by omega)] at c
        omega
      rw [if_neg n0, if_pos c] at mi
      obtain ⟨a8, b8, c8, d8, e8, g8⟩ := ix8 b12
      rw [if_pos c]
      refine MAct_t (g := st (st h 18 (8 + 2 * num2 w (p + 1 + 1)) (kdN (nI (w (p + 1))))) 18 (9 + 2 * num2 w (p + 1 + 1)) (nI (num1 w (p + 1 + 1 + 1 + 1)))) ?_ (mr_kf b12) (fun a y => by rw [st_cell y, st_cell y])
      rw [zz]
      have b2' : st h 18 (8 + 2 * num2 w (p + 1 + 1)) (kdN (nI (w (p + 1)))) 26 2 = nI (num1 w (p + 1 + 1 + 1 + 1)) := by rw [st_cell (by omega)]; exact b2
      simp [eX7_isDone_0, eX7_isDone_1, eX7_isDone_4, eX7_isDone_5, eX7_isDone_6, eX7_isDone_7, eX7_isDone_8, eX7_isDone_11, eX7_isDone_12, eX7_isDone_13, eX7_isDone_14, eX7_isDone_15, eX7_isDone_88, eX7_isDone_89, eX7_isDone_92, eX7_isDone_93, eX7_isDone_94, eX7_isDone_95, eX7_isDone_96, eX7_isDone_97, eX7_isDone_99, eX7_isDone_102, eX7_isDone_103, eX7_isDone_104, eX7_isDone_105, eX7_isDone_108, eX7_isDone_111, eX7_isDone_112, eX7_isDone_113, eX7_isDone_114, eX7_isDone_117, eX7_isDone_119, eX7_isDone_120, eX7_isDone_121, eX7_isDone_122, eX7_isDone_123, eX7_isDone_124, eX7_isDone_125, eX7_isDone_126, eX7_isDone_129, eX7_isDone_131, eX7_isDone_132, eX7_isDone_133, eX7_isDone_134, eX7_isDone_135, eX7_isDone_136, eX7_isDone_137, eX7_isDone_138, eX7_isDone_141, eX7_isDone_142, eX7_isDone_143, eX7_isDone_144, eX7_isDone_145, eX7_isDone_146, eX7_isDone_147, eX7_isDone_150, eX7_isDone_153, eX7_isDone_154, eX7_isDone_156, eX7_isDone_158, eX7_isDone_161, eX7_isDone_164, eX7_isDone_165, eX7_isDone_166, eX7_isDone_167, eX7_isDone_170, eX7_isDone_171, eX7_isDone_172, eX7_isDone_173, eX7_isDone_174, eX7_isDone_175, eX7_isDone_176, eX7_isDone_177, eX7_isDone_178, eX7_isDone_181, eX7_isDone_184, eX7_isDone_185, eX7_isDone_186, eX7_isDone_187, eX7_isDone_190, eX7_isDone_191, eX7_isDone_192, eX7_isDone_193, eX7_isDone_194, eX7_isDone_195, eX7_isDone_196, eX7_isDone_197, eX7_isDone_198, eX7_isDone_199, eX7_isDone_200, eX7_isDone_201, eX7_isDone_204, eX7_isDone_205, eX7_isDone_206, eX7_isDone_207, eX7_isDone_208, eX7_isDone_209, eX7_isDone_210, eX7_isDone_211, eX7_isDone_212, eX7_isDone_213, eX7_isDone_216, eX7_isDone_218, eX7_isDone_219, eX7_isDone_220, eX7_isDone_221, eX7_isDone_224, eX7_isDone_226, eX7_isDone_227, eX7_isDone_228, eX7_isDone_229, eX7_isDone_230, eX7_isDone_233, eX7_isDone_234, eX7_isDone_237, eX7_isDone_238, eX7_isDone_239, eX7_isDone_240, eX7_isDone_241, eX7_isDone_243, eX7_isDone_246, eX7_isDone_249, eX7_isDone_250, eX7_isDone_251, eX7_isDone_252, eX7_isDone_255, eX7_isDone_256, eX7_isDone_259, eX7_isDone_260, b0, b1, b2', mi, a8, b8, c8, d8, e8, g8, show lyA 26 = some 3 from rfl, show lyA 18 = some 32 from rfl]
    · rw [if_neg n0, if_neg c] at mi
      rw [if_neg c]
      refine MAct_f (g := h) ?_ (fun _ _ => rfl)
      rw [zz]
      simp [eX7_isDone_0, eX7_isDone_1, eX7_isDone_4, eX7_isDone_5, eX7_isDone_6, eX7_isDone_7, eX7_isDone_8, eX7_isDone_11, eX7_isDone_12, eX7_isDone_13, eX7_isDone_14, eX7_isDone_15, eX7_isDone_88, eX7_isDone_89, eX7_isDone_92, eX7_isDone_93, eX7_isDone_94, eX7_isDone_95, eX7_isDone_96, eX7_isDone_97, eX7_isDone_99, eX7_isDone_102, eX7_isDone_103, eX7_isDone_104, eX7_isDone_105, eX7_isDone_108, eX7_isDone_111, eX7_isDone_112, eX7_isDone_113, eX7_isDone_114, eX7_isDone_117, eX7_isDone_119, eX7_isDone_120, eX7_isDone_121, eX7_isDone_122, eX7_isDone_123, eX7_isDone_124, eX7_isDone_125, eX7_isDone_126, eX7_isDone_129, eX7_isDone_131, eX7_isDone_132, eX7_isDone_133, eX7_isDone_134, eX7_isDone_135, eX7_isDone_136, eX7_isDone_137, eX7_isDone_138, eX7_isDone_141, eX7_isDone_142, eX7_isDone_143, eX7_isDone_144, eX7_isDone_145, eX7_isDone_146, eX7_isDone_147, eX7_isDone_150, eX7_isDone_153, eX7_isDone_154, eX7_isDone_156, eX7_isDone_158, eX7_isDone_161, eX7_isDone_164, eX7_isDone_165, eX7_isDone_166, eX7_isDone_167, eX7_isDone_170, eX7_isDone_171, eX7_isDone_172, eX7_isDone_173, eX7_isDone_174, eX7_isDone_175, eX7_isDone_176, eX7_isDone_177, eX7_isDone_178, eX7_isDone_181, eX7_isDone_184, eX7_isDone_185, eX7_isDone_186, eX7_isDone_187, eX7_isDone_190, eX7_isDone_191, eX7_isDone_192, eX7_isDone_193, eX7_isDone_194, eX7_isDone_195, eX7_isDone_196, eX7_isDone_197, eX7_isDone_198, eX7_isDone_199, eX7_isDone_200, eX7_isDone_201, eX7_isDone_204, eX7_isDone_205, eX7_isDone_206, eX7_isDone_207, eX7_isDone_208, eX7_isDone_209, eX7_isDone_210, eX7_isDone_211, eX7_isDone_212, eX7_isDone_213, eX7_isDone_216, eX7_isDone_218, eX7_isDone_219, eX7_isDone_220, eX7_isDone_221, eX7_isDone_224, eX7_isDone_226, eX7_isDone_227, eX7_isDone_228, eX7_isDone_229, eX7_isDone_230, eX7_isDone_233, eX7_isDone_234, eX7_isDone_237, eX7_isDone_238, eX7_isDone_239, eX7_isDone_240, eX7_isDone_241, eX7_isDone_243, eX7_isDone_246, eX7_isDone_249, eX7_isDone_250, eX7_isDone_251, eX7_isDone_252, eX7_isDone_255, eX7_isDone_256, eX7_isDone_259, eX7_isDone_260, b0, b1, mi, show lyA 26 = some 3 from rfl]
  · -- k
    obtain ⟨t1, t2⟩ := ok_kk z hs
    have d10 := (dig_v L t1).2
    have en := end_n d10
    have b0 := nb4 z
    have zz : nI (w p) = 107 := by rw [z]; rfl
    unfold actN
    rw [if_neg (by omega), if_neg (by omega), if_neg (by omega), if_pos z]
    by_cases c : num1 w (p + 1) ≤ 1
    · have c' := en.mpr c
      rw [if_pos c]
      have d01 : num1 w (p + 1) = 0 ∨ num1 w (p + 1) = 1 := by omega
      rcases d01 with y | y
      · rw [y, nI_0] at b0
        refine MAct_t (g := st h 18 3 (h 18 3 ^^^ 1)) ?_ ?_ (fun a y => st_cell y)
        · rw [zz]
          simp [eX7_isDone_0, eX7_isDone_1, eX7_isDone_4, eX7_isDone_5, eX7_isDone_6, eX7_isDone_7, eX7_isDone_8, eX7_isDone_11, eX7_isDone_12, eX7_isDone_13, eX7_isDone_14, eX7_isDone_15, eX7_isDone_88, eX7_isDone_89, eX7_isDone_92, eX7_isDone_93, eX7_isDone_94, eX7_isDone_95, eX7_isDone_96, eX7_isDone_97, eX7_isDone_99, eX7_isDone_102, eX7_isDone_103, eX7_isDone_104, eX7_isDone_105, eX7_isDone_108, eX7_isDone_111, eX7_isDone_112, eX7_isDone_113, eX7_isDone_114, eX7_isDone_117, eX7_isDone_119, eX7_isDone_120, eX7_isDone_121, eX7_isDone_122, eX7_isDone_123, eX7_isDone_124, eX7_isDone_125, eX7_isDone_126, eX7_isDone_129, eX7_isDone_131, eX7_isDone_132, eX7_isDone_133, eX7_isDone_134, eX7_isDone_135, eX7_isDone_136, eX7_isDone_137, eX7_isDone_138, eX7_isDone_141, eX7_isDone_142, eX7_isDone_143, eX7_isDone_144, eX7_isDone_145, eX7_isDone_146, eX7_isDone_147, eX7_isDone_150, eX7_isDone_153, eX7_isDone_154, eX7_isDone_156, eX7_isDone_158, eX7_isDone_161, eX7_isDone_164, eX7_isDone_165, eX7_isDone_166, eX7_isDone_167, eX7_isDone_170, eX7_isDone_171, eX7_isDone_172, eX7_isDone_173, eX7_isDone_174, eX7_isDone_175, eX7_isDone_176, eX7_isDone_177, eX7_isDone_178, eX7_isDone_181, eX7_isDone_184, eX7_isDone_185, eX7_isDone_186, eX7_isDone_187, eX7_isDone_190, eX7_isDone_191, eX7_isDone_192, eX7_isDone_193, eX7_isDone_194, eX7_isDone_195, eX7_isDone_196, eX7_isDone_197, eX7_isDone_198, eX7_isDone_199, eX7_isDone_200, eX7_isDone_201, eX7_isDone_204, eX7_isDone_205, eX7_isDone_206, eX7_isDone_207, eX7_isDone_208, eX7_isDone_209, eX7_isDone_210, eX7_isDone_211, eX7_isDone_212, eX7_isDone_213, eX7_isDone_216, eX7_isDone_218, eX7_isDone_219, eX7_isDone_220, eX7_isDone_221, eX7_isDone_224, eX7_isDone_226, eX7_isDone_227, eX7_isDone_228, eX7_isDone_229, eX7_isDone_230, eX7_isDone_233, eX7_isDone_234, eX7_isDone_237, eX7_isDone_238, eX7_isDone_239, eX7_isDone_240, eX7_isDone_241, eX7_isDone_243, eX7_isDone_246, eX7_isDone_249, eX7_isDone_250, eX7_isDone_251, eX7_isDone_252, eX7_isDone_255, eX7_isDone_256, eX7_isDone_259, eX7_isDone_260, b0, m_isEnd2, show lyA 26 = some 3 from rfl, show lyA 18 = some 32 from rfl]
        · rw [y]
          exact mr_st (by omega)
      · rw [y, show nI 1 = 1 from rfl] at b0
        refine MAct_t (g := st h 18 4 (h 18 4 ^^^ 1)) ?_ ?_ (fun a y => st_cell y)
        · rw [zz]
          simp [eX7_isDone_0, eX7_isDone_1, eX7_isDone_4, eX7_isDone_5, eX7_isDone_6, eX7_isDone_7, eX7_isDone_8, eX7_isDone_11, eX7_isDone_12, eX7_isDone_13, eX7_isDone_14, eX7_isDone_15, eX7_isDone_88, eX7_isDone_89, eX7_isDone_92, eX7_isDone_93, eX7_isDone_94, eX7_isDone_95, eX7_isDone_96, eX7_isDone_97, eX7_isDone_99, eX7_isDone_102, eX7_isDone_103, eX7_isDone_104, eX7_isDone_105, eX7_isDone_108, eX7_isDone_111, eX7_isDone_112, eX7_isDone_113, eX7_isDone_114, eX7_isDone_117, eX7_isDone_119, eX7_isDone_120, eX7_isDone_121, eX7_isDone_122, eX7_isDone_123, eX7_isDone_124, eX7_isDone_125, eX7_isDone_126, eX7_isDone_129, eX7_isDone_131, eX7_isDone_132, eX7_isDone_133, eX7_isDone_134, eX7_isDone_135, eX7_isDone_136, eX7_isDone_137, eX7_isDone_138, eX7_isDone_141, eX7_isDone_142, eX7_isDone_143, eX7_isDone_144, eX7_isDone_145, eX7_isDone_146, eX7_isDone_147, eX7_isDone_150, eX7_isDone_153, eX7_isDone_154, eX7_isDone_156, eX7_isDone_158, eX7_isDone_161, eX7_isDone_164, eX7_isDone_165, eX7_isDone_166, eX7_isDone_167, eX7_isDone_170, eX7_isDone_171, eX7_isDone_172, eX7_isDone_173, eX7_isDone_174, eX7_isDone_175, eX7_isDone_176, eX7_isDone_177, eX7_isDone_178, eX7_isDone_181, eX7_isDone_184, eX7_isDone_185, eX7_isDone_186, eX7_isDone_187, eX7_isDone_190, eX7_isDone_191, eX7_isDone_192, eX7_isDone_193, eX7_isDone_194, eX7_isDone_195, eX7_isDone_196, eX7_isDone_197, eX7_isDone_198, eX7_isDone_199, eX7_isDone_200, eX7_isDone_201, eX7_isDone_204, eX7_isDone_205, eX7_isDone_206, eX7_isDone_207, eX7_isDone_208, eX7_isDone_209, eX7_isDone_210, eX7_isDone_211, eX7_isDone_212, eX7_isDone_213, eX7_isDone_216, eX7_isDone_218, eX7_isDone_219, eX7_isDone_220, eX7_isDone_221, eX7_isDone_224, eX7_isDone_226, eX7_isDone_227, eX7_isDone_228, eX7_isDone_229, eX7_isDone_230, eX7_isDone_233, eX7_isDone_234, eX7_isDone_237, eX7_isDone_238, eX7_isDone_239, eX7_isDone_240, eX7_isDone_241, eX7_isDone_243, eX7_isDone_246, eX7_isDone_249, eX7_isDone_250, eX7_isDone_251, eX7_isDone_252, eX7_isDone_255, eX7_isDone_256, eX7_isDone_259, eX7_isDone_260, b0, m_isEnd2, show lyA 26 = some 3 from rfl, show lyA 18 = some 32 from rfl]
        · rw [y]
          exact mr_st (by omega)
    · have c' : ¬ (nI (num1 w (p + 1)) = 0 ∨ nI (num1 w (p + 1)) = 1) := fun y => c (en.mp y)
      rw [if_neg c]
      refine MAct_f (g := h) ?_ (fun _ _ => rfl)
      rw [zz]
      simp [eX7_isDone_0, eX7_isDone_1, eX7_isDone_4, eX7_isDone_5, eX7_isDone_6, eX7_isDone_7, eX7_isDone_8, eX7_isDone_11, eX7_isDone_12, eX7_isDone_13, eX7_isDone_14, eX7_isDone_15, eX7_isDone_88, eX7_isDone_89, eX7_isDone_92, eX7_isDone_93, eX7_isDone_94, eX7_isDone_95, eX7_isDone_96, eX7_isDone_97, eX7_isDone_99, eX7_isDone_102, eX7_isDone_103, eX7_isDone_104, eX7_isDone_105, eX7_isDone_108, eX7_isDone_111, eX7_isDone_112, eX7_isDone_113, eX7_isDone_114, eX7_isDone_117, eX7_isDone_119, eX7_isDone_120, eX7_isDone_121, eX7_isDone_122, eX7_isDone_123, eX7_isDone_124, eX7_isDone_125, eX7_isDone_126, eX7_isDone_129, eX7_isDone_131, eX7_isDone_132, eX7_isDone_133, eX7_isDone_134, eX7_isDone_135, eX7_isDone_136, eX7_isDone_137, eX7_isDone_138, eX7_isDone_141, eX7_isDone_142, eX7_isDone_143, eX7_isDone_144, eX7_isDone_145, eX7_isDone_146, eX7_isDone_147, eX7_isDone_150, eX7_isDone_153, eX7_isDone_154, eX7_isDone_156, eX7_isDone_158, eX7_isDone_161, eX7_isDone_164, eX7_isDone_165, eX7_isDone_166, eX7_isDone_167, eX7_isDone_170, eX7_isDone_171, eX7_isDone_172, eX7_isDone_173, eX7_isDone_174, eX7_isDone_175, eX7_isDone_176, eX7_isDone_177, eX7_isDone_178, eX7_isDone_181, eX7_isDone_184, eX7_isDone_185, eX7_isDone_186, eX7_isDone_187, eX7_isDone_190, eX7_isDone_191, eX7_isDone_192, eX7_isDone_193, eX7_isDone_194, eX7_isDone_195, eX7_isDone_196, eX7_isDone_197, eX7_isDone_198, eX7_isDone_199, eX7_isDone_200, eX7_isDone_201, eX7_isDone_204, eX7_isDone_205, eX7_isDone_206, eX7_isDone_207, eX7_isDone_208, eX7_isDone_209, eX7_isDone_210, eX7_isDone_211, eX7_isDone_212, eX7_isDone_213, eX7_isDone_216, eX7_isDone_218, eX7_isDone_219, eX7_isDone_220, eX7_isDone_221, eX7_isDone_224, eX7_isDone_226, eX7_isDone_227, eX7_isDone_228, eX7_isDone_229, eX7_isDone_230, eX7_isDone_233, eX7_isDone_234, eX7_isDone_237, eX7_isDone_238, eX7_isDone_239, eX7_isDone_240, eX7_isDone_241, eX7_isDone_243, eX7_isDone_246, eX7_isDone_249, eX7_isDone_250, eX7_isDone_251, eX7_isDone_252, eX7_isDone_255, eX7_isDone_256, eX7_isDone_259, eX7_isDone_260, b0, m_isEnd2, c', show lyA 26 = some 3 from rfl]
  · -- n
    obtain ⟨t1, t2, t3⟩ := ok_nw (Or.inl z) hs
    have nl := num2_lt L t1 t2
    have b0 := nb1 (Or.inl z)
    have zz : nI (w p) = 110 := by rw [z]; rfl
    have a1 : (nI (num2 w (p + 1)) < 2) ↔ num2 w (p + 1) < 2 := nlt (b := 2) (by omega) (by omega)
    have a2 : (12 < nI (num2 w (p + 1))) ↔ 12 < num2 w (p + 1) := nlt (a := 12) (by omega) (by omega)
    unfold actN
    rw [if_pos z]
    by_cases c1 : num2 w (p + 1) < 2
    · have d1 := a1.mpr c1
      rw [if_neg (by omega)]
      refine MAct_f (g := st h 18 0 (nI (num2 w (p + 1)))) ?_ (fun a y => st_cell y)
      rw [zz]
      simp [eX7_isDone_0, eX7_isDone_1, eX7_isDone_4, eX7_isDone_5, eX7_isDone_6, eX7_isDone_7, eX7_isDone_8, eX7_isDone_11, eX7_isDone_12, eX7_isDone_13, eX7_isDone_14, eX7_isDone_15, eX7_isDone_88, eX7_isDone_89, eX7_isDone_92, eX7_isDone_93, eX7_isDone_94, eX7_isDone_95, eX7_isDone_96, eX7_isDone_97, eX7_isDone_99, eX7_isDone_102, eX7_isDone_103, eX7_isDone_104, eX7_isDone_105, eX7_isDone_108, eX7_isDone_111, eX7_isDone_112, eX7_isDone_113, eX7_isDone_114, eX7_isDone_117, eX7_isDone_119, eX7_isDone_120, eX7_isDone_121, eX7_isDone_122, eX7_isDone_123, eX7_isDone_124, eX7_isDone_125, eX7_isDone_126, eX7_isDone_129, eX7_isDone_131, eX7_isDone_132, eX7_isDone_133, eX7_isDone_134, eX7_isDone_135, eX7_isDone_136, eX7_isDone_137, eX7_isDone_138, eX7_isDone_141, eX7_isDone_142, eX7_isDone_143, eX7_isDone_144, eX7_isDone_145, eX7_isDone_146, eX7_isDone_147, eX7_isDone_150, eX7_isDone_153, eX7_isDone_154, eX7_isDone_156, eX7_isDone_158, eX7_isDone_161, eX7_isDone_164, eX7_isDone_165, eX7_isDone_166, eX7_isDone_167, eX7_isDone_170, eX7_isDone_171, eX7_isDone_172, eX7_isDone_173, eX7_isDone_174, eX7_isDone_175, eX7_isDone_176, eX7_isDone_177, eX7_isDone_178, eX7_isDone_181, eX7_isDone_184, eX7_isDone_185, eX7_isDone_186, eX7_isDone_187, eX7_isDone_190, eX7_isDone_191, eX7_isDone_192, eX7_isDone_193, eX7_isDone_194, eX7_isDone_195, eX7_isDone_196, eX7_isDone_197, eX7_isDone_198, eX7_isDone_199, eX7_isDone_200, eX7_isDone_201, eX7_isDone_204, eX7_isDone_205, eX7_isDone_206, eX7_isDone_207, eX7_isDone_208, eX7_isDone_209, eX7_isDone_210, eX7_isDone_211, eX7_isDone_212, eX7_isDone_213, eX7_isDone_216, eX7_isDone_218, eX7_isDone_219, eX7_isDone_220, eX7_isDone_221, eX7_isDone_224, eX7_isDone_226, eX7_isDone_227, eX7_isDone_228, eX7_isDone_229, eX7_isDone_230, eX7_isDone_233, eX7_isDone_234, eX7_isDone_237, eX7_isDone_238, eX7_isDone_239, eX7_isDone_240, eX7_isDone_241, eX7_isDone_243, eX7_isDone_246, eX7_isDone_249, eX7_isDone_250, eX7_isDone_251, eX7_isDone_252, eX7_isDone_255, eX7_isDone_256, eX7_isDone_259, eX7_isDone_260, b0, m_isIn, d1, show lyA 26 = some 3 from rfl, show lyA 18 = some 32 from rfl]
    · have d1 : ¬ nI (num2 w (p + 1)) < 2 := fun y => c1 (a1.mp y)
      by_cases c2 : 12 < num2 w (p + 1)
      · have d2 := a2.mpr c2
        rw [if_neg (by omega)]
        refine MAct_f (g := st h 18 0 (nI (num2 w (p + 1)))) ?_ (fun a y => st_cell y)
        rw [zz]
        simp [eX7_isDone_0, eX7_isDone_1, eX7_isDone_4, eX7_isDone_5, eX7_isDone_6, eX7_isDone_7, eX7_isDone_8, eX7_isDone_11, eX7_isDone_12, eX7_isDone_13, eX7_isDone_14, eX7_isDone_15, eX7_isDone_88, eX7_isDone_89, eX7_isDone_92, eX7_isDone_93, eX7_isDone_94, eX7_isDone_95, eX7_isDone_96, eX7_isDone_97, eX7_isDone_99, eX7_isDone_102, eX7_isDone_103, eX7_isDone_104, eX7_isDone_105, eX7_isDone_108, eX7_isDone_111, eX7_isDone_112, eX7_isDone_113, eX7_isDone_114, eX7_isDone_117, eX7_isDone_119, eX7_isDone_120, eX7_isDone_121, eX7_isDone_122, eX7_isDone_123, eX7_isDone_124, eX7_isDone_125, eX7_isDone_126, eX7_isDone_129, eX7_isDone_131, eX7_isDone_132, eX7_isDone_133, eX7_isDone_134, eX7_isDone_135, eX7_isDone_136, eX7_isDone_137, eX7_isDone_138, eX7_isDone_141, eX7_isDone_142, eX7_isDone_143, eX7_isDone_144, eX7_isDone_145, eX7_isDone_146, eX7_isDone_147, eX7_isDone_150, eX7_isDone_153, eX7_isDone_154, eX7_isDone_156, eX7_isDone_158, eX7_isDone_161, eX7_isDone_164, eX7_isDone_165, eX7_isDone_166, eX7_isDone_167, eX7_isDone_170, eX7_isDone_171, eX7_isDone_172, eX7_isDone_173, eX7_isDone_174, eX7_isDone_175, eX7_isDone_176, eX7_isDone_177, eX7_isDone_178, eX7_isDone_181, eX7_isDone_184, eX7_isDone_185, eX7_isDone_186, eX7_isDone_187, eX7_isDone_190, eX7_isDone_191, eX7_isDone_192, eX7_isDone_193, eX7_isDone_194, eX7_isDone_195, eX7_isDone_196, eX7_isDone_197, eX7_isDone_198, eX7_isDone_199, eX7_isDone_200, eX7_isDone_201, eX7_isDone_204, eX7_isDone_205, eX7_isDone_206, eX7_isDone_207, eX7_isDone_208, eX7_isDone_209, eX7_isDone_210, eX7_isDone_211, eX7_isDone_212, eX7_isDone_213, eX7_isDone_216, eX7_isDone_218, eX7_isDone_219, eX7_isDone_220, eX7_isDone_221, eX7_isDone_224, eX7_isDone_226, eX7_isDone_227, eX7_isDone_228, eX7_isDone_229, eX7_isDone_230, eX7_isDone_233, eX7_isDone_234, eX7_isDone_237, eX7_isDone_238, eX7_isDone_239, eX7_isDone_240, eX7_isDone_241, eX7_isDone_243, eX7_isDone_246, eX7_isDone_249, eX7_isDone_250, eX7_isDone_251, eX7_isDone_252, eX7_isDone_255, eX7_isDone_256, eX7_isDone_259, eX7_isDone_260, b0, m_isIn, d1, d2, show lyA 26 = some 3 from rfl, show lyA 18 = some 32 from rfl]
      · have d2 : ¬ 12 < nI (num2 w (p + 1)) := fun y => c2 (a2.mp y)
        rw [if_pos (by omega)]
        refine MAct_t (g := st h 18 0 (nI (num2 w (p + 1)))) ?_ (mr_st (by omega)) (fun a y => st_cell y)
        rw [zz]
        simp [eX7_isDone_0, eX7_isDone_1, eX7_isDone_4, eX7_isDone_5, eX7_isDone_6, eX7_isDone_7, eX7_isDone_8, eX7_isDone_11, eX7_isDone_12, eX7_isDone_13, eX7_isDone_14, eX7_isDone_15, eX7_isDone_88, eX7_isDone_89, eX7_isDone_92, eX7_isDone_93, eX7_isDone_94, eX7_isDone_95, eX7_isDone_96, eX7_isDone_97, eX7_isDone_99, eX7_isDone_102, eX7_isDone_103, eX7_isDone_104, eX7_isDone_105, eX7_isDone_108, eX7_isDone_111, eX7_isDone_112, eX7_isDone_113, eX7_isDone_114, eX7_isDone_117, eX7_isDone_119, eX7_isDone_120, eX7_isDone_121, eX7_isDone_122, eX7_isDone_123, eX7_isDone_124, eX7_isDone_125, eX7_isDone_126, eX7_isDone_129, eX7_isDone_131, eX7_isDone_132, eX7_isDone_133, eX7_isDone_134, eX7_isDone_135, eX7_isDone_136, eX7_isDone_137, eX7_isDone_138, eX7_isDone_141, eX7_isDone_142, eX7_isDone_143, eX7_isDone_144, eX7_isDone_145, eX7_isDone_146, eX7_isDone_147, eX7_isDone_150, eX7_isDone_153, eX7_isDone_154, eX7_isDone_156, eX7_isDone_158, eX7_isDone_161, eX7_isDone_164, eX7_isDone_165, eX7_isDone_166, eX7_isDone_167, eX7_isDone_170, eX7_isDone_171, eX7_isDone_172, eX7_isDone_173, eX7_isDone_174, eX7_isDone_175, eX7_isDone_176, eX7_isDone_177, eX7_isDone_178, eX7_isDone_181, eX7_isDone_184, eX7_isDone_185, eX7_isDone_186, eX7_isDone_187, eX7_isDone_190, eX7_isDone_191, eX7_isDone_192, eX7_isDone_193, eX7_isDone_194, eX7_isDone_195, eX7_isDone_196, eX7_isDone_197, eX7_isDone_198, eX7_isDone_199, eX7_isDone_200, eX7_isDone_201, eX7_isDone_204, eX7_isDone_205, eX7_isDone_206, eX7_isDone_207, eX7_isDone_208, eX7_isDone_209, eX7_isDone_210, eX7_isDone_211, eX7_isDone_212, eX7_isDone_213, eX7_isDone_216, eX7_isDone_218, eX7_isDone_219, eX7_isDone_220, eX7_isDone_221, eX7_isDone_224, eX7_isDone_226, eX7_isDone_227, eX7_isDone_228, eX7_isDone_229, eX7_isDone_230, eX7_isDone_233, eX7_isDone_234, eX7_isDone_237, eX7_isDone_238, eX7_isDone_239, eX7_isDone_240, eX7_isDone_241, eX7_isDone_243, eX7_isDone_246, eX7_isDone_249, eX7_isDone_250, eX7_isDone_251, eX7_isDone_252, eX7_isDone_255, eX7_isDone_256, eX7_isDone_259, eX7_isDone_260, b0, m_isIn, d1, d2, show lyA 26 = some 3 from rfl, show lyA 18 = some 32 from rfl]
  · -- p
    obtain ⟨t1, t2, t3⟩ := ok_p z hs
    have d10 := (dig_v L t1).2
    obtain ⟨b0, b1⟩ := nb5 z
    have zz : nI (w p) = 112 := by rw [z]; rfl
    have a1 : (nI (num1 w (p + 1)) < 1) ↔ num1 w (p + 1) < 1 := nlt (b := 1) (by omega) (by omega)
    unfold actN
    rw [if_neg (by omega), if_neg (by omega), if_neg (by omega), if_neg (by omega), if_neg (by omega), if_pos z]
    by_cases c : num1 w (p + 1) < 1
    · have c' := a1.mpr c
      rw [if_neg (by omega)]
      refine MAct_f (g := st (st h 18 6 (nI (num1 w (p + 1)))) 18 7 (nI (num1 w (p + 1 + 1)))) ?_ (fun a y => by rw [st_cell y, st_cell y])
      rw [zz]
      simp [eX7_isDone_0, eX7_isDone_1, eX7_isDone_4, eX7_isDone_5, eX7_isDone_6, eX7_isDone_7, eX7_isDone_8, eX7_isDone_11, eX7_isDone_12, eX7_isDone_13, eX7_isDone_14, eX7_isDone_15, eX7_isDone_88, eX7_isDone_89, eX7_isDone_92, eX7_isDone_93, eX7_isDone_94, eX7_isDone_95, eX7_isDone_96, eX7_isDone_97, eX7_isDone_99, eX7_isDone_102, eX7_isDone_103, eX7_isDone_104, eX7_isDone_105, eX7_isDone_108, eX7_isDone_111, eX7_isDone_112, eX7_isDone_113, eX7_isDone_114, eX7_isDone_117, eX7_isDone_119, eX7_isDone_120, eX7_isDone_121, eX7_isDone_122, eX7_isDone_123, eX7_isDone_124, eX7_isDone_125, eX7_isDone_126, eX7_isDone_129, eX7_isDone_131, eX7_isDone_132, eX7_isDone_133, eX7_isDone_134, eX7_isDone_135, eX7_isDone_136, eX7_isDone_137, eX7_isDone_138, eX7_isDone_141, eX7_isDone_142, eX7_isDone_143, eX7_isDone_144, eX7_isDone_145, eX7_isDone_146, eX7_isDone_147, eX7_isDone_150, eX7_isDone_153, eX7_isDone_154, eX7_isDone_156, eX7_isDone_158, eX7_isDone_161, eX7_isDone_164, eX7_isDone_165, eX7_isDone_166, eX7_isDone_167, eX7_isDone_170, eX7_isDone_171, eX7_isDone_172, eX7_isDone_173, eX7_isDone_174, eX7_isDone_175, eX7_isDone_176, eX7_isDone_177, eX7_isDone_178, eX7_isDone_181, eX7_isDone_184, eX7_isDone_185, eX7_isDone_186, eX7_isDone_187, eX7_isDone_190, eX7_isDone_191, eX7_isDone_192, eX7_isDone_193, eX7_isDone_194, eX7_isDone_195, eX7_isDone_196, eX7_isDone_197, eX7_isDone_198, eX7_isDone_199, eX7_isDone_200, eX7_isDone_201, eX7_isDone_204, eX7_isDone_205, eX7_isDone_206, eX7_isDone_207, eX7_isDone_208, eX7_isDone_209, eX7_isDone_210, eX7_isDone_211, eX7_isDone_212, eX7_isDone_213, eX7_isDone_216, eX7_isDone_218, eX7_isDone_219, eX7_isDone_220, eX7_isDone_221, eX7_isDone_224, eX7_isDone_226, eX7_isDone_227, eX7_isDone_228, eX7_isDone_229, eX7_isDone_230, eX7_isDone_233, eX7_isDone_234, eX7_isDone_237, eX7_isDone_238, eX7_isDone_239, eX7_isDone_240, eX7_isDone_241, eX7_isDone_243, eX7_isDone_246, eX7_isDone_249, eX7_isDone_250, eX7_isDone_251, eX7_isDone_252, eX7_isDone_255, eX7_isDone_256, eX7_isDone_259, eX7_isDone_260, b0, b1, c', show lyA 26 = some 3 from rfl, show lyA 18 = some 32 from rfl]
    · have c' : ¬ nI (num1 w (p + 1)) < 1 := fun y => c (a1.mp y)
      rw [if_pos (by omega)]
      refine MAct_t (g := st (st h 18 6 (nI (num1 w (p + 1)))) 18 7 (nI (num1 w (p + 1 + 1)))) ?_ (by rw [mr_st (by omega), mr_st (by omega)]) (fun a y => by rw [st_cell y, st_cell y])
      rw [zz]
      simp [eX7_isDone_0, eX7_isDone_1, eX7_isDone_4, eX7_isDone_5, eX7_isDone_6, eX7_isDone_7, eX7_isDone_8, eX7_isDone_11, eX7_isDone_12, eX7_isDone_13, eX7_isDone_14, eX7_isDone_15, eX7_isDone_88, eX7_isDone_89, eX7_isDone_92, eX7_isDone_93, eX7_isDone_94, eX7_isDone_95, eX7_isDone_96, eX7_isDone_97, eX7_isDone_99, eX7_isDone_102, eX7_isDone_103, eX7_isDone_104, eX7_isDone_105, eX7_isDone_108, eX7_isDone_111, eX7_isDone_112, eX7_isDone_113, eX7_isDone_114, eX7_isDone_117, eX7_isDone_119, eX7_isDone_120, eX7_isDone_121, eX7_isDone_122, eX7_isDone_123, eX7_isDone_124, eX7_isDone_125, eX7_isDone_126, eX7_isDone_129, eX7_isDone_131, eX7_isDone_132, eX7_isDone_133, eX7_isDone_134, eX7_isDone_135, eX7_isDone_136, eX7_isDone_137, eX7_isDone_138, eX7_isDone_141, eX7_isDone_142, eX7_isDone_143, eX7_isDone_144, eX7_isDone_145, eX7_isDone_146, eX7_isDone_147, eX7_isDone_150, eX7_isDone_153, eX7_isDone_154, eX7_isDone_156, eX7_isDone_158, eX7_isDone_161, eX7_isDone_164, eX7_isDone_165, eX7_isDone_166, eX7_isDone_167, eX7_isDone_170, eX7_isDone_171, eX7_isDone_172, eX7_isDone_173, eX7_isDone_174, eX7_isDone_175, eX7_isDone_176, eX7_isDone_177, eX7_isDone_178, eX7_isDone_181, eX7_isDone_184, eX7_isDone_185, eX7_isDone_186, eX7_isDone_187, eX7_isDone_190, eX7_isDone_191, eX7_isDone_192, eX7_isDone_193, eX7_isDone_194, eX7_isDone_195, eX7_isDone_196, eX7_isDone_197, eX7_isDone_198, eX7_isDone_199, eX7_isDone_200, eX7_isDone_201, eX7_isDone_204, eX7_isDone_205, eX7_isDone_206, eX7_isDone_207, eX7_isDone_208, eX7_isDone_209, eX7_isDone_210, eX7_isDone_211, eX7_isDone_212, eX7_isDone_213, eX7_isDone_216, eX7_isDone_218, eX7_isDone_219, eX7_isDone_220, eX7_isDone_221, eX7_isDone_224, eX7_isDone_226, eX7_isDone_227, eX7_isDone_228, eX7_isDone_229, eX7_isDone_230, eX7_isDone_233, eX7_isDone_234, eX7_isDone_237, eX7_isDone_238, eX7_isDone_239, eX7_isDone_240, eX7_isDone_241, eX7_isDone_243, eX7_isDone_246, eX7_isDone_249, eX7_isDone_250, eX7_isDone_251, eX7_isDone_252, eX7_isDone_255, eX7_isDone_256, eX7_isDone_259, eX7_isDone_260, b0, b1, c', show lyA 26 = some 3 from rfl, show lyA 18 = some 32 from rfl]
  · -- s
    have zz : nI (w p) = 115 := by rw [z]; rfl
    unfold actN
    rw [if_neg (by omega), if_neg (by omega), if_neg (by omega), if_neg (by omega), if_pos z]
    refine MAct_t (g := st h 18 5 (h 18 5 ^^^ 1)) ?_ (mr_st (by omega)) (fun a y => st_cell y)
    rw [zz]
    simp [eX7_isDone_0, eX7_isDone_1, eX7_isDone_4, eX7_isDone_5, eX7_isDone_6, eX7_isDone_7, eX7_isDone_8, eX7_isDone_11, eX7_isDone_12, eX7_isDone_13, eX7_isDone_14, eX7_isDone_15, eX7_isDone_88, eX7_isDone_89, eX7_isDone_92, eX7_isDone_93, eX7_isDone_94, eX7_isDone_95, eX7_isDone_96, eX7_isDone_97, eX7_isDone_99, eX7_isDone_102, eX7_isDone_103, eX7_isDone_104, eX7_isDone_105, eX7_isDone_108, eX7_isDone_111, eX7_isDone_112, eX7_isDone_113, eX7_isDone_114, eX7_isDone_117, eX7_isDone_119, eX7_isDone_120, eX7_isDone_121, eX7_isDone_122, eX7_isDone_123, eX7_isDone_124, eX7_isDone_125, eX7_isDone_126, eX7_isDone_129, eX7_isDone_131, eX7_isDone_132, eX7_isDone_133, eX7_isDone_134, eX7_isDone_135, eX7_isDone_136, eX7_isDone_137, eX7_isDone_138, eX7_isDone_141, eX7_isDone_142, eX7_isDone_143, eX7_isDone_144, eX7_isDone_145, eX7_isDone_146, eX7_isDone_147, eX7_isDone_150, eX7_isDone_153, eX7_isDone_154, eX7_isDone_156, eX7_isDone_158, eX7_isDone_161, eX7_isDone_164, eX7_isDone_165, eX7_isDone_166, eX7_isDone_167, eX7_isDone_170, eX7_isDone_171, eX7_isDone_172, eX7_isDone_173, eX7_isDone_174, eX7_isDone_175, eX7_isDone_176, eX7_isDone_177, eX7_isDone_178, eX7_isDone_181, eX7_isDone_184, eX7_isDone_185, eX7_isDone_186, eX7_isDone_187, eX7_isDone_190, eX7_isDone_191, eX7_isDone_192, eX7_isDone_193, eX7_isDone_194, eX7_isDone_195, eX7_isDone_196, eX7_isDone_197, eX7_isDone_198, eX7_isDone_199, eX7_isDone_200, eX7_isDone_201, eX7_isDone_204, eX7_isDone_205, eX7_isDone_206, eX7_isDone_207, eX7_isDone_208, eX7_isDone_209, eX7_isDone_210, eX7_isDone_211, eX7_isDone_212, eX7_isDone_213, eX7_isDone_216, eX7_isDone_218, eX7_isDone_219, eX7_isDone_220, eX7_isDone_221, eX7_isDone_224, eX7_isDone_226, eX7_isDone_227, eX7_isDone_228, eX7_isDone_229, eX7_isDone_230, eX7_isDone_233, eX7_isDone_234, eX7_isDone_237, eX7_isDone_238, eX7_isDone_239, eX7_isDone_240, eX7_isDone_241, eX7_isDone_243, eX7_isDone_246, eX7_isDone_249, eX7_isDone_250, eX7_isDone_251, eX7_isDone_252, eX7_isDone_255, eX7_isDone_256, eX7_isDone_259, eX7_isDone_260, show lyA 26 = some 3 from rfl, show lyA 18 = some 32 from rfl]
  · -- w
    obtain ⟨t1, t2, t3⟩ := ok_nw (Or.inr z) hs
    have nl := num2_lt L t1 t2
    have b0 := nb1 (Or.inr z)
    have zz : nI (w p) = 119 := by rw [z]; rfl
    have a1 : (nI (num2 w (p + 1)) < 1) ↔ num2 w (p + 1) < 1 := nlt (b := 1) (by omega) (by omega)
    have a2 : (40 < nI (num2 w (p + 1))) ↔ 40 < num2 w (p + 1) := nlt (a := 40) (by omega) (by omega)
    unfold actN
    rw [if_neg (by omega), if_neg (by omega), if_neg (by omega), if_neg (by omega), if_neg (by omega), if_neg (by omega)]
    by_cases c1 : num2 w (p + 1) < 1
    · have d1 := a1.mpr c1
      rw [if_neg (by omega)]
      refine MAct_f (g := h) ?_ (fun _ _ => rfl)
      rw [zz]
      simp [eX7_isDone_0, eX7_isDone_1, eX7_isDone_4, eX7_isDone_5, eX7_isDone_6, eX7_isDone_7, eX7_isDone_8, eX7_isDone_11, eX7_isDone_12, eX7_isDone_13, eX7_isDone_14, eX7_isDone_15, eX7_isDone_88, eX7_isDone_89, eX7_isDone_92, eX7_isDone_93, eX7_isDone_94, eX7_isDone_95, eX7_isDone_96, eX7_isDone_97, eX7_isDone_99, eX7_isDone_102, eX7_isDone_103, eX7_isDone_104, eX7_isDone_105, eX7_isDone_108, eX7_isDone_111, eX7_isDone_112, eX7_isDone_113, eX7_isDone_114, eX7_isDone_117, eX7_isDone_119, eX7_isDone_120, eX7_isDone_121, eX7_isDone_122, eX7_isDone_123, eX7_isDone_124, eX7_isDone_125, eX7_isDone_126, eX7_isDone_129, eX7_isDone_131, eX7_isDone_132, eX7_isDone_133, eX7_isDone_134, eX7_isDone_135, eX7_isDone_136, eX7_isDone_137, eX7_isDone_138, eX7_isDone_141, eX7_isDone_142, eX7_isDone_143, eX7_isDone_144, eX7_isDone_145, eX7_isDone_146, eX7_isDone_147, eX7_isDone_150, eX7_isDone_153, eX7_isDone_154, eX7_isDone_156, eX7_isDone_158, eX7_isDone_161, eX7_isDone_164, eX7_isDone_165, eX7_isDone_166, eX7_isDone_167, eX7_isDone_170, eX7_isDone_171, eX7_isDone_172, eX7_isDone_173, eX7_isDone_174, eX7_isDone_175, eX7_isDone_176, eX7_isDone_177, eX7_isDone_178, eX7_isDone_181, eX7_isDone_184, eX7_isDone_185, eX7_isDone_186, eX7_isDone_187, eX7_isDone_190, eX7_isDone_191, eX7_isDone_192, eX7_isDone_193, eX7_isDone_194, eX7_isDone_195, eX7_isDone_196, eX7_isDone_197, eX7_isDone_198, eX7_isDone_199, eX7_isDone_200, eX7_isDone_201, eX7_isDone_204, eX7_isDone_205, eX7_isDone_206, eX7_isDone_207, eX7_isDone_208, eX7_isDone_209, eX7_isDone_210, eX7_isDone_211, eX7_isDone_212, eX7_isDone_213, eX7_isDone_216, eX7_isDone_218, eX7_isDone_219, eX7_isDone_220, eX7_isDone_221, eX7_isDone_224, eX7_isDone_226, eX7_isDone_227, eX7_isDone_228, eX7_isDone_229, eX7_isDone_230, eX7_isDone_233, eX7_isDone_234, eX7_isDone_237, eX7_isDone_238, eX7_isDone_239, eX7_isDone_240, eX7_isDone_241, eX7_isDone_243, eX7_isDone_246, eX7_isDone_249, eX7_isDone_250, eX7_isDone_251, eX7_isDone_252, eX7_isDone_255, eX7_isDone_256, eX7_isDone_259, eX7_isDone_260, b0, m_isIn, d1, show lyA 26 = some 3 from rfl]
    · have d1 : ¬ nI (num2 w (p + 1)) < 1 := fun y => c1 (a1.mp y)
      by_cases c2 : 40 < num2 w (p + 1)
      · have d2 := a2.mpr c2
        rw [if_neg (by omega)]
        refine MAct_f (g := h) ?_ (fun _ _ => rfl)
        rw [zz]
        simp [eX7_isDone_0, eX7_isDone_1, eX7_isDone_4, eX7_isDone_5, eX7_isDone_6, eX7_isDone_7, eX7_isDone_8, eX7_isDone_11, eX7_isDone_12, eX7_isDone_13, eX7_isDone_14, eX7_isDone_15, eX7_isDone_88, eX7_isDone_89, eX7_isDone_92, eX7_isDone_93, eX7_isDone_94, eX7_isDone_95, eX7_isDone_96, eX7_isDone_97, eX7_isDone_99, eX7_isDone_102, eX7_isDone_103, eX7_isDone_104, eX7_isDone_105, eX7_isDone_108, eX7_isDone_111, eX7_isDone_112, eX7_isDone_113, eX7_isDone_114, eX7_isDone_117, eX7_isDone_119, eX7_isDone_120, eX7_isDone_121, eX7_isDone_122, eX7_isDone_123, eX7_isDone_124, eX7_isDone_125, eX7_isDone_126, eX7_isDone_129, eX7_isDone_131, eX7_isDone_132, eX7_isDone_133, eX7_isDone_134, eX7_isDone_135, eX7_isDone_136, eX7_isDone_137, eX7_isDone_138, eX7_isDone_141, eX7_isDone_142, eX7_isDone_143, eX7_isDone_144, eX7_isDone_145, eX7_isDone_146, eX7_isDone_147, eX7_isDone_150, eX7_isDone_153, eX7_isDone_154, eX7_isDone_156, eX7_isDone_158, eX7_isDone_161, eX7_isDone_164, eX7_isDone_165, eX7_isDone_166, eX7_isDone_167, eX7_isDone_170, eX7_isDone_171, eX7_isDone_172, eX7_isDone_173, eX7_isDone_174, eX7_isDone_175, eX7_isDone_176, eX7_isDone_177, eX7_isDone_178, eX7_isDone_181, eX7_isDone_184, eX7_isDone_185, eX7_isDone_186, eX7_isDone_187, eX7_isDone_190, eX7_isDone_191, eX7_isDone_192, eX7_isDone_193, eX7_isDone_194, eX7_isDone_195, eX7_isDone_196, eX7_isDone_197, eX7_isDone_198, eX7_isDone_199, eX7_isDone_200, eX7_isDone_201, eX7_isDone_204, eX7_isDone_205, eX7_isDone_206, eX7_isDone_207, eX7_isDone_208, eX7_isDone_209, eX7_isDone_210, eX7_isDone_211, eX7_isDone_212, eX7_isDone_213, eX7_isDone_216, eX7_isDone_218, eX7_isDone_219, eX7_isDone_220, eX7_isDone_221, eX7_isDone_224, eX7_isDone_226, eX7_isDone_227, eX7_isDone_228, eX7_isDone_229, eX7_isDone_230, eX7_isDone_233, eX7_isDone_234, eX7_isDone_237, eX7_isDone_238, eX7_isDone_239, eX7_isDone_240, eX7_isDone_241, eX7_isDone_243, eX7_isDone_246, eX7_isDone_249, eX7_isDone_250, eX7_isDone_251, eX7_isDone_252, eX7_isDone_255, eX7_isDone_256, eX7_isDone_259, eX7_isDone_260, b0, m_isIn, d1, d2, show lyA 26 = some 3 from rfl]
      · have d2 : ¬ 40 < nI (num2 w (p + 1)) := fun y => c2 (a2.mp y)
        have mw := m_washesOn (r := 18) (h := h) (N := num2 w (p + 1)) rfl (by omega) ok
        rw [if_pos (by omega)]
        refine MAct_t (g := dpm h 18 (wsN (mr h 18) (num2 w (p + 1)) 1) (wsN (mr h 18) (num2 w (p + 1)) 2)) ?_ (by rw [mr_dpm, ← wsN_form]) (fun a y => dpm_cell y)
        rw [zz]
        simp [eX7_isDone_0, eX7_isDone_1, eX7_isDone_4, eX7_isDone_5, eX7_isDone_6, eX7_isDone_7, eX7_isDone_8, eX7_isDone_11, eX7_isDone_12, eX7_isDone_13, eX7_isDone_14, eX7_isDone_15, eX7_isDone_88, eX7_isDone_89, eX7_isDone_92, eX7_isDone_93, eX7_isDone_94, eX7_isDone_95, eX7_isDone_96, eX7_isDone_97, eX7_isDone_99, eX7_isDone_102, eX7_isDone_103, eX7_isDone_104, eX7_isDone_105, eX7_isDone_108, eX7_isDone_111, eX7_isDone_112, eX7_isDone_113, eX7_isDone_114, eX7_isDone_117, eX7_isDone_119, eX7_isDone_120, eX7_isDone_121, eX7_isDone_122, eX7_isDone_123, eX7_isDone_124, eX7_isDone_125, eX7_isDone_126, eX7_isDone_129, eX7_isDone_131, eX7_isDone_132, eX7_isDone_133, eX7_isDone_134, eX7_isDone_135, eX7_isDone_136, eX7_isDone_137, eX7_isDone_138, eX7_isDone_141, eX7_isDone_142, eX7_isDone_143, eX7_isDone_144, eX7_isDone_145, eX7_isDone_146, eX7_isDone_147, eX7_isDone_150, eX7_isDone_153, eX7_isDone_154, eX7_isDone_156, eX7_isDone_158, eX7_isDone_161, eX7_isDone_164, eX7_isDone_165, eX7_isDone_166, eX7_isDone_167, eX7_isDone_170, eX7_isDone_171, eX7_isDone_172, eX7_isDone_173, eX7_isDone_174, eX7_isDone_175, eX7_isDone_176, eX7_isDone_177, eX7_isDone_178, eX7_isDone_181, eX7_isDone_184, eX7_isDone_185, eX7_isDone_186, eX7_isDone_187, eX7_isDone_190, eX7_isDone_191, eX7_isDone_192, eX7_isDone_193, eX7_isDone_194, eX7_isDone_195, eX7_isDone_196, eX7_isDone_197, eX7_isDone_198, eX7_isDone_199, eX7_isDone_200, eX7_isDone_201, eX7_isDone_204, eX7_isDone_205, eX7_isDone_206, eX7_isDone_207, eX7_isDone_208, eX7_isDone_209, eX7_isDone_210, eX7_isDone_211, eX7_isDone_212, eX7_isDone_213, eX7_isDone_216, eX7_isDone_218, eX7_isDone_219, eX7_isDone_220, eX7_isDone_221, eX7_isDone_224, eX7_isDone_226, eX7_isDone_227, eX7_isDone_228, eX7_isDone_229, eX7_isDone_230, eX7_isDone_233, eX7_isDone_234, eX7_isDone_237, eX7_isDone_238, eX7_isDone_239, eX7_isDone_240, eX7_isDone_241, eX7_isDone_243, eX7_isDone_246, eX7_isDone_249, eX7_isDone_250, eX7_isDone_251, eX7_isDone_252, eX7_isDone_255, eX7_isDone_256, eX7_isDone_259, eX7_isDone_260, b0, m_isIn, d1, d2, mw, show lyA 26 = some 3 from rfl]
/-- how many STATEMENTS -/
def cnN (w : Nat → Nat) (n : Nat) : Nat → Nat → Nat
  | 0, _ => 0
  | f + 1, p => if p < n then 1 + cnN w n f (stN w n p).1 else 0
theorem cnN_ge {f : Nat} (hp : ¬ p < n) : cnN w n f p = 0 := by
  cases f with
  | zero => rfl
  | succ f => rw [cnN, if_neg hp]
theorem h1_loop : ∀ (f p : Nat) (h : Sto) (c : Int32) (a3 a4 a5 : Value), LM h n w → h 17 12 = nI p → p ≤ n → n + 1 ≤ f + p → ∃ h' : Sto, Fr h h' ∧ (flN w n f p = none → ev mX7_hem 10 [.ref 17, .int c, .int (-9), a3, a4, a5] [] h = ev mX7_hem 46 [.ref 17, .int (c + nI (cnN w n f p)), .int (-9), a3, a4, a5] [] h') ∧ ∀ q, flN w n f p = some q → ∃ c' : Int32, ev mX7_hem 10 [.ref 17, .int c, .int (-9), a3, a4, a5] [] h = ev mX7_hem 46 [.ref 17, .int c', .int (-1000 - nI q), a3, a4, a5] [] h' := by
  intro f
  induction f with
  | zero => intro p h c a3 a4 a5 L hp hpn hf; omega
  | succ f ih =>
    intro p h c a3 a4 a5 L hp hpn hf
    have l1 := L.1
    obtain ⟨g, r1, r2, r3, r4⟩ := m_readsStatement L hp hpn
    have Lg := L.fr r4
    by_cases ok : (stN w n p).2 = true
    · rw [if_pos ok] at r1
      have so := stN_ok ok
      by_cases lt : (stN w n p).1 < n
      · obtain ⟨h', q1, q2, q3⟩ := ih (stN w n p).1 g (c + 1) a3 a4 a5 Lg r2 (by omega) (by omega)
        have e3 : nI (stN w n p).1 < nI n := nI_lt lt (by omega)
        have go : ev mX7_hem 10 [.ref 17, .int c, .int (-9), a3, a4, a5] [] h = ev mX7_hem 10 [.ref 17, .int (c + 1), .int (-9), a3, a4, a5] [] g := by
          rw [eX7_hem_10]
          simp [eX7_hem_0, eX7_hem_1, eX7_hem_2, eX7_hem_5, eX7_hem_6, eX7_hem_7, eX7_hem_9, eX7_hem_11, eX7_hem_14, eX7_hem_17, eX7_hem_20, eX7_hem_21, eX7_hem_24, eX7_hem_25, eX7_hem_26, eX7_hem_29, eX7_hem_30, eX7_hem_32, eX7_hem_35, eX7_hem_36, eX7_hem_39, eX7_hem_40, eX7_hem_43, eX7_hem_47, eX7_hem_50, eX7_hem_51, eX7_hem_54, eX7_hem_57, eX7_hem_58, eX7_hem_59, eX7_hem_63, eX7_hem_65, eX7_hem_68, eX7_hem_69, eX7_hem_72, eX7_hem_73, eX7_hem_76, eX7_hem_79, eX7_hem_80, eX7_hem_83, eX7_hem_84, eX7_hem_85, eX7_hem_88, eX7_hem_90, eX7_hem_91, eX7_hem_94, eX7_hem_96, eX7_hem_97, eX7_hem_99, eX7_hem_102, eX7_hem_105, eX7_hem_108, eX7_hem_111, eX7_hem_112, eX7_hem_113, eX7_hem_114, eX7_hem_115, eX7_hem_118, eX7_hem_119, eX7_hem_122, eX7_hem_125, eX7_hem_128, eX7_hem_129, eX7_hem_130, eX7_hem_133, eX7_hem_134, eX7_hem_136, eX7_hem_139, eX7_hem_140, eX7_hem_143, eX7_hem_144, r1, r2, Lg.2.1, e3]
        refine ⟨h', r4.trans q1, ?_, ?_⟩
        · intro hn
          rw [flN, if_pos ok, if_pos lt] at hn
          rw [go, q2 hn, cnN, if_pos so.1, ← nI_add, show nI 1 = 1 from rfl, Int32.add_assoc]
        · intro q hq
          rw [flN, if_pos ok, if_pos lt] at hq
          obtain ⟨c', hc'⟩ := q3 q hq
          exact ⟨c', by rw [go]; exact hc'⟩
      · have e3 : ¬ nI (stN w n p).1 < nI n := nI_nlt (by omega) (by omega)
        refine ⟨g, r4, ?_, ?_⟩
        · intro _
          rw [cnN, if_pos so.1, cnN_ge lt, show nI (1 + 0) = 1 from rfl]
          rw [eX7_hem_10]
          simp [eX7_hem_0, eX7_hem_1, eX7_hem_2, eX7_hem_5, eX7_hem_6, eX7_hem_7, eX7_hem_9, eX7_hem_11, eX7_hem_14, eX7_hem_17, eX7_hem_20, eX7_hem_21, eX7_hem_24, eX7_hem_25, eX7_hem_26, eX7_hem_29, eX7_hem_30, eX7_hem_32, eX7_hem_35, eX7_hem_36, eX7_hem_39, eX7_hem_40, eX7_hem_43, eX7_hem_47, eX7_hem_50, eX7_hem_51, eX7_hem_54, eX7_hem_57, eX7_hem_58, eX7_hem_59, eX7_hem_63, eX7_hem_65, eX7_hem_68, eX7_hem_69, eX7_hem_72, eX7_hem_73, eX7_hem_76, eX7_hem_79, eX7_hem_80, eX7_hem_83, eX7_hem_84, eX7_hem_85, eX7_hem_88, eX7_hem_90, eX7_hem_91, eX7_hem_94, eX7_hem_96, eX7_hem_97, eX7_hem_99, eX7_hem_102, eX7_hem_105, eX7_hem_108, eX7_hem_111, eX7_hem_112, eX7_hem_113, eX7_hem_114, eX7_hem_115, eX7_hem_118, eX7_hem_119, eX7_hem_122, eX7_hem_125, eX7_hem_128, eX7_hem_129, eX7_hem_130, eX7_hem_133, eX7_hem_134, eX7_hem_136, eX7_hem_139, eX7_hem_140, eX7_hem_143, eX7_hem_144, r1, r2, Lg.2.1, e3]
        · intro q hq
          rw [flN, if_pos ok, if_neg lt] at hq
          cases hq
    · rw [if_neg ok] at r1
      have le := stN_le (w := w) hpn
      refine ⟨g, r4, ?_, ?_⟩
      · intro hn
        rw [flN, if_neg ok] at hn
        cases hn
      · intro q hq
        rw [flN, if_neg ok] at hq
        injection hq with hq
        subst hq
        have ne : ¬ (-1000 : Int32) - nI (stN w n p).1 = -9 := by
          rw [t_eq, t_sub (by rw [t_nI (by omega)]; show _ ≤ (-1000 : Int) - _; omega) (by rw [t_nI (by omega)]; show (-1000 : Int) - _ < _; omega), t_nI (by omega)]
          show ¬ (-1000 : Int) - _ = -9
          omega
        refine ⟨c + 1, ?_⟩
        rw [eX7_hem_10]
        simp [eX7_hem_0, eX7_hem_1, eX7_hem_2, eX7_hem_5, eX7_hem_6, eX7_hem_7, eX7_hem_9, eX7_hem_11, eX7_hem_14, eX7_hem_17, eX7_hem_20, eX7_hem_21, eX7_hem_24, eX7_hem_25, eX7_hem_26, eX7_hem_29, eX7_hem_30, eX7_hem_32, eX7_hem_35, eX7_hem_36, eX7_hem_39, eX7_hem_40, eX7_hem_43, eX7_hem_47, eX7_hem_50, eX7_hem_51, eX7_hem_54, eX7_hem_57, eX7_hem_58, eX7_hem_59, eX7_hem_63, eX7_hem_65, eX7_hem_68, eX7_hem_69, eX7_hem_72, eX7_hem_73, eX7_hem_76, eX7_hem_79, eX7_hem_80, eX7_hem_83, eX7_hem_84, eX7_hem_85, eX7_hem_88, eX7_hem_90, eX7_hem_91, eX7_hem_94, eX7_hem_96, eX7_hem_97, eX7_hem_99, eX7_hem_102, eX7_hem_105, eX7_hem_108, eX7_hem_111, eX7_hem_112, eX7_hem_113, eX7_hem_114, eX7_hem_115, eX7_hem_118, eX7_hem_119, eX7_hem_122, eX7_hem_125, eX7_hem_128, eX7_hem_129, eX7_hem_130, eX7_hem_133, eX7_hem_134, eX7_hem_136, eX7_hem_139, eX7_hem_140, eX7_hem_143, eX7_hem_144, r1, r2, ne]
/-- the STATEMENTS come, one behind another -/
def f2N (w : Nat → Nat) (n : Nat) : Nat → Nat → (Nat → Int32) → Option Nat × (Nat → Int32)
  | 0, _, r => (none, r)
  | f + 1, p, r => if p < n then (match actN w p r with
    | none => (some p, r)
    | some r' => f2N w n f (stN w n p).1 r') else (none, r)
theorem LX.o (L : LX h n w) (h12 : h' 12 = h 12) (h13 : h' 13 = h 13) : LX h' n w := by
  unfold LX
  rw [h12, h13]
  exact L
theorem f_lenB (L : LX h n w) (hp : p < n) : ev mX2_lengthBehind 0 [.ref 12, .int (nI p)] [] h = some (some (.int (nI (sLen.getD (fiN (nI (w p))) 0))), h) := by
  have fs := f_signAt L hp
  have fl := fi_lt (nI (w p))
  have fm := f_form (h := h) (x := nI (w p))
  have jl := j_len (s := fiN (nI (w p))) (h := h) (by omega)
  have rc := rc100 (show fiN (nI (w p)) < 7 by omega)
  generalize sLen.getD (fiN (nI (w p))) 0 = M at *
  simp [eX2_lengthBehind_0, eX2_lengthBehind_1, eX2_lengthBehind_2, eX2_lengthBehind_5, eX2_lengthBehind_8, eX2_lengthBehind_11, fs, fm, jl, rc]
theorem fl_step {f : Nat} (hp : p < n) (hf : flN w n (f + 1) p = none) : (stN w n p).2 = true ∧ ((stN w n p).1 < n → flN w n f (stN w n p).1 = none) := by
  rw [flN] at hf
  by_cases ok : (stN w n p).2 = true
  · rw [if_pos ok] at hf
    refine ⟨ok, fun lt => ?_⟩
    rw [if_pos lt] at hf
    exact hf
  · rw [if_neg ok] at hf
    cases hf
theorem sc_loop : ∀ (f p : Nat) (h : Sto) (c : Int32), LX h n w → Ok (hm h 4) → p ≤ n → n + 1 ≤ f + p → (p < n → flN w n f p = none) → (∀ q r', f2N w n f p (hm h 4) = (some q, r') → ∃ h' : Sto, ev mX6_statementsCome 15 [.ref 0, .int c, .int (nI p)] [] h = some (some (.int (-2000 - nI q)), h') ∧ ∀ a, a ≠ 4 → a ≠ 5 → a ≠ 6 → h' a = h a) ∧ (∀ r', f2N w n f p (hm h 4) = (none, r') → ∃ (h' : Sto) (x : Int32), ev mX6_statementsCome 15 [.ref 0, .int c, .int (nI p)] [] h = ev mX6_statementsCome 64 [.ref 0, .int (c + nI (cnN w n f p)), .int x] [] h' ∧ hm h' 4 = r' ∧ Ok r' ∧ ∀ a, a ≠ 4 → a ≠ 5 → a ≠ 6 → h' a = h a) := by
  intro f
  induction f with
  | zero => intro p h c L ok hpn hf hfl; omega
  | succ f ih =>
    intro p h c L ok hpn hf hfl
    have l1 := L.1
    have l2 := L.2.1
    by_cases hp : p < n
    · have e2 : ¬ nI n ≤ nI p := nI_ge hp (by omega)
      obtain ⟨sok, fl2⟩ := fl_step hp (hfl hp)
      have so := stN_ok sok
      have ca := c_act L ok sok
      rw [f2N, if_pos hp, cnN, if_pos hp]
      cases ha : actN w p (hm h 4) with
      | none =>
        rw [ha] at ca
        have ca : ev mX6_isAsItMustBe 0 [.ref 0, .int (nI p)] [] h = some (some (.int 0), h) := ca
        refine ⟨?_, ?_⟩
        · intro q r' e
          injection e with e1 e3
          injection e1 with e1
          subst e1
          refine ⟨h, ?_, fun _ _ _ _ => rfl⟩
          rw [eX6_statementsCome_15]
          simp [eX6_statementsCome_0, eX6_statementsCome_1, eX6_statementsCome_4, eX6_statementsCome_5, eX6_statementsCome_8, eX6_statementsCome_11, eX6_statementsCome_12, eX6_statementsCome_13, eX6_statementsCome_14, eX6_statementsCome_16, eX6_statementsCome_17, eX6_statementsCome_20, eX6_statementsCome_23, eX6_statementsCome_26, eX6_statementsCome_27, eX6_statementsCome_28, eX6_statementsCome_31, eX6_statementsCome_34, eX6_statementsCome_37, eX6_statementsCome_38, eX6_statementsCome_39, eX6_statementsCome_40, eX6_statementsCome_41, eX6_statementsCome_42, eX6_statementsCome_45, eX6_statementsCome_48, eX6_statementsCome_49, eX6_statementsCome_50, eX6_statementsCome_51, eX6_statementsCome_54, eX6_statementsCome_55, eX6_statementsCome_58, eX6_statementsCome_59, eX6_statementsCome_60, eX6_statementsCome_61, eX6_statementsCome_65, eX6_statementsCome_68, eX6_statementsCome_69, eX6_statementsCome_72, eX6_statementsCome_75, eX6_statementsCome_76, l2, e2, ca]
        · intro r' e
          injection e with e1 e3
          cases e1
      | some r1 =>
        rw [ha] at ca
        obtain ⟨ca1, g, ca2, ca3, ca4⟩ := ca
        have Lg : LX g n w := L.o (ca4 12 (by omega) (by omega) (by omega)) (ca4 13 (by omega) (by omega) (by omega))
        have okr : Ok r1 := act_ok L ok sok ha
        have lb := f_lenB Lg hp
        have step := ih (stN w n p).1 g (c + 1) Lg (by rw [ca3]; exact okr) (by omega) (by omega) fl2
        rw [ca3] at step
        have ea : nI p + (1 + nI (sLen.getD (fiN (nI (w p))) 0)) = nI (stN w n p).1 := by
          rw [show (1 : Int32) = nI 1 from rfl, nI_add, nI_add, so.2.2.1]
          congr 1
          omega
        generalize nI (sLen.getD (fiN (nI (w p))) 0) = M at lb ea
        have go : ev mX6_statementsCome 15 [.ref 0, .int c, .int (nI p)] [] h = ev mX6_statementsCome 15 [.ref 0, .int (c + 1), .int (nI (stN w n p).1)] [] g := by
          rw [eX6_statementsCome_15]
          simp [eX6_statementsCome_0, eX6_statementsCome_1, eX6_statementsCome_4, eX6_statementsCome_5, eX6_statementsCome_8, eX6_statementsCome_11, eX6_statementsCome_12, eX6_statementsCome_13, eX6_statementsCome_14, eX6_statementsCome_16, eX6_statementsCome_17, eX6_statementsCome_20, eX6_statementsCome_23, eX6_statementsCome_26, eX6_statementsCome_27, eX6_statementsCome_28, eX6_statementsCome_31, eX6_statementsCome_34, eX6_statementsCome_37, eX6_statementsCome_38, eX6_statementsCome_39, eX6_statementsCome_40, eX6_statementsCome_41, eX6_statementsCome_42, eX6_statementsCome_45, eX6_statementsCome_48, eX6_statementsCome_49, eX6_statementsCome_50, eX6_statementsCome_51, eX6_statementsCome_54, eX6_statementsCome_55, eX6_statementsCome_58, eX6_statementsCome_59, eX6_statementsCome_60, eX6_statementsCome_61, eX6_statementsCome_65, eX6_statementsCome_68, eX6_statementsCome_69, eX6_statementsCome_72, eX6_statementsCome_75, eX6_statementsCome_76, l2, e2, ca1, ca2, lb, ea]
        refine ⟨?_, ?_⟩
        · intro q r' e
          obtain ⟨h', s1, s2⟩ := step.1 q r' e
          exact ⟨h', by rw [go]; exact s1, fun a z1 z2 z3 => by rw [s2 a z1 z2 z3, ca4 a z1 z2 z3]⟩
        · intro r' e
          obtain ⟨h', x, s1, s2, s3, s4⟩ := step.2 r' e
          refine ⟨h', x, ?_, s2, s3, fun a z1 z2 z3 => by rw [s4 a z1 z2 z3, ca4 a z1 z2 z3]⟩
          rw [go, s1, ← nI_add, show nI 1 = 1 from rfl, Int32.add_assoc]
    · have e2 : nI n ≤ nI p := nI_le (by omega) (by omega)
      rw [f2N, if_neg hp, cnN, if_neg hp]
      refine ⟨?_, ?_⟩
      · intro q r' e
        injection e with e1 e3
        cases e1
      · intro r' e
        injection e with e1 e3
        subst e3
        refine ⟨h, nI p, ?_, rfl, ok, fun _ _ _ _ => rfl⟩
        rw [eX6_statementsCome_15, nI_0, Int32.add_zero]
        simp [eX6_statementsCome_0, eX6_statementsCome_1, eX6_statementsCome_4, eX6_statementsCome_5, eX6_statementsCome_8, eX6_statementsCome_11, eX6_statementsCome_12, eX6_statementsCome_13, eX6_statementsCome_14, eX6_statementsCome_16, eX6_statementsCome_17, eX6_statementsCome_20, eX6_statementsCome_23, eX6_statementsCome_26, eX6_statementsCome_27, eX6_statementsCome_28, eX6_statementsCome_31, eX6_statementsCome_34, eX6_statementsCome_37, eX6_statementsCome_38, eX6_statementsCome_39, eX6_statementsCome_40, eX6_statementsCome_41, eX6_statementsCome_42, eX6_statementsCome_45, eX6_statementsCome_48, eX6_statementsCome_49, eX6_statementsCome_50, eX6_statementsCome_51, eX6_statementsCome_54, eX6_statementsCome_55, eX6_statementsCome_58, eX6_statementsCome_59, eX6_statementsCome_60, eX6_statementsCome_61, eX6_statementsCome_65, eX6_statementsCome_68, eX6_statementsCome_69, eX6_statementsCome_72, eX6_statementsCome_75, eX6_statementsCome_76, l2, e2]
def Fh (h h' : Sto) : Prop := ∀ a x, a ≠ 18 → a ≠ 26 → ¬ (a = 17 ∧ x = 12) → h' a x = h a x
theorem h2_loop {h0 : Sto} (L0 : LX h0 n w) {c : Int32} : ∀ (f p : Nat) (h : Sto) (a3 a4 a5 : Value), LM h n w → Ok (mr h 18) → h 17 12 = nI p → p ≤ n → n + 1 ≤ f + p → (p < n → flN w n f p = none) → ∃ (h' : Sto) (b3 b4 b5 : Value), Fh h h' ∧ (∀ q r', f2N w n f p (mr h 18) = (some q, r') → ev mX7_hem 62 [.ref 17, .int c, .int (-9), a3, a4, a5] [] h = ev mX7_hem 128 [.ref 17, .int c, .int (-2000 - nI q), b3, b4, b5] [] h' ∧ q ≤ n ∧ mr h' 18 = mr h 21) ∧ (∀ r', f2N w n f p (mr h 18) = (none, r') → ev mX7_hem 62 [.ref 17, .int c, .int (-9), a3, a4, a5] [] h = ev mX7_hem 128 [.ref 17, .int c, .int (-9), b3, b4, b5] [] h' ∧ mr h' 18 = r') := by
  intro f
  induction f with
  | zero => intro p h a3 a4 a5 L ok hpl hpn hf hfl; omega
  | succ f ih =>
    intro p h a3 a4 a5 L ok hpl hpn hf hfl
    have l1 := L.1
    have l2 := L.2.1
    by_cases hp : p < n
    · have e2 : ¬ nI n ≤ nI p := nI_ge hp (by omega)
      obtain ⟨sok, fl2⟩ := fl_step hp (hfl hp)
      have so := stN_ok sok
      have mh := m_here L hpl (by omega)
      rw [if_pos hp] at mh
      obtain ⟨g1, r1, r2, r3, r4⟩ := m_readsStatement L hpl hpn
      rw [if_pos sok] at r1
      have m18 : mr g1 18 = mr h 18 := mr_same (fun j _ => r4 18 j (by omega) (by omega))
      obtain ⟨g2, s1, s2, s3⟩ := m_act L0 (r3 sok) (by rw [m18]; exact ok) sok
      rw [m18] at s1 s2
      rw [f2N, if_pos hp]
      cases ha : actN w p (mr h 18) with
      | none =>
        rw [ha] at s1
        have s1 : ev mX7_isDone 0 [.ref 17, .int (nI (w p)), .null, .null] [] g1 = some (some (.int 0), g2) := s1
        obtain ⟨g3, u1, u2, u3⟩ := m_lays (r := 21) (t := 18) (h := g2) rfl rfl (by omega)
        have ne : ¬ (-2000 : Int32) - nI p = -9 := by
          rw [t_eq, t_sub (by rw [t_nI (by omega)]; show _ ≤ (-2000 : Int) - _; omega) (by rw [t_nI (by omega)]; show (-2000 : Int) - _ < _; omega), t_nI (by omega)]
          show ¬ (-2000 : Int) - _ = -9
          omega
        refine ⟨g3, .int (nI p), .int (nI (w p)), .int 1, ?_, ?_, ?_⟩
        · intro a x z1 z2 z3
          rw [u3 a z1, s3 a z1, r4 a x z2 z3]
        · intro q r' e
          injection e with e1 e3
          injection e1 with e1
          subst e1
          refine ⟨?_, hpn, ?_⟩
          · rw [eX7_hem_62]
            simp [eX7_hem_0, eX7_hem_1, eX7_hem_2, eX7_hem_5, eX7_hem_6, eX7_hem_7, eX7_hem_9, eX7_hem_11, eX7_hem_14, eX7_hem_17, eX7_hem_20, eX7_hem_21, eX7_hem_24, eX7_hem_25, eX7_hem_26, eX7_hem_29, eX7_hem_30, eX7_hem_32, eX7_hem_35, eX7_hem_36, eX7_hem_39, eX7_hem_40, eX7_hem_43, eX7_hem_47, eX7_hem_50, eX7_hem_51, eX7_hem_54, eX7_hem_57, eX7_hem_58, eX7_hem_59, eX7_hem_63, eX7_hem_65, eX7_hem_68, eX7_hem_69, eX7_hem_72, eX7_hem_73, eX7_hem_76, eX7_hem_79, eX7_hem_80, eX7_hem_83, eX7_hem_84, eX7_hem_85, eX7_hem_88, eX7_hem_90, eX7_hem_91, eX7_hem_94, eX7_hem_96, eX7_hem_97, eX7_hem_99, eX7_hem_102, eX7_hem_105, eX7_hem_108, eX7_hem_111, eX7_hem_112, eX7_hem_113, eX7_hem_114, eX7_hem_115, eX7_hem_118, eX7_hem_119, eX7_hem_122, eX7_hem_125, eX7_hem_129, eX7_hem_130, eX7_hem_133, eX7_hem_134, eX7_hem_136, eX7_hem_139, eX7_hem_140, eX7_hem_143, eX7_hem_144, hpl, l2, e2, mh, r1, s1, u1]
            rw [eX7_hem_62]
            simp [eX7_hem_63, eX7_hem_65, ne]
          · rw [u2, mr_cell (s3 21 (by omega)), mr_same (fun j _ => r4 21 j (by omega) (by omega))]
        · intro r' e
          injection e with e1 e3
          cases e1
      | some ra =>
        rw [ha] at s1 s2
        have s1 : ev mX7_isDone 0 [.ref 17, .int (nI (w p)), .null, .null] [] g1 = some (some (.int 1), g2) := s1
        have s2 := s2 ra rfl
        have okr : Ok ra := act_ok L0 ok sok ha
        have L2 : LM g2 n w := by
          obtain ⟨q1, q2, q3⟩ := L.fr r4
          exact ⟨q1, by rw [s3 17 (by omega)]; exact q2, fun i hi => by rw [s3 22 (by omega)]; exact q3 i hi⟩
        have p2 : g2 17 12 = nI (stN w n p).1 := by rw [s3 17 (by omega)]; exact r2
        obtain ⟨h', b3, b4, b5, k1, k2, k3⟩ := ih (stN w n p).1 g2 (.int (nI p)) (.int (nI (w p))) (.int 1) L2 (by rw [s2]; exact okr) p2 (by omega) (by omega) fl2
        rw [s2] at k2 k3
        have go : ev mX7_hem 62 [.ref 17, .int c, .int (-9), a3, a4, a5] [] h = ev mX7_hem 62 [.ref 17, .int c, .int (-9), .int (nI p), .int (nI (w p)), .int 1] [] g2 := by
          rw [eX7_hem_62]
          simp [eX7_hem_0, eX7_hem_1, eX7_hem_2, eX7_hem_5, eX7_hem_6, eX7_hem_7, eX7_hem_9, eX7_hem_11, eX7_hem_14, eX7_hem_17, eX7_hem_20, eX7_hem_21, eX7_hem_24, eX7_hem_25, eX7_hem_26, eX7_hem_29, eX7_hem_30, eX7_hem_32, eX7_hem_35, eX7_hem_36, eX7_hem_39, eX7_hem_40, eX7_hem_43, eX7_hem_47, eX7_hem_50, eX7_hem_51, eX7_hem_54, eX7_hem_57, eX7_hem_58, eX7_hem_59, eX7_hem_63, eX7_hem_65, eX7_hem_68, eX7_hem_69, eX7_hem_72, eX7_hem_73, eX7_hem_76, eX7_hem_79, eX7_hem_80, eX7_hem_83, eX7_hem_84, eX7_hem_85, eX7_hem_88, eX7_hem_90, eX7_hem_91, eX7_hem_94, eX7_hem_96, eX7_hem_97, eX7_hem_99, eX7_hem_102, eX7_hem_105, eX7_hem_108, eX7_hem_111, eX7_hem_112, eX7_hem_113, eX7_hem_114, eX7_hem_115, eX7_hem_118, eX7_hem_119, eX7_hem_122, eX7_hem_125, eX7_hem_129, eX7_hem_130, eX7_hem_133, eX7_hem_134, eX7_hem_136, eX7_hem_139, eX7_hem_140, eX7_hem_143, eX7_hem_144, hpl, l2, e2, mh, r1, s1]
        have m21 : mr g2 21 = mr h 21 := by rw [mr_cell (s3 21 (by omega)), mr_same (fun j _ => r4 21 j (by omega) (by omega))]
        refine ⟨h', b3, b4, b5, ?_, ?_, ?_⟩
        · intro a x z1 z2 z3
          rw [k1 a x z1 z2 z3, s3 a z1, r4 a x z2 z3]
        · intro q r' e
          obtain ⟨y1, y2, y3⟩ := k2 q r' e
          exact ⟨by rw [go]; exact y1, y2, by rw [y3, m21]⟩
        · intro r' e
          obtain ⟨y1, y2⟩ := k3 r' e
          exact ⟨by rw [go]; exact y1, y2⟩
    · have e2 : nI n ≤ nI p := nI_le (by omega) (by omega)
      rw [f2N, if_neg hp]
      refine ⟨h, a3, a4, a5, fun _ _ _ _ _ => rfl, ?_, ?_⟩
      · intro q r' e
        injection e with e1 e3
        cases e1
      · intro r' e
        injection e with e1 e3
        refine ⟨?_, e3⟩
        rw [eX7_hem_62]
        simp [eX7_hem_0, eX7_hem_1, eX7_hem_2, eX7_hem_5, eX7_hem_6, eX7_hem_7, eX7_hem_9, eX7_hem_11, eX7_hem_14, eX7_hem_17, eX7_hem_20, eX7_hem_21, eX7_hem_24, eX7_hem_25, eX7_hem_26, eX7_hem_29, eX7_hem_30, eX7_hem_32, eX7_hem_35, eX7_hem_36, eX7_hem_39, eX7_hem_40, eX7_hem_43, eX7_hem_47, eX7_hem_50, eX7_hem_51, eX7_hem_54, eX7_hem_57, eX7_hem_58, eX7_hem_59, eX7_hem_63, eX7_hem_65, eX7_hem_68, eX7_hem_69, eX7_hem_72, eX7_hem_73, eX7_hem_76, eX7_hem_79, eX7_hem_80, eX7_hem_83, eX7_hem_84, eX7_hem_85, eX7_hem_88, eX7_hem_90, eX7_hem_91, eX7_hem_94, eX7_hem_96, eX7_hem_97, eX7_hem_99, eX7_hem_102, eX7_hem_105, eX7_hem_108, eX7_hem_111, eX7_hem_112, eX7_hem_113, eX7_hem_114, eX7_hem_115, eX7_hem_118, eX7_hem_119, eX7_hem_122, eX7_hem_125, eX7_hem_129, eX7_hem_130, eX7_hem_133, eX7_hem_134, eX7_hem_136, eX7_hem_139, eX7_hem_140, eX7_hem_143, eX7_hem_144, hpl, l2, e2]
end HEMS

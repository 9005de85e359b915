section CALLS6
variable {h h' : Sto} {e n : Int32}
theorem mc_loop (R : Rel h) {q : Int32} : ∀ (m j : Nat) (v : Int32), (h 18 0).toInt = (j : Int) + m → ev mX7_count 130 [.ref 17, .int q, .int v, .int (nI j)] [] h = some (some (.int (smSum (mr h 18) m j v)), h) := by
  have l := R.len
  intro m
  induction m with
  | zero =>
    intro j v hj
    have e1 : h 18 0 ≤ nI j := by rw [t_le, t_nI (by omega)]; omega
    simp [eX7_count_0, eX7_count_1, eX7_count_3, eX7_count_5, eX7_count_8, eX7_count_11, eX7_count_12, eX7_count_15, eX7_count_16, eX7_count_18, eX7_count_19, eX7_count_20, eX7_count_21, eX7_count_22, eX7_count_23, eX7_count_24, eX7_count_76, eX7_count_77, eX7_count_80, eX7_count_81, eX7_count_82, eX7_count_83, eX7_count_84, eX7_count_87, eX7_count_90, eX7_count_91, eX7_count_92, eX7_count_95, eX7_count_96, eX7_count_97, eX7_count_98, eX7_count_101, eX7_count_102, eX7_count_103, eX7_count_104, eX7_count_105, eX7_count_106, eX7_count_109, eX7_count_110, eX7_count_111, eX7_count_112, eX7_count_113, eX7_count_116, eX7_count_118, eX7_count_119, eX7_count_120, eX7_count_121, eX7_count_124, eX7_count_126, eX7_count_127, eX7_count_128, eX7_count_129, eX7_count_130, eX7_count_131, eX7_count_132, eX7_count_135, eX7_count_136, eX7_count_137, eX7_count_140, eX7_count_141, eX7_count_142, eX7_count_145, eX7_count_146, eX7_count_149, eX7_count_152, eX7_count_155, eX7_count_156, eX7_count_159, eX7_count_160, eX7_count_161, eX7_count_162, eX7_count_165, eX7_count_168, eX7_count_169, eX7_count_170, eX7_count_171, eX7_count_174, eX7_count_175, eX7_count_176, eX7_count_179, eX7_count_180, eX7_count_182, e1, smSum, show lyA 18 = some 32 from rfl]
  | succ m ih =>
    intro j v hj
    have hj12 : j < 12 := by omega
    have e1 : ¬ h 18 0 ≤ nI j := by rw [t_le, t_nI (by omega)]; omega
    have k := ih (j + 1) (v + (if smK (h 18 (8 + 2 * j)) = 0 then 0 else 1)) (by omega)
    rw [eX7_count_130]
    simp [eX7_count_0, eX7_count_1, eX7_count_3, eX7_count_5, eX7_count_8, eX7_count_11, eX7_count_12, eX7_count_15, eX7_count_16, eX7_count_18, eX7_count_19, eX7_count_20, eX7_count_21, eX7_count_22, eX7_count_23, eX7_count_24, eX7_count_76, eX7_count_77, eX7_count_80, eX7_count_81, eX7_count_82, eX7_count_83, eX7_count_84, eX7_count_87, eX7_count_90, eX7_count_91, eX7_count_92, eX7_count_95, eX7_count_96, eX7_count_97, eX7_count_98, eX7_count_101, eX7_count_102, eX7_count_103, eX7_count_104, eX7_count_105, eX7_count_106, eX7_count_109, eX7_count_110, eX7_count_111, eX7_count_112, eX7_count_113, eX7_count_116, eX7_count_118, eX7_count_119, eX7_count_120, eX7_count_121, eX7_count_124, eX7_count_126, eX7_count_127, eX7_count_128, eX7_count_129, eX7_count_131, eX7_count_132, eX7_count_135, eX7_count_136, eX7_count_137, eX7_count_140, eX7_count_141, eX7_count_142, eX7_count_145, eX7_count_146, eX7_count_149, eX7_count_152, eX7_count_155, eX7_count_156, eX7_count_159, eX7_count_160, eX7_count_161, eX7_count_162, eX7_count_165, eX7_count_168, eX7_count_169, eX7_count_170, eX7_count_171, eX7_count_174, eX7_count_175, eX7_count_176, eX7_count_179, eX7_count_180, eX7_count_182, e1, m_kindOf (r := 18) rfl hj12, m_isSeam, smSum, mr_k hj12, nI_1, show lyA 18 = some 32 from rfl]
    by_cases h0 : smK (h 18 (8 + 2 * j)) = 0
    · simp [h0] at k ⊢; exact k
    · simp [h0] at k ⊢; exact k
theorem f_refAt {x : Int32} {k : Nat} (hx : x = nI k) (h1 : 1 ≤ k) (h2 : k < 7) : ev mX6_refusalsAt 0 [.ref 0, .int x] [] h = some (some (.int (h 16 k)), h) := by
  subst hx
  have e1 : ¬ nI k < 1 := by rw [t_lt, t_nI (by omega)]; show ¬ (k : Int) < 1; omega
  have e2 : ¬ (7 : Int32) ≤ nI k := by rw [t_le, t_nI (by omega)]; show ¬ (7 : Int) ≤ k; omega
  have e3 : ¬ nI k < 0 := nI_pos (by omega)
  have e4 : (nI k).toNatClampNeg = k := nI_clamp (by omega)
  have e5 : ¬ 7 ≤ k := by omega
  simp [eX6_refusalsAt_0, eX6_refusalsAt_1, eX6_refusalsAt_2, eX6_refusalsAt_5, eX6_refusalsAt_6, eX6_refusalsAt_7, eX6_refusalsAt_10, eX6_refusalsAt_11, eX6_refusalsAt_14, eX6_refusalsAt_15, eX6_refusalsAt_18, eX6_refusalsAt_19, eX6_refusalsAt_20, eX6_refusalsAt_23, eX6_refusalsAt_25, e1, e2, e3, e4, e5, show lyA 16 = some 7 from rfl]
theorem f_refNo {x : Int32} (hx : x < 1 ∨ 7 ≤ x) : ev mX6_refusalsAt 0 [.ref 0, .int x] [] h = some (some (.int (-9)), h) := by
  by_cases h1 : x < 1
  · simp [eX6_refusalsAt_0, eX6_refusalsAt_1, eX6_refusalsAt_2, eX6_refusalsAt_5, eX6_refusalsAt_6, eX6_refusalsAt_7, eX6_refusalsAt_10, eX6_refusalsAt_11, eX6_refusalsAt_14, eX6_refusalsAt_15, eX6_refusalsAt_18, eX6_refusalsAt_19, eX6_refusalsAt_20, eX6_refusalsAt_23, eX6_refusalsAt_25, h1, show lyA 16 = some 7 from rfl]
  · have h2 := hx.resolve_left h1
    simp [eX6_refusalsAt_0, eX6_refusalsAt_1, eX6_refusalsAt_2, eX6_refusalsAt_5, eX6_refusalsAt_6, eX6_refusalsAt_7, eX6_refusalsAt_10, eX6_refusalsAt_11, eX6_refusalsAt_14, eX6_refusalsAt_15, eX6_refusalsAt_18, eX6_refusalsAt_19, eX6_refusalsAt_20, eX6_refusalsAt_23, eX6_refusalsAt_25, h1, h2, show lyA 16 = some 7 from rfl]
theorem q10 {q : Int32} (hq : q < 11 ∨ 16 < q) : q - 10 < 1 ∨ 7 ≤ q - 10 := by
  have h1 := q.toInt_lt
  have h2 := q.le_toInt
  have e10 : (10 : Int32).toInt = 10 := rfl
  have e : (q - 10).toInt = (q.toInt - 10).bmod (2 ^ 32) := by rw [Int32.toInt_sub, e10]
  rw [t_lt, t_lt] at hq
  rw [t_lt, t_le, e]
  have hq : q.toInt < 11 ∨ 16 < q.toInt := hq
  show (q.toInt - 10).bmod (2 ^ 32) < 1 ∨ 7 ≤ (q.toInt - 10).bmod (2 ^ 32)
  simp only [Int.bmod]
  split <;> omega
theorem s_count {q : Int32} : Sim [.int q] [.int q, .null, .null] mX6_count mX7_count := by
  intro h R
  have o := id R.2.1
  obtain ⟨o0, -, -, o3, o4, o5, -⟩ := o
  have o3 : h 18 3 = 0 ∨ h 18 3 = 1 := o3
  have o4 : h 18 4 = 0 ∨ h 18 4 = 1 := o4
  have o5 : h 18 5 = 0 ∨ h 18 5 = 1 := o5
  obtain ⟨nl, l1, l2, l3, -⟩ := id R.2.2.2.2.1
  obtain ⟨nr, r1, r2, r3, -⟩ := id R.2.2.2.2.2
  have r6 := R.2.2.2.1
  by_cases q0 : q = 0
  · exact qs_both R (v := h 18 0) (by simp [le_nl, -Int32.not_lt, eX6_count_0, eX6_count_1, eX6_count_52, eX6_count_53, eX6_count_56, eX6_count_59, eX6_count_60, eX6_count_61, eX6_count_64, eX6_count_67, eX6_count_68, eX6_count_69, eX6_count_72, eX6_count_73, eX6_count_76, eX6_count_79, eX6_count_80, eX6_count_83, eX6_count_84, eX6_count_85, eX6_count_88, eX6_count_89, eX6_count_92, eX6_count_95, eX6_count_96, eX6_count_99, eX6_count_100, eX6_count_101, eX6_count_102, eX6_count_103, eX6_count_106, eX6_count_109, eX6_count_112, eX6_count_113, eX6_count_116, eX6_count_117, eX6_count_118, eX6_count_119, eX6_count_122, eX6_count_125, eX6_count_126, eX6_count_127, eX6_count_130, eX6_count_133, eX6_count_134, eX6_count_135, eX6_count_138, eX6_count_141, eX6_count_142, eX6_count_143, eX6_count_146, eX6_count_149, eX6_count_150, eX6_count_151, eX6_count_154, eX6_count_157, eX6_count_158, eX6_count_159, eX6_count_160, eX6_count_162, eX6_count_163, eX6_count_166, q0, R.s0, show lyC 1 = 0 from rfl, show rcv 1 = 0 from rfl]) (by simp [le_nl, -Int32.not_lt, eX7_count_0, eX7_count_1, eX7_count_3, eX7_count_5, eX7_count_8, eX7_count_11, eX7_count_12, eX7_count_15, eX7_count_16, eX7_count_18, eX7_count_19, eX7_count_20, eX7_count_21, eX7_count_22, eX7_count_23, eX7_count_24, eX7_count_76, eX7_count_77, eX7_count_80, eX7_count_81, eX7_count_82, eX7_count_83, eX7_count_84, eX7_count_87, eX7_count_90, eX7_count_91, eX7_count_92, eX7_count_95, eX7_count_96, eX7_count_97, eX7_count_98, eX7_count_101, eX7_count_102, eX7_count_103, eX7_count_104, eX7_count_105, eX7_count_106, eX7_count_109, eX7_count_110, eX7_count_111, eX7_count_112, eX7_count_113, eX7_count_116, eX7_count_118, eX7_count_119, eX7_count_120, eX7_count_121, eX7_count_124, eX7_count_126, eX7_count_127, eX7_count_128, eX7_count_129, eX7_count_131, eX7_count_132, eX7_count_135, eX7_count_136, eX7_count_137, eX7_count_140, eX7_count_141, eX7_count_142, eX7_count_145, eX7_count_146, eX7_count_149, eX7_count_152, eX7_count_155, eX7_count_156, eX7_count_159, eX7_count_160, eX7_count_161, eX7_count_162, eX7_count_165, eX7_count_168, eX7_count_169, eX7_count_170, eX7_count_171, eX7_count_174, eX7_count_175, eX7_count_176, eX7_count_179, eX7_count_180, eX7_count_182, q0, m_isIn, show lyA 18 = some 32 from rfl])
  by_cases q1 : q = 1
  · have f1 := f_lostEnds (h := h) HC1
    rw [R.s1, R.s2] at f1
    have m1 := m_lostMany (r := 18) (h := h) rfl
    rw [lost_ite, lost_ite] at m1
    exact qs_both R (v := (if h 18 1 < 1 then 0 else 1) + (if h 18 2 < 1 then 0 else 1)) (by simp [le_nl, -Int32.not_lt, eX6_count_0, eX6_count_1, eX6_count_52, eX6_count_53, eX6_count_56, eX6_count_59, eX6_count_60, eX6_count_61, eX6_count_64, eX6_count_67, eX6_count_68, eX6_count_69, eX6_count_72, eX6_count_73, eX6_count_76, eX6_count_79, eX6_count_80, eX6_count_83, eX6_count_84, eX6_count_85, eX6_count_88, eX6_count_89, eX6_count_92, eX6_count_95, eX6_count_96, eX6_count_99, eX6_count_100, eX6_count_101, eX6_count_102, eX6_count_103, eX6_count_106, eX6_count_109, eX6_count_112, eX6_count_113, eX6_count_116, eX6_count_117, eX6_count_118, eX6_count_119, eX6_count_122, eX6_count_125, eX6_count_126, eX6_count_127, eX6_count_130, eX6_count_133, eX6_count_134, eX6_count_135, eX6_count_138, eX6_count_141, eX6_count_142, eX6_count_143, eX6_count_146, eX6_count_149, eX6_count_150, eX6_count_151, eX6_count_154, eX6_count_157, eX6_count_158, eX6_count_159, eX6_count_160, eX6_count_162, eX6_count_163, eX6_count_166, q1, f1, show lyC 1 = 0 from rfl, show rcv 1 = 0 from rfl]) (by simp [le_nl, -Int32.not_lt, eX7_count_0, eX7_count_1, eX7_count_3, eX7_count_5, eX7_count_8, eX7_count_11, eX7_count_12, eX7_count_15, eX7_count_16, eX7_count_18, eX7_count_19, eX7_count_20, eX7_count_21, eX7_count_22, eX7_count_23, eX7_count_24, eX7_count_76, eX7_count_77, eX7_count_80, eX7_count_81, eX7_count_82, eX7_count_83, eX7_count_84, eX7_count_87, eX7_count_90, eX7_count_91, eX7_count_92, eX7_count_95, eX7_count_96, eX7_count_97, eX7_count_98, eX7_count_101, eX7_count_102, eX7_count_103, eX7_count_104, eX7_count_105, eX7_count_106, eX7_count_109, eX7_count_110, eX7_count_111, eX7_count_112, eX7_count_113, eX7_count_116, eX7_count_118, eX7_count_119, eX7_count_120, eX7_count_121, eX7_count_124, eX7_count_126, eX7_count_127, eX7_count_128, eX7_count_129, eX7_count_131, eX7_count_132, eX7_count_135, eX7_count_136, eX7_count_137, eX7_count_140, eX7_count_141, eX7_count_142, eX7_count_145, eX7_count_146, eX7_count_149, eX7_count_152, eX7_count_155, eX7_count_156, eX7_count_159, eX7_count_160, eX7_count_161, eX7_count_162, eX7_count_165, eX7_count_168, eX7_count_169, eX7_count_170, eX7_count_171, eX7_count_174, eX7_count_175, eX7_count_176, eX7_count_179, eX7_count_180, eX7_count_182, q1, m_isIn, m1, show lyA 18 = some 32 from rfl])
  by_cases q2 : q = 2
  · have f1 : ∀ e, ev mX0_isKnotted 0 [.ref 1, .int e] [] h = some (some (.int (if e = 0 then h 18 3 else h 18 4)), h) := by
      intro e
      rw [f_isKnotted HC1 (by rw [R.s3]; exact o3) (by rw [R.s4]; exact o4), R.s3, R.s4]
    refine qs_both R (v := h 18 3 + h 18 4) ?_ (by simp [le_nl, -Int32.not_lt, eX7_count_0, eX7_count_1, eX7_count_3, eX7_count_5, eX7_count_8, eX7_count_11, eX7_count_12, eX7_count_15, eX7_count_16, eX7_count_18, eX7_count_19, eX7_count_20, eX7_count_21, eX7_count_22, eX7_count_23, eX7_count_24, eX7_count_76, eX7_count_77, eX7_count_80, eX7_count_81, eX7_count_82, eX7_count_83, eX7_count_84, eX7_count_87, eX7_count_90, eX7_count_91, eX7_count_92, eX7_count_95, eX7_count_96, eX7_count_97, eX7_count_98, eX7_count_101, eX7_count_102, eX7_count_103, eX7_count_104, eX7_count_105, eX7_count_106, eX7_count_109, eX7_count_110, eX7_count_111, eX7_count_112, eX7_count_113, eX7_count_116, eX7_count_118, eX7_count_119, eX7_count_120, eX7_count_121, eX7_count_124, eX7_count_126, eX7_count_127, eX7_count_128, eX7_count_129, eX7_count_131, eX7_count_132, eX7_count_135, eX7_count_136, eX7_count_137, eX7_count_140, eX7_count_141, eX7_count_142, eX7_count_145, eX7_count_146, eX7_count_149, eX7_count_152, eX7_count_155, eX7_count_156, eX7_count_159, eX7_count_160, eX7_count_161, eX7_count_162, eX7_count_165, eX7_count_168, eX7_count_169, eX7_count_170, eX7_count_171, eX7_count_174, eX7_count_175, eX7_count_176, eX7_count_179, eX7_count_180, eX7_count_182, q2, m_isIn, show lyA 18 = some 32 from rfl])
    rcases o3 with z | z <;> rcases o4 with y | y <;> simp [le_nl, -Int32.not_lt, eX6_count_0, eX6_count_1, eX6_count_52, eX6_count_53, eX6_count_56, eX6_count_59, eX6_count_60, eX6_count_61, eX6_count_64, eX6_count_67, eX6_count_68, eX6_count_69, eX6_count_72, eX6_count_73, eX6_count_76, eX6_count_79, eX6_count_80, eX6_count_83, eX6_count_84, eX6_count_85, eX6_count_88, eX6_count_89, eX6_count_92, eX6_count_95, eX6_count_96, eX6_count_99, eX6_count_100, eX6_count_101, eX6_count_102, eX6_count_103, eX6_count_106, eX6_count_109, eX6_count_112, eX6_count_113, eX6_count_116, eX6_count_117, eX6_count_118, eX6_count_119, eX6_count_122, eX6_count_125, eX6_count_126, eX6_count_127, eX6_count_130, eX6_count_133, eX6_count_134, eX6_count_135, eX6_count_138, eX6_count_141, eX6_count_142, eX6_count_143, eX6_count_146, eX6_count_149, eX6_count_150, eX6_count_151, eX6_count_154, eX6_count_157, eX6_count_158, eX6_count_159, eX6_count_160, eX6_count_162, eX6_count_163, eX6_count_166, q2, f1, z, y, show lyC 1 = 0 from rfl, show rcv 1 = 0 from rfl]
  by_cases q3 : q = 3
  · refine qs_both R (v := h 18 5) ?_ (by simp [le_nl, -Int32.not_lt, eX7_count_0, eX7_count_1, eX7_count_3, eX7_count_5, eX7_count_8, eX7_count_11, eX7_count_12, eX7_count_15, eX7_count_16, eX7_count_18, eX7_count_19, eX7_count_20, eX7_count_21, eX7_count_22, eX7_count_23, eX7_count_24, eX7_count_76, eX7_count_77, eX7_count_80, eX7_count_81, eX7_count_82, eX7_count_83, eX7_count_84, eX7_count_87, eX7_count_90, eX7_count_91, eX7_count_92, eX7_count_95, eX7_count_96, eX7_count_97, eX7_count_98, eX7_count_101, eX7_count_102, eX7_count_103, eX7_count_104, eX7_count_105, eX7_count_106, eX7_count_109, eX7_count_110, eX7_count_111, eX7_count_112, eX7_count_113, eX7_count_116, eX7_count_118, eX7_count_119, eX7_count_120, eX7_count_121, eX7_count_124, eX7_count_126, eX7_count_127, eX7_count_128, eX7_count_129, eX7_count_131, eX7_count_132, eX7_count_135, eX7_count_136, eX7_count_137, eX7_count_140, eX7_count_141, eX7_count_142, eX7_count_145, eX7_count_146, eX7_count_149, eX7_count_152, eX7_count_155, eX7_count_156, eX7_count_159, eX7_count_160, eX7_count_161, eX7_count_162, eX7_count_165, eX7_count_168, eX7_count_169, eX7_count_170, eX7_count_171, eX7_count_174, eX7_count_175, eX7_count_176, eX7_count_179, eX7_count_180, eX7_count_182, q3, m_isIn, show lyA 18 = some 32 from rfl])
    rcases o5 with z | z <;> simp [le_nl, -Int32.not_lt, eX6_count_0, eX6_count_1, eX6_count_52, eX6_count_53, eX6_count_56, eX6_count_59, eX6_count_60, eX6_count_61, eX6_count_64, eX6_count_67, eX6_count_68, eX6_count_69, eX6_count_72, eX6_count_73, eX6_count_76, eX6_count_79, eX6_count_80, eX6_count_83, eX6_count_84, eX6_count_85, eX6_count_88, eX6_count_89, eX6_count_92, eX6_count_95, eX6_count_96, eX6_count_99, eX6_count_100, eX6_count_101, eX6_count_102, eX6_count_103, eX6_count_106, eX6_count_109, eX6_count_112, eX6_count_113, eX6_count_116, eX6_count_117, eX6_count_118, eX6_count_119, eX6_count_122, eX6_count_125, eX6_count_126, eX6_count_127, eX6_count_130, eX6_count_133, eX6_count_134, eX6_count_135, eX6_count_138, eX6_count_141, eX6_count_142, eX6_count_143, eX6_count_146, eX6_count_149, eX6_count_150, eX6_count_151, eX6_count_154, eX6_count_157, eX6_count_158, eX6_count_159, eX6_count_160, eX6_count_162, eX6_count_163, eX6_count_166, q3, R.s5, z, show lyC 1 = 0 from rfl, show rcv 1 = 0 from rfl]
  by_cases q4 : q = 4
  · exact qs_both R (v := h 18 6) (by simp [le_nl, -Int32.not_lt, eX6_count_0, eX6_count_1, eX6_count_52, eX6_count_53, eX6_count_56, eX6_count_59, eX6_count_60, eX6_count_61, eX6_count_64, eX6_count_67, eX6_count_68, eX6_count_69, eX6_count_72, eX6_count_73, eX6_count_76, eX6_count_79, eX6_count_80, eX6_count_83, eX6_count_84, eX6_count_85, eX6_count_88, eX6_count_89, eX6_count_92, eX6_count_95, eX6_count_96, eX6_count_99, eX6_count_100, eX6_count_101, eX6_count_102, eX6_count_103, eX6_count_106, eX6_count_109, eX6_count_112, eX6_count_113, eX6_count_116, eX6_count_117, eX6_count_118, eX6_count_119, eX6_count_122, eX6_count_125, eX6_count_126, eX6_count_127, eX6_count_130, eX6_count_133, eX6_count_134, eX6_count_135, eX6_count_138, eX6_count_141, eX6_count_142, eX6_count_143, eX6_count_146, eX6_count_149, eX6_count_150, eX6_count_151, eX6_count_154, eX6_count_157, eX6_count_158, eX6_count_159, eX6_count_160, eX6_count_162, eX6_count_163, eX6_count_166, q4, R.s6, show lyC 1 = 0 from rfl, show rcv 1 = 0 from rfl]) (by simp [le_nl, -Int32.not_lt, eX7_count_0, eX7_count_1, eX7_count_3, eX7_count_5, eX7_count_8, eX7_count_11, eX7_count_12, eX7_count_15, eX7_count_16, eX7_count_18, eX7_count_19, eX7_count_20, eX7_count_21, eX7_count_22, eX7_count_23, eX7_count_24, eX7_count_76, eX7_count_77, eX7_count_80, eX7_count_81, eX7_count_82, eX7_count_83, eX7_count_84, eX7_count_87, eX7_count_90, eX7_count_91, eX7_count_92, eX7_count_95, eX7_count_96, eX7_count_97, eX7_count_98, eX7_count_101, eX7_count_102, eX7_count_103, eX7_count_104, eX7_count_105, eX7_count_106, eX7_count_109, eX7_count_110, eX7_count_111, eX7_count_112, eX7_count_113, eX7_count_116, eX7_count_118, eX7_count_119, eX7_count_120, eX7_count_121, eX7_count_124, eX7_count_126, eX7_count_127, eX7_count_128, eX7_count_129, eX7_count_131, eX7_count_132, eX7_count_135, eX7_count_136, eX7_count_137, eX7_count_140, eX7_count_141, eX7_count_142, eX7_count_145, eX7_count_146, eX7_count_149, eX7_count_152, eX7_count_155, eX7_count_156, eX7_count_159, eX7_count_160, eX7_count_161, eX7_count_162, eX7_count_165, eX7_count_168, eX7_count_169, eX7_count_170, eX7_count_171, eX7_count_174, eX7_count_175, eX7_count_176, eX7_count_179, eX7_count_180, eX7_count_182, q4, m_isIn, show lyA 18 = some 32 from rfl])
  by_cases q5 : q = 5
  · exact qs_both R (v := h 18 7) (by simp [le_nl, -Int32.not_lt, eX6_count_0, eX6_count_1, eX6_count_52, eX6_count_53, eX6_count_56, eX6_count_59, eX6_count_60, eX6_count_61, eX6_count_64, eX6_count_67, eX6_count_68, eX6_count_69, eX6_count_72, eX6_count_73, eX6_count_76, eX6_count_79, eX6_count_80, eX6_count_83, eX6_count_84, eX6_count_85, eX6_count_88, eX6_count_89, eX6_count_92, eX6_count_95, eX6_count_96, eX6_count_99, eX6_count_100, eX6_count_101, eX6_count_102, eX6_count_103, eX6_count_106, eX6_count_109, eX6_count_112, eX6_count_113, eX6_count_116, eX6_count_117, eX6_count_118, eX6_count_119, eX6_count_122, eX6_count_125, eX6_count_126, eX6_count_127, eX6_count_130, eX6_count_133, eX6_count_134, eX6_count_135, eX6_count_138, eX6_count_141, eX6_count_142, eX6_count_143, eX6_count_146, eX6_count_149, eX6_count_150, eX6_count_151, eX6_count_154, eX6_count_157, eX6_count_158, eX6_count_159, eX6_count_160, eX6_count_162, eX6_count_163, eX6_count_166, q5, R.s7, show lyC 1 = 0 from rfl, show rcv 1 = 0 from rfl]) (by simp [le_nl, -Int32.not_lt, eX7_count_0, eX7_count_1, eX7_count_3, eX7_count_5, eX7_count_8, eX7_count_11, eX7_count_12, eX7_count_15, eX7_count_16, eX7_count_18, eX7_count_19, eX7_count_20, eX7_count_21, eX7_count_22, eX7_count_23, eX7_count_24, eX7_count_76, eX7_count_77, eX7_count_80, eX7_count_81, eX7_count_82, eX7_count_83, eX7_count_84, eX7_count_87, eX7_count_90, eX7_count_91, eX7_count_92, eX7_count_95, eX7_count_96, eX7_count_97, eX7_count_98, eX7_count_101, eX7_count_102, eX7_count_103, eX7_count_104, eX7_count_105, eX7_count_106, eX7_count_109, eX7_count_110, eX7_count_111, eX7_count_112, eX7_count_113, eX7_count_116, eX7_count_118, eX7_count_119, eX7_count_120, eX7_count_121, eX7_count_124, eX7_count_126, eX7_count_127, eX7_count_128, eX7_count_129, eX7_count_131, eX7_count_132, eX7_count_135, eX7_count_136, eX7_count_137, eX7_count_140, eX7_count_141, eX7_count_142, eX7_count_145, eX7_count_146, eX7_count_149, eX7_count_152, eX7_count_155, eX7_count_156, eX7_count_159, eX7_count_160, eX7_count_161, eX7_count_162, eX7_count_165, eX7_count_168, eX7_count_169, eX7_count_170, eX7_count_171, eX7_count_174, eX7_count_175, eX7_count_176, eX7_count_179, eX7_count_180, eX7_count_182, q5, m_isIn, show lyA 18 = some 32 from rfl])
  by_cases q6 : q = 6
  · have f1 := f_seams (h := h) HC1 R.ok1
    rw [R.1, R.s0] at f1
    have m1 := mc_loop R (q := 6) ((h 18 0).toInt.toNat) 0 0 (by have := R.len; omega)
    rw [nI_0] at m1
    exact qs_both R (v := smSum (mr h 18) ((h 18 0).toInt.toNat) 0 0) (by simp [le_nl, -Int32.not_lt, eX6_count_0, eX6_count_1, eX6_count_52, eX6_count_53, eX6_count_56, eX6_count_59, eX6_count_60, eX6_count_61, eX6_count_64, eX6_count_67, eX6_count_68, eX6_count_69, eX6_count_72, eX6_count_73, eX6_count_76, eX6_count_79, eX6_count_80, eX6_count_83, eX6_count_84, eX6_count_85, eX6_count_88, eX6_count_89, eX6_count_92, eX6_count_95, eX6_count_96, eX6_count_99, eX6_count_100, eX6_count_101, eX6_count_102, eX6_count_103, eX6_count_106, eX6_count_109, eX6_count_112, eX6_count_113, eX6_count_116, eX6_count_117, eX6_count_118, eX6_count_119, eX6_count_122, eX6_count_125, eX6_count_126, eX6_count_127, eX6_count_130, eX6_count_133, eX6_count_134, eX6_count_135, eX6_count_138, eX6_count_141, eX6_count_142, eX6_count_143, eX6_count_146, eX6_count_149, eX6_count_150, eX6_count_151, eX6_count_154, eX6_count_157, eX6_count_158, eX6_count_159, eX6_count_160, eX6_count_162, eX6_count_163, eX6_count_166, q6, f1, show lyC 1 = 0 from rfl, show rcv 1 = 0 from rfl]) (by simp [le_nl, -Int32.not_lt, eX7_count_0, eX7_count_1, eX7_count_3, eX7_count_5, eX7_count_8, eX7_count_11, eX7_count_12, eX7_count_15, eX7_count_16, eX7_count_18, eX7_count_19, eX7_count_20, eX7_count_21, eX7_count_22, eX7_count_23, eX7_count_24, eX7_count_76, eX7_count_77, eX7_count_80, eX7_count_81, eX7_count_82, eX7_count_83, eX7_count_84, eX7_count_87, eX7_count_90, eX7_count_91, eX7_count_92, eX7_count_95, eX7_count_96, eX7_count_97, eX7_count_98, eX7_count_101, eX7_count_102, eX7_count_103, eX7_count_104, eX7_count_105, eX7_count_106, eX7_count_109, eX7_count_110, eX7_count_111, eX7_count_112, eX7_count_113, eX7_count_116, eX7_count_118, eX7_count_119, eX7_count_120, eX7_count_121, eX7_count_124, eX7_count_126, eX7_count_127, eX7_count_128, eX7_count_129, eX7_count_131, eX7_count_132, eX7_count_135, eX7_count_136, eX7_count_137, eX7_count_140, eX7_count_141, eX7_count_142, eX7_count_145, eX7_count_146, eX7_count_149, eX7_count_152, eX7_count_155, eX7_count_156, eX7_count_159, eX7_count_160, eX7_count_161, eX7_count_162, eX7_count_165, eX7_count_168, eX7_count_169, eX7_count_170, eX7_count_171, eX7_count_174, eX7_count_175, eX7_count_176, eX7_count_179, eX7_count_180, eX7_count_182, q6, m_isIn, m1])
  by_cases q7 : q = 7
  · exact qs_both R (v := nI nr) (by simp [le_nl, -Int32.not_lt, eX6_count_0, eX6_count_1, eX6_count_52, eX6_count_53, eX6_count_56, eX6_count_59, eX6_count_60, eX6_count_61, eX6_count_64, eX6_count_67, eX6_count_68, eX6_count_69, eX6_count_72, eX6_count_73, eX6_count_76, eX6_count_79, eX6_count_80, eX6_count_83, eX6_count_84, eX6_count_85, eX6_count_88, eX6_count_89, eX6_count_92, eX6_count_95, eX6_count_96, eX6_count_99, eX6_count_100, eX6_count_101, eX6_count_102, eX6_count_103, eX6_count_106, eX6_count_109, eX6_count_112, eX6_count_113, eX6_count_116, eX6_count_117, eX6_count_118, eX6_count_119, eX6_count_122, eX6_count_125, eX6_count_126, eX6_count_127, eX6_count_130, eX6_count_133, eX6_count_134, eX6_count_135, eX6_count_138, eX6_count_141, eX6_count_142, eX6_count_143, eX6_count_146, eX6_count_149, eX6_count_150, eX6_count_151, eX6_count_154, eX6_count_157, eX6_count_158, eX6_count_159, eX6_count_160, eX6_count_162, eX6_count_163, eX6_count_166, q7, r2]) (by simp [le_nl, -Int32.not_lt, eX7_count_0, eX7_count_1, eX7_count_3, eX7_count_5, eX7_count_8, eX7_count_11, eX7_count_12, eX7_count_15, eX7_count_16, eX7_count_18, eX7_count_19, eX7_count_20, eX7_count_21, eX7_count_22, eX7_count_23, eX7_count_24, eX7_count_76, eX7_count_77, eX7_count_80, eX7_count_81, eX7_count_82, eX7_count_83, eX7_count_84, eX7_count_87, eX7_count_90, eX7_count_91, eX7_count_92, eX7_count_95, eX7_count_96, eX7_count_97, eX7_count_98, eX7_count_101, eX7_count_102, eX7_count_103, eX7_count_104, eX7_count_105, eX7_count_106, eX7_count_109, eX7_count_110, eX7_count_111, eX7_count_112, eX7_count_113, eX7_count_116, eX7_count_118, eX7_count_119, eX7_count_120, eX7_count_121, eX7_count_124, eX7_count_126, eX7_count_127, eX7_count_128, eX7_count_129, eX7_count_131, eX7_count_132, eX7_count_135, eX7_count_136, eX7_count_137, eX7_count_140, eX7_count_141, eX7_count_142, eX7_count_145, eX7_count_146, eX7_count_149, eX7_count_152, eX7_count_155, eX7_count_156, eX7_count_159, eX7_count_160, eX7_count_161, eX7_count_162, eX7_count_165, eX7_count_168, eX7_count_169, eX7_count_170, eX7_count_171, eX7_count_174, eX7_count_175, eX7_count_176, eX7_count_179, eX7_count_180, eX7_count_182, q7, m_isIn, r3])
  by_cases q8 : q = 8
  · exact qs_both R (v := nI nl) (by simp [le_nl, -Int32.not_lt, eX6_count_0, eX6_count_1, eX6_count_52, eX6_count_53, eX6_count_56, eX6_count_59, eX6_count_60, eX6_count_61, eX6_count_64, eX6_count_67, eX6_count_68, eX6_count_69, eX6_count_72, eX6_count_73, eX6_count_76, eX6_count_79, eX6_count_80, eX6_count_83, eX6_count_84, eX6_count_85, eX6_count_88, eX6_count_89, eX6_count_92, eX6_count_95, eX6_count_96, eX6_count_99, eX6_count_100, eX6_count_101, eX6_count_102, eX6_count_103, eX6_count_106, eX6_count_109, eX6_count_112, eX6_count_113, eX6_count_116, eX6_count_117, eX6_count_118, eX6_count_119, eX6_count_122, eX6_count_125, eX6_count_126, eX6_count_127, eX6_count_130, eX6_count_133, eX6_count_134, eX6_count_135, eX6_count_138, eX6_count_141, eX6_count_142, eX6_count_143, eX6_count_146, eX6_count_149, eX6_count_150, eX6_count_151, eX6_count_154, eX6_count_157, eX6_count_158, eX6_count_159, eX6_count_160, eX6_count_162, eX6_count_163, eX6_count_166, q8, l2]) (by simp [le_nl, -Int32.not_lt, eX7_count_0, eX7_count_1, eX7_count_3, eX7_count_5, eX7_count_8, eX7_count_11, eX7_count_12, eX7_count_15, eX7_count_16, eX7_count_18, eX7_count_19, eX7_count_20, eX7_count_21, eX7_count_22, eX7_count_23, eX7_count_24, eX7_count_76, eX7_count_77, eX7_count_80, eX7_count_81, eX7_count_82, eX7_count_83, eX7_count_84, eX7_count_87, eX7_count_90, eX7_count_91, eX7_count_92, eX7_count_95, eX7_count_96, eX7_count_97, eX7_count_98, eX7_count_101, eX7_count_102, eX7_count_103, eX7_count_104, eX7_count_105, eX7_count_106, eX7_count_109, eX7_count_110, eX7_count_111, eX7_count_112, eX7_count_113, eX7_count_116, eX7_count_118, eX7_count_119, eX7_count_120, eX7_count_121, eX7_count_124, eX7_count_126, eX7_count_127, eX7_count_128, eX7_count_129, eX7_count_131, eX7_count_132, eX7_count_135, eX7_count_136, eX7_count_137, eX7_count_140, eX7_count_141, eX7_count_142, eX7_count_145, eX7_count_146, eX7_count_149, eX7_count_152, eX7_count_155, eX7_count_156, eX7_count_159, eX7_count_160, eX7_count_161, eX7_count_162, eX7_count_165, eX7_count_168, eX7_count_169, eX7_count_170, eX7_count_171, eX7_count_174, eX7_count_175, eX7_count_176, eX7_count_179, eX7_count_180, eX7_count_182, q8, m_isIn, l3])
  by_cases hq : q < 11 ∨ 16 < q
  · have f1 := f_refNo (h := h) (q10 hq)
    have mi : ev mX7_isIn 0 [.int q, .int 11, .int 16] [] h = some (some (.int 0), h) := by
      rw [m_isIn]
      by_cases y : q < 11
      · rw [if_pos y]
      · rw [if_neg y, if_pos (hq.resolve_left y)]
    exact qs_both R (v := -9) (by simp [le_nl, -Int32.not_lt, eX6_count_0, eX6_count_1, eX6_count_52, eX6_count_53, eX6_count_56, eX6_count_59, eX6_count_60, eX6_count_61, eX6_count_64, eX6_count_67, eX6_count_68, eX6_count_69, eX6_count_72, eX6_count_73, eX6_count_76, eX6_count_79, eX6_count_80, eX6_count_83, eX6_count_84, eX6_count_85, eX6_count_88, eX6_count_89, eX6_count_92, eX6_count_95, eX6_count_96, eX6_count_99, eX6_count_100, eX6_count_101, eX6_count_102, eX6_count_103, eX6_count_106, eX6_count_109, eX6_count_112, eX6_count_113, eX6_count_116, eX6_count_117, eX6_count_118, eX6_count_119, eX6_count_122, eX6_count_125, eX6_count_126, eX6_count_127, eX6_count_130, eX6_count_133, eX6_count_134, eX6_count_135, eX6_count_138, eX6_count_141, eX6_count_142, eX6_count_143, eX6_count_146, eX6_count_149, eX6_count_150, eX6_count_151, eX6_count_154, eX6_count_157, eX6_count_158, eX6_count_159, eX6_count_160, eX6_count_162, eX6_count_163, eX6_count_166, q0, q1, q2, q3, q4, q5, q6, q7, q8, f1]) (by simp [le_nl, -Int32.not_lt, eX7_count_0, eX7_count_1, eX7_count_3, eX7_count_5, eX7_count_8, eX7_count_11, eX7_count_12, eX7_count_15, eX7_count_16, eX7_count_18, eX7_count_19, eX7_count_20, eX7_count_21, eX7_count_22, eX7_count_23, eX7_count_24, eX7_count_76, eX7_count_77, eX7_count_80, eX7_count_81, eX7_count_82, eX7_count_83, eX7_count_84, eX7_count_87, eX7_count_90, eX7_count_91, eX7_count_92, eX7_count_95, eX7_count_96, eX7_count_97, eX7_count_98, eX7_count_101, eX7_count_102, eX7_count_103, eX7_count_104, eX7_count_105, eX7_count_106, eX7_count_109, eX7_count_110, eX7_count_111, eX7_count_112, eX7_count_113, eX7_count_116, eX7_count_118, eX7_count_119, eX7_count_120, eX7_count_121, eX7_count_124, eX7_count_126, eX7_count_127, eX7_count_128, eX7_count_129, eX7_count_131, eX7_count_132, eX7_count_135, eX7_count_136, eX7_count_137, eX7_count_140, eX7_count_141, eX7_count_142, eX7_count_145, eX7_count_146, eX7_count_149, eX7_count_152, eX7_count_155, eX7_count_156, eX7_count_159, eX7_count_160, eX7_count_161, eX7_count_162, eX7_count_165, eX7_count_168, eX7_count_169, eX7_count_170, eX7_count_171, eX7_count_174, eX7_count_175, eX7_count_176, eX7_count_179, eX7_count_180, eX7_count_182, q0, q1, q2, q3, q4, q5, q6, q7, q8, mi])
  · have a1 : ¬ q < 11 := fun y => hq (Or.inl y)
    have a2 : ¬ 16 < q := fun y => hq (Or.inr y)
    obtain ⟨k, hk1, hk2, hk⟩ := n_of (A := 11) (B := 16) (lit_le rfl rfl a1 a2).1 (lit_le rfl rfl a1 a2).2
    have hd : q - 10 = nI (k - 10) := by
      rw [hk, show (10 : Int32) = nI 10 from rfl]
      exact pk_sub (by omega)
    have f1 := f_refAt (h := h) hd (by omega) (by omega)
    rw [r6 (k - 10) (by omega)] at f1
    have b1 : ¬ nI (k - 10) < 0 := nI_pos (by omega)
    have b2 : (nI (k - 10)).toNatClampNeg = k - 10 := nI_clamp (by omega)
    have b3 : ¬ 7 ≤ k - 10 := by omega
    rw [hd] at f1
    exact qs_both R (v := h 24 (k - 10)) (by simp [le_nl, -Int32.not_lt, eX6_count_0, eX6_count_1, eX6_count_52, eX6_count_53, eX6_count_56, eX6_count_59, eX6_count_60, eX6_count_61, eX6_count_64, eX6_count_67, eX6_count_68, eX6_count_69, eX6_count_72, eX6_count_73, eX6_count_76, eX6_count_79, eX6_count_80, eX6_count_83, eX6_count_84, eX6_count_85, eX6_count_88, eX6_count_89, eX6_count_92, eX6_count_95, eX6_count_96, eX6_count_99, eX6_count_100, eX6_count_101, eX6_count_102, eX6_count_103, eX6_count_106, eX6_count_109, eX6_count_112, eX6_count_113, eX6_count_116, eX6_count_117, eX6_count_118, eX6_count_119, eX6_count_122, eX6_count_125, eX6_count_126, eX6_count_127, eX6_count_130, eX6_count_133, eX6_count_134, eX6_count_135, eX6_count_138, eX6_count_141, eX6_count_142, eX6_count_143, eX6_count_146, eX6_count_149, eX6_count_150, eX6_count_151, eX6_count_154, eX6_count_157, eX6_count_158, eX6_count_159, eX6_count_160, eX6_count_162, eX6_count_163, eX6_count_166, q0, q1, q2, q3, q4, q5, q6, q7, q8, hd, f1]) (by simp [eX7_count_0, eX7_count_1, eX7_count_3, eX7_count_5, eX7_count_8, eX7_count_11, eX7_count_12, eX7_count_15, eX7_count_16, eX7_count_18, eX7_count_19, eX7_count_20, eX7_count_21, eX7_count_22, eX7_count_23, eX7_count_24, eX7_count_76, eX7_count_77, eX7_count_80, eX7_count_81, eX7_count_82, eX7_count_83, eX7_count_84, eX7_count_87, eX7_count_90, eX7_count_91, eX7_count_92, eX7_count_95, eX7_count_96, eX7_count_97, eX7_count_98, eX7_count_101, eX7_count_102, eX7_count_103, eX7_count_104, eX7_count_105, eX7_count_106, eX7_count_109, eX7_count_110, eX7_count_111, eX7_count_112, eX7_count_113, eX7_count_116, eX7_count_118, eX7_count_119, eX7_count_120, eX7_count_121, eX7_count_124, eX7_count_126, eX7_count_127, eX7_count_128, eX7_count_129, eX7_count_131, eX7_count_132, eX7_count_135, eX7_count_136, eX7_count_137, eX7_count_140, eX7_count_141, eX7_count_142, eX7_count_145, eX7_count_146, eX7_count_149, eX7_count_152, eX7_count_155, eX7_count_156, eX7_count_159, eX7_count_160, eX7_count_161, eX7_count_162, eX7_count_165, eX7_count_168, eX7_count_169, eX7_count_170, eX7_count_171, eX7_count_174, eX7_count_175, eX7_count_176, eX7_count_179, eX7_count_180, eX7_count_182, m_isIn, a1, a2, hd, b1, b2, b3, show lyA 24 = some 7 from rfl])
theorem cpl_in {r : Nat → Int32} (ok : Ok r) (hn : 0 ≤ n.toInt) : 0 ≤ (cpl r e n).toInt ∧ (cpl r e n).toInt ≤ n.toInt := by
  obtain ⟨-, o1, o2, -⟩ := ok
  unfold cpl
  by_cases he : e = 0
  · rw [if_pos he, if_pos he, if_pos he]
    have k := cplV_in (sw := r 5) (kn := r 4) o1 o2 hn
    exact ⟨k.1, k.2.1⟩
  · rw [if_neg he, if_neg he, if_neg he]
    have k := cplV_in (sw := r 5) (kn := r 3) o2 o1 hn
    exact ⟨k.1, k.2.1⟩
theorem half_in {x y : Int32} (hx : -40 ≤ x.toInt ∧ x.toInt ≤ 24) (hy : -40 ≤ y.toInt ∧ y.toInt ≤ 24) : -64 ≤ ((x - y) / 2).toInt ∧ ((x - y) / 2).toInt ≤ 64 := by
  have e1 : (x - y).toInt = x.toInt - y.toInt := t_sub (by omega) (by omega)
  rw [t_div (by decide), e1]
  show -64 ≤ (x.toInt - y.toInt).tdiv 2 ∧ (x.toInt - y.toInt).tdiv 2 ≤ 64
  generalize hz : x.toInt - y.toInt = z
  rcases Int.lt_or_le z 0 with q | q
  · have e : z.tdiv 2 = -((-z).tdiv 2) := by rw [Int.neg_tdiv, Int.neg_neg]
    rw [e, Int.tdiv_eq_ediv_of_nonneg (by omega)]
    omega
  · rw [Int.tdiv_eq_ediv_of_nonneg q]
    omega
theorem s_middle : Sim [.null, .null, .null] [.null, .null] mX6_middle mX7_middle := by
  intro h R
  have o := id R.2.1
  obtain ⟨-, o1, o2, -⟩ := o
  have hi := half_in o1 o2
  have d1 : mr h 18 1 = h 18 1 := rfl
  have d2 : mr h 18 2 = h 18 2 := rfl
  rw [d1, d2] at hi
  generalize hz : (h 18 1 - h 18 2) / 2 = z at *
  have fc : ∀ e n, (e = 0 ∨ e = 1) → ev mX0_canDraw 0 [.ref 1, .int e, .int n, .null, .null, .null, .null] [] h = some (some (.int (cpl (mr h 18) e n)), h) := by
    intro e n he
    rw [f_canDraw HC1 he, R.1]
  have mc : ∀ e n, 0 ≤ n.toInt → (e = 0 ∨ e = 1) → ev mX7_canPull 0 [.ref 18, .int e, .int n, .null, .null] [] h = some (some (.int (cpl (mr h 18) e n)), h) := fun e n hn he => m_canPull rfl R.2.1 hn he
  by_cases z0 : z = 0
  · have c0 := (cpl_in (e := 0) (n := 0) R.2.1 (by decide)).1
    have c1 : ¬ cpl (mr h 18) 0 0 < 0 := by rw [t_lt]; show ¬ _ < (0 : Int); omega
    exact qs_both R (v := 0) (by simp [le_nl, -Int32.not_lt, eX6_middle_0, eX6_middle_1, eX6_middle_4, eX6_middle_5, eX6_middle_8, eX6_middle_9, eX6_middle_12, eX6_middle_13, eX6_middle_16, eX6_middle_17, eX6_middle_18, eX6_middle_19, eX6_middle_20, eX6_middle_21, eX6_middle_24, eX6_middle_25, eX6_middle_28, eX6_middle_29, eX6_middle_30, eX6_middle_31, eX6_middle_34, eX6_middle_35, eX6_middle_36, eX6_middle_39, eX6_middle_40, eX6_middle_41, eX6_middle_44, eX6_middle_45, eX6_middle_48, eX6_middle_50, eX6_middle_53, eX6_middle_54, f_depth HC1, R.s1, R.s2, hz, z0, fc 0 0 (Or.inl rfl), c1, show lyC 1 = 0 from rfl, show rcv 1 = 0 from rfl]) (by simp [le_nl, -Int32.not_lt, eX7_middle_0, eX7_middle_1, eX7_middle_4, eX7_middle_5, eX7_middle_6, eX7_middle_7, eX7_middle_10, eX7_middle_11, eX7_middle_12, eX7_middle_13, eX7_middle_14, eX7_middle_15, eX7_middle_16, eX7_middle_17, eX7_middle_20, eX7_middle_21, eX7_middle_22, eX7_middle_23, eX7_middle_26, eX7_middle_27, eX7_middle_30, eX7_middle_31, eX7_middle_32, eX7_middle_35, eX7_middle_38, eX7_middle_39, eX7_middle_42, eX7_middle_43, eX7_middle_44, eX7_middle_45, eX7_middle_48, eX7_middle_49, eX7_middle_50, eX7_middle_51, eX7_middle_54, eX7_middle_55, eX7_middle_58, eX7_middle_59, eX7_middle_60, eX7_middle_63, eX7_middle_64, eX7_middle_67, eX7_middle_69, hz, z0, show lyA 18 = some 32 from rfl])
  · by_cases zp : z < 0
    · have zp' : z.toInt < 0 := by rw [t_lt] at zp; exact zp
      have en : (-z).toInt = -z.toInt := t_neg (by omega)
      have es : 0 - z = -z := Int32.zero_sub z
      have ci := cpl_in (e := 1) (n := -z) R.2.1 (by omega)
      have np : ¬ 0 < z := by rw [t_lt]; show ¬ (0 : Int) < z.toInt; omega
      by_cases hc : cpl (mr h 18) 1 (-z) < -z
      · have hne : ¬ cpl (mr h 18) 1 (-z) = -z := fun y => by rw [y, t_lt] at hc; omega
        exact qs_both R (v := 99) (by simp [le_nl, -Int32.not_lt, eX6_middle_0, eX6_middle_1, eX6_middle_4, eX6_middle_5, eX6_middle_8, eX6_middle_9, eX6_middle_12, eX6_middle_13, eX6_middle_16, eX6_middle_17, eX6_middle_18, eX6_middle_19, eX6_middle_20, eX6_middle_21, eX6_middle_24, eX6_middle_25, eX6_middle_28, eX6_middle_29, eX6_middle_30, eX6_middle_31, eX6_middle_34, eX6_middle_35, eX6_middle_36, eX6_middle_39, eX6_middle_40, eX6_middle_41, eX6_middle_44, eX6_middle_45, eX6_middle_48, eX6_middle_50, eX6_middle_53, eX6_middle_54, f_depth HC1, R.s1, R.s2, hz, z0, zp, es, fc 1 (-z) (Or.inr rfl), hc, show lyC 1 = 0 from rfl, show rcv 1 = 0 from rfl]) (by simp [le_nl, -Int32.not_lt, eX7_middle_0, eX7_middle_1, eX7_middle_4, eX7_middle_5, eX7_middle_6, eX7_middle_7, eX7_middle_10, eX7_middle_11, eX7_middle_12, eX7_middle_13, eX7_middle_14, eX7_middle_15, eX7_middle_16, eX7_middle_17, eX7_middle_20, eX7_middle_21, eX7_middle_22, eX7_middle_23, eX7_middle_26, eX7_middle_27, eX7_middle_30, eX7_middle_31, eX7_middle_32, eX7_middle_35, eX7_middle_38, eX7_middle_39, eX7_middle_42, eX7_middle_43, eX7_middle_44, eX7_middle_45, eX7_middle_48, eX7_middle_49, eX7_middle_50, eX7_middle_51, eX7_middle_54, eX7_middle_55, eX7_middle_58, eX7_middle_59, eX7_middle_60, eX7_middle_63, eX7_middle_64, eX7_middle_67, eX7_middle_69, hz, z0, zp, np, mc 1 (-z) (by omega) (Or.inr rfl), hne, show lyA 18 = some 32 from rfl])
      · have heq : cpl (mr h 18) 1 (-z) = -z := by
          rw [t_lt] at hc
          apply t_eq.mpr
          omega
        exact qs_both R (v := z) (by simp [le_nl, -Int32.not_lt, eX6_middle_0, eX6_middle_1, eX6_middle_4, eX6_middle_5, eX6_middle_8, eX6_middle_9, eX6_middle_12, eX6_middle_13, eX6_middle_16, eX6_middle_17, eX6_middle_18, eX6_middle_19, eX6_middle_20, eX6_middle_21, eX6_middle_24, eX6_middle_25, eX6_middle_28, eX6_middle_29, eX6_middle_30, eX6_middle_31, eX6_middle_34, eX6_middle_35, eX6_middle_36, eX6_middle_39, eX6_middle_40, eX6_middle_41, eX6_middle_44, eX6_middle_45, eX6_middle_48, eX6_middle_50, eX6_middle_53, eX6_middle_54, f_depth HC1, R.s1, R.s2, hz, z0, zp, es, fc 1 (-z) (Or.inr rfl), heq, show lyC 1 = 0 from rfl, show rcv 1 = 0 from rfl]) (by simp [le_nl, -Int32.not_lt, eX7_middle_0, eX7_middle_1, eX7_middle_4, eX7_middle_5, eX7_middle_6, eX7_middle_7, eX7_middle_10, eX7_middle_11, eX7_middle_12, eX7_middle_13, eX7_middle_14, eX7_middle_15, eX7_middle_16, eX7_middle_17, eX7_middle_20, eX7_middle_21, eX7_middle_22, eX7_middle_23, eX7_middle_26, eX7_middle_27, eX7_middle_30, eX7_middle_31, eX7_middle_32, eX7_middle_35, eX7_middle_38, eX7_middle_39, eX7_middle_42, eX7_middle_43, eX7_middle_44, eX7_middle_45, eX7_middle_48, eX7_middle_49, eX7_middle_50, eX7_middle_51, eX7_middle_54, eX7_middle_55, eX7_middle_58, eX7_middle_59, eX7_middle_60, eX7_middle_63, eX7_middle_64, eX7_middle_67, eX7_middle_69, hz, z0, zp, np, mc 1 (-z) (by omega) (Or.inr rfl), heq, show lyA 18 = some 32 from rfl])
    · have zp' : ¬ z.toInt < 0 := by rw [t_lt] at zp; exact zp
      have z0' : ¬ z.toInt = 0 := fun y => z0 (t_eq.mpr y)
      have np : 0 < z := by rw [t_lt]; show (0 : Int) < z.toInt; omega
      have ci := cpl_in (e := 0) (n := z) R.2.1 (by omega)
      by_cases hc : cpl (mr h 18) 0 z < z
      · have hne : ¬ cpl (mr h 18) 0 z = z := fun y => by rw [y, t_lt] at hc; omega
        exact qs_both R (v := 99) (by simp [le_nl, -Int32.not_lt, eX6_middle_0, eX6_middle_1, eX6_middle_4, eX6_middle_5, eX6_middle_8, eX6_middle_9, eX6_middle_12, eX6_middle_13, eX6_middle_16, eX6_middle_17, eX6_middle_18, eX6_middle_19, eX6_middle_20, eX6_middle_21, eX6_middle_24, eX6_middle_25, eX6_middle_28, eX6_middle_29, eX6_middle_30, eX6_middle_31, eX6_middle_34, eX6_middle_35, eX6_middle_36, eX6_middle_39, eX6_middle_40, eX6_middle_41, eX6_middle_44, eX6_middle_45, eX6_middle_48, eX6_middle_50, eX6_middle_53, eX6_middle_54, f_depth HC1, R.s1, R.s2, hz, z0, zp, fc 0 z (Or.inl rfl), hc, show lyC 1 = 0 from rfl, show rcv 1 = 0 from rfl]) (by simp [le_nl, -Int32.not_lt, eX7_middle_0, eX7_middle_1, eX7_middle_4, eX7_middle_5, eX7_middle_6, eX7_middle_7, eX7_middle_10, eX7_middle_11, eX7_middle_12, eX7_middle_13, eX7_middle_14, eX7_middle_15, eX7_middle_16, eX7_middle_17, eX7_middle_20, eX7_middle_21, eX7_middle_22, eX7_middle_23, eX7_middle_26, eX7_middle_27, eX7_middle_30, eX7_middle_31, eX7_middle_32, eX7_middle_35, eX7_middle_38, eX7_middle_39, eX7_middle_42, eX7_middle_43, eX7_middle_44, eX7_middle_45, eX7_middle_48, eX7_middle_49, eX7_middle_50, eX7_middle_51, eX7_middle_54, eX7_middle_55, eX7_middle_58, eX7_middle_59, eX7_middle_60, eX7_middle_63, eX7_middle_64, eX7_middle_67, eX7_middle_69, hz, z0, zp, np, mc 0 z (by omega) (Or.inl rfl), hne, show lyA 18 = some 32 from rfl])
      · have heq : cpl (mr h 18) 0 z = z := by
          rw [t_lt] at hc
          apply t_eq.mpr
          omega
        have zz : ¬ z < z := by rw [t_lt]; omega
        exact qs_both R (v := z) (by simp [le_nl, -Int32.not_lt, eX6_middle_0, eX6_middle_1, eX6_middle_4, eX6_middle_5, eX6_middle_8, eX6_middle_9, eX6_middle_12, eX6_middle_13, eX6_middle_16, eX6_middle_17, eX6_middle_18, eX6_middle_19, eX6_middle_20, eX6_middle_21, eX6_middle_24, eX6_middle_25, eX6_middle_28, eX6_middle_29, eX6_middle_30, eX6_middle_31, eX6_middle_34, eX6_middle_35, eX6_middle_36, eX6_middle_39, eX6_middle_40, eX6_middle_41, eX6_middle_44, eX6_middle_45, eX6_middle_48, eX6_middle_50, eX6_middle_53, eX6_middle_54, f_depth HC1, R.s1, R.s2, hz, z0, zp, fc 0 z (Or.inl rfl), heq, zz, show lyC 1 = 0 from rfl, show rcv 1 = 0 from rfl]) (by simp [le_nl, -Int32.not_lt, eX7_middle_0, eX7_middle_1, eX7_middle_4, eX7_middle_5, eX7_middle_6, eX7_middle_7, eX7_middle_10, eX7_middle_11, eX7_middle_12, eX7_middle_13, eX7_middle_14, eX7_middle_15, eX7_middle_16, eX7_middle_17, eX7_middle_20, eX7_middle_21, eX7_middle_22, eX7_middle_23, eX7_middle_26, eX7_middle_27, eX7_middle_30, eX7_middle_31, eX7_middle_32, eX7_middle_35, eX7_middle_38, eX7_middle_39, eX7_middle_42, eX7_middle_43, eX7_middle_44, eX7_middle_45, eX7_middle_48, eX7_middle_49, eX7_middle_50, eX7_middle_51, eX7_middle_54, eX7_middle_55, eX7_middle_58, eX7_middle_59, eX7_middle_60, eX7_middle_63, eX7_middle_64, eX7_middle_67, eX7_middle_69, hz, z0, zp, np, mc 0 z (by omega) (Or.inl rfl), heq, show lyA 18 = some 32 from rfl])
/-- BEST PIN -/
def bpN (r : Nat → Int32) (v : Int32) : Nat → Nat → Int32
  | 0, _ => -9
  | m + 1, j => if v < anSec r (nI j) then bpN r v m (j + 1) else nI j
theorem bc_loop (R : Rel h) {v a2 : Int32} : ∀ (m j : Nat), j + m = 10 → ev mX6_bestPin 21 [.ref 0, .int v, .int a2, .int (nI j)] [] h = some (some (.int (bpN (mr h 18) v m j)), h) := by
  intro m
  induction m with
  | zero =>
    intro j hj
    have e1 : (9 : Int32) < nI j := by rw [show j = 10 by omega]; decide
    simp [eX6_bestPin_0, eX6_bestPin_1, eX6_bestPin_2, eX6_bestPin_5, eX6_bestPin_8, eX6_bestPin_9, eX6_bestPin_10, eX6_bestPin_13, eX6_bestPin_14, eX6_bestPin_15, eX6_bestPin_18, eX6_bestPin_19, eX6_bestPin_20, eX6_bestPin_21, eX6_bestPin_22, eX6_bestPin_24, eX6_bestPin_27, eX6_bestPin_28, eX6_bestPin_31, eX6_bestPin_32, eX6_bestPin_35, eX6_bestPin_36, eX6_bestPin_39, eX6_bestPin_40, eX6_bestPin_41, eX6_bestPin_44, eX6_bestPin_47, eX6_bestPin_49, e1, bpN]
  | succ m ih =>
    intro j hj
    have e1 : ¬ (9 : Int32) < nI j := by
      rw [t_lt, t_nI (by omega)]
      show ¬ (9 : Int) < _
      omega
    have f1 := f_secondsAnew (h := h) (x := nI j) HC1 R.ok1
    rw [R.1] at f1
    rw [eX6_bestPin_21]
    by_cases c : v < anSec (mr h 18) (nI j)
    · simp [eX6_bestPin_0, eX6_bestPin_1, eX6_bestPin_2, eX6_bestPin_5, eX6_bestPin_8, eX6_bestPin_9, eX6_bestPin_10, eX6_bestPin_13, eX6_bestPin_14, eX6_bestPin_15, eX6_bestPin_18, eX6_bestPin_19, eX6_bestPin_20, eX6_bestPin_22, eX6_bestPin_24, eX6_bestPin_27, eX6_bestPin_28, eX6_bestPin_31, eX6_bestPin_32, eX6_bestPin_35, eX6_bestPin_36, eX6_bestPin_39, eX6_bestPin_40, eX6_bestPin_41, eX6_bestPin_44, eX6_bestPin_47, eX6_bestPin_49, e1, f1, c, bpN, nI_1, show lyC 1 = 0 from rfl, show rcv 1 = 0 from rfl]
      exact ih (j + 1) (by omega)
    · simp [eX6_bestPin_0, eX6_bestPin_1, eX6_bestPin_2, eX6_bestPin_5, eX6_bestPin_8, eX6_bestPin_9, eX6_bestPin_10, eX6_bestPin_13, eX6_bestPin_14, eX6_bestPin_15, eX6_bestPin_18, eX6_bestPin_19, eX6_bestPin_20, eX6_bestPin_22, eX6_bestPin_24, eX6_bestPin_27, eX6_bestPin_28, eX6_bestPin_31, eX6_bestPin_32, eX6_bestPin_35, eX6_bestPin_36, eX6_bestPin_39, eX6_bestPin_40, eX6_bestPin_41, eX6_bestPin_44, eX6_bestPin_47, eX6_bestPin_49, e1, f1, c, bpN, show lyC 1 = 0 from rfl, show rcv 1 = 0 from rfl]
theorem anSum_upd {r : Nat → Int32} {k : Nat} (hk : k < 8) {p x : Int32} : ∀ (m j : Nat) (v : Int32), anSum (upd r k p) x m j v = anSum r x m j v := by
  intro m
  induction m with
  | zero => intro j v; rfl
  | succ m ih =>
    intro j v
    show anSum (upd r k p) x m (j + 1) (v + thB (upd r k p) x j) = anSum r x m (j + 1) (v + thB r x j)
    rw [ih]
    unfold thB kO fO upd
    rw [if_neg (by omega), if_neg (by omega)]
theorem anSec_upd {r : Nat → Int32} {k : Nat} (h0 : k ≠ 0) (hk : k < 8) {p x : Int32} : anSec (upd r k p) x = anSec r x := by
  unfold anSec
  rw [anSum_upd hk, upd_at, if_neg (by omega)]
theorem upd_upd {r : Nat → Int32} {k : Nat} {p x : Int32} : upd (upd r k p) k x = upd r k x := by
  funext j
  unfold upd
  split <;> rfl
theorem upd_self {r : Nat → Int32} {k : Nat} : upd r k (r k) = r := by
  funext j
  unfold upd
  split
  · rename_i z; rw [z]
  · rfl
theorem bm_loop {r : Nat → Int32} (ok : Ok r) {v a2 : Int32} : ∀ (m j : Nat) (h : Sto), 1 ≤ j → j + m = 10 → (∀ p, upd (mr h 19) 6 p = upd r 6 p) → ∃ h' : Sto, ev mX7_bestPin 28 [.ref 17, .int v, .int a2, .int (nI j)] [] h = some (some (.int (bpN r v m j)), h') ∧ ∀ a, a ≠ 19 → h' a = h a := by
  intro m
  induction m with
  | zero =>
    intro j h hj1 hj hp
    have e1 : (10 : Int32) ≤ nI j := by rw [show j = 10 by omega]; decide
    exact ⟨h, by simp [eX7_bestPin_0, eX7_bestPin_1, eX7_bestPin_4, eX7_bestPin_5, eX7_bestPin_6, eX7_bestPin_9, eX7_bestPin_10, eX7_bestPin_11, eX7_bestPin_14, eX7_bestPin_15, eX7_bestPin_16, eX7_bestPin_19, eX7_bestPin_20, eX7_bestPin_23, eX7_bestPin_26, eX7_bestPin_27, eX7_bestPin_28, eX7_bestPin_29, eX7_bestPin_31, eX7_bestPin_34, eX7_bestPin_35, eX7_bestPin_38, eX7_bestPin_40, eX7_bestPin_41, eX7_bestPin_42, eX7_bestPin_43, eX7_bestPin_46, eX7_bestPin_49, eX7_bestPin_50, eX7_bestPin_53, eX7_bestPin_54, eX7_bestPin_55, eX7_bestPin_58, eX7_bestPin_61, eX7_bestPin_63, e1, bpN], fun _ _ => rfl⟩
  | succ m ih =>
    intro j h hj1 hj hp
    have e1 : ¬ (10 : Int32) ≤ nI j := by
      rw [t_le, t_nI (by omega)]
      show ¬ (10 : Int) ≤ _
      omega
    have m1 : mr (st h 19 6 (nI j)) 19 = upd r 6 (nI j) := by rw [mr_st (by omega), hp]
    have ok1 : Ok (mr (st h 19 6 (nI j)) 19) := by
      rw [m1]
      exact ok_upd ok (by omega) ⟨by omega, by omega, by omega, fun _ => by rw [t_nI (by omega)]; omega, by omega⟩
    have f1 := m_anewSeconds (r := 19) rfl ok1
    rw [m1, anSec_upd (by omega) (by omega), upd_at, if_pos rfl] at f1
    rw [eX7_bestPin_28]
    by_cases c : v < anSec r (nI j)
    · obtain ⟨h', g1, g2⟩ := ih (j + 1) (st h 19 6 (nI j)) (by omega) (by omega) (fun p => by rw [m1, upd_upd])
      refine ⟨h', ?_, fun a z => by rw [g2 a z, st_cell z]⟩
      simp [eX7_bestPin_0, eX7_bestPin_1, eX7_bestPin_4, eX7_bestPin_5, eX7_bestPin_6, eX7_bestPin_9, eX7_bestPin_10, eX7_bestPin_11, eX7_bestPin_14, eX7_bestPin_15, eX7_bestPin_16, eX7_bestPin_19, eX7_bestPin_20, eX7_bestPin_23, eX7_bestPin_26, eX7_bestPin_27, eX7_bestPin_29, eX7_bestPin_31, eX7_bestPin_34, eX7_bestPin_35, eX7_bestPin_38, eX7_bestPin_40, eX7_bestPin_41, eX7_bestPin_42, eX7_bestPin_43, eX7_bestPin_46, eX7_bestPin_49, eX7_bestPin_50, eX7_bestPin_53, eX7_bestPin_54, eX7_bestPin_55, eX7_bestPin_58, eX7_bestPin_61, eX7_bestPin_63, e1, f1, c, bpN, nI_1, show lyA 19 = some 32 from rfl]
      exact g1
    · refine ⟨st h 19 6 (nI j), ?_, fun a z => st_cell z⟩
      simp [eX7_bestPin_0, eX7_bestPin_1, eX7_bestPin_4, eX7_bestPin_5, eX7_bestPin_6, eX7_bestPin_9, eX7_bestPin_10, eX7_bestPin_11, eX7_bestPin_14, eX7_bestPin_15, eX7_bestPin_16, eX7_bestPin_19, eX7_bestPin_20, eX7_bestPin_23, eX7_bestPin_26, eX7_bestPin_27, eX7_bestPin_29, eX7_bestPin_31, eX7_bestPin_34, eX7_bestPin_35, eX7_bestPin_38, eX7_bestPin_40, eX7_bestPin_41, eX7_bestPin_42, eX7_bestPin_43, eX7_bestPin_46, eX7_bestPin_49, eX7_bestPin_50, eX7_bestPin_53, eX7_bestPin_54, eX7_bestPin_55, eX7_bestPin_58, eX7_bestPin_61, eX7_bestPin_63, e1, f1, c, bpN, show lyA 19 = some 32 from rfl]
theorem m_wrongS {v : Int32} : ev mX7_wrongSeconds 0 [.int v] [] h = some (some (.int (if v < 0 then -4 else if 999 < v then -6 else 0)), h) := by
  by_cases h1 : v < 0
  · simp [le_nl, -Int32.not_lt, eX7_wrongSeconds_0, eX7_wrongSeconds_1, eX7_wrongSeconds_4, eX7_wrongSeconds_6, eX7_wrongSeconds_9, eX7_wrongSeconds_10, eX7_wrongSeconds_13, eX7_wrongSeconds_16, eX7_wrongSeconds_18, eX7_wrongSeconds_21, eX7_wrongSeconds_22, h1]
  · by_cases h2 : 999 < v <;> simp [le_nl, -Int32.not_lt, eX7_wrongSeconds_0, eX7_wrongSeconds_1, eX7_wrongSeconds_4, eX7_wrongSeconds_6, eX7_wrongSeconds_9, eX7_wrongSeconds_10, eX7_wrongSeconds_13, eX7_wrongSeconds_16, eX7_wrongSeconds_18, eX7_wrongSeconds_21, eX7_wrongSeconds_22, h1, h2]
theorem m_wrongW {v : Int32} : ev mX7_wrongWashes 0 [.int v] [] h = some (some (.int (if v < 0 then -4 else if 200 < v then -6 else 0)), h) := by
  by_cases h1 : v < 0
  · simp [le_nl, -Int32.not_lt, eX7_wrongWashes_0, eX7_wrongWashes_1, eX7_wrongWashes_4, eX7_wrongWashes_6, eX7_wrongWashes_9, eX7_wrongWashes_10, eX7_wrongWashes_13, eX7_wrongWashes_16, eX7_wrongWashes_18, eX7_wrongWashes_21, eX7_wrongWashes_22, h1]
  · by_cases h2 : 200 < v <;> simp [le_nl, -Int32.not_lt, eX7_wrongWashes_0, eX7_wrongWashes_1, eX7_wrongWashes_4, eX7_wrongWashes_6, eX7_wrongWashes_9, eX7_wrongWashes_10, eX7_wrongWashes_13, eX7_wrongWashes_16, eX7_wrongWashes_18, eX7_wrongWashes_21, eX7_wrongWashes_22, h1, h2]
theorem Rel.f19 (R : Rel h) (hf : ∀ a, a ≠ 19 → h' a = h a) : Rel h' := R.fr (fun a x z => by
  rw [hf a (fun y => z (Or.inr (Or.inl y)))])
theorem s_bestPin {v : Int32} : Sim [.int v, .null, .null] [.int v, .null, .null] mX6_bestPin mX7_bestPin := by
  intro h R
  by_cases h1 : v < 0
  · exact rf_both R (k := 4) (w := -4) (by omega) (by simp [le_nl, -Int32.not_lt, eX6_bestPin_0, eX6_bestPin_1, eX6_bestPin_2, eX6_bestPin_5, eX6_bestPin_8, eX6_bestPin_9, eX6_bestPin_10, eX6_bestPin_13, eX6_bestPin_14, eX6_bestPin_15, eX6_bestPin_18, eX6_bestPin_19, eX6_bestPin_20, eX6_bestPin_22, eX6_bestPin_24, eX6_bestPin_27, eX6_bestPin_28, eX6_bestPin_31, eX6_bestPin_32, eX6_bestPin_35, eX6_bestPin_36, eX6_bestPin_39, eX6_bestPin_40, eX6_bestPin_41, eX6_bestPin_44, eX6_bestPin_47, eX6_bestPin_49, f_outside, h1, f_refuse]) (by simp [le_nl, -Int32.not_lt, eX7_bestPin_0, eX7_bestPin_1, eX7_bestPin_4, eX7_bestPin_5, eX7_bestPin_6, eX7_bestPin_9, eX7_bestPin_10, eX7_bestPin_11, eX7_bestPin_14, eX7_bestPin_15, eX7_bestPin_16, eX7_bestPin_19, eX7_bestPin_20, eX7_bestPin_23, eX7_bestPin_26, eX7_bestPin_27, eX7_bestPin_29, eX7_bestPin_31, eX7_bestPin_34, eX7_bestPin_35, eX7_bestPin_38, eX7_bestPin_40, eX7_bestPin_41, eX7_bestPin_42, eX7_bestPin_43, eX7_bestPin_46, eX7_bestPin_49, eX7_bestPin_50, eX7_bestPin_53, eX7_bestPin_54, eX7_bestPin_55, eX7_bestPin_58, eX7_bestPin_61, eX7_bestPin_63, m_wrongS, h1, m_no])
  · by_cases h2 : 999 < v
    · exact rf_both R (k := 6) (w := -6) (by omega) (by simp [le_nl, -Int32.not_lt, eX6_bestPin_0, eX6_bestPin_1, eX6_bestPin_2, eX6_bestPin_5, eX6_bestPin_8, eX6_bestPin_9, eX6_bestPin_10, eX6_bestPin_13, eX6_bestPin_14, eX6_bestPin_15, eX6_bestPin_18, eX6_bestPin_19, eX6_bestPin_20, eX6_bestPin_22, eX6_bestPin_24, eX6_bestPin_27, eX6_bestPin_28, eX6_bestPin_31, eX6_bestPin_32, eX6_bestPin_35, eX6_bestPin_36, eX6_bestPin_39, eX6_bestPin_40, eX6_bestPin_41, eX6_bestPin_44, eX6_bestPin_47, eX6_bestPin_49, f_outside, h1, h2, f_refuse]) (by simp [le_nl, -Int32.not_lt, eX7_bestPin_0, eX7_bestPin_1, eX7_bestPin_4, eX7_bestPin_5, eX7_bestPin_6, eX7_bestPin_9, eX7_bestPin_10, eX7_bestPin_11, eX7_bestPin_14, eX7_bestPin_15, eX7_bestPin_16, eX7_bestPin_19, eX7_bestPin_20, eX7_bestPin_23, eX7_bestPin_26, eX7_bestPin_27, eX7_bestPin_29, eX7_bestPin_31, eX7_bestPin_34, eX7_bestPin_35, eX7_bestPin_38, eX7_bestPin_40, eX7_bestPin_41, eX7_bestPin_42, eX7_bestPin_43, eX7_bestPin_46, eX7_bestPin_49, eX7_bestPin_50, eX7_bestPin_53, eX7_bestPin_54, eX7_bestPin_55, eX7_bestPin_58, eX7_bestPin_61, eX7_bestPin_63, m_wrongS, h1, h2, m_no])
    · have f1 := bc_loop R (v := v) (a2 := 0) 9 1 rfl
      obtain ⟨h3, b1, b2, b3⟩ := m_lays (r := 18) (t := 19) (h := h) rfl rfl (by omega)
      obtain ⟨h4, g1, g2⟩ := bm_loop (v := v) (a2 := 0) R.2.1 9 1 h3 (by omega) rfl (fun p => by rw [b2])
      rw [show nI 1 = 1 from rfl] at f1 g1
      exact ⟨bpN (mr h 18) v 9 1, h, h4, by simp [le_nl, -Int32.not_lt, eX6_bestPin_0, eX6_bestPin_1, eX6_bestPin_2, eX6_bestPin_5, eX6_bestPin_8, eX6_bestPin_9, eX6_bestPin_10, eX6_bestPin_13, eX6_bestPin_14, eX6_bestPin_15, eX6_bestPin_18, eX6_bestPin_19, eX6_bestPin_20, eX6_bestPin_22, eX6_bestPin_24, eX6_bestPin_27, eX6_bestPin_28, eX6_bestPin_31, eX6_bestPin_32, eX6_bestPin_35, eX6_bestPin_36, eX6_bestPin_39, eX6_bestPin_40, eX6_bestPin_41, eX6_bestPin_44, eX6_bestPin_47, eX6_bestPin_49, f_outside, h1, h2, f1], by simp [le_nl, -Int32.not_lt, eX7_bestPin_0, eX7_bestPin_1, eX7_bestPin_4, eX7_bestPin_5, eX7_bestPin_6, eX7_bestPin_9, eX7_bestPin_10, eX7_bestPin_11, eX7_bestPin_14, eX7_bestPin_15, eX7_bestPin_16, eX7_bestPin_19, eX7_bestPin_20, eX7_bestPin_23, eX7_bestPin_26, eX7_bestPin_27, eX7_bestPin_29, eX7_bestPin_31, eX7_bestPin_34, eX7_bestPin_35, eX7_bestPin_38, eX7_bestPin_40, eX7_bestPin_41, eX7_bestPin_42, eX7_bestPin_43, eX7_bestPin_46, eX7_bestPin_49, eX7_bestPin_50, eX7_bestPin_53, eX7_bestPin_54, eX7_bestPin_55, eX7_bestPin_58, eX7_bestPin_61, eX7_bestPin_63, m_wrongS, h1, h2, b1, g1], R.f19 (fun a z => by rw [g2 a z, b3 a z])⟩
/-- WORST -/
def woN (r : Nat → Int32) (x : Int32) : Nat → Nat → Nat → Nat
  | 0, _, w => w
  | m + 1, j, w => woN r x m (j + 1) (if thB r x j ≤ thB r x w then w else j)
theorem Rel.fa (R : Rel h) {k : Nat} (hk : k < 12) {x : Int32} : ev mX0_secondsAnewOf 0 [.ref 1, .int (nI k), .int x] [] h = some (some (.int (thB (mr h 18) x k)), h) := by
  rw [f_secondsAnewOf HC1 hk, ← R.1]
  unfold thB
  rw [hm_k hk, hm_f hk]
theorem wc_loop (R : Rel h) : ∀ (m j w : Nat), (h 18 0).toInt = (j : Int) + m → w < 12 → ev mX6_worst 4 [.ref 0, .int (nI w), .int (nI j)] [] h = some (some (.int (nI (woN (mr h 18) (h 18 6) m j w))), h) := by
  have l := R.len
  intro m
  induction m with
  | zero =>
    intro j w hj hw
    have e1 : h 18 0 ≤ nI j := by rw [t_le, t_nI (by omega)]; omega
    simp [eX6_worst_0, eX6_worst_1, eX6_worst_2, eX6_worst_3, eX6_worst_4, eX6_worst_5, eX6_worst_6, eX6_worst_9, eX6_worst_12, eX6_worst_15, eX6_worst_16, eX6_worst_19, eX6_worst_20, eX6_worst_21, eX6_worst_24, eX6_worst_27, eX6_worst_30, eX6_worst_31, eX6_worst_34, eX6_worst_35, eX6_worst_36, eX6_worst_39, eX6_worst_42, eX6_worst_45, eX6_worst_48, eX6_worst_49, eX6_worst_50, eX6_worst_53, eX6_worst_56, eX6_worst_57, R.s0, e1, woN, show lyC 1 = 0 from rfl, show rcv 1 = 0 from rfl]
  | succ m ih =>
    intro j w hj hw
    have hj12 : j < 12 := by omega
    have e1 : ¬ h 18 0 ≤ nI j := by rw [t_le, t_nI (by omega)]; omega
    rw [eX6_worst_4]
    by_cases c : thB (mr h 18) (h 18 6) j ≤ thB (mr h 18) (h 18 6) w
    · simp [eX6_worst_0, eX6_worst_1, eX6_worst_2, eX6_worst_3, eX6_worst_5, eX6_worst_6, eX6_worst_9, eX6_worst_12, eX6_worst_15, eX6_worst_16, eX6_worst_19, eX6_worst_20, eX6_worst_21, eX6_worst_24, eX6_worst_27, eX6_worst_30, eX6_worst_31, eX6_worst_34, eX6_worst_35, eX6_worst_36, eX6_worst_39, eX6_worst_42, eX6_worst_45, eX6_worst_48, eX6_worst_49, eX6_worst_50, eX6_worst_53, eX6_worst_56, eX6_worst_57, R.s0, R.s6, e1, R.fa hj12, R.fa hw, c, woN, nI_1, show lyC 1 = 0 from rfl, show rcv 1 = 0 from rfl]
      exact ih (j + 1) w (by omega) hw
    · simp [eX6_worst_0, eX6_worst_1, eX6_worst_2, eX6_worst_3, eX6_worst_5, eX6_worst_6, eX6_worst_9, eX6_worst_12, eX6_worst_15, eX6_worst_16, eX6_worst_19, eX6_worst_20, eX6_worst_21, eX6_worst_24, eX6_worst_27, eX6_worst_30, eX6_worst_31, eX6_worst_34, eX6_worst_35, eX6_worst_36, eX6_worst_39, eX6_worst_42, eX6_worst_45, eX6_worst_48, eX6_worst_49, eX6_worst_50, eX6_worst_53, eX6_worst_56, eX6_worst_57, R.s0, R.s6, e1, R.fa hj12, R.fa hw, c, woN, nI_1, show lyC 1 = 0 from rfl, show rcv 1 = 0 from rfl]
      exact ih (j + 1) j (by omega) hj12
theorem wm_loop (R : Rel h) : ∀ (m j w : Nat), (h 18 0).toInt = (j : Int) + m → w < 12 → ev mX7_worst 4 [.ref 17, .int (nI w), .int (nI j)] [] h = some (some (.int (nI (woN (mr h 18) (h 18 6) m j w))), h) := by
  have l := R.len
  intro m
  induction m with
  | zero =>
    intro j w hj hw
    have e1 : h 18 0 ≤ nI j := by rw [t_le, t_nI (by omega)]; omega
    simp [eX7_worst_0, eX7_worst_1, eX7_worst_2, eX7_worst_3, eX7_worst_4, eX7_worst_5, eX7_worst_6, eX7_worst_9, eX7_worst_10, eX7_worst_11, eX7_worst_14, eX7_worst_15, eX7_worst_18, eX7_worst_19, eX7_worst_22, eX7_worst_23, eX7_worst_26, eX7_worst_27, eX7_worst_30, eX7_worst_33, eX7_worst_34, eX7_worst_35, eX7_worst_38, eX7_worst_41, eX7_worst_42, e1, woN, show lyA 18 = some 32 from rfl]
  | succ m ih =>
    intro j w hj hw
    have hj12 : j < 12 := by omega
    have e1 : ¬ h 18 0 ≤ nI j := by rw [t_le, t_nI (by omega)]; omega
    rw [eX7_worst_4]
    by_cases c : thB (mr h 18) (h 18 6) j ≤ thB (mr h 18) (h 18 6) w
    · simp [eX7_worst_0, eX7_worst_1, eX7_worst_2, eX7_worst_3, eX7_worst_5, eX7_worst_6, eX7_worst_9, eX7_worst_10, eX7_worst_11, eX7_worst_14, eX7_worst_15, eX7_worst_18, eX7_worst_19, eX7_worst_22, eX7_worst_23, eX7_worst_26, eX7_worst_27, eX7_worst_30, eX7_worst_33, eX7_worst_34, eX7_worst_35, eX7_worst_38, eX7_worst_41, eX7_worst_42, e1, m_threadBy (r := 18) rfl hj12, m_threadBy (r := 18) rfl hw, c, woN, nI_1, show lyA 18 = some 32 from rfl]
      exact ih (j + 1) w (by omega) hw
    · simp [eX7_worst_0, eX7_worst_1, eX7_worst_2, eX7_worst_3, eX7_worst_5, eX7_worst_6, eX7_worst_9, eX7_worst_10, eX7_worst_11, eX7_worst_14, eX7_worst_15, eX7_worst_18, eX7_worst_19, eX7_worst_22, eX7_worst_23, eX7_worst_26, eX7_worst_27, eX7_worst_30, eX7_worst_33, eX7_worst_34, eX7_worst_35, eX7_worst_38, eX7_worst_41, eX7_worst_42, e1, m_threadBy (r := 18) rfl hj12, m_threadBy (r := 18) rfl hw, c, woN, nI_1, show lyA 18 = some 32 from rfl]
      exact ih (j + 1) j (by omega) hj12
theorem s_worst : Sim [.null, .null] [.null, .null] mX6_worst mX7_worst := by
  intro h R
  have l := R.len
  have f1 := wc_loop R ((h 18 0).toInt.toNat - 1) 1 0 (by omega) (by omega)
  have m1 := wm_loop R ((h 18 0).toInt.toNat - 1) 1 0 (by omega) (by omega)
  rw [show nI 1 = 1 from rfl, nI_0] at f1 m1
  exact qs_both R (v := nI (woN (mr h 18) (h 18 6) ((h 18 0).toInt.toNat - 1) 1 0)) (by simp [eX6_worst_0, eX6_worst_1, eX6_worst_2, eX6_worst_3, eX6_worst_5, eX6_worst_6, eX6_worst_9, eX6_worst_12, eX6_worst_15, eX6_worst_16, eX6_worst_19, eX6_worst_20, eX6_worst_21, eX6_worst_24, eX6_worst_27, eX6_worst_30, eX6_worst_31, eX6_worst_34, eX6_worst_35, eX6_worst_36, eX6_worst_39, eX6_worst_42, eX6_worst_45, eX6_worst_48, eX6_worst_49, eX6_worst_50, eX6_worst_53, eX6_worst_56, eX6_worst_57, f1]) (by simp [eX7_worst_0, eX7_worst_1, eX7_worst_2, eX7_worst_3, eX7_worst_5, eX7_worst_6, eX7_worst_9, eX7_worst_10, eX7_worst_11, eX7_worst_14, eX7_worst_15, eX7_worst_18, eX7_worst_19, eX7_worst_22, eX7_worst_23, eX7_worst_26, eX7_worst_27, eX7_worst_30, eX7_worst_33, eX7_worst_34, eX7_worst_35, eX7_worst_38, eX7_worst_41, eX7_worst_42, m1])
end CALLS6

/-- which slots the model may scribble on -/
def Scm (a x : Nat) : Prop := a = 19 ∨ a = 21 ∨ a = 25 ∨ a = 26 ∨ (a = 17 ∧ (x = 11 ∨ x = 12 ∨ x = 14 ∨ x = 15))
/-- which cells the class may scribble on -/
def Scc (a : Nat) : Prop := a = 4 ∨ a = 5 ∨ a = 6 ∨ a = 10 ∨ a = 11
section MENDM
variable {h : Sto} {e d x A v : Int32}
theorem mr_same {h h' : Sto} {r : Nat} (hx : ∀ j, j < 32 → h' r j = h r j) : mr h' r = mr h r := by
  funext j
  unfold mr
  by_cases hj : j < 32
  · rw [if_pos hj, if_pos hj, hx j hj]
  · rw [if_neg hj, if_neg hj]
theorem lost_not {z : Int32} : (0 < z) ↔ ¬ z < 1 := by
  rw [t_lt, t_lt]
  show (0 : Int) < z.toInt ↔ ¬ z.toInt < 1
  omega
theorem m_mend (he : e = 0 ∨ e = 1) (ok : Ok (mr h 19)) (hA : anSec (mr h 19) (mr h 19 6) = A) {N k f : Int32} {a6 : Value} : ∃ (h' : Sto) (a6' : Value), ev mX7_mended 26 [.ref 17, .int N, .int v, .int k, .int f, .int e, a6] [] h = ev mX7_mended 26 [.ref 17, .int N, .int (v + mdS (mr h 19) e A), .int k, .int f, .int (e + 1), a6'] [] h' ∧ mr h' 19 = mdR (mr h 19) e A ∧ h' 17 14 = h 17 14 + mdT (mr h 19) e ∧ ∀ a x, ¬ Scm a x → h' a x = h a x := by
  have hr : lyA 19 = some 32 := rfl
  have e2 : ¬ (2 : Int32) ≤ e := by rcases he with rfl | rfl <;> decide
  have dIN : (if e = 0 then h 19 1 else h 19 2) = INr (mr h 19) e := rfl
  have o := id ok
  obtain ⟨o0, o1, o2, -⟩ := o
  have hdl : (INr (mr h 19) e).toInt ≤ 24 := by
    unfold INr
    split
    · exact o1.2
    · exact o2.2
  have lo : ev mX7_isLost 0 [.ref 19, .int e] [] h = some (some (.int (if 0 < INr (mr h 19) e then 1 else 0)), h) := by rw [m_isLost hr he, dIN]
  by_cases h1 : INr (mr h 19) e < 1
  · have p0 : ¬ 0 < INr (mr h 19) e := fun z => lost_not.mp z h1
    rw [if_neg p0] at lo
    refine ⟨h, a6, ?_, ?_, ?_, fun a x _ => rfl⟩
    · rw [eX7_mended_26]
      simp [eX7_mended_0, eX7_mended_1, eX7_mended_2, eX7_mended_3, eX7_mended_4, eX7_mended_7, eX7_mended_8, eX7_mended_10, eX7_mended_11, eX7_mended_14, eX7_mended_15, eX7_mended_18, eX7_mended_21, eX7_mended_23, eX7_mended_24, eX7_mended_28, eX7_mended_29, eX7_mended_32, eX7_mended_33, eX7_mended_36, eX7_mended_38, eX7_mended_41, eX7_mended_44, eX7_mended_47, eX7_mended_48, eX7_mended_49, eX7_mended_52, eX7_mended_54, eX7_mended_57, eX7_mended_59, eX7_mended_60, eX7_mended_61, eX7_mended_64, eX7_mended_65, eX7_mended_66, eX7_mended_69, eX7_mended_71, eX7_mended_74, eX7_mended_75, eX7_mended_78, eX7_mended_81, eX7_mended_83, eX7_mended_86, eX7_mended_87, eX7_mended_88, eX7_mended_91, eX7_mended_94, eX7_mended_95, eX7_mended_96, eX7_mended_97, eX7_mended_100, eX7_mended_103, eX7_mended_106, eX7_mended_107, eX7_mended_109, eX7_mended_110, eX7_mended_111, eX7_mended_112, eX7_mended_115, eX7_mended_116, eX7_mended_118, eX7_mended_119, eX7_mended_120, eX7_mended_121, eX7_mended_124, eX7_mended_127, eX7_mended_130, eX7_mended_133, eX7_mended_134, e2, lo, mdS, h1]
    · unfold mdR; rw [if_pos h1]
    · unfold mdT; rw [if_pos h1, Int32.add_zero]
  · have p0 : 0 < INr (mr h 19) e := lost_not.mpr h1
    rw [if_pos p0] at lo
    obtain ⟨h1', a1, a2, a3⟩ := m_outS (r := 19) hr ok he
    have a1 : ev mX7_outSeconds 0 [.ref 17, .ref 19, .int e, .null, .null, .null] [] h = some (some (.int (sec (mr h 19) e (INr (mr h 19) e))), h1') := a1
    have ng := sec_neg (e := e) ok hdl
    have f14 : h1' 17 14 = h 17 14 := a3 17 14 (by omega) (by omega)
    have m1 : mr (st h1' 17 14 (h 17 14 + 1)) 19 = mr h 19 := mr_same (fun j _ => by rw [st_at, if_neg (by omega), a3 19 j (by omega) (by omega)])
    have an := m_anewSeconds (h := st h1' 17 14 (h 17 14 + 1)) hr (by rw [m1]; exact ok)
    rw [m1, hA] at an
    have oth : ∀ a x, ¬ Scm a x → st h1' 17 14 (h 17 14 + 1) a x = h a x := by
      intro a x z
      unfold Scm at z
      rw [st_at, if_neg (by omega), a3 a x (by omega) (by omega)]
    by_cases h2 : sec (mr h 19) e (INr (mr h 19) e) = -9 ∨ A < sec (mr h 19) e (INr (mr h 19) e)
    · refine ⟨dpm (st h1' 17 14 (h 17 14 + 1)) 19 (-8) (-8), .int (sec (mr h 19) e (INr (mr h 19) e)), ?_, ?_, ?_, ?_⟩
      · rw [eX7_mended_26]
        by_cases h3 : sec (mr h 19) e (INr (mr h 19) e) = -9
        · have h3' := ng.mpr h3
          simp [eX7_mended_0, eX7_mended_1, eX7_mended_2, eX7_mended_3, eX7_mended_4, eX7_mended_7, eX7_mended_8, eX7_mended_10, eX7_mended_11, eX7_mended_14, eX7_mended_15, eX7_mended_18, eX7_mended_21, eX7_mended_23, eX7_mended_24, eX7_mended_28, eX7_mended_29, eX7_mended_32, eX7_mended_33, eX7_mended_36, eX7_mended_38, eX7_mended_41, eX7_mended_44, eX7_mended_47, eX7_mended_48, eX7_mended_49, eX7_mended_52, eX7_mended_54, eX7_mended_57, eX7_mended_59, eX7_mended_60, eX7_mended_61, eX7_mended_64, eX7_mended_65, eX7_mended_66, eX7_mended_69, eX7_mended_71, eX7_mended_74, eX7_mended_75, eX7_mended_78, eX7_mended_81, eX7_mended_83, eX7_mended_86, eX7_mended_87, eX7_mended_88, eX7_mended_91, eX7_mended_94, eX7_mended_95, eX7_mended_96, eX7_mended_97, eX7_mended_100, eX7_mended_103, eX7_mended_106, eX7_mended_107, eX7_mended_109, eX7_mended_110, eX7_mended_111, eX7_mended_112, eX7_mended_115, eX7_mended_116, eX7_mended_118, eX7_mended_119, eX7_mended_120, eX7_mended_121, eX7_mended_124, eX7_mended_127, eX7_mended_130, eX7_mended_133, eX7_mended_134, e2, lo, a1, f14, h3, an, m_threads hr, mdS, h1]
          rfl
        · have h3' : ¬ sec (mr h 19) e (INr (mr h 19) e) < 0 := fun z => h3 (ng.mp z)
          have h4 : A < sec (mr h 19) e (INr (mr h 19) e) := h2.resolve_left h3
          have h4' : ¬ sec (mr h 19) e (INr (mr h 19) e) ≤ A := Int32.not_le.mpr h4
          simp [eX7_mended_0, eX7_mended_1, eX7_mended_2, eX7_mended_3, eX7_mended_4, eX7_mended_7, eX7_mended_8, eX7_mended_10, eX7_mended_11, eX7_mended_14, eX7_mended_15, eX7_mended_18, eX7_mended_21, eX7_mended_23, eX7_mended_24, eX7_mended_28, eX7_mended_29, eX7_mended_32, eX7_mended_33, eX7_mended_36, eX7_mended_38, eX7_mended_41, eX7_mended_44, eX7_mended_47, eX7_mended_48, eX7_mended_49, eX7_mended_52, eX7_mended_54, eX7_mended_57, eX7_mended_59, eX7_mended_60, eX7_mended_61, eX7_mended_64, eX7_mended_65, eX7_mended_66, eX7_mended_69, eX7_mended_71, eX7_mended_74, eX7_mended_75, eX7_mended_78, eX7_mended_81, eX7_mended_83, eX7_mended_86, eX7_mended_87, eX7_mended_88, eX7_mended_91, eX7_mended_94, eX7_mended_95, eX7_mended_96, eX7_mended_97, eX7_mended_100, eX7_mended_103, eX7_mended_106, eX7_mended_107, eX7_mended_109, eX7_mended_110, eX7_mended_111, eX7_mended_112, eX7_mended_115, eX7_mended_116, eX7_mended_118, eX7_mended_119, eX7_mended_120, eX7_mended_121, eX7_mended_124, eX7_mended_127, eX7_mended_130, eX7_mended_133, eX7_mended_134, e2, lo, a1, f14, h3, h3', h4, h4', an, m_threads hr, mdS, h1]
          rfl
      · rw [mr_dpm, m1]
        unfold mdR
        rw [if_neg h1, if_pos h2]
      · unfold mdT dpm
        rw [if_neg h1, st_at, if_neg (by omega), st_at, if_neg (by omega), st_at, if_pos ⟨rfl, rfl⟩]
      · intro a x z
        have z' : a ≠ 19 := fun y => z (Or.inl y)
        unfold dpm
        rw [st_at, if_neg (by omega), st_at, if_neg (by omega)]
        exact oth a x z
    · have h3 : ¬ sec (mr h 19) e (INr (mr h 19) e) = -9 := fun z => h2 (Or.inl z)
      have h3' : ¬ sec (mr h 19) e (INr (mr h 19) e) < 0 := fun z => h3 (ng.mp z)
      have h4 : ¬ A < sec (mr h 19) e (INr (mr h 19) e) := fun z => h2 (Or.inr z)
      have h4' : sec (mr h 19) e (INr (mr h 19) e) ≤ A := Int32.not_lt.mp h4
      refine ⟨st (st h1' 17 14 (h 17 14 + 1)) 19 (if e = 0 then 1 else 2) 0, .int (sec (mr h 19) e (INr (mr h 19) e)), ?_, ?_, ?_, ?_⟩
      · rw [eX7_mended_26]
        rcases he with rfl | rfl
        · simp [eX7_mended_0, eX7_mended_1, eX7_mended_2, eX7_mended_3, eX7_mended_4, eX7_mended_7, eX7_mended_8, eX7_mended_10, eX7_mended_11, eX7_mended_14, eX7_mended_15, eX7_mended_18, eX7_mended_21, eX7_mended_23, eX7_mended_24, eX7_mended_28, eX7_mended_29, eX7_mended_32, eX7_mended_33, eX7_mended_36, eX7_mended_38, eX7_mended_41, eX7_mended_44, eX7_mended_47, eX7_mended_48, eX7_mended_49, eX7_mended_52, eX7_mended_54, eX7_mended_57, eX7_mended_59, eX7_mended_60, eX7_mended_61, eX7_mended_64, eX7_mended_65, eX7_mended_66, eX7_mended_69, eX7_mended_71, eX7_mended_74, eX7_mended_75, eX7_mended_78, eX7_mended_81, eX7_mended_83, eX7_mended_86, eX7_mended_87, eX7_mended_88, eX7_mended_91, eX7_mended_94, eX7_mended_95, eX7_mended_96, eX7_mended_97, eX7_mended_100, eX7_mended_103, eX7_mended_106, eX7_mended_107, eX7_mended_109, eX7_mended_110, eX7_mended_111, eX7_mended_112, eX7_mended_115, eX7_mended_116, eX7_mended_118, eX7_mended_119, eX7_mended_120, eX7_mended_121, eX7_mended_124, eX7_mended_127, eX7_mended_130, eX7_mended_133, eX7_mended_134, e2, lo, a1, f14, h3, h3', h4, h4', an, mdS, h1, show lyA 19 = some 32 from rfl]
        · simp [eX7_mended_0, eX7_mended_1, eX7_mended_2, eX7_mended_3, eX7_mended_4, eX7_mended_7, eX7_mended_8, eX7_mended_10, eX7_mended_11, eX7_mended_14, eX7_mended_15, eX7_mended_18, eX7_mended_21, eX7_mended_23, eX7_mended_24, eX7_mended_28, eX7_mended_29, eX7_mended_32, eX7_mended_33, eX7_mended_36, eX7_mended_38, eX7_mended_41, eX7_mended_44, eX7_mended_47, eX7_mended_48, eX7_mended_49, eX7_mended_52, eX7_mended_54, eX7_mended_57, eX7_mended_59, eX7_mended_60, eX7_mended_61, eX7_mended_64, eX7_mended_65, eX7_mended_66, eX7_mended_69, eX7_mended_71, eX7_mended_74, eX7_mended_75, eX7_mended_78, eX7_mended_81, eX7_mended_83, eX7_mended_86, eX7_mended_87, eX7_mended_88, eX7_mended_91, eX7_mended_94, eX7_mended_95, eX7_mended_96, eX7_mended_97, eX7_mended_100, eX7_mended_103, eX7_mended_106, eX7_mended_107, eX7_mended_109, eX7_mended_110, eX7_mended_111, eX7_mended_112, eX7_mended_115, eX7_mended_116, eX7_mended_118, eX7_mended_119, eX7_mended_120, eX7_mended_121, eX7_mended_124, eX7_mended_127, eX7_mended_130, eX7_mended_133, eX7_mended_134, e2, lo, a1, f14, h3, h3', h4, h4', an, mdS, h1, show lyA 19 = some 32 from rfl]
      · unfold mdR
        rw [if_neg h1, if_neg h2]
        rcases he with rfl | rfl
        · rw [if_pos rfl, if_pos rfl, ← m1, ← mr_dpm]
          congr 1
          unfold dpm
          rw [show mr (st h1' 17 14 (h 17 14 + 1)) 19 2 = st (st h1' 17 14 (h 17 14 + 1)) 19 1 0 19 2 by rw [st_at, if_neg (by omega), mr_lo (by omega)], st_id]
        · rw [if_neg (by decide), if_neg (by decide), ← m1, ← mr_dpm]
          congr 1
          unfold dpm
          rw [mr_lo (show 1 < 32 by omega), st_id]
      · unfold mdT
        rw [if_neg h1, st_at, if_neg (by omega), st_at, if_pos ⟨rfl, rfl⟩]
      · intro a x z
        have z' : a ≠ 19 := fun y => z (Or.inl y)
        rw [st_at, if_neg (by omega)]
        exact oth a x z
theorem md_loop {N : Nat} (hN : N < 2147483648) : ∀ (m j : Nat) (h : Sto) (v : Int32) (a4 a5 a6 : Value), j + m = N → Ok (mr h 19) → anSec (mr h 19) (mr h 19 6) = A → ∃ h' : Sto, ev mX7_mended 9 [.ref 17, .int (nI N), .int v, .int (nI j), a4, a5, a6] [] h = some (some (.int (mdN A m (mr h 19) (h 17 14) v).2.2), h') ∧ h' 17 14 = (mdN A m (mr h 19) (h 17 14) v).2.1 ∧ ∀ a x, ¬ Scm a x → h' a x = h a x := by
  have hr : lyA 19 = some 32 := rfl
  intro m
  induction m with
  | zero =>
    intro j h v a4 a5 a6 hj ok hA
    have e1 : nI N ≤ nI j := by rw [show j = N by omega]; exact Int32.le_refl _
    exact ⟨h, by simp [eX7_mended_0, eX7_mended_1, eX7_mended_2, eX7_mended_3, eX7_mended_4, eX7_mended_7, eX7_mended_8, eX7_mended_9, eX7_mended_10, eX7_mended_11, eX7_mended_14, eX7_mended_15, eX7_mended_18, eX7_mended_21, eX7_mended_23, eX7_mended_24, eX7_mended_26, eX7_mended_28, eX7_mended_29, eX7_mended_32, eX7_mended_33, eX7_mended_36, eX7_mended_38, eX7_mended_41, eX7_mended_44, eX7_mended_47, eX7_mended_48, eX7_mended_49, eX7_mended_52, eX7_mended_54, eX7_mended_57, eX7_mended_59, eX7_mended_60, eX7_mended_61, eX7_mended_64, eX7_mended_65, eX7_mended_66, eX7_mended_69, eX7_mended_71, eX7_mended_74, eX7_mended_75, eX7_mended_78, eX7_mended_81, eX7_mended_83, eX7_mended_86, eX7_mended_87, eX7_mended_88, eX7_mended_91, eX7_mended_94, eX7_mended_95, eX7_mended_96, eX7_mended_97, eX7_mended_100, eX7_mended_103, eX7_mended_106, eX7_mended_107, eX7_mended_109, eX7_mended_110, eX7_mended_111, eX7_mended_112, eX7_mended_115, eX7_mended_116, eX7_mended_118, eX7_mended_119, eX7_mended_120, eX7_mended_121, eX7_mended_124, eX7_mended_127, eX7_mended_130, eX7_mended_133, eX7_mended_134, e1, mdN], rfl, fun a x _ => rfl⟩
  | succ m ih =>
    intro j h v a4 a5 a6 hj ok hA
    have e1 : ¬ nI N ≤ nI j := nI_ge (by omega) (by omega)
    have w1 := m_washes hr ok
    have hw : mr (dpm h 19 (wst (mr h 19) 1) (wst (mr h 19) 2)) 19 = wst (mr h 19) := by rw [mr_dpm, ← wst_form]
    have ok1 : Ok (mr (dpm h 19 (wst (mr h 19) 1) (wst (mr h 19) 2)) 19) := by rw [hw]; exact wst_ok ok
    have anw : ∀ r' : Nat → Int32, r' = setD (mr h 19) (r' 1) (r' 2) → anSec r' (r' 6) = A := by
      intro r' hf
      rw [hf, anSec_setD]
      exact hA
    have d14 : dpm h 19 (wst (mr h 19) 1) (wst (mr h 19) 2) 17 14 = h 17 14 := by
      unfold dpm
      rw [st_at, if_neg (by omega), st_at, if_neg (by omega)]
    obtain ⟨h1, x1, b1, b2, b3, b4⟩ := m_mend (h := dpm h 19 (wst (mr h 19) 1) (wst (mr h 19) 2)) (e := 0) (A := A) (v := v) (N := nI N) (k := nI j) (f := wfar (mr h 19)) (a6 := a6) (Or.inl rfl) ok1 (by rw [hw]; exact anw _ (wst_form _))
    rw [hw] at b1 b2 b3
    rw [d14] at b3
    have ok2 : Ok (mr h1 19) := by rw [b2]; exact mdR_ok (wst_ok ok)
    have f2 : mdR (wst (mr h 19)) 0 A = setD (mr h 19) (mdR (wst (mr h 19)) 0 A 1) (mdR (wst (mr h 19)) 0 A 2) := by
      have q := mdR_form (wst (mr h 19)) 0 A
      rw [wst_form (mr h 19), setD_setD] at q
      rw [← wst_form (mr h 19)] at q
      exact q
    obtain ⟨h2, x2, c1, c2, c3, c4⟩ := m_mend (h := h1) (e := 1) (A := A) (v := v + mdS (wst (mr h 19)) 0 A) (N := nI N) (k := nI j) (f := wfar (mr h 19)) (a6 := x1) (Or.inr rfl) ok2 (by rw [b2]; exact anw _ f2)
    rw [b2] at c1 c2 c3
    rw [b3] at c3
    have f3 : mdR (mdR (wst (mr h 19)) 0 A) 1 A = setD (mr h 19) (mdR (mdR (wst (mr h 19)) 0 A) 1 A 1) (mdR (mdR (wst (mr h 19)) 0 A) 1 A 2) := by
      have q := mdR_form (mdR (wst (mr h 19)) 0 A) 1 A
      rw [f2, setD_setD] at q
      rw [← f2] at q
      exact q
    obtain ⟨h', g1, g2, g3⟩ := ih (j + 1) h2 (v + mdS (wst (mr h 19)) 0 A + mdS (mdR (wst (mr h 19)) 0 A) 1 A) (.int (wfar (mr h 19))) (.int 2) x2 (by omega) (by rw [c2]; exact mdR_ok (mdR_ok (wst_ok ok))) (by rw [c2]; exact anw _ f3)
    rw [c2, c3] at g1 g2
    refine ⟨h', ?_, g2, ?_⟩
    · have gg : some (some (Value.int (mdN A (m + 1) (mr h 19) (h 17 14) v).2.2), h') = _ := g1.symm
      rw [gg, eX7_mended_9]
      have t01 : (0 : Int32) + 1 = 1 := by decide
      have t12 : (1 : Int32) + 1 = 2 := by decide
      rw [t01] at b1
      rw [t12] at c1
      simp [eX7_mended_0, eX7_mended_1, eX7_mended_2, eX7_mended_3, eX7_mended_4, eX7_mended_7, eX7_mended_8, eX7_mended_10, eX7_mended_11, eX7_mended_14, eX7_mended_15, eX7_mended_18, eX7_mended_21, eX7_mended_23, eX7_mended_24, eX7_mended_28, eX7_mended_29, eX7_mended_32, eX7_mended_33, eX7_mended_36, eX7_mended_38, eX7_mended_41, eX7_mended_44, eX7_mended_47, eX7_mended_48, eX7_mended_49, eX7_mended_52, eX7_mended_54, eX7_mended_57, eX7_mended_59, eX7_mended_60, eX7_mended_61, eX7_mended_64, eX7_mended_65, eX7_mended_66, eX7_mended_69, eX7_mended_71, eX7_mended_74, eX7_mended_75, eX7_mended_78, eX7_mended_81, eX7_mended_83, eX7_mended_86, eX7_mended_87, eX7_mended_88, eX7_mended_91, eX7_mended_94, eX7_mended_95, eX7_mended_96, eX7_mended_97, eX7_mended_100, eX7_mended_103, eX7_mended_106, eX7_mended_107, eX7_mended_109, eX7_mended_110, eX7_mended_111, eX7_mended_112, eX7_mended_115, eX7_mended_116, eX7_mended_118, eX7_mended_119, eX7_mended_120, eX7_mended_121, eX7_mended_124, eX7_mended_127, eX7_mended_130, eX7_mended_133, eX7_mended_134, e1, w1, b1, c1]
      rw [eX7_mended_26]
      simp [eX7_mended_0, eX7_mended_1, eX7_mended_2, eX7_mended_3, eX7_mended_4, eX7_mended_7, eX7_mended_8, eX7_mended_10, eX7_mended_11, eX7_mended_14, eX7_mended_15, eX7_mended_18, eX7_mended_21, eX7_mended_23, eX7_mended_24, eX7_mended_28, eX7_mended_29, eX7_mended_32, eX7_mended_33, eX7_mended_36, eX7_mended_38, eX7_mended_41, eX7_mended_44, eX7_mended_47, eX7_mended_48, eX7_mended_49, eX7_mended_52, eX7_mended_54, eX7_mended_57, eX7_mended_59, eX7_mended_60, eX7_mended_61, eX7_mended_64, eX7_mended_65, eX7_mended_66, eX7_mended_69, eX7_mended_71, eX7_mended_74, eX7_mended_75, eX7_mended_78, eX7_mended_81, eX7_mended_83, eX7_mended_86, eX7_mended_87, eX7_mended_88, eX7_mended_91, eX7_mended_94, eX7_mended_95, eX7_mended_96, eX7_mended_97, eX7_mended_100, eX7_mended_103, eX7_mended_106, eX7_mended_107, eX7_mended_109, eX7_mended_110, eX7_mended_111, eX7_mended_112, eX7_mended_115, eX7_mended_116, eX7_mended_118, eX7_mended_119, eX7_mended_120, eX7_mended_121, eX7_mended_124, eX7_mended_127, eX7_mended_130, eX7_mended_133, eX7_mended_134, nI_1]
    · intro a x z
      have z' : a ≠ 19 := fun y => z (Or.inl y)
      rw [g3 a x z, c4 a x z, b4 a x z]
      unfold dpm
      rw [st_at, if_neg (by omega), st_at, if_neg (by omega)]
theorem m_mended {N : Nat} (hN : N < 2147483648) (ok : Ok (mr h 19)) : ∃ h' : Sto, ev mX7_mended 0 [.ref 17, .int (nI N), .null, .null, .null, .null, .null] [] h = some (some (.int (mdN (anSec (mr h 19) (mr h 19 6)) N (mr h 19) 0 0).2.2), h') ∧ h' 17 14 = (mdN (anSec (mr h 19) (mr h 19 6)) N (mr h 19) 0 0).2.1 ∧ ∀ a x, ¬ Scm a x → h' a x = h a x := by
  have m1 : mr (st h 17 14 0) 19 = mr h 19 := mr_same (fun j _ => by rw [st_at, if_neg (by omega)])
  obtain ⟨h', g1, g2, g3⟩ := md_loop (A := anSec (mr h 19) (mr h 19 6)) hN N 0 (st h 17 14 0) 0 .null .null .null (by omega) (by rw [m1]; exact ok) (by rw [m1])
  have t0 : st h 17 14 0 17 14 = 0 := by simp [st_at]
  rw [m1, t0] at g1 g2
  refine ⟨h', ?_, g2, fun a x z => by
    rw [g3 a x z, st_at, if_neg]
    rintro ⟨y1, y2⟩
    exact z (Or.inr (Or.inr (Or.inr (Or.inr ⟨y1, by omega⟩))))⟩
  rw [← g1]
  simp [eX7_mended_0, eX7_mended_1, eX7_mended_2, eX7_mended_3, eX7_mended_4, eX7_mended_7, eX7_mended_8, eX7_mended_10, eX7_mended_11, eX7_mended_14, eX7_mended_15, eX7_mended_18, eX7_mended_21, eX7_mended_23, eX7_mended_24, eX7_mended_28, eX7_mended_29, eX7_mended_32, eX7_mended_33, eX7_mended_36, eX7_mended_38, eX7_mended_41, eX7_mended_44, eX7_mended_47, eX7_mended_48, eX7_mended_49, eX7_mended_52, eX7_mended_54, eX7_mended_57, eX7_mended_59, eX7_mended_60, eX7_mended_61, eX7_mended_64, eX7_mended_65, eX7_mended_66, eX7_mended_69, eX7_mended_71, eX7_mended_74, eX7_mended_75, eX7_mended_78, eX7_mended_81, eX7_mended_83, eX7_mended_86, eX7_mended_87, eX7_mended_88, eX7_mended_91, eX7_mended_94, eX7_mended_95, eX7_mended_96, eX7_mended_97, eX7_mended_100, eX7_mended_103, eX7_mended_106, eX7_mended_107, eX7_mended_109, eX7_mended_110, eX7_mended_111, eX7_mended_112, eX7_mended_115, eX7_mended_116, eX7_mended_118, eX7_mended_119, eX7_mended_120, eX7_mended_121, eX7_mended_124, eX7_mended_127, eX7_mended_130, eX7_mended_133, eX7_mended_134]
  rfl
end MENDM

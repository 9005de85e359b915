section CALLS9
variable {h h' : Sto} {e n : Int32}
theorem nI_n9 {k : Nat} (hk : k < 1000) : ¬ nI k = -9 := by
  rw [t_eq, t_nI (by omega)]
  show ¬ (k : Int) = -9
  omega
theorem f_cp (R : Rel h) : ∃ h1 : Sto, ev mX0_copyFrom 0 [.ref 4, .ref 1, .null] [] h = some (none, h1) ∧ hm h1 4 = mr h 18 ∧ ∀ a, a ≠ 4 → a ≠ 5 → a ≠ 6 → h1 a = h a := by
  obtain ⟨h1, a1, a2, a3⟩ := f_copyFrom (h := h) HC4 HC1 (by unfold Apt; omega) R.ok1
  exact ⟨h1, a1, by rw [a2]; exact R.1, a3⟩
theorem s_inIn {e n : Int32} : Sim [.int e, .int n, .null] [.int e, .int n, .null] mX6_inIn mX7_inIn := by
  intro h R
  by_cases he : e = 0 ∨ e = 1
  · by_cases h1 : n < 0
    · exact rf_both R (k := 4) (w := 1000000004) (by omega) (by simp [le_nl, -Int32.not_lt, eX6_inIn_0, eX6_inIn_1, eX6_inIn_4, eX6_inIn_7, eX6_inIn_8, eX6_inIn_9, eX6_inIn_12, eX6_inIn_13, eX6_inIn_14, eX6_inIn_15, eX6_inIn_18, eX6_inIn_21, eX6_inIn_22, eX6_inIn_23, eX6_inIn_26, eX6_inIn_27, eX6_inIn_28, eX6_inIn_31, eX6_inIn_32, eX6_inIn_33, eX6_inIn_36, eX6_inIn_37, eX6_inIn_40, eX6_inIn_43, eX6_inIn_44, eX6_inIn_47, eX6_inIn_48, eX6_inIn_51, eX6_inIn_52, eX6_inIn_55, eX6_inIn_56, eX6_inIn_59, f_isEnd, he, f_outside, h1, f_refuseT]) (by simp [le_nl, -Int32.not_lt, eX7_inIn_0, eX7_inIn_1, eX7_inIn_4, eX7_inIn_7, eX7_inIn_8, eX7_inIn_11, eX7_inIn_12, eX7_inIn_15, eX7_inIn_16, eX7_inIn_17, eX7_inIn_20, eX7_inIn_21, eX7_inIn_22, eX7_inIn_25, eX7_inIn_26, eX7_inIn_27, eX7_inIn_30, eX7_inIn_31, eX7_inIn_34, eX7_inIn_37, eX7_inIn_38, eX7_inIn_41, eX7_inIn_42, eX7_inIn_45, eX7_inIn_46, eX7_inIn_49, eX7_inIn_50, eX7_inIn_51, eX7_inIn_52, eX7_inIn_53, m_isEnd2, he, m_wrongW, h1, m_noFar])
    · by_cases h2 : 200 < n
      · exact rf_both R (k := 6) (w := 1000000006) (by omega) (by simp [le_nl, -Int32.not_lt, eX6_inIn_0, eX6_inIn_1, eX6_inIn_4, eX6_inIn_7, eX6_inIn_8, eX6_inIn_9, eX6_inIn_12, eX6_inIn_13, eX6_inIn_14, eX6_inIn_15, eX6_inIn_18, eX6_inIn_21, eX6_inIn_22, eX6_inIn_23, eX6_inIn_26, eX6_inIn_27, eX6_inIn_28, eX6_inIn_31, eX6_inIn_32, eX6_inIn_33, eX6_inIn_36, eX6_inIn_37, eX6_inIn_40, eX6_inIn_43, eX6_inIn_44, eX6_inIn_47, eX6_inIn_48, eX6_inIn_51, eX6_inIn_52, eX6_inIn_55, eX6_inIn_56, eX6_inIn_59, f_isEnd, he, f_outside, h1, h2, f_refuseT]) (by simp [le_nl, -Int32.not_lt, eX7_inIn_0, eX7_inIn_1, eX7_inIn_4, eX7_inIn_7, eX7_inIn_8, eX7_inIn_11, eX7_inIn_12, eX7_inIn_15, eX7_inIn_16, eX7_inIn_17, eX7_inIn_20, eX7_inIn_21, eX7_inIn_22, eX7_inIn_25, eX7_inIn_26, eX7_inIn_27, eX7_inIn_30, eX7_inIn_31, eX7_inIn_34, eX7_inIn_37, eX7_inIn_38, eX7_inIn_41, eX7_inIn_42, eX7_inIn_45, eX7_inIn_46, eX7_inIn_49, eX7_inIn_50, eX7_inIn_51, eX7_inIn_52, eX7_inIn_53, m_isEnd2, he, m_wrongW, h1, h2, m_noFar])
      · obtain ⟨k, hk1, hk2, rfl⟩ := n_of (A := 0) (B := 200) (lit_le rfl rfl h1 h2).1 (lit_le rfl rfl h1 h2).2
        obtain ⟨g1, a1, a2, a3⟩ := f_cp R
        have f1 := f_washTimes (h := g1) (N := k) HC4 (by omega) (by rw [a2]; exact R.2.1)
        rw [a2] at f1
        generalize ha : wsN (mr h 18) k 1 = a at *
        generalize hb : wsN (mr h 18) k 2 = b at *
        have fr1 : ∀ c, c ≠ 4 → c ≠ 5 → c ≠ 6 → dep g1 4 a b c = h c := fun c z1 z2 z3 => by rw [dep_cell z1, a3 c z1 z2 z3]
        obtain ⟨g2, b1, b2, b3⟩ := m_lays (r := 18) (t := 19) (h := dep g1 4 a b) rfl rfl (by omega)
        rw [mr_cell (fr1 18 (by omega) (by omega) (by omega))] at b2
        have mp := m_washesOn (r := 19) (h := g2) (N := k) rfl (by omega) (by rw [b2]; exact R.2.1)
        rw [b2, ha, hb] at mp
        have RR : Rel (dpm g2 19 a b) := R.fr (fun c x z => by
          unfold Scr Scc Scm at z
          rw [dpm_cell (by omega), b3 c (by omega), fr1 c (by omega) (by omega) (by omega)])
        have d1 : dpm g2 19 a b 19 1 = a := by simp [dpm, st_at]
        have d2 : dpm g2 19 a b 19 2 = b := by simp [dpm, st_at]
        rcases he with rfl | rfl
        · exact ⟨a, dep g1 4 a b, dpm g2 19 a b, by simp [le_nl, -Int32.not_lt, eX6_inIn_0, eX6_inIn_1, eX6_inIn_4, eX6_inIn_7, eX6_inIn_8, eX6_inIn_9, eX6_inIn_12, eX6_inIn_13, eX6_inIn_14, eX6_inIn_15, eX6_inIn_18, eX6_inIn_21, eX6_inIn_22, eX6_inIn_23, eX6_inIn_26, eX6_inIn_27, eX6_inIn_28, eX6_inIn_31, eX6_inIn_32, eX6_inIn_33, eX6_inIn_36, eX6_inIn_37, eX6_inIn_40, eX6_inIn_43, eX6_inIn_44, eX6_inIn_47, eX6_inIn_48, eX6_inIn_51, eX6_inIn_52, eX6_inIn_55, eX6_inIn_56, eX6_inIn_59, f_isEnd, f_outside, h1, h2, a1, f1, f_depth HC4, dep3, show lyC 1 = 0 from rfl, show rcv 1 = 0 from rfl, show rcv 4 = 0 from rfl, show lyC 4 = 0 from rfl], by simp [le_nl, -Int32.not_lt, eX7_inIn_0, eX7_inIn_1, eX7_inIn_4, eX7_inIn_7, eX7_inIn_8, eX7_inIn_11, eX7_inIn_12, eX7_inIn_15, eX7_inIn_16, eX7_inIn_17, eX7_inIn_20, eX7_inIn_21, eX7_inIn_22, eX7_inIn_25, eX7_inIn_26, eX7_inIn_27, eX7_inIn_30, eX7_inIn_31, eX7_inIn_34, eX7_inIn_37, eX7_inIn_38, eX7_inIn_41, eX7_inIn_42, eX7_inIn_45, eX7_inIn_46, eX7_inIn_49, eX7_inIn_50, eX7_inIn_51, eX7_inIn_52, eX7_inIn_53, m_isEnd2, m_wrongW, h1, h2, b1, mp, d1, show lyA 19 = some 32 from rfl], RR⟩
        · exact ⟨b, dep g1 4 a b, dpm g2 19 a b, by simp [le_nl, -Int32.not_lt, eX6_inIn_0, eX6_inIn_1, eX6_inIn_4, eX6_inIn_7, eX6_inIn_8, eX6_inIn_9, eX6_inIn_12, eX6_inIn_13, eX6_inIn_14, eX6_inIn_15, eX6_inIn_18, eX6_inIn_21, eX6_inIn_22, eX6_inIn_23, eX6_inIn_26, eX6_inIn_27, eX6_inIn_28, eX6_inIn_31, eX6_inIn_32, eX6_inIn_33, eX6_inIn_36, eX6_inIn_37, eX6_inIn_40, eX6_inIn_43, eX6_inIn_44, eX6_inIn_47, eX6_inIn_48, eX6_inIn_51, eX6_inIn_52, eX6_inIn_55, eX6_inIn_56, eX6_inIn_59, f_isEnd, f_outside, h1, h2, a1, f1, f_depth HC4, dep4, show lyC 1 = 0 from rfl, show rcv 1 = 0 from rfl, show rcv 4 = 0 from rfl, show lyC 4 = 0 from rfl], by simp [le_nl, -Int32.not_lt, eX7_inIn_0, eX7_inIn_1, eX7_inIn_4, eX7_inIn_7, eX7_inIn_8, eX7_inIn_11, eX7_inIn_12, eX7_inIn_15, eX7_inIn_16, eX7_inIn_17, eX7_inIn_20, eX7_inIn_21, eX7_inIn_22, eX7_inIn_25, eX7_inIn_26, eX7_inIn_27, eX7_inIn_30, eX7_inIn_31, eX7_inIn_34, eX7_inIn_37, eX7_inIn_38, eX7_inIn_41, eX7_inIn_42, eX7_inIn_45, eX7_inIn_46, eX7_inIn_49, eX7_inIn_50, eX7_inIn_51, eX7_inIn_52, eX7_inIn_53, m_isEnd2, m_wrongW, h1, h2, b1, mp, d2, show lyA 19 = some 32 from rfl], RR⟩
  · exact rf_both R (k := 1) (w := 1000000001) (by omega) (by simp [le_nl, -Int32.not_lt, eX6_inIn_0, eX6_inIn_1, eX6_inIn_4, eX6_inIn_7, eX6_inIn_8, eX6_inIn_9, eX6_inIn_12, eX6_inIn_13, eX6_inIn_14, eX6_inIn_15, eX6_inIn_18, eX6_inIn_21, eX6_inIn_22, eX6_inIn_23, eX6_inIn_26, eX6_inIn_27, eX6_inIn_28, eX6_inIn_31, eX6_inIn_32, eX6_inIn_33, eX6_inIn_36, eX6_inIn_37, eX6_inIn_40, eX6_inIn_43, eX6_inIn_44, eX6_inIn_47, eX6_inIn_48, eX6_inIn_51, eX6_inIn_52, eX6_inIn_55, eX6_inIn_56, eX6_inIn_59, f_isEnd, he, f_refuseT]) (by simp [le_nl, -Int32.not_lt, eX7_inIn_0, eX7_inIn_1, eX7_inIn_4, eX7_inIn_7, eX7_inIn_8, eX7_inIn_11, eX7_inIn_12, eX7_inIn_15, eX7_inIn_16, eX7_inIn_17, eX7_inIn_20, eX7_inIn_21, eX7_inIn_22, eX7_inIn_25, eX7_inIn_26, eX7_inIn_27, eX7_inIn_30, eX7_inIn_31, eX7_inIn_34, eX7_inIn_37, eX7_inIn_38, eX7_inIn_41, eX7_inIn_42, eX7_inIn_45, eX7_inIn_46, eX7_inIn_49, eX7_inIn_50, eX7_inIn_51, eX7_inIn_52, eX7_inIn_53, m_isEnd2, he, m_noFar])
/-- LOST FIRST -/
def lsN (r : Nat → Int32) : Int32 := (if r 1 < 1 then 0 else 1) + (if r 2 < 1 then 0 else 1)
def loN : Nat → Nat → (Nat → Int32) → Int32 × (Nat → Int32)
  | 0, _, r => (-9, r)
  | m + 1, j, r => if lsN r = 0 then loN m (j + 1) (wst r) else (nI j, r)
theorem lsN_in (r : Nat → Int32) : lsN r ≤ 0 ↔ lsN r = 0 := by
  unfold lsN
  split <;> split <;> decide
theorem lsN_in' (r : Nat → Int32) : (lsN r = 0 ∨ 0 < lsN r) ∧ (lsN r = 0 → ¬ 0 < lsN r) := by
  unfold lsN
  split <;> split <;> decide
theorem f_ls {c : Nat} (hc : HC c) : ev mX0_lostEnds 0 [.ref c] [] h = some (some (.int (lsN (hm h c))), h) := f_lostEnds hc
theorem m_ls {r : Nat} (hr : lyA r = some 32) : ev mX7_lostMany 0 [.ref r] [] h = some (some (.int (lsN (mr h r))), h) := by
  rw [m_lostMany hr, lost_ite, lost_ite]
  unfold lsN
  rw [mr_lo (by omega), mr_lo (by omega)]
theorem lc_loop : ∀ (m j : Nat) (h : Sto), j + m = 201 → Ok (hm h 4) → ∃ h' : Sto, ev mX6_washesTillLost 13 [.ref 0, .int (nI j)] [] h = some (some (.int (loN m j (hm h 4)).1), h') ∧ hm h' 4 = (loN m j (hm h 4)).2 ∧ ∀ a, a ≠ 4 → h' a = h a := by
  intro m
  induction m with
  | zero =>
    intro j h hj ok
    have e1 : (200 : Int32) < nI j := by rw [show j = 201 by omega]; decide
    exact ⟨h, by simp [eX6_washesTillLost_0, eX6_washesTillLost_1, eX6_washesTillLost_4, eX6_washesTillLost_5, eX6_washesTillLost_8, eX6_washesTillLost_11, eX6_washesTillLost_12, eX6_washesTillLost_13, eX6_washesTillLost_14, eX6_washesTillLost_17, eX6_washesTillLost_20, eX6_washesTillLost_21, eX6_washesTillLost_24, eX6_washesTillLost_27, eX6_washesTillLost_30, eX6_washesTillLost_31, eX6_washesTillLost_32, eX6_washesTillLost_33, eX6_washesTillLost_36, eX6_washesTillLost_39, eX6_washesTillLost_40, eX6_washesTillLost_43, eX6_washesTillLost_46, eX6_washesTillLost_48, e1, loN], rfl, fun _ _ => rfl⟩
  | succ m ih =>
    intro j h hj ok
    have e1 : ¬ (200 : Int32) < nI j := by
      rw [t_lt, t_nI (by omega)]
      show ¬ (200 : Int) < _
      omega
    have f1 := f_ls (h := h) HC4
    have w1 := f_washOnce HC4 ok
    have hw : hm (dep h 4 (wst (hm h 4) 1) (wst (hm h 4) 2)) 4 = wst (hm h 4) := by rw [hm_dep, ← wst_form]
    rw [eX6_washesTillLost_13]
    by_cases c : lsN (hm h 4) = 0
    · obtain ⟨h', g1, g2, g3⟩ := ih (j + 1) (dep h 4 (wst (hm h 4) 1) (wst (hm h 4) 2)) (by omega) (by rw [hw]; exact wst_ok ok)
      rw [hw] at g1 g2
      refine ⟨h', ?_, ?_, fun a z => by rw [g3 a z, dep_cell z]⟩
      · rw [c] at f1
        simp [le_nl, -Int32.not_lt, eX6_washesTillLost_0, eX6_washesTillLost_1, eX6_washesTillLost_4, eX6_washesTillLost_5, eX6_washesTillLost_8, eX6_washesTillLost_11, eX6_washesTillLost_12, eX6_washesTillLost_14, eX6_washesTillLost_17, eX6_washesTillLost_20, eX6_washesTillLost_21, eX6_washesTillLost_24, eX6_washesTillLost_27, eX6_washesTillLost_30, eX6_washesTillLost_31, eX6_washesTillLost_32, eX6_washesTillLost_33, eX6_washesTillLost_36, eX6_washesTillLost_39, eX6_washesTillLost_40, eX6_washesTillLost_43, eX6_washesTillLost_46, eX6_washesTillLost_48, e1, f1, w1, c, loN, nI_1, show lyC 1 = 0 from rfl, show rcv 1 = 0 from rfl, show rcv 4 = 0 from rfl, show lyC 4 = 0 from rfl]
        exact g1
      · rw [g2, loN, if_pos c]
    · have c1 : ¬ lsN (hm h 4) ≤ 0 := fun z => c ((lsN_in _).mp z)
      have c2 : 0 < lsN (hm h 4) := (lsN_in' _).1.resolve_left c
      refine ⟨h, ?_, ?_, fun _ _ => rfl⟩
      · simp [le_nl, -Int32.not_lt, eX6_washesTillLost_0, eX6_washesTillLost_1, eX6_washesTillLost_4, eX6_washesTillLost_5, eX6_washesTillLost_8, eX6_washesTillLost_11, eX6_washesTillLost_12, eX6_washesTillLost_14, eX6_washesTillLost_17, eX6_washesTillLost_20, eX6_washesTillLost_21, eX6_washesTillLost_24, eX6_washesTillLost_27, eX6_washesTillLost_30, eX6_washesTillLost_31, eX6_washesTillLost_32, eX6_washesTillLost_33, eX6_washesTillLost_36, eX6_washesTillLost_39, eX6_washesTillLost_40, eX6_washesTillLost_43, eX6_washesTillLost_46, eX6_washesTillLost_48, e1, f1, c, c2, loN, show lyC 1 = 0 from rfl, show rcv 1 = 0 from rfl, show rcv 4 = 0 from rfl, show lyC 4 = 0 from rfl]
      · rw [loN, if_neg c]
def anL (q : Int32) (p : Int32 × (Nat → Int32)) : Int32 := if p.1 = -9 then -9 else if q = 0 then p.1 else if lsN p.2 = 2 then 2 else if p.2 1 < 1 then 1 else 0
theorem lm_loop {q : Int32} : ∀ (m j : Nat) (h : Sto) (a3 : Value), j + m = 201 → Ok (mr h 19) → ∃ h' : Sto, ev mX7_lost 29 [.ref 17, .int q, .int (nI j), a3] [] h = some (some (.int (anL q (loN m j (mr h 19)))), h') ∧ ∀ a, a ≠ 19 → h' a = h a := by
  intro m
  induction m with
  | zero =>
    intro j h a3 hj ok
    have e1 : (200 : Int32) < nI j := by rw [show j = 201 by omega]; decide
    exact ⟨h, by simp [eX7_lost_0, eX7_lost_1, eX7_lost_2, eX7_lost_3, eX7_lost_6, eX7_lost_9, eX7_lost_10, eX7_lost_12, eX7_lost_15, eX7_lost_16, eX7_lost_17, eX7_lost_20, eX7_lost_21, eX7_lost_24, eX7_lost_27, eX7_lost_28, eX7_lost_29, eX7_lost_30, eX7_lost_33, eX7_lost_36, eX7_lost_37, eX7_lost_40, eX7_lost_43, eX7_lost_46, eX7_lost_47, eX7_lost_50, eX7_lost_51, eX7_lost_54, eX7_lost_55, eX7_lost_58, eX7_lost_61, eX7_lost_62, eX7_lost_65, eX7_lost_66, eX7_lost_69, eX7_lost_70, eX7_lost_73, eX7_lost_74, eX7_lost_77, eX7_lost_80, eX7_lost_81, eX7_lost_84, eX7_lost_85, eX7_lost_86, eX7_lost_87, eX7_lost_90, eX7_lost_93, eX7_lost_94, eX7_lost_97, eX7_lost_100, eX7_lost_102, e1, loN, anL], fun _ _ => rfl⟩
  | succ m ih =>
    intro j h a3 hj ok
    have e1 : ¬ (200 : Int32) < nI j := by
      rw [t_lt, t_nI (by omega)]
      show ¬ (200 : Int) < _
      omega
    have f1 := m_ls (r := 19) (h := h) rfl
    have w1 := m_washes (r := 19) rfl ok
    have hw : mr (dpm h 19 (wst (mr h 19) 1) (wst (mr h 19) 2)) 19 = wst (mr h 19) := by rw [mr_dpm, ← wst_form]
    rw [eX7_lost_29]
    by_cases c : lsN (mr h 19) = 0
    · obtain ⟨h', g1, g2⟩ := ih (j + 1) (dpm h 19 (wst (mr h 19) 1) (wst (mr h 19) 2)) (.int (wfar (mr h 19))) (by omega) (by rw [hw]; exact wst_ok ok)
      rw [hw] at g1
      refine ⟨h', ?_, fun a z => by rw [g2 a z, dpm_cell z]⟩
      rw [c] at f1
      simp [le_nl, -Int32.not_lt, eX7_lost_0, eX7_lost_1, eX7_lost_2, eX7_lost_3, eX7_lost_6, eX7_lost_9, eX7_lost_10, eX7_lost_12, eX7_lost_15, eX7_lost_16, eX7_lost_17, eX7_lost_20, eX7_lost_21, eX7_lost_24, eX7_lost_27, eX7_lost_28, eX7_lost_30, eX7_lost_33, eX7_lost_36, eX7_lost_37, eX7_lost_40, eX7_lost_43, eX7_lost_46, eX7_lost_47, eX7_lost_50, eX7_lost_51, eX7_lost_54, eX7_lost_55, eX7_lost_58, eX7_lost_61, eX7_lost_62, eX7_lost_65, eX7_lost_66, eX7_lost_69, eX7_lost_70, eX7_lost_73, eX7_lost_74, eX7_lost_77, eX7_lost_80, eX7_lost_81, eX7_lost_84, eX7_lost_85, eX7_lost_86, eX7_lost_87, eX7_lost_90, eX7_lost_93, eX7_lost_94, eX7_lost_97, eX7_lost_100, eX7_lost_102, e1, f1, w1, c, loN, nI_1]
      exact g1
    · have c2 : 0 < lsN (mr h 19) := (lsN_in' _).1.resolve_left c
      have n9 := nI_n9 (show j < 1000 by omega)
      have lo := m_isLost (r := 19) (e := 0) (h := h) rfl (Or.inl rfl)
      rw [if_pos rfl, lost_ite, show h 19 1 = mr h 19 1 from rfl] at lo
      refine ⟨h, ?_, fun _ _ => rfl⟩
      by_cases q0 : q = 0
      · simp [le_nl, -Int32.not_lt, eX7_lost_0, eX7_lost_1, eX7_lost_2, eX7_lost_3, eX7_lost_6, eX7_lost_9, eX7_lost_10, eX7_lost_12, eX7_lost_15, eX7_lost_16, eX7_lost_17, eX7_lost_20, eX7_lost_21, eX7_lost_24, eX7_lost_27, eX7_lost_28, eX7_lost_30, eX7_lost_33, eX7_lost_36, eX7_lost_37, eX7_lost_40, eX7_lost_43, eX7_lost_46, eX7_lost_47, eX7_lost_50, eX7_lost_51, eX7_lost_54, eX7_lost_55, eX7_lost_58, eX7_lost_61, eX7_lost_62, eX7_lost_65, eX7_lost_66, eX7_lost_69, eX7_lost_70, eX7_lost_73, eX7_lost_74, eX7_lost_77, eX7_lost_80, eX7_lost_81, eX7_lost_84, eX7_lost_85, eX7_lost_86, eX7_lost_87, eX7_lost_90, eX7_lost_93, eX7_lost_94, eX7_lost_97, eX7_lost_100, eX7_lost_102, e1, f1, c, c2, loN, anL, n9, q0]
      · by_cases l2 : lsN (mr h 19) = 2
        · rw [l2] at f1
          simp [le_nl, -Int32.not_lt, eX7_lost_0, eX7_lost_1, eX7_lost_2, eX7_lost_3, eX7_lost_6, eX7_lost_9, eX7_lost_10, eX7_lost_12, eX7_lost_15, eX7_lost_16, eX7_lost_17, eX7_lost_20, eX7_lost_21, eX7_lost_24, eX7_lost_27, eX7_lost_28, eX7_lost_30, eX7_lost_33, eX7_lost_36, eX7_lost_37, eX7_lost_40, eX7_lost_43, eX7_lost_46, eX7_lost_47, eX7_lost_50, eX7_lost_51, eX7_lost_54, eX7_lost_55, eX7_lost_58, eX7_lost_61, eX7_lost_62, eX7_lost_65, eX7_lost_66, eX7_lost_69, eX7_lost_70, eX7_lost_73, eX7_lost_74, eX7_lost_77, eX7_lost_80, eX7_lost_81, eX7_lost_84, eX7_lost_85, eX7_lost_86, eX7_lost_87, eX7_lost_90, eX7_lost_93, eX7_lost_94, eX7_lost_97, eX7_lost_100, eX7_lost_102, e1, f1, l2, loN, anL, n9, q0]
        · by_cases l1 : mr h 19 1 < 1
          · rw [if_pos l1] at lo
            simp [le_nl, -Int32.not_lt, eX7_lost_0, eX7_lost_1, eX7_lost_2, eX7_lost_3, eX7_lost_6, eX7_lost_9, eX7_lost_10, eX7_lost_12, eX7_lost_15, eX7_lost_16, eX7_lost_17, eX7_lost_20, eX7_lost_21, eX7_lost_24, eX7_lost_27, eX7_lost_28, eX7_lost_30, eX7_lost_33, eX7_lost_36, eX7_lost_37, eX7_lost_40, eX7_lost_43, eX7_lost_46, eX7_lost_47, eX7_lost_50, eX7_lost_51, eX7_lost_54, eX7_lost_55, eX7_lost_58, eX7_lost_61, eX7_lost_62, eX7_lost_65, eX7_lost_66, eX7_lost_69, eX7_lost_70, eX7_lost_73, eX7_lost_74, eX7_lost_77, eX7_lost_80, eX7_lost_81, eX7_lost_84, eX7_lost_85, eX7_lost_86, eX7_lost_87, eX7_lost_90, eX7_lost_93, eX7_lost_94, eX7_lost_97, eX7_lost_100, eX7_lost_102, e1, f1, c, c2, l2, lo, l1, loN, anL, n9, q0]
          · rw [if_neg l1] at lo
            simp [le_nl, -Int32.not_lt, eX7_lost_0, eX7_lost_1, eX7_lost_2, eX7_lost_3, eX7_lost_6, eX7_lost_9, eX7_lost_10, eX7_lost_12, eX7_lost_15, eX7_lost_16, eX7_lost_17, eX7_lost_20, eX7_lost_21, eX7_lost_24, eX7_lost_27, eX7_lost_28, eX7_lost_30, eX7_lost_33, eX7_lost_36, eX7_lost_37, eX7_lost_40, eX7_lost_43, eX7_lost_46, eX7_lost_47, eX7_lost_50, eX7_lost_51, eX7_lost_54, eX7_lost_55, eX7_lost_58, eX7_lost_61, eX7_lost_62, eX7_lost_65, eX7_lost_66, eX7_lost_69, eX7_lost_70, eX7_lost_73, eX7_lost_74, eX7_lost_77, eX7_lost_80, eX7_lost_81, eX7_lost_84, eX7_lost_85, eX7_lost_86, eX7_lost_87, eX7_lost_90, eX7_lost_93, eX7_lost_94, eX7_lost_97, eX7_lost_100, eX7_lost_102, e1, f1, c, c2, l2, lo, l1, loN, anL, n9, q0]
theorem Rel.f456 (R : Rel h) (hf : ∀ a, a ≠ 4 → a ≠ 5 → a ≠ 6 → h' a = h a) : Rel h' := R.fc (fun a z => by unfold Scc at z; exact hf a (by omega) (by omega) (by omega))
theorem s_lost {q : Int32} : Sim [.int q, .null] [.int q, .null, .null] mX6_lost mX7_lost := by
  intro h R
  by_cases hq : q = 0 ∨ q = 1
  · have hq' := end_in.mpr hq
    obtain ⟨g1, a1, a2, a3⟩ := f_cp R
    obtain ⟨g2, b1, b2, b3⟩ := lc_loop 201 0 g1 rfl (by rw [a2]; exact R.2.1)
    rw [a2] at b1 b2
    have R2 : Rel g2 := R.f456 (fun a z1 z2 z3 => by rw [b3 a z1, a3 a z1 z2 z3])
    have e18 : mr g2 18 = mr h 18 := mr_cell (by rw [b3 18 (by omega), a3 18 (by omega) (by omega) (by omega)])
    obtain ⟨g3, c1, c2, c3⟩ := m_lays (r := 18) (t := 19) (h := g2) rfl rfl (by omega)
    rw [e18] at c2
    obtain ⟨g4, d1, d2⟩ := lm_loop (q := q) 201 0 g3 .null rfl (by rw [c2]; exact R.2.1)
    rw [c2] at d1
    rw [nI_0] at b1 d1
    have f0 : ev mX6_washesTillLost 0 [.ref 0, .null] [] h = some (some (.int (loN 201 0 (mr h 18)).1), g2) := by
      rw [← b1]
      simp [eX6_washesTillLost_0, eX6_washesTillLost_1, eX6_washesTillLost_4, eX6_washesTillLost_5, eX6_washesTillLost_8, eX6_washesTillLost_11, eX6_washesTillLost_12, eX6_washesTillLost_14, eX6_washesTillLost_17, eX6_washesTillLost_20, eX6_washesTillLost_21, eX6_washesTillLost_24, eX6_washesTillLost_27, eX6_washesTillLost_30, eX6_washesTillLost_31, eX6_washesTillLost_32, eX6_washesTillLost_33, eX6_washesTillLost_36, eX6_washesTillLost_39, eX6_washesTillLost_40, eX6_washesTillLost_43, eX6_washesTillLost_46, eX6_washesTillLost_48, a1, show lyC 1 = 0 from rfl, show rcv 1 = 0 from rfl, show rcv 4 = 0 from rfl, show lyC 4 = 0 from rfl]
    have fl := f_ls (h := g2) HC4
    rw [b2] at fl
    have fi := f_isLost (h := g2) (e := 0) HC4
    rw [if_pos rfl, show g2 4 3 = hm g2 4 1 from rfl, b2] at fi
    generalize loN 201 0 (mr h 18) = p at *
    have R4 : Rel g4 := R2.f19 (fun a z => by rw [d2 a z, c3 a z])
    refine ⟨anL q p, g2, g4, ?_, ?_, R4⟩
    · by_cases p9 : p.1 = -9
      · rw [p9] at f0
        rcases hq with rfl | rfl
        · simp [eX6_lost_0, eX6_lost_1, eX6_lost_4, eX6_lost_5, eX6_lost_6, eX6_lost_9, eX6_lost_10, eX6_lost_12, eX6_lost_15, eX6_lost_16, eX6_lost_17, eX6_lost_20, eX6_lost_21, eX6_lost_22, eX6_lost_25, eX6_lost_26, eX6_lost_28, eX6_lost_31, eX6_lost_32, eX6_lost_33, eX6_lost_34, eX6_lost_37, eX6_lost_40, eX6_lost_41, eX6_lost_44, eX6_lost_45, eX6_lost_46, eX6_lost_47, eX6_lost_50, eX6_lost_51, eX6_lost_54, eX6_lost_57, eX6_lost_58, eX6_lost_61, eX6_lost_62, f0, anL, p9]
        · simp [eX6_lost_0, eX6_lost_1, eX6_lost_4, eX6_lost_5, eX6_lost_6, eX6_lost_9, eX6_lost_10, eX6_lost_12, eX6_lost_15, eX6_lost_16, eX6_lost_17, eX6_lost_20, eX6_lost_21, eX6_lost_22, eX6_lost_25, eX6_lost_26, eX6_lost_28, eX6_lost_31, eX6_lost_32, eX6_lost_33, eX6_lost_34, eX6_lost_37, eX6_lost_40, eX6_lost_41, eX6_lost_44, eX6_lost_45, eX6_lost_46, eX6_lost_47, eX6_lost_50, eX6_lost_51, eX6_lost_54, eX6_lost_57, eX6_lost_58, eX6_lost_61, eX6_lost_62, f0, anL, p9]
      · rcases hq with rfl | rfl
        · simp [eX6_lost_0, eX6_lost_1, eX6_lost_4, eX6_lost_5, eX6_lost_6, eX6_lost_9, eX6_lost_10, eX6_lost_12, eX6_lost_15, eX6_lost_16, eX6_lost_17, eX6_lost_20, eX6_lost_21, eX6_lost_22, eX6_lost_25, eX6_lost_26, eX6_lost_28, eX6_lost_31, eX6_lost_32, eX6_lost_33, eX6_lost_34, eX6_lost_37, eX6_lost_40, eX6_lost_41, eX6_lost_44, eX6_lost_45, eX6_lost_46, eX6_lost_47, eX6_lost_50, eX6_lost_51, eX6_lost_54, eX6_lost_57, eX6_lost_58, eX6_lost_61, eX6_lost_62, f0, anL, p9]
        · by_cases l2 : lsN p.2 = 2
          · rw [l2] at fl
            simp [eX6_lost_0, eX6_lost_1, eX6_lost_4, eX6_lost_5, eX6_lost_6, eX6_lost_9, eX6_lost_10, eX6_lost_12, eX6_lost_15, eX6_lost_16, eX6_lost_17, eX6_lost_20, eX6_lost_21, eX6_lost_22, eX6_lost_25, eX6_lost_26, eX6_lost_28, eX6_lost_31, eX6_lost_32, eX6_lost_33, eX6_lost_34, eX6_lost_37, eX6_lost_40, eX6_lost_41, eX6_lost_44, eX6_lost_45, eX6_lost_46, eX6_lost_47, eX6_lost_50, eX6_lost_51, eX6_lost_54, eX6_lost_57, eX6_lost_58, eX6_lost_61, eX6_lost_62, f0, anL, p9, fl, l2, show lyC 1 = 0 from rfl, show rcv 1 = 0 from rfl, show rcv 4 = 0 from rfl, show lyC 4 = 0 from rfl]
          · by_cases l1 : p.2 1 < 1
            · rw [if_pos l1] at fi
              simp [eX6_lost_0, eX6_lost_1, eX6_lost_4, eX6_lost_5, eX6_lost_6, eX6_lost_9, eX6_lost_10, eX6_lost_12, eX6_lost_15, eX6_lost_16, eX6_lost_17, eX6_lost_20, eX6_lost_21, eX6_lost_22, eX6_lost_25, eX6_lost_26, eX6_lost_28, eX6_lost_31, eX6_lost_32, eX6_lost_33, eX6_lost_34, eX6_lost_37, eX6_lost_40, eX6_lost_41, eX6_lost_44, eX6_lost_45, eX6_lost_46, eX6_lost_47, eX6_lost_50, eX6_lost_51, eX6_lost_54, eX6_lost_57, eX6_lost_58, eX6_lost_61, eX6_lost_62, f0, anL, p9, fl, l2, fi, l1, show lyC 1 = 0 from rfl, show rcv 1 = 0 from rfl, show rcv 4 = 0 from rfl, show lyC 4 = 0 from rfl]
            · rw [if_neg l1] at fi
              simp [eX6_lost_0, eX6_lost_1, eX6_lost_4, eX6_lost_5, eX6_lost_6, eX6_lost_9, eX6_lost_10, eX6_lost_12, eX6_lost_15, eX6_lost_16, eX6_lost_17, eX6_lost_20, eX6_lost_21, eX6_lost_22, eX6_lost_25, eX6_lost_26, eX6_lost_28, eX6_lost_31, eX6_lost_32, eX6_lost_33, eX6_lost_34, eX6_lost_37, eX6_lost_40, eX6_lost_41, eX6_lost_44, eX6_lost_45, eX6_lost_46, eX6_lost_47, eX6_lost_50, eX6_lost_51, eX6_lost_54, eX6_lost_57, eX6_lost_58, eX6_lost_61, eX6_lost_62, f0, anL, p9, fl, l2, fi, l1, show lyC 1 = 0 from rfl, show rcv 1 = 0 from rfl, show rcv 4 = 0 from rfl, show lyC 4 = 0 from rfl]
    · rcases hq with rfl | rfl
      · simp [eX7_lost_0, eX7_lost_1, eX7_lost_2, eX7_lost_3, eX7_lost_6, eX7_lost_9, eX7_lost_10, eX7_lost_12, eX7_lost_15, eX7_lost_16, eX7_lost_17, eX7_lost_20, eX7_lost_21, eX7_lost_24, eX7_lost_27, eX7_lost_28, eX7_lost_30, eX7_lost_33, eX7_lost_36, eX7_lost_37, eX7_lost_40, eX7_lost_43, eX7_lost_46, eX7_lost_47, eX7_lost_50, eX7_lost_51, eX7_lost_54, eX7_lost_55, eX7_lost_58, eX7_lost_61, eX7_lost_62, eX7_lost_65, eX7_lost_66, eX7_lost_69, eX7_lost_70, eX7_lost_73, eX7_lost_74, eX7_lost_77, eX7_lost_80, eX7_lost_81, eX7_lost_84, eX7_lost_85, eX7_lost_86, eX7_lost_87, eX7_lost_90, eX7_lost_93, eX7_lost_94, eX7_lost_97, eX7_lost_100, eX7_lost_102, m_isIn, c1, d1]
      · simp [eX7_lost_0, eX7_lost_1, eX7_lost_2, eX7_lost_3, eX7_lost_6, eX7_lost_9, eX7_lost_10, eX7_lost_12, eX7_lost_15, eX7_lost_16, eX7_lost_17, eX7_lost_20, eX7_lost_21, eX7_lost_24, eX7_lost_27, eX7_lost_28, eX7_lost_30, eX7_lost_33, eX7_lost_36, eX7_lost_37, eX7_lost_40, eX7_lost_43, eX7_lost_46, eX7_lost_47, eX7_lost_50, eX7_lost_51, eX7_lost_54, eX7_lost_55, eX7_lost_58, eX7_lost_61, eX7_lost_62, eX7_lost_65, eX7_lost_66, eX7_lost_69, eX7_lost_70, eX7_lost_73, eX7_lost_74, eX7_lost_77, eX7_lost_80, eX7_lost_81, eX7_lost_84, eX7_lost_85, eX7_lost_86, eX7_lost_87, eX7_lost_90, eX7_lost_93, eX7_lost_94, eX7_lost_97, eX7_lost_100, eX7_lost_102, m_isIn, c1, d1]
  · have n0 : ¬ q = 0 := fun z => hq (Or.inl z)
    have n1 : ¬ q = 1 := fun z => hq (Or.inr z)
    have mi : ev mX7_isIn 0 [.int q, .int 0, .int 1] [] (st h 16 2 (h 16 2 + 1)) = some (some (.int 0), st h 16 2 (h 16 2 + 1)) := by
      rw [m_isIn]
      by_cases a : q < 0
      · rw [if_pos a]
      · rw [if_neg a]
        by_cases b : 1 < q
        · rw [if_pos b]
        · exact absurd (end_in.mp ⟨a, b⟩) hq
    exact rf_both R (k := 2) (w := -2) (by omega) (by simp [le_nl, -Int32.not_lt, eX6_lost_0, eX6_lost_1, eX6_lost_4, eX6_lost_5, eX6_lost_6, eX6_lost_9, eX6_lost_10, eX6_lost_12, eX6_lost_15, eX6_lost_16, eX6_lost_17, eX6_lost_20, eX6_lost_21, eX6_lost_22, eX6_lost_25, eX6_lost_26, eX6_lost_28, eX6_lost_31, eX6_lost_32, eX6_lost_33, eX6_lost_34, eX6_lost_37, eX6_lost_40, eX6_lost_41, eX6_lost_44, eX6_lost_45, eX6_lost_46, eX6_lost_47, eX6_lost_50, eX6_lost_51, eX6_lost_54, eX6_lost_57, eX6_lost_58, eX6_lost_61, eX6_lost_62, n0, n1, f_refuse]) (by simp [le_nl, -Int32.not_lt, eX7_lost_0, eX7_lost_1, eX7_lost_2, eX7_lost_3, eX7_lost_6, eX7_lost_9, eX7_lost_10, eX7_lost_12, eX7_lost_15, eX7_lost_16, eX7_lost_17, eX7_lost_20, eX7_lost_21, eX7_lost_24, eX7_lost_27, eX7_lost_28, eX7_lost_30, eX7_lost_33, eX7_lost_36, eX7_lost_37, eX7_lost_40, eX7_lost_43, eX7_lost_46, eX7_lost_47, eX7_lost_50, eX7_lost_51, eX7_lost_54, eX7_lost_55, eX7_lost_58, eX7_lost_61, eX7_lost_62, eX7_lost_65, eX7_lost_66, eX7_lost_69, eX7_lost_70, eX7_lost_73, eX7_lost_74, eX7_lost_77, eX7_lost_80, eX7_lost_81, eX7_lost_84, eX7_lost_85, eX7_lost_86, eX7_lost_87, eX7_lost_90, eX7_lost_93, eX7_lost_94, eX7_lost_97, eX7_lost_100, eX7_lost_102, mi, m_no])
/-- STILL -/
def slN : Nat → Nat → (Nat → Int32) → Int32
  | 0, _, _ => -9
  | m + 1, j, r => if wfar r = 0 then nI j else slN m (j + 1) (wst r)
theorem tc_loop : ∀ (m j : Nat) (h : Sto), j + m = 201 → Ok (hm h 4) → ∃ h' : Sto, ev mX6_still 13 [.ref 0, .int (nI j)] [] h = some (some (.int (slN m j (hm h 4))), h') ∧ ∀ a, a ≠ 4 → h' a = h a := by
  intro m
  induction m with
  | zero =>
    intro j h hj ok
    have e1 : (200 : Int32) < nI j := by rw [show j = 201 by omega]; decide
    exact ⟨h, by simp [eX6_still_0, eX6_still_1, eX6_still_4, eX6_still_5, eX6_still_8, eX6_still_11, eX6_still_12, eX6_still_13, eX6_still_14, eX6_still_17, eX6_still_20, eX6_still_21, eX6_still_24, eX6_still_27, eX6_still_30, eX6_still_31, eX6_still_32, eX6_still_35, eX6_still_38, eX6_still_40, e1, slN], fun _ _ => rfl⟩
  | succ m ih =>
    intro j h hj ok
    have e1 : ¬ (200 : Int32) < nI j := by
      rw [t_lt, t_nI (by omega)]
      show ¬ (200 : Int) < _
      omega
    have w1 := f_washOnce HC4 ok
    have hw : hm (dep h 4 (wst (hm h 4) 1) (wst (hm h 4) 2)) 4 = wst (hm h 4) := by rw [hm_dep, ← wst_form]
    rw [eX6_still_13]
    by_cases c : wfar (hm h 4) = 0
    · refine ⟨dep h 4 (wst (hm h 4) 1) (wst (hm h 4) 2), ?_, fun a z => dep_cell z⟩
      simp [eX6_still_0, eX6_still_1, eX6_still_4, eX6_still_5, eX6_still_8, eX6_still_11, eX6_still_12, eX6_still_14, eX6_still_17, eX6_still_20, eX6_still_21, eX6_still_24, eX6_still_27, eX6_still_30, eX6_still_31, eX6_still_32, eX6_still_35, eX6_still_38, eX6_still_40, e1, w1, c, slN, show lyC 1 = 0 from rfl, show rcv 1 = 0 from rfl, show rcv 4 = 0 from rfl, show lyC 4 = 0 from rfl]
    · obtain ⟨h', g1, g2⟩ := ih (j + 1) (dep h 4 (wst (hm h 4) 1) (wst (hm h 4) 2)) (by omega) (by rw [hw]; exact wst_ok ok)
      rw [hw] at g1
      refine ⟨h', ?_, fun a z => by rw [g2 a z, dep_cell z]⟩
      simp [eX6_still_0, eX6_still_1, eX6_still_4, eX6_still_5, eX6_still_8, eX6_still_11, eX6_still_12, eX6_still_14, eX6_still_17, eX6_still_20, eX6_still_21, eX6_still_24, eX6_still_27, eX6_still_30, eX6_still_31, eX6_still_32, eX6_still_35, eX6_still_38, eX6_still_40, e1, w1, c, slN, nI_1, show lyC 1 = 0 from rfl, show rcv 1 = 0 from rfl, show rcv 4 = 0 from rfl, show lyC 4 = 0 from rfl]
      exact g1
theorem tm_loop : ∀ (m j : Nat) (h : Sto), j + m = 201 → Ok (mr h 19) → ∃ h' : Sto, ev mX7_still 13 [.ref 17, .int (nI j)] [] h = some (some (.int (slN m j (mr h 19))), h') ∧ ∀ a, a ≠ 19 → h' a = h a := by
  intro m
  induction m with
  | zero =>
    intro j h hj ok
    have e1 : (200 : Int32) < nI j := by rw [show j = 201 by omega]; decide
    exact ⟨h, by simp [eX7_still_0, eX7_still_1, eX7_still_4, eX7_still_5, eX7_still_8, eX7_still_11, eX7_still_12, eX7_still_13, eX7_still_14, eX7_still_17, eX7_still_20, eX7_still_21, eX7_still_24, eX7_still_27, eX7_still_30, eX7_still_31, eX7_still_32, eX7_still_35, eX7_still_38, eX7_still_40, e1, slN], fun _ _ => rfl⟩
  | succ m ih =>
    intro j h hj ok
    have e1 : ¬ (200 : Int32) < nI j := by
      rw [t_lt, t_nI (by omega)]
      show ¬ (200 : Int) < _
      omega
    have w1 := m_washes (r := 19) rfl ok
    have hw : mr (dpm h 19 (wst (mr h 19) 1) (wst (mr h 19) 2)) 19 = wst (mr h 19) := by rw [mr_dpm, ← wst_form]
    rw [eX7_still_13]
    by_cases c : wfar (mr h 19) = 0
    · refine ⟨dpm h 19 (wst (mr h 19) 1) (wst (mr h 19) 2), ?_, fun a z => dpm_cell z⟩
      simp [eX7_still_0, eX7_still_1, eX7_still_4, eX7_still_5, eX7_still_8, eX7_still_11, eX7_still_12, eX7_still_14, eX7_still_17, eX7_still_20, eX7_still_21, eX7_still_24, eX7_still_27, eX7_still_30, eX7_still_31, eX7_still_32, eX7_still_35, eX7_still_38, eX7_still_40, e1, w1, c, slN]
    · obtain ⟨h', g1, g2⟩ := ih (j + 1) (dpm h 19 (wst (mr h 19) 1) (wst (mr h 19) 2)) (by omega) (by rw [hw]; exact wst_ok ok)
      rw [hw] at g1
      refine ⟨h', ?_, fun a z => by rw [g2 a z, dpm_cell z]⟩
      simp [eX7_still_0, eX7_still_1, eX7_still_4, eX7_still_5, eX7_still_8, eX7_still_11, eX7_still_12, eX7_still_14, eX7_still_17, eX7_still_20, eX7_still_21, eX7_still_24, eX7_still_27, eX7_still_30, eX7_still_31, eX7_still_32, eX7_still_35, eX7_still_38, eX7_still_40, e1, w1, c, slN, nI_1]
      exact g1
theorem s_still : Sim [.null] [.null] mX6_still mX7_still := by
  intro h R
  obtain ⟨g1, a1, a2, a3⟩ := f_cp R
  obtain ⟨g2, b1, b3⟩ := tc_loop 201 0 g1 rfl (by rw [a2]; exact R.2.1)
  rw [a2] at b1
  have R2 : Rel g2 := R.f456 (fun a z1 z2 z3 => by rw [b3 a z1, a3 a z1 z2 z3])
  have e18 : mr g2 18 = mr h 18 := mr_cell (by rw [b3 18 (by omega), a3 18 (by omega) (by omega) (by omega)])
  obtain ⟨g3, c1, c2, c3⟩ := m_lays (r := 18) (t := 19) (h := g2) rfl rfl (by omega)
  rw [e18] at c2
  obtain ⟨g4, d1, d2⟩ := tm_loop 201 0 g3 rfl (by rw [c2]; exact R.2.1)
  rw [c2] at d1
  rw [nI_0] at b1 d1
  exact ⟨slN 201 0 (mr h 18), g2, g4, by simp [eX6_still_0, eX6_still_1, eX6_still_4, eX6_still_5, eX6_still_8, eX6_still_11, eX6_still_12, eX6_still_14, eX6_still_17, eX6_still_20, eX6_still_21, eX6_still_24, eX6_still_27, eX6_still_30, eX6_still_31, eX6_still_32, eX6_still_35, eX6_still_38, eX6_still_40, a1, b1, show lyC 1 = 0 from rfl, show rcv 1 = 0 from rfl, show rcv 4 = 0 from rfl, show lyC 4 = 0 from rfl], by simp [eX7_still_0, eX7_still_1, eX7_still_4, eX7_still_5, eX7_still_8, eX7_still_11, eX7_still_12, eX7_still_14, eX7_still_17, eX7_still_20, eX7_still_21, eX7_still_24, eX7_still_27, eX7_still_30, eX7_still_31, eX7_still_32, eX7_still_35, eX7_still_38, eX7_still_40, c1, d1], R2.f19 (fun a z => by rw [d2 a z, c3 a z])⟩
/-- KEEP -/
def kpN (v : Int32) : Nat → Nat → (Nat → Int32) → Int32
  | 0, _, _ => -9
  | m + 1, j, r => if asec r = -9 then nI j else if v < asec r then nI j else kpN v m (j + 1) (wst r)
theorem kc_loop {v a2 : Int32} : ∀ (m j : Nat) (h : Sto) (a4 : Value), j + m = 201 → Ok (hm h 4) → ∃ h' : Sto, ev mX6_keep 32 [.ref 0, .int v, .int a2, .int (nI j), a4] [] h = some (some (.int (kpN v m j (hm h 4))), h') ∧ ∀ a, ¬ Scc a → h' a = h a := by
  intro m
  induction m with
  | zero =>
    intro j h a4 hj ok
    have e1 : (200 : Int32) < nI j := by rw [show j = 201 by omega]; decide
    exact ⟨h, by simp [eX6_keep_0, eX6_keep_1, eX6_keep_2, eX6_keep_5, eX6_keep_8, eX6_keep_9, eX6_keep_10, eX6_keep_13, eX6_keep_14, eX6_keep_15, eX6_keep_18, eX6_keep_19, eX6_keep_20, eX6_keep_23, eX6_keep_24, eX6_keep_27, eX6_keep_30, eX6_keep_31, eX6_keep_32, eX6_keep_33, eX6_keep_36, eX6_keep_39, eX6_keep_40, eX6_keep_43, eX6_keep_44, eX6_keep_47, eX6_keep_50, eX6_keep_52, eX6_keep_54, eX6_keep_56, eX6_keep_59, eX6_keep_61, eX6_keep_62, eX6_keep_65, eX6_keep_66, eX6_keep_67, eX6_keep_68, eX6_keep_71, eX6_keep_74, eX6_keep_75, eX6_keep_78, eX6_keep_81, eX6_keep_83, e1, kpN], fun _ _ => rfl⟩
  | succ m ih =>
    intro j h a4 hj ok
    have e1 : ¬ (200 : Int32) < nI j := by
      rw [t_lt, t_nI (by omega)]
      show ¬ (200 : Int) < _
      omega
    obtain ⟨h1, s1, s2⟩ := f_secondsOfAll (h := h) HC4 ok
    have r1 : hm h1 4 = hm h 4 := hm_o (s2 4 (by omega)) (s2 5 (by omega)) (s2 6 (by omega))
    have ok1 : Ok (hm h1 4) := by rw [r1]; exact ok
    have w1 := f_washOnce HC4 ok1
    have hw : hm (dep h1 4 (wst (hm h1 4) 1) (wst (hm h1 4) 2)) 4 = wst (hm h1 4) := by rw [hm_dep, ← wst_form]
    rw [r1] at w1 hw
    rw [eX6_keep_32]
    by_cases c : asec (hm h 4) = -9
    · rw [c] at s1
      refine ⟨h1, ?_, fun a z => by unfold Scc at z; exact s2 a (by omega)⟩
      simp [le_nl, -Int32.not_lt, eX6_keep_0, eX6_keep_1, eX6_keep_2, eX6_keep_5, eX6_keep_8, eX6_keep_9, eX6_keep_10, eX6_keep_13, eX6_keep_14, eX6_keep_15, eX6_keep_18, eX6_keep_19, eX6_keep_20, eX6_keep_23, eX6_keep_24, eX6_keep_27, eX6_keep_30, eX6_keep_31, eX6_keep_33, eX6_keep_36, eX6_keep_39, eX6_keep_40, eX6_keep_43, eX6_keep_44, eX6_keep_47, eX6_keep_50, eX6_keep_52, eX6_keep_54, eX6_keep_56, eX6_keep_59, eX6_keep_61, eX6_keep_62, eX6_keep_65, eX6_keep_66, eX6_keep_67, eX6_keep_68, eX6_keep_71, eX6_keep_74, eX6_keep_75, eX6_keep_78, eX6_keep_81, eX6_keep_83, e1, s1, c, kpN]
    · by_cases c2 : v < asec (hm h 4)
      · refine ⟨h1, ?_, fun a z => by unfold Scc at z; exact s2 a (by omega)⟩
        simp [le_nl, -Int32.not_lt, eX6_keep_0, eX6_keep_1, eX6_keep_2, eX6_keep_5, eX6_keep_8, eX6_keep_9, eX6_keep_10, eX6_keep_13, eX6_keep_14, eX6_keep_15, eX6_keep_18, eX6_keep_19, eX6_keep_20, eX6_keep_23, eX6_keep_24, eX6_keep_27, eX6_keep_30, eX6_keep_31, eX6_keep_33, eX6_keep_36, eX6_keep_39, eX6_keep_40, eX6_keep_43, eX6_keep_44, eX6_keep_47, eX6_keep_50, eX6_keep_52, eX6_keep_54, eX6_keep_56, eX6_keep_59, eX6_keep_61, eX6_keep_62, eX6_keep_65, eX6_keep_66, eX6_keep_67, eX6_keep_68, eX6_keep_71, eX6_keep_74, eX6_keep_75, eX6_keep_78, eX6_keep_81, eX6_keep_83, e1, s1, c, c2, kpN]
      · obtain ⟨h', g1, g2⟩ := ih (j + 1) (dep h1 4 (wst (hm h 4) 1) (wst (hm h 4) 2)) (.int (asec (hm h 4))) (by omega) (by rw [hw]; exact wst_ok ok)
        rw [hw] at g1
        refine ⟨h', ?_, fun a z => by rw [g2 a z]; unfold Scc at z; rw [dep_cell (by omega), s2 a (by omega)]⟩
        simp [le_nl, -Int32.not_lt, eX6_keep_0, eX6_keep_1, eX6_keep_2, eX6_keep_5, eX6_keep_8, eX6_keep_9, eX6_keep_10, eX6_keep_13, eX6_keep_14, eX6_keep_15, eX6_keep_18, eX6_keep_19, eX6_keep_20, eX6_keep_23, eX6_keep_24, eX6_keep_27, eX6_keep_30, eX6_keep_31, eX6_keep_33, eX6_keep_36, eX6_keep_39, eX6_keep_40, eX6_keep_43, eX6_keep_44, eX6_keep_47, eX6_keep_50, eX6_keep_52, eX6_keep_54, eX6_keep_56, eX6_keep_59, eX6_keep_61, eX6_keep_62, eX6_keep_65, eX6_keep_66, eX6_keep_67, eX6_keep_68, eX6_keep_71, eX6_keep_74, eX6_keep_75, eX6_keep_78, eX6_keep_81, eX6_keep_83, e1, s1, c, c2, w1, kpN, nI_1, show lyC 1 = 0 from rfl, show rcv 1 = 0 from rfl, show rcv 4 = 0 from rfl, show lyC 4 = 0 from rfl]
        exact g1
theorem km_loop {v a2 : Int32} : ∀ (m j : Nat) (h : Sto) (a4 a5 : Value), j + m = 201 → Ok (mr h 19) → ∃ h' : Sto, ev mX7_keep 28 [.ref 17, .int v, .int a2, .int (nI j), a4, a5] [] h = some (some (.int (kpN v m j (mr h 19))), h') ∧ ∀ a x, ¬ Scm a x → h' a x = h a x := by
  intro m
  induction m with
  | zero =>
    intro j h a4 a5 hj ok
    have e1 : (200 : Int32) < nI j := by rw [show j = 201 by omega]; decide
    exact ⟨h, by simp [eX7_keep_0, eX7_keep_1, eX7_keep_4, eX7_keep_5, eX7_keep_6, eX7_keep_9, eX7_keep_10, eX7_keep_11, eX7_keep_14, eX7_keep_15, eX7_keep_16, eX7_keep_19, eX7_keep_20, eX7_keep_23, eX7_keep_26, eX7_keep_27, eX7_keep_28, eX7_keep_29, eX7_keep_32, eX7_keep_35, eX7_keep_36, eX7_keep_37, eX7_keep_40, eX7_keep_43, eX7_keep_45, eX7_keep_47, eX7_keep_50, eX7_keep_52, eX7_keep_53, eX7_keep_56, eX7_keep_57, eX7_keep_58, eX7_keep_59, eX7_keep_62, eX7_keep_65, eX7_keep_67, eX7_keep_70, eX7_keep_73, eX7_keep_75, e1, kpN], fun _ _ _ => rfl⟩
  | succ m ih =>
    intro j h a4 a5 hj ok
    have e1 : ¬ (200 : Int32) < nI j := by
      rw [t_lt, t_nI (by omega)]
      show ¬ (200 : Int) < _
      omega
    obtain ⟨h1, s1, s2⟩ := m_allSeconds (r := 19) (h := h) rfl ok
    have fr1 : ∀ a x, ¬ Scm a x → h1 a x = h a x := fun a x z => by unfold Scm at z; exact s2 a x (by omega) (by omega)
    have r1 : mr h1 19 = mr h 19 := mr_same (fun x _ => s2 19 x (by omega) (by omega))
    have ok1 : Ok (mr h1 19) := by rw [r1]; exact ok
    have w1 := m_washes (r := 19) rfl ok1
    have hw : mr (dpm h1 19 (wst (mr h1 19) 1) (wst (mr h1 19) 2)) 19 = wst (mr h1 19) := by rw [mr_dpm, ← wst_form]
    rw [r1] at w1 hw
    have an := asec_neg ok
    rw [eX7_keep_28]
    by_cases c : asec (mr h 19) = -9
    · rw [c] at s1
      refine ⟨h1, ?_, fr1⟩
      simp [le_nl, -Int32.not_lt, eX7_keep_0, eX7_keep_1, eX7_keep_4, eX7_keep_5, eX7_keep_6, eX7_keep_9, eX7_keep_10, eX7_keep_11, eX7_keep_14, eX7_keep_15, eX7_keep_16, eX7_keep_19, eX7_keep_20, eX7_keep_23, eX7_keep_26, eX7_keep_27, eX7_keep_29, eX7_keep_32, eX7_keep_35, eX7_keep_36, eX7_keep_37, eX7_keep_40, eX7_keep_43, eX7_keep_45, eX7_keep_47, eX7_keep_50, eX7_keep_52, eX7_keep_53, eX7_keep_56, eX7_keep_57, eX7_keep_58, eX7_keep_59, eX7_keep_62, eX7_keep_65, eX7_keep_67, eX7_keep_70, eX7_keep_73, eX7_keep_75, e1, s1, c, kpN]
    · have c' : ¬ asec (mr h 19) < 0 := fun z => c (an.mp z)
      by_cases c2 : v < asec (mr h 19)
      · refine ⟨h1, ?_, fr1⟩
        simp [le_nl, -Int32.not_lt, eX7_keep_0, eX7_keep_1, eX7_keep_4, eX7_keep_5, eX7_keep_6, eX7_keep_9, eX7_keep_10, eX7_keep_11, eX7_keep_14, eX7_keep_15, eX7_keep_16, eX7_keep_19, eX7_keep_20, eX7_keep_23, eX7_keep_26, eX7_keep_27, eX7_keep_29, eX7_keep_32, eX7_keep_35, eX7_keep_36, eX7_keep_37, eX7_keep_40, eX7_keep_43, eX7_keep_45, eX7_keep_47, eX7_keep_50, eX7_keep_52, eX7_keep_53, eX7_keep_56, eX7_keep_57, eX7_keep_58, eX7_keep_59, eX7_keep_62, eX7_keep_65, eX7_keep_67, eX7_keep_70, eX7_keep_73, eX7_keep_75, e1, s1, c, c', c2, kpN]
      · obtain ⟨h', g1, g2⟩ := ih (j + 1) (dpm h1 19 (wst (mr h 19) 1) (wst (mr h 19) 2)) (.int (asec (mr h 19))) (.int (wfar (mr h 19))) (by omega) (by rw [hw]; exact wst_ok ok)
        rw [hw] at g1
        refine ⟨h', ?_, fun a x z => by rw [g2 a x z, dpm_cell (by unfold Scm at z; omega), fr1 a x z]⟩
        simp [le_nl, -Int32.not_lt, eX7_keep_0, eX7_keep_1, eX7_keep_4, eX7_keep_5, eX7_keep_6, eX7_keep_9, eX7_keep_10, eX7_keep_11, eX7_keep_14, eX7_keep_15, eX7_keep_16, eX7_keep_19, eX7_keep_20, eX7_keep_23, eX7_keep_26, eX7_keep_27, eX7_keep_29, eX7_keep_32, eX7_keep_35, eX7_keep_36, eX7_keep_37, eX7_keep_40, eX7_keep_43, eX7_keep_45, eX7_keep_47, eX7_keep_50, eX7_keep_52, eX7_keep_53, eX7_keep_56, eX7_keep_57, eX7_keep_58, eX7_keep_59, eX7_keep_62, eX7_keep_65, eX7_keep_67, eX7_keep_70, eX7_keep_73, eX7_keep_75, e1, s1, c, c', c2, w1, kpN, nI_1]
        exact g1
theorem s_keep {v : Int32} : Sim [.int v, .null, .null, .null] [.int v, .null, .null, .null, .null] mX6_keep mX7_keep := by
  intro h R
  by_cases h1 : v < 0
  · exact rf_both R (k := 4) (w := -4) (by omega) (by simp [le_nl, -Int32.not_lt, eX6_keep_0, eX6_keep_1, eX6_keep_2, eX6_keep_5, eX6_keep_8, eX6_keep_9, eX6_keep_10, eX6_keep_13, eX6_keep_14, eX6_keep_15, eX6_keep_18, eX6_keep_19, eX6_keep_20, eX6_keep_23, eX6_keep_24, eX6_keep_27, eX6_keep_30, eX6_keep_31, eX6_keep_33, eX6_keep_36, eX6_keep_39, eX6_keep_40, eX6_keep_43, eX6_keep_44, eX6_keep_47, eX6_keep_50, eX6_keep_52, eX6_keep_54, eX6_keep_56, eX6_keep_59, eX6_keep_61, eX6_keep_62, eX6_keep_65, eX6_keep_66, eX6_keep_67, eX6_keep_68, eX6_keep_71, eX6_keep_74, eX6_keep_75, eX6_keep_78, eX6_keep_81, eX6_keep_83, f_outside, h1, f_refuse]) (by simp [le_nl, -Int32.not_lt, eX7_keep_0, eX7_keep_1, eX7_keep_4, eX7_keep_5, eX7_keep_6, eX7_keep_9, eX7_keep_10, eX7_keep_11, eX7_keep_14, eX7_keep_15, eX7_keep_16, eX7_keep_19, eX7_keep_20, eX7_keep_23, eX7_keep_26, eX7_keep_27, eX7_keep_29, eX7_keep_32, eX7_keep_35, eX7_keep_36, eX7_keep_37, eX7_keep_40, eX7_keep_43, eX7_keep_45, eX7_keep_47, eX7_keep_50, eX7_keep_52, eX7_keep_53, eX7_keep_56, eX7_keep_57, eX7_keep_58, eX7_keep_59, eX7_keep_62, eX7_keep_65, eX7_keep_67, eX7_keep_70, eX7_keep_73, eX7_keep_75, m_wrongS, h1, m_no])
  · by_cases h2 : 999 < v
    · exact rf_both R (k := 6) (w := -6) (by omega) (by simp [le_nl, -Int32.not_lt, eX6_keep_0, eX6_keep_1, eX6_keep_2, eX6_keep_5, eX6_keep_8, eX6_keep_9, eX6_keep_10, eX6_keep_13, eX6_keep_14, eX6_keep_15, eX6_keep_18, eX6_keep_19, eX6_keep_20, eX6_keep_23, eX6_keep_24, eX6_keep_27, eX6_keep_30, eX6_keep_31, eX6_keep_33, eX6_keep_36, eX6_keep_39, eX6_keep_40, eX6_keep_43, eX6_keep_44, eX6_keep_47, eX6_keep_50, eX6_keep_52, eX6_keep_54, eX6_keep_56, eX6_keep_59, eX6_keep_61, eX6_keep_62, eX6_keep_65, eX6_keep_66, eX6_keep_67, eX6_keep_68, eX6_keep_71, eX6_keep_74, eX6_keep_75, eX6_keep_78, eX6_keep_81, eX6_keep_83, f_outside, h1, h2, f_refuse]) (by simp [le_nl, -Int32.not_lt, eX7_keep_0, eX7_keep_1, eX7_keep_4, eX7_keep_5, eX7_keep_6, eX7_keep_9, eX7_keep_10, eX7_keep_11, eX7_keep_14, eX7_keep_15, eX7_keep_16, eX7_keep_19, eX7_keep_20, eX7_keep_23, eX7_keep_26, eX7_keep_27, eX7_keep_29, eX7_keep_32, eX7_keep_35, eX7_keep_36, eX7_keep_37, eX7_keep_40, eX7_keep_43, eX7_keep_45, eX7_keep_47, eX7_keep_50, eX7_keep_52, eX7_keep_53, eX7_keep_56, eX7_keep_57, eX7_keep_58, eX7_keep_59, eX7_keep_62, eX7_keep_65, eX7_keep_67, eX7_keep_70, eX7_keep_73, eX7_keep_75, m_wrongS, h1, h2, m_no])
    · obtain ⟨g1, a1, a2, a3⟩ := f_cp R
      obtain ⟨g2, b1, b3⟩ := kc_loop (v := v) (a2 := 0) 201 0 g1 .null rfl (by rw [a2]; exact R.2.1)
      rw [a2] at b1
      have R2 : Rel g2 := R.fc (fun a z => by rw [b3 a z]; unfold Scc at z; exact a3 a (by omega) (by omega) (by omega))
      have e18 : mr g2 18 = mr h 18 := mr_cell (by rw [b3 18 (by unfold Scc; omega), a3 18 (by omega) (by omega) (by omega)])
      obtain ⟨g3, c1, c2, c3⟩ := m_lays (r := 18) (t := 19) (h := g2) rfl rfl (by omega)
      rw [e18] at c2
      obtain ⟨g4, d1, d2⟩ := km_loop (v := v) (a2 := 0) 201 0 g3 .null .null rfl (by rw [c2]; exact R.2.1)
      rw [c2] at d1
      rw [nI_0] at b1 d1
      exact ⟨kpN v 201 0 (mr h 18), g2, g4, by simp [le_nl, -Int32.not_lt, eX6_keep_0, eX6_keep_1, eX6_keep_2, eX6_keep_5, eX6_keep_8, eX6_keep_9, eX6_keep_10, eX6_keep_13, eX6_keep_14, eX6_keep_15, eX6_keep_18, eX6_keep_19, eX6_keep_20, eX6_keep_23, eX6_keep_24, eX6_keep_27, eX6_keep_30, eX6_keep_31, eX6_keep_33, eX6_keep_36, eX6_keep_39, eX6_keep_40, eX6_keep_43, eX6_keep_44, eX6_keep_47, eX6_keep_50, eX6_keep_52, eX6_keep_54, eX6_keep_56, eX6_keep_59, eX6_keep_61, eX6_keep_62, eX6_keep_65, eX6_keep_66, eX6_keep_67, eX6_keep_68, eX6_keep_71, eX6_keep_74, eX6_keep_75, eX6_keep_78, eX6_keep_81, eX6_keep_83, f_outside, h1, h2, a1, b1, show lyC 1 = 0 from rfl, show rcv 1 = 0 from rfl, show rcv 4 = 0 from rfl, show lyC 4 = 0 from rfl], by simp [le_nl, -Int32.not_lt, eX7_keep_0, eX7_keep_1, eX7_keep_4, eX7_keep_5, eX7_keep_6, eX7_keep_9, eX7_keep_10, eX7_keep_11, eX7_keep_14, eX7_keep_15, eX7_keep_16, eX7_keep_19, eX7_keep_20, eX7_keep_23, eX7_keep_26, eX7_keep_27, eX7_keep_29, eX7_keep_32, eX7_keep_35, eX7_keep_36, eX7_keep_37, eX7_keep_40, eX7_keep_43, eX7_keep_45, eX7_keep_47, eX7_keep_50, eX7_keep_52, eX7_keep_53, eX7_keep_56, eX7_keep_57, eX7_keep_58, eX7_keep_59, eX7_keep_62, eX7_keep_65, eX7_keep_67, eX7_keep_70, eX7_keep_73, eX7_keep_75, m_wrongS, h1, h2, c1, d1], R2.fs (fun a x z => by rw [d2 a x z, c3 a (fun y => z (Or.inl y))])⟩
/-- CARE -/
theorem s_care {n : Int32} : Sim [.int n, .null] [.int n, .null, .null] mX6_care mX7_care := by
  intro h R
  by_cases h1 : n < 0
  · exact rf_both R (k := 4) (w := -4) (by omega) (by simp [le_nl, -Int32.not_lt, eX6_care_0, eX6_care_1, eX6_care_2, eX6_care_5, eX6_care_8, eX6_care_9, eX6_care_10, eX6_care_13, eX6_care_14, eX6_care_15, eX6_care_18, eX6_care_19, eX6_care_20, eX6_care_23, eX6_care_24, eX6_care_27, eX6_care_30, eX6_care_31, eX6_care_34, eX6_care_35, eX6_care_38, eX6_care_39, eX6_care_42, eX6_care_43, eX6_care_46, eX6_care_47, eX6_care_50, eX6_care_53, f_outside, h1, f_refuse]) (by simp [le_nl, -Int32.not_lt, eX7_care_0, eX7_care_1, eX7_care_4, eX7_care_5, eX7_care_6, eX7_care_9, eX7_care_10, eX7_care_11, eX7_care_14, eX7_care_15, eX7_care_16, eX7_care_19, eX7_care_20, eX7_care_23, eX7_care_26, eX7_care_27, eX7_care_28, eX7_care_31, eX7_care_32, eX7_care_33, eX7_care_36, m_wrongW, h1, m_no])
  · by_cases h2 : 200 < n
    · exact rf_both R (k := 6) (w := -6) (by omega) (by simp [le_nl, -Int32.not_lt, eX6_care_0, eX6_care_1, eX6_care_2, eX6_care_5, eX6_care_8, eX6_care_9, eX6_care_10, eX6_care_13, eX6_care_14, eX6_care_15, eX6_care_18, eX6_care_19, eX6_care_20, eX6_care_23, eX6_care_24, eX6_care_27, eX6_care_30, eX6_care_31, eX6_care_34, eX6_care_35, eX6_care_38, eX6_care_39, eX6_care_42, eX6_care_43, eX6_care_46, eX6_care_47, eX6_care_50, eX6_care_53, f_outside, h1, h2, f_refuse]) (by simp [le_nl, -Int32.not_lt, eX7_care_0, eX7_care_1, eX7_care_4, eX7_care_5, eX7_care_6, eX7_care_9, eX7_care_10, eX7_care_11, eX7_care_14, eX7_care_15, eX7_care_16, eX7_care_19, eX7_care_20, eX7_care_23, eX7_care_26, eX7_care_27, eX7_care_28, eX7_care_31, eX7_care_32, eX7_care_33, eX7_care_36, m_wrongW, h1, h2, m_no])
    · obtain ⟨k, hk1, hk2, rfl⟩ := n_of (A := 0) (B := 200) (lit_le rfl rfl h1 h2).1 (lit_le rfl rfl h1 h2).2
      obtain ⟨g1, a1, a2, a3⟩ := f_cp R
      obtain ⟨g2, b1, b2, b3, b4⟩ := f_goOn (h := g1) (N := k) HC4 (by omega) (by rw [a2]; exact R.2.1)
      rw [a2] at b2
      have fr2 : ∀ a, ¬ Scc a → g2 a = h a := fun a z => by unfold Scc at z; rw [b4 a (by omega) (by omega) (by omega), a3 a (by omega) (by omega) (by omega)]
      have R2 : Rel g2 := R.fc fr2
      have e18 : mr g2 18 = mr h 18 := mr_cell (fr2 18 (by unfold Scc; omega))
      obtain ⟨g3, c1, c2, c3⟩ := m_lays (r := 18) (t := 19) (h := g2) rfl rfl (by omega)
      rw [e18] at c2
      obtain ⟨g4, d1, d2, d3⟩ := m_mended (h := g3) (N := k) (by omega) (by rw [c2]; exact R.2.1)
      rw [c2] at d1 d2
      exact ⟨(mdN (anSec (mr h 18) (mr h 18 6)) k (mr h 18) 0 0).2.1, g2, g4, by simp [le_nl, -Int32.not_lt, eX6_care_0, eX6_care_1, eX6_care_2, eX6_care_5, eX6_care_8, eX6_care_9, eX6_care_10, eX6_care_13, eX6_care_14, eX6_care_15, eX6_care_18, eX6_care_19, eX6_care_20, eX6_care_23, eX6_care_24, eX6_care_27, eX6_care_30, eX6_care_31, eX6_care_34, eX6_care_35, eX6_care_38, eX6_care_39, eX6_care_42, eX6_care_43, eX6_care_46, eX6_care_47, eX6_care_50, eX6_care_53, f_outside, h1, h2, a1, b1, b2, show lyC 1 = 0 from rfl, show rcv 1 = 0 from rfl, show rcv 4 = 0 from rfl, show lyC 4 = 0 from rfl], by simp [le_nl, -Int32.not_lt, eX7_care_0, eX7_care_1, eX7_care_4, eX7_care_5, eX7_care_6, eX7_care_9, eX7_care_10, eX7_care_11, eX7_care_14, eX7_care_15, eX7_care_16, eX7_care_19, eX7_care_20, eX7_care_23, eX7_care_26, eX7_care_27, eX7_care_28, eX7_care_31, eX7_care_32, eX7_care_33, eX7_care_36, m_wrongW, h1, h2, c1, d1, d2], R2.fs (fun a x z => by rw [d3 a x z, c3 a (fun y => z (Or.inl y))])⟩
end CALLS9

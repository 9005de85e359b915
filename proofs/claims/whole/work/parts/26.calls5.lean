section CALLS5
variable {h h' : Sto} {e n : Int32}
theorem dep_cell {c a : Nat} {x y : Int32} (ha : a ≠ c) : dep h c x y a = h a := by unfold dep; rw [st_cell ha, st_cell ha]
theorem dpm_cell {c a : Nat} {x y : Int32} (ha : a ≠ c) : dpm h c x y a = h a := by unfold dpm; rw [st_cell ha, st_cell ha]
/-- both get the same INs -/
theorem Rel.dd (R : Rel h) {a b : Int32} (ha : -40 ≤ a.toInt ∧ a.toInt ≤ 24) (hb : -40 ≤ b.toInt ∧ b.toInt ≤ 24) : Rel (dpm (dep h 1 a b) 18 a b) := by
  have m : mr (dpm (dep h 1 a b) 18 a b) 18 = setD (mr h 18) a b := by rw [mr_dpm, mr_cell (dep_cell (by omega))]
  refine R.nw ?_ ?_ ?_
  · rw [m, hm_o (dpm_cell (by omega)) (dpm_cell (by omega)) (dpm_cell (by omega)), hm_dep, R.1]
  · rw [m]; exact ok_setD R.2.1 ha hb
  · intro a x z1 z2 z3 z4 _
    rw [dpm_cell z4, dep_cell z1]
theorem Rel.fd (R : Rel h) : ev mX0_depth 0 [.ref 1, .int e] [] h = some (some (.int (INr (mr h 18) e)), h) := by
  rw [f_depth HC1, R.s1, R.s2]
  rfl
theorem Rel.fl (R : Rel h) : ev mX0_isLost 0 [.ref 1, .int e] [] h = some (some (.int (if INr (mr h 18) e < 1 then 0 else 1)), h) := by
  rw [f_isLost HC1, R.s1, R.s2]
  rfl
theorem Rel.ml (R : Rel h) (hc : h' 18 = h 18) (he : e = 0 ∨ e = 1) : ev mX7_isLost 0 [.ref 18, .int e] [] h' = some (some (.int (if INr (mr h 18) e < 1 then 0 else 1)), h') := by
  have d : (if e = 0 then h 18 1 else h 18 2) = INr (mr h 18) e := rfl
  rw [m_isLost rfl he, hc, d]
  by_cases z : INr (mr h 18) e < 1
  · rw [if_pos z, if_neg (fun y => lost_not.mp y z)]
  · rw [if_neg z, if_pos (lost_not.mpr z)]
theorem Rel.inn (R : Rel h) : -40 ≤ (INr (mr h 18) e).toInt ∧ (INr (mr h 18) e).toInt ≤ 24 := by
  obtain ⟨-, o1, o2, -⟩ := R.2.1
  unfold INr
  split
  · exact o1
  · exact o2
theorem Rel.ix (R : Rel h) : ∃ i, i < 12 ∧ ichD (h 18 0) e (INr (mr h 18) e) = nI i := by
  have l := R.len
  exact ⟨ixN (h 18 0) e (INr (mr h 18) e), ix12 ⟨l.2, l.1⟩ R.inn.2, (ich_in ⟨l.2, l.1⟩ R.inn.2).1⟩
theorem Rel.mx (hc : h' 18 = h 18) (he : e = 0 ∨ e = 1) {i : Nat} (hx : ichD (h 18 0) e (INr (mr h 18) e) = nI i) : ev mX7_inchOf 0 [.ref 18, .int e, .null] [] h' = some (some (.int (nI i)), h') := by
  have d : (if e = 0 then h 18 1 else h 18 2) = INr (mr h 18) e := rfl
  rw [m_inchOf rfl he, hc, d, hx]
theorem Rel.fx (R : Rel h) {i : Nat} (hx : ichD (h 18 0) e (INr (mr h 18) e) = nI i) : ev mX0_inchAt 0 [.ref 1, .int e, .int (INr (mr h 18) e), .null] [] h = some (some (.int (nI i)), h) := by
  rw [f_inchAt HC1, R.s0, hx]
theorem s_of {e q : Int32} : Sim [.int e, .int q, .null] [.int e, .int q, .null] mX6_of mX7_of := by
  intro h R
  by_cases he : e = 0 ∨ e = 1
  · obtain ⟨i, hi, hx⟩ := R.ix (e := e)
    have fd := R.fd (e := e)
    have fx := R.fx hx
    have fl := R.fl (e := e)
    have mx := Rel.mx (h' := h) rfl he hx
    have ml := R.ml (h' := h) rfl he
    have kk := R.kk hi
    have mx2 := Rel.mx (h' := st h 16 2 (h 16 2 + 1)) (st_cell (by omega)) he hx
    by_cases q0 : q = 0
    · exact qs_both R (v := nI i) (by simp [le_nl, -Int32.not_lt, eX6_of_0, eX6_of_1, eX6_of_4, eX6_of_7, eX6_of_8, eX6_of_9, eX6_of_12, eX6_of_13, eX6_of_14, eX6_of_17, eX6_of_18, eX6_of_19, eX6_of_22, eX6_of_23, eX6_of_26, eX6_of_29, eX6_of_30, eX6_of_31, eX6_of_60, eX6_of_61, eX6_of_62, eX6_of_63, eX6_of_66, eX6_of_67, eX6_of_70, eX6_of_73, eX6_of_74, eX6_of_77, eX6_of_78, eX6_of_79, eX6_of_80, eX6_of_83, eX6_of_84, eX6_of_87, eX6_of_88, eX6_of_89, eX6_of_92, eX6_of_93, eX6_of_96, eX6_of_97, eX6_of_98, eX6_of_100, eX6_of_103, f_isEnd, he, fd, fx, q0, show lyC 1 = 0 from rfl, show rcv 1 = 0 from rfl]) (by simp [le_nl, -Int32.not_lt, eX7_of_0, eX7_of_1, eX7_of_4, eX7_of_7, eX7_of_8, eX7_of_9, eX7_of_12, eX7_of_13, eX7_of_14, eX7_of_17, eX7_of_18, eX7_of_21, eX7_of_22, eX7_of_23, eX7_of_52, eX7_of_53, eX7_of_54, eX7_of_55, eX7_of_58, eX7_of_59, eX7_of_62, eX7_of_65, eX7_of_66, eX7_of_69, eX7_of_70, eX7_of_71, eX7_of_72, eX7_of_75, eX7_of_76, eX7_of_79, eX7_of_80, eX7_of_81, eX7_of_84, eX7_of_85, eX7_of_88, eX7_of_89, eX7_of_90, eX7_of_92, eX7_of_95, m_isEnd2, he, mx, q0])
    · by_cases q1 : q = 1
      · by_cases z : INr (mr h 18) e < 1
        · rw [if_pos z] at fl ml
          exact qs_both R (v := 0) (by simp [le_nl, -Int32.not_lt, eX6_of_0, eX6_of_1, eX6_of_4, eX6_of_7, eX6_of_8, eX6_of_9, eX6_of_12, eX6_of_13, eX6_of_14, eX6_of_17, eX6_of_18, eX6_of_19, eX6_of_22, eX6_of_23, eX6_of_26, eX6_of_29, eX6_of_30, eX6_of_31, eX6_of_60, eX6_of_61, eX6_of_62, eX6_of_63, eX6_of_66, eX6_of_67, eX6_of_70, eX6_of_73, eX6_of_74, eX6_of_77, eX6_of_78, eX6_of_79, eX6_of_80, eX6_of_83, eX6_of_84, eX6_of_87, eX6_of_88, eX6_of_89, eX6_of_92, eX6_of_93, eX6_of_96, eX6_of_97, eX6_of_98, eX6_of_100, eX6_of_103, f_isEnd, he, fd, fx, fl, q1, show lyC 1 = 0 from rfl, show rcv 1 = 0 from rfl]) (by simp [le_nl, -Int32.not_lt, eX7_of_0, eX7_of_1, eX7_of_4, eX7_of_7, eX7_of_8, eX7_of_9, eX7_of_12, eX7_of_13, eX7_of_14, eX7_of_17, eX7_of_18, eX7_of_21, eX7_of_22, eX7_of_23, eX7_of_52, eX7_of_53, eX7_of_54, eX7_of_55, eX7_of_58, eX7_of_59, eX7_of_62, eX7_of_65, eX7_of_66, eX7_of_69, eX7_of_70, eX7_of_71, eX7_of_72, eX7_of_75, eX7_of_76, eX7_of_79, eX7_of_80, eX7_of_81, eX7_of_84, eX7_of_85, eX7_of_88, eX7_of_89, eX7_of_90, eX7_of_92, eX7_of_95, m_isEnd2, he, mx, ml, q1])
        · rw [if_neg z] at fl ml
          exact qs_both R (v := 1) (by simp [le_nl, -Int32.not_lt, eX6_of_0, eX6_of_1, eX6_of_4, eX6_of_7, eX6_of_8, eX6_of_9, eX6_of_12, eX6_of_13, eX6_of_14, eX6_of_17, eX6_of_18, eX6_of_19, eX6_of_22, eX6_of_23, eX6_of_26, eX6_of_29, eX6_of_30, eX6_of_31, eX6_of_60, eX6_of_61, eX6_of_62, eX6_of_63, eX6_of_66, eX6_of_67, eX6_of_70, eX6_of_73, eX6_of_74, eX6_of_77, eX6_of_78, eX6_of_79, eX6_of_80, eX6_of_83, eX6_of_84, eX6_of_87, eX6_of_88, eX6_of_89, eX6_of_92, eX6_of_93, eX6_of_96, eX6_of_97, eX6_of_98, eX6_of_100, eX6_of_103, f_isEnd, he, fd, fx, fl, q1, show lyC 1 = 0 from rfl, show rcv 1 = 0 from rfl]) (by simp [le_nl, -Int32.not_lt, eX7_of_0, eX7_of_1, eX7_of_4, eX7_of_7, eX7_of_8, eX7_of_9, eX7_of_12, eX7_of_13, eX7_of_14, eX7_of_17, eX7_of_18, eX7_of_21, eX7_of_22, eX7_of_23, eX7_of_52, eX7_of_53, eX7_of_54, eX7_of_55, eX7_of_58, eX7_of_59, eX7_of_62, eX7_of_65, eX7_of_66, eX7_of_69, eX7_of_70, eX7_of_71, eX7_of_72, eX7_of_75, eX7_of_76, eX7_of_79, eX7_of_80, eX7_of_81, eX7_of_84, eX7_of_85, eX7_of_88, eX7_of_89, eX7_of_90, eX7_of_92, eX7_of_95, m_isEnd2, he, mx, ml, q1])
      · by_cases q2 : q = 2
        · exact qs_both R (v := mvK (h 18 (8 + 2 * i))) (by simp [le_nl, -Int32.not_lt, eX6_of_0, eX6_of_1, eX6_of_4, eX6_of_7, eX6_of_8, eX6_of_9, eX6_of_12, eX6_of_13, eX6_of_14, eX6_of_17, eX6_of_18, eX6_of_19, eX6_of_22, eX6_of_23, eX6_of_26, eX6_of_29, eX6_of_30, eX6_of_31, eX6_of_60, eX6_of_61, eX6_of_62, eX6_of_63, eX6_of_66, eX6_of_67, eX6_of_70, eX6_of_73, eX6_of_74, eX6_of_77, eX6_of_78, eX6_of_79, eX6_of_80, eX6_of_83, eX6_of_84, eX6_of_87, eX6_of_88, eX6_of_89, eX6_of_92, eX6_of_93, eX6_of_96, eX6_of_97, eX6_of_98, eX6_of_100, eX6_of_103, f_isEnd, he, fd, fx, q2, f_bunchMove HC1 hi, kk, show lyC 1 = 0 from rfl, show rcv 1 = 0 from rfl]) (by simp [le_nl, -Int32.not_lt, eX7_of_0, eX7_of_1, eX7_of_4, eX7_of_7, eX7_of_8, eX7_of_9, eX7_of_12, eX7_of_13, eX7_of_14, eX7_of_17, eX7_of_18, eX7_of_21, eX7_of_22, eX7_of_23, eX7_of_52, eX7_of_53, eX7_of_54, eX7_of_55, eX7_of_58, eX7_of_59, eX7_of_62, eX7_of_65, eX7_of_66, eX7_of_69, eX7_of_70, eX7_of_71, eX7_of_72, eX7_of_75, eX7_of_76, eX7_of_79, eX7_of_80, eX7_of_81, eX7_of_84, eX7_of_85, eX7_of_88, eX7_of_89, eX7_of_90, eX7_of_92, eX7_of_95, m_isEnd2, he, mx, q2, m_movesAt (r := 18) rfl hi])
        · by_cases q3 : q = 3
          · exact qs_both R (v := drK (h 18 (8 + 2 * i)) (h 18 7)) (by simp [le_nl, -Int32.not_lt, eX6_of_0, eX6_of_1, eX6_of_4, eX6_of_7, eX6_of_8, eX6_of_9, eX6_of_12, eX6_of_13, eX6_of_14, eX6_of_17, eX6_of_18, eX6_of_19, eX6_of_22, eX6_of_23, eX6_of_26, eX6_of_29, eX6_of_30, eX6_of_31, eX6_of_60, eX6_of_61, eX6_of_62, eX6_of_63, eX6_of_66, eX6_of_67, eX6_of_70, eX6_of_73, eX6_of_74, eX6_of_77, eX6_of_78, eX6_of_79, eX6_of_80, eX6_of_83, eX6_of_84, eX6_of_87, eX6_of_88, eX6_of_89, eX6_of_92, eX6_of_93, eX6_of_96, eX6_of_97, eX6_of_98, eX6_of_100, eX6_of_103, f_isEnd, he, fd, fx, q3, f_washDraw HC1 hi, kk, R.s7, show lyC 1 = 0 from rfl, show rcv 1 = 0 from rfl]) (by simp [le_nl, -Int32.not_lt, eX7_of_0, eX7_of_1, eX7_of_4, eX7_of_7, eX7_of_8, eX7_of_9, eX7_of_12, eX7_of_13, eX7_of_14, eX7_of_17, eX7_of_18, eX7_of_21, eX7_of_22, eX7_of_23, eX7_of_52, eX7_of_53, eX7_of_54, eX7_of_55, eX7_of_58, eX7_of_59, eX7_of_62, eX7_of_65, eX7_of_66, eX7_of_69, eX7_of_70, eX7_of_71, eX7_of_72, eX7_of_75, eX7_of_76, eX7_of_79, eX7_of_80, eX7_of_81, eX7_of_84, eX7_of_85, eX7_of_88, eX7_of_89, eX7_of_90, eX7_of_92, eX7_of_95, m_isEnd2, he, mx, q3, m_drawsAt (r := 18) rfl hi])
          · exact rf_both R (k := 2) (w := -2) (by omega) (by simp [le_nl, -Int32.not_lt, eX6_of_0, eX6_of_1, eX6_of_4, eX6_of_7, eX6_of_8, eX6_of_9, eX6_of_12, eX6_of_13, eX6_of_14, eX6_of_17, eX6_of_18, eX6_of_19, eX6_of_22, eX6_of_23, eX6_of_26, eX6_of_29, eX6_of_30, eX6_of_31, eX6_of_60, eX6_of_61, eX6_of_62, eX6_of_63, eX6_of_66, eX6_of_67, eX6_of_70, eX6_of_73, eX6_of_74, eX6_of_77, eX6_of_78, eX6_of_79, eX6_of_80, eX6_of_83, eX6_of_84, eX6_of_87, eX6_of_88, eX6_of_89, eX6_of_92, eX6_of_93, eX6_of_96, eX6_of_97, eX6_of_98, eX6_of_100, eX6_of_103, f_isEnd, he, fd, fx, q0, q1, q2, q3, f_refuse, show lyC 1 = 0 from rfl, show rcv 1 = 0 from rfl]) (by simp [le_nl, -Int32.not_lt, eX7_of_0, eX7_of_1, eX7_of_4, eX7_of_7, eX7_of_8, eX7_of_9, eX7_of_12, eX7_of_13, eX7_of_14, eX7_of_17, eX7_of_18, eX7_of_21, eX7_of_22, eX7_of_23, eX7_of_52, eX7_of_53, eX7_of_54, eX7_of_55, eX7_of_58, eX7_of_59, eX7_of_62, eX7_of_65, eX7_of_66, eX7_of_69, eX7_of_70, eX7_of_71, eX7_of_72, eX7_of_75, eX7_of_76, eX7_of_79, eX7_of_80, eX7_of_81, eX7_of_84, eX7_of_85, eX7_of_88, eX7_of_89, eX7_of_90, eX7_of_92, eX7_of_95, m_isEnd2, he, mx2, q0, q1, q2, q3, m_no])
  · exact rf_both R (k := 1) (w := -1) (by omega) (by simp [le_nl, -Int32.not_lt, eX6_of_0, eX6_of_1, eX6_of_4, eX6_of_7, eX6_of_8, eX6_of_9, eX6_of_12, eX6_of_13, eX6_of_14, eX6_of_17, eX6_of_18, eX6_of_19, eX6_of_22, eX6_of_23, eX6_of_26, eX6_of_29, eX6_of_30, eX6_of_31, eX6_of_60, eX6_of_61, eX6_of_62, eX6_of_63, eX6_of_66, eX6_of_67, eX6_of_70, eX6_of_73, eX6_of_74, eX6_of_77, eX6_of_78, eX6_of_79, eX6_of_80, eX6_of_83, eX6_of_84, eX6_of_87, eX6_of_88, eX6_of_89, eX6_of_92, eX6_of_93, eX6_of_96, eX6_of_97, eX6_of_98, eX6_of_100, eX6_of_103, f_isEnd, he, f_refuse]) (by simp [le_nl, -Int32.not_lt, eX7_of_0, eX7_of_1, eX7_of_4, eX7_of_7, eX7_of_8, eX7_of_9, eX7_of_12, eX7_of_13, eX7_of_14, eX7_of_17, eX7_of_18, eX7_of_21, eX7_of_22, eX7_of_23, eX7_of_52, eX7_of_53, eX7_of_54, eX7_of_55, eX7_of_58, eX7_of_59, eX7_of_62, eX7_of_65, eX7_of_66, eX7_of_69, eX7_of_70, eX7_of_71, eX7_of_72, eX7_of_75, eX7_of_76, eX7_of_79, eX7_of_80, eX7_of_81, eX7_of_84, eX7_of_85, eX7_of_88, eX7_of_89, eX7_of_90, eX7_of_92, eX7_of_95, m_isEnd2, he, m_no])
theorem pul_0 {r : Nat → Int32} (h0 : cpl r e n = 0) : pul r e n = r := by
  unfold pul
  rw [h0, Int32.sub_zero, Int32.add_zero, Int32.add_zero, Int32.sub_zero]
  split
  · exact setD_self
  · exact setD_self
theorem pul_form {r : Nat → Int32} : pul r e n = setD r (pul r e n 1) (pul r e n 2) := by
  unfold pul
  split
  · rfl
  · rfl
theorem s_pull {e n : Int32} : Sim [.int e, .int n, .null] [.int e, .int n, .null] mX6_pull mX7_pull := by
  intro h R
  by_cases he : e = 0 ∨ e = 1
  · by_cases h1 : n < 1
    · exact rf_both R (k := 4) (w := 1000000004) (by omega) (by simp [le_nl, -Int32.not_lt, eX6_pull_0, eX6_pull_1, eX6_pull_4, eX6_pull_7, eX6_pull_8, eX6_pull_9, eX6_pull_12, eX6_pull_13, eX6_pull_14, eX6_pull_15, eX6_pull_17, eX6_pull_20, eX6_pull_21, eX6_pull_22, eX6_pull_25, eX6_pull_26, eX6_pull_27, eX6_pull_30, eX6_pull_31, eX6_pull_32, eX6_pull_35, eX6_pull_36, eX6_pull_37, eX6_pull_40, eX6_pull_43, eX6_pull_44, eX6_pull_46, eX6_pull_49, eX6_pull_50, eX6_pull_51, eX6_pull_54, eX6_pull_55, eX6_pull_58, f_isEnd, he, f_outside, h1, f_refuseT]) (by simp [le_nl, -Int32.not_lt, eX7_pull_0, eX7_pull_1, eX7_pull_4, eX7_pull_7, eX7_pull_8, eX7_pull_9, eX7_pull_12, eX7_pull_13, eX7_pull_14, eX7_pull_15, eX7_pull_18, eX7_pull_19, eX7_pull_21, eX7_pull_24, eX7_pull_25, eX7_pull_26, eX7_pull_28, eX7_pull_31, eX7_pull_32, eX7_pull_34, eX7_pull_37, eX7_pull_38, eX7_pull_39, eX7_pull_42, eX7_pull_43, eX7_pull_44, eX7_pull_47, eX7_pull_50, eX7_pull_51, eX7_pull_53, eX7_pull_56, eX7_pull_57, eX7_pull_58, eX7_pull_61, eX7_pull_62, eX7_pull_63, eX7_pull_66, eX7_pull_67, eX7_pull_68, eX7_pull_71, eX7_pull_72, eX7_pull_73, eX7_pull_74, eX7_pull_75, m_isEnd2, he, h1, m_noFar])
    · by_cases h2 : 40 < n
      · exact rf_both R (k := 6) (w := 1000000006) (by omega) (by simp [le_nl, -Int32.not_lt, eX6_pull_0, eX6_pull_1, eX6_pull_4, eX6_pull_7, eX6_pull_8, eX6_pull_9, eX6_pull_12, eX6_pull_13, eX6_pull_14, eX6_pull_15, eX6_pull_17, eX6_pull_20, eX6_pull_21, eX6_pull_22, eX6_pull_25, eX6_pull_26, eX6_pull_27, eX6_pull_30, eX6_pull_31, eX6_pull_32, eX6_pull_35, eX6_pull_36, eX6_pull_37, eX6_pull_40, eX6_pull_43, eX6_pull_44, eX6_pull_46, eX6_pull_49, eX6_pull_50, eX6_pull_51, eX6_pull_54, eX6_pull_55, eX6_pull_58, f_isEnd, he, f_outside, h1, h2, f_refuseT]) (by simp [le_nl, -Int32.not_lt, eX7_pull_0, eX7_pull_1, eX7_pull_4, eX7_pull_7, eX7_pull_8, eX7_pull_9, eX7_pull_12, eX7_pull_13, eX7_pull_14, eX7_pull_15, eX7_pull_18, eX7_pull_19, eX7_pull_21, eX7_pull_24, eX7_pull_25, eX7_pull_26, eX7_pull_28, eX7_pull_31, eX7_pull_32, eX7_pull_34, eX7_pull_37, eX7_pull_38, eX7_pull_39, eX7_pull_42, eX7_pull_43, eX7_pull_44, eX7_pull_47, eX7_pull_50, eX7_pull_51, eX7_pull_53, eX7_pull_56, eX7_pull_57, eX7_pull_58, eX7_pull_61, eX7_pull_62, eX7_pull_63, eX7_pull_66, eX7_pull_67, eX7_pull_68, eX7_pull_71, eX7_pull_72, eX7_pull_73, eX7_pull_74, eX7_pull_75, m_isEnd2, he, h1, h2, m_noFar])
      · have nn := lit_le (A := 1) (B := 40) rfl rfl h1 h2
        have n0 : 0 ≤ n.toInt := by omega
        have po := pul_ok (e := e) R.2.1 n0
        have fd := f_draw (h := h) (n := n) HC1 he
        rw [R.1] at fd
        by_cases h0 : cpl (mr h 18) e n = 0
        · have e0 : dep h 1 (pul (mr h 18) e n 1) (pul (mr h 18) e n 2) = h := by
            rw [pul_0 h0, ← R.1]
            exact dep_self
          rw [h0, e0] at fd
          have m1 : mr (st h 16 3 (h 16 3 + 1)) 18 = mr h 18 := mr_oth (by omega)
          have mc := m_canPull (r := 18) (h := st h 16 3 (h 16 3 + 1)) (n := n) rfl (by rw [m1]; exact R.2.1) n0 he
          rw [m1, h0] at mc
          exact rf_both R (k := 3) (w := 1000000003) (by omega) (by simp [le_nl, -Int32.not_lt, eX6_pull_0, eX6_pull_1, eX6_pull_4, eX6_pull_7, eX6_pull_8, eX6_pull_9, eX6_pull_12, eX6_pull_13, eX6_pull_14, eX6_pull_15, eX6_pull_17, eX6_pull_20, eX6_pull_21, eX6_pull_22, eX6_pull_25, eX6_pull_26, eX6_pull_27, eX6_pull_30, eX6_pull_31, eX6_pull_32, eX6_pull_35, eX6_pull_36, eX6_pull_37, eX6_pull_40, eX6_pull_43, eX6_pull_44, eX6_pull_46, eX6_pull_49, eX6_pull_50, eX6_pull_51, eX6_pull_54, eX6_pull_55, eX6_pull_58, f_isEnd, he, f_outside, h1, h2, fd, f_refuseT, show lyC 1 = 0 from rfl, show rcv 1 = 0 from rfl]) (by simp [le_nl, -Int32.not_lt, eX7_pull_0, eX7_pull_1, eX7_pull_4, eX7_pull_7, eX7_pull_8, eX7_pull_9, eX7_pull_12, eX7_pull_13, eX7_pull_14, eX7_pull_15, eX7_pull_18, eX7_pull_19, eX7_pull_21, eX7_pull_24, eX7_pull_25, eX7_pull_26, eX7_pull_28, eX7_pull_31, eX7_pull_32, eX7_pull_34, eX7_pull_37, eX7_pull_38, eX7_pull_39, eX7_pull_42, eX7_pull_43, eX7_pull_44, eX7_pull_47, eX7_pull_50, eX7_pull_51, eX7_pull_53, eX7_pull_56, eX7_pull_57, eX7_pull_58, eX7_pull_61, eX7_pull_62, eX7_pull_63, eX7_pull_66, eX7_pull_67, eX7_pull_68, eX7_pull_71, eX7_pull_72, eX7_pull_73, eX7_pull_74, eX7_pull_75, m_isEnd2, he, h1, h2, mc, m_noFar])
        · obtain ⟨-, p1, p2, -⟩ := id po
          generalize ha : pul (mr h 18) e n 1 = a at *
          generalize hb : pul (mr h 18) e n 2 = b at *
          have m1 : mr (dep h 1 a b) 18 = mr h 18 := mr_cell (dep_cell (by omega))
          have mc := m_canPull (r := 18) (h := dep h 1 a b) (n := n) rfl (by rw [m1]; exact R.2.1) n0 he
          have mp := m_pulls (r := 18) (h := dep h 1 a b) (n := n) rfl (by rw [m1]; exact R.2.1) n0 he
          rw [m1] at mc
          rw [m1, ha, hb] at mp
          have d1 : dpm (dep h 1 a b) 18 a b 18 1 = a := by simp [dpm, st_at]
          have d2 : dpm (dep h 1 a b) 18 a b 18 2 = b := by simp [dpm, st_at]
          rcases he with rfl | rfl
          · refine ⟨a, dep h 1 a b, dpm (dep h 1 a b) 18 a b, ?_, ?_, R.dd p1 p2⟩
            · simp [le_nl, -Int32.not_lt, eX6_pull_0, eX6_pull_1, eX6_pull_4, eX6_pull_7, eX6_pull_8, eX6_pull_9, eX6_pull_12, eX6_pull_13, eX6_pull_14, eX6_pull_15, eX6_pull_17, eX6_pull_20, eX6_pull_21, eX6_pull_22, eX6_pull_25, eX6_pull_26, eX6_pull_27, eX6_pull_30, eX6_pull_31, eX6_pull_32, eX6_pull_35, eX6_pull_36, eX6_pull_37, eX6_pull_40, eX6_pull_43, eX6_pull_44, eX6_pull_46, eX6_pull_49, eX6_pull_50, eX6_pull_51, eX6_pull_54, eX6_pull_55, eX6_pull_58, f_isEnd, f_outside, h1, h2, fd, h0, f_depth HC1, dep3, show lyC 1 = 0 from rfl, show rcv 1 = 0 from rfl]
            · simp [le_nl, -Int32.not_lt, eX7_pull_0, eX7_pull_1, eX7_pull_4, eX7_pull_7, eX7_pull_8, eX7_pull_9, eX7_pull_12, eX7_pull_13, eX7_pull_14, eX7_pull_15, eX7_pull_18, eX7_pull_19, eX7_pull_21, eX7_pull_24, eX7_pull_25, eX7_pull_26, eX7_pull_28, eX7_pull_31, eX7_pull_32, eX7_pull_34, eX7_pull_37, eX7_pull_38, eX7_pull_39, eX7_pull_42, eX7_pull_43, eX7_pull_44, eX7_pull_47, eX7_pull_50, eX7_pull_51, eX7_pull_53, eX7_pull_56, eX7_pull_57, eX7_pull_58, eX7_pull_61, eX7_pull_62, eX7_pull_63, eX7_pull_66, eX7_pull_67, eX7_pull_68, eX7_pull_71, eX7_pull_72, eX7_pull_73, eX7_pull_74, eX7_pull_75, m_isEnd2, h1, h2, mc, h0, mp, d1, show lyA 18 = some 32 from rfl]
          · refine ⟨b, dep h 1 a b, dpm (dep h 1 a b) 18 a b, ?_, ?_, R.dd p1 p2⟩
            · simp [le_nl, -Int32.not_lt, eX6_pull_0, eX6_pull_1, eX6_pull_4, eX6_pull_7, eX6_pull_8, eX6_pull_9, eX6_pull_12, eX6_pull_13, eX6_pull_14, eX6_pull_15, eX6_pull_17, eX6_pull_20, eX6_pull_21, eX6_pull_22, eX6_pull_25, eX6_pull_26, eX6_pull_27, eX6_pull_30, eX6_pull_31, eX6_pull_32, eX6_pull_35, eX6_pull_36, eX6_pull_37, eX6_pull_40, eX6_pull_43, eX6_pull_44, eX6_pull_46, eX6_pull_49, eX6_pull_50, eX6_pull_51, eX6_pull_54, eX6_pull_55, eX6_pull_58, f_isEnd, f_outside, h1, h2, fd, h0, f_depth HC1, dep4, show lyC 1 = 0 from rfl, show rcv 1 = 0 from rfl]
            · simp [le_nl, -Int32.not_lt, eX7_pull_0, eX7_pull_1, eX7_pull_4, eX7_pull_7, eX7_pull_8, eX7_pull_9, eX7_pull_12, eX7_pull_13, eX7_pull_14, eX7_pull_15, eX7_pull_18, eX7_pull_19, eX7_pull_21, eX7_pull_24, eX7_pull_25, eX7_pull_26, eX7_pull_28, eX7_pull_31, eX7_pull_32, eX7_pull_34, eX7_pull_37, eX7_pull_38, eX7_pull_39, eX7_pull_42, eX7_pull_43, eX7_pull_44, eX7_pull_47, eX7_pull_50, eX7_pull_51, eX7_pull_53, eX7_pull_56, eX7_pull_57, eX7_pull_58, eX7_pull_61, eX7_pull_62, eX7_pull_63, eX7_pull_66, eX7_pull_67, eX7_pull_68, eX7_pull_71, eX7_pull_72, eX7_pull_73, eX7_pull_74, eX7_pull_75, m_isEnd2, h1, h2, mc, h0, mp, d2, show lyA 18 = some 32 from rfl]
  · exact rf_both R (k := 1) (w := 1000000001) (by omega) (by simp [le_nl, -Int32.not_lt, eX6_pull_0, eX6_pull_1, eX6_pull_4, eX6_pull_7, eX6_pull_8, eX6_pull_9, eX6_pull_12, eX6_pull_13, eX6_pull_14, eX6_pull_15, eX6_pull_17, eX6_pull_20, eX6_pull_21, eX6_pull_22, eX6_pull_25, eX6_pull_26, eX6_pull_27, eX6_pull_30, eX6_pull_31, eX6_pull_32, eX6_pull_35, eX6_pull_36, eX6_pull_37, eX6_pull_40, eX6_pull_43, eX6_pull_44, eX6_pull_46, eX6_pull_49, eX6_pull_50, eX6_pull_51, eX6_pull_54, eX6_pull_55, eX6_pull_58, f_isEnd, he, f_refuseT]) (by simp [le_nl, -Int32.not_lt, eX7_pull_0, eX7_pull_1, eX7_pull_4, eX7_pull_7, eX7_pull_8, eX7_pull_9, eX7_pull_12, eX7_pull_13, eX7_pull_14, eX7_pull_15, eX7_pull_18, eX7_pull_19, eX7_pull_21, eX7_pull_24, eX7_pull_25, eX7_pull_26, eX7_pull_28, eX7_pull_31, eX7_pull_32, eX7_pull_34, eX7_pull_37, eX7_pull_38, eX7_pull_39, eX7_pull_42, eX7_pull_43, eX7_pull_44, eX7_pull_47, eX7_pull_50, eX7_pull_51, eX7_pull_53, eX7_pull_56, eX7_pull_57, eX7_pull_58, eX7_pull_61, eX7_pull_62, eX7_pull_63, eX7_pull_66, eX7_pull_67, eX7_pull_68, eX7_pull_71, eX7_pull_72, eX7_pull_73, eX7_pull_74, eX7_pull_75, m_isEnd2, he, m_noFar])
theorem i_max0 (z : Int32) : (if z < 0 then 0 else z) = (if 0 < z then z else 0) := by
  apply t_eq.mpr
  simp only [apply_ite Int32.toInt, t_lt]
  have e0 : (0 : Int32).toInt = 0 := rfl
  rw [e0]
  repeat' split
  all_goals omega
theorem s_bunch {e : Int32} : Sim [.int e, .null] [.int e] mX6_bunch mX7_bunch := by
  intro h R
  by_cases he : e = 0 ∨ e = 1
  · obtain ⟨i, hi, hx⟩ := R.ix (e := e)
    have fd := R.fd (e := e)
    have fx := R.fx hx
    have fl := R.fl (e := e)
    have kk := R.kk hi
    have rin := R.inn (e := e)
    by_cases z : INr (mr h 18) e < 1
    · have ml := R.ml (h' := st h 16 3 (h 16 3 + 1)) (st_cell (by omega)) he
      rw [if_pos z] at fl ml
      exact rf_both R (k := 3) (w := 1000000003) (by omega) (by simp [le_nl, -Int32.not_lt, eX6_bunch_0, eX6_bunch_1, eX6_bunch_4, eX6_bunch_7, eX6_bunch_8, eX6_bunch_9, eX6_bunch_12, eX6_bunch_13, eX6_bunch_14, eX6_bunch_17, eX6_bunch_18, eX6_bunch_21, eX6_bunch_24, eX6_bunch_25, eX6_bunch_27, eX6_bunch_30, eX6_bunch_31, eX6_bunch_32, eX6_bunch_35, eX6_bunch_36, eX6_bunch_37, eX6_bunch_40, eX6_bunch_41, eX6_bunch_44, eX6_bunch_47, eX6_bunch_48, eX6_bunch_49, eX6_bunch_52, eX6_bunch_53, eX6_bunch_54, eX6_bunch_55, eX6_bunch_58, eX6_bunch_59, eX6_bunch_62, eX6_bunch_63, eX6_bunch_66, eX6_bunch_67, eX6_bunch_70, eX6_bunch_71, eX6_bunch_74, eX6_bunch_77, eX6_bunch_78, eX6_bunch_81, eX6_bunch_82, eX6_bunch_85, f_isEnd, he, fl, f_refuseT, show lyC 1 = 0 from rfl, show rcv 1 = 0 from rfl]) (by simp [le_nl, -Int32.not_lt, eX7_bunch_0, eX7_bunch_1, eX7_bunch_4, eX7_bunch_7, eX7_bunch_8, eX7_bunch_9, eX7_bunch_12, eX7_bunch_13, eX7_bunch_14, eX7_bunch_17, eX7_bunch_18, eX7_bunch_21, eX7_bunch_24, eX7_bunch_25, eX7_bunch_27, eX7_bunch_30, eX7_bunch_31, eX7_bunch_32, eX7_bunch_35, eX7_bunch_36, eX7_bunch_39, eX7_bunch_40, eX7_bunch_43, eX7_bunch_44, eX7_bunch_45, eX7_bunch_46, eX7_bunch_47, m_isEnd2, he, ml, m_noFar])
    · rw [if_neg z] at fl
      have mv := mvK_in (h 18 (8 + 2 * i))
      have fm := f_bunchMove (h := h) HC1 hi
      rw [show h (1 + 1) i = h 18 (8 + 2 * i) from kk] at fm
      have z' : 1 ≤ (INr (mr h 18) e).toInt := by
        rw [t_lt] at z
        have : ¬ (INr (mr h 18) e).toInt < 1 := z
        omega
      have es : (INr (mr h 18) e - mvK (h 18 (8 + 2 * i))).toInt = (INr (mr h 18) e).toInt - (mvK (h 18 (8 + 2 * i))).toInt := t_sub (by omega) (by omega)
      have rv : ∃ v, (if 0 < INr (mr h 18) e - mvK (h 18 (8 + 2 * i)) then INr (mr h 18) e - mvK (h 18 (8 + 2 * i)) else 0) = v ∧ -40 ≤ v.toInt ∧ v.toInt ≤ 24 := by
        refine ⟨_, rfl, ?_⟩
        split
        · omega
        · decide
      obtain ⟨v, hv, hv2⟩ := rv
      have mb : ∀ h', h' 18 = h 18 → ev mX7_bunches 0 [.ref 18, .int e] [] h' = some (none, st h' 18 (if e = 0 then 1 else 2) v) := by
        intro h' hc
        have d : (if e = 0 then h 18 1 else h 18 2) = INr (mr h 18) e := rfl
        rw [m_bunches rfl he hi (by rw [hc, d]; exact hx), hc, d, i_max0, hv]
      rcases he with rfl | rfl
      · have R2 := R.slot (j := 1) (v := v) (by omega) (ok_upd R.2.1 (by omega) ⟨by omega, fun _ => hv2, by omega, by omega, by omega⟩)
        have ml := R.ml (e := 0) (h' := st h 1 3 v) (st_cell (by omega)) (Or.inl rfl)
        rw [if_neg z] at ml
        have mb1 := mb (st h 1 3 v) (st_cell (by omega))
        refine ⟨v, st h 1 3 v, st (st h 1 3 v) 18 1 v, ?_, ?_, R2⟩
        · simp [le_nl, -Int32.not_lt, eX6_bunch_0, eX6_bunch_1, eX6_bunch_4, eX6_bunch_7, eX6_bunch_8, eX6_bunch_9, eX6_bunch_12, eX6_bunch_13, eX6_bunch_14, eX6_bunch_17, eX6_bunch_18, eX6_bunch_21, eX6_bunch_24, eX6_bunch_25, eX6_bunch_27, eX6_bunch_30, eX6_bunch_31, eX6_bunch_32, eX6_bunch_35, eX6_bunch_36, eX6_bunch_37, eX6_bunch_40, eX6_bunch_41, eX6_bunch_44, eX6_bunch_47, eX6_bunch_48, eX6_bunch_49, eX6_bunch_52, eX6_bunch_53, eX6_bunch_54, eX6_bunch_55, eX6_bunch_58, eX6_bunch_59, eX6_bunch_62, eX6_bunch_63, eX6_bunch_66, eX6_bunch_67, eX6_bunch_70, eX6_bunch_71, eX6_bunch_74, eX6_bunch_77, eX6_bunch_78, eX6_bunch_81, eX6_bunch_82, eX6_bunch_85, f_isEnd, fl, fd, fx, fm, hv, f_place HC1, show lyC 1 = 0 from rfl, show rcv 1 = 0 from rfl]
          simp [f_depth HC1, st_at, eX6_bunch_85]
        · simp [le_nl, -Int32.not_lt, eX7_bunch_0, eX7_bunch_1, eX7_bunch_4, eX7_bunch_7, eX7_bunch_8, eX7_bunch_9, eX7_bunch_12, eX7_bunch_13, eX7_bunch_14, eX7_bunch_17, eX7_bunch_18, eX7_bunch_21, eX7_bunch_24, eX7_bunch_25, eX7_bunch_27, eX7_bunch_30, eX7_bunch_31, eX7_bunch_32, eX7_bunch_35, eX7_bunch_36, eX7_bunch_39, eX7_bunch_40, eX7_bunch_43, eX7_bunch_44, eX7_bunch_45, eX7_bunch_46, eX7_bunch_47, m_isEnd2, ml, mb1, st_at, show lyA 18 = some 32 from rfl]
      · have R2 := R.slot (j := 2) (v := v) (by omega) (ok_upd R.2.1 (by omega) ⟨by omega, fun _ => hv2, by omega, by omega, by omega⟩)
        have ml := R.ml (e := 1) (h' := st h 1 4 v) (st_cell (by omega)) (Or.inr rfl)
        rw [if_neg z] at ml
        have mb1 := mb (st h 1 4 v) (st_cell (by omega))
        refine ⟨v, st h 1 4 v, st (st h 1 4 v) 18 2 v, ?_, ?_, R2⟩
        · simp [le_nl, -Int32.not_lt, eX6_bunch_0, eX6_bunch_1, eX6_bunch_4, eX6_bunch_7, eX6_bunch_8, eX6_bunch_9, eX6_bunch_12, eX6_bunch_13, eX6_bunch_14, eX6_bunch_17, eX6_bunch_18, eX6_bunch_21, eX6_bunch_24, eX6_bunch_25, eX6_bunch_27, eX6_bunch_30, eX6_bunch_31, eX6_bunch_32, eX6_bunch_35, eX6_bunch_36, eX6_bunch_37, eX6_bunch_40, eX6_bunch_41, eX6_bunch_44, eX6_bunch_47, eX6_bunch_48, eX6_bunch_49, eX6_bunch_52, eX6_bunch_53, eX6_bunch_54, eX6_bunch_55, eX6_bunch_58, eX6_bunch_59, eX6_bunch_62, eX6_bunch_63, eX6_bunch_66, eX6_bunch_67, eX6_bunch_70, eX6_bunch_71, eX6_bunch_74, eX6_bunch_77, eX6_bunch_78, eX6_bunch_81, eX6_bunch_82, eX6_bunch_85, f_isEnd, fl, fd, fx, fm, hv, f_place HC1, show lyC 1 = 0 from rfl, show rcv 1 = 0 from rfl]
          simp [f_depth HC1, st_at, eX6_bunch_85]
        · simp [le_nl, -Int32.not_lt, eX7_bunch_0, eX7_bunch_1, eX7_bunch_4, eX7_bunch_7, eX7_bunch_8, eX7_bunch_9, eX7_bunch_12, eX7_bunch_13, eX7_bunch_14, eX7_bunch_17, eX7_bunch_18, eX7_bunch_21, eX7_bunch_24, eX7_bunch_25, eX7_bunch_27, eX7_bunch_30, eX7_bunch_31, eX7_bunch_32, eX7_bunch_35, eX7_bunch_36, eX7_bunch_39, eX7_bunch_40, eX7_bunch_43, eX7_bunch_44, eX7_bunch_45, eX7_bunch_46, eX7_bunch_47, m_isEnd2, ml, mb1, st_at, show lyA 18 = some 32 from rfl]
  · exact rf_both R (k := 1) (w := 1000000001) (by omega) (by simp [le_nl, -Int32.not_lt, eX6_bunch_0, eX6_bunch_1, eX6_bunch_4, eX6_bunch_7, eX6_bunch_8, eX6_bunch_9, eX6_bunch_12, eX6_bunch_13, eX6_bunch_14, eX6_bunch_17, eX6_bunch_18, eX6_bunch_21, eX6_bunch_24, eX6_bunch_25, eX6_bunch_27, eX6_bunch_30, eX6_bunch_31, eX6_bunch_32, eX6_bunch_35, eX6_bunch_36, eX6_bunch_37, eX6_bunch_40, eX6_bunch_41, eX6_bunch_44, eX6_bunch_47, eX6_bunch_48, eX6_bunch_49, eX6_bunch_52, eX6_bunch_53, eX6_bunch_54, eX6_bunch_55, eX6_bunch_58, eX6_bunch_59, eX6_bunch_62, eX6_bunch_63, eX6_bunch_66, eX6_bunch_67, eX6_bunch_70, eX6_bunch_71, eX6_bunch_74, eX6_bunch_77, eX6_bunch_78, eX6_bunch_81, eX6_bunch_82, eX6_bunch_85, f_isEnd, he, f_refuseT]) (by simp [le_nl, -Int32.not_lt, eX7_bunch_0, eX7_bunch_1, eX7_bunch_4, eX7_bunch_7, eX7_bunch_8, eX7_bunch_9, eX7_bunch_12, eX7_bunch_13, eX7_bunch_14, eX7_bunch_17, eX7_bunch_18, eX7_bunch_21, eX7_bunch_24, eX7_bunch_25, eX7_bunch_27, eX7_bunch_30, eX7_bunch_31, eX7_bunch_32, eX7_bunch_35, eX7_bunch_36, eX7_bunch_39, eX7_bunch_40, eX7_bunch_43, eX7_bunch_44, eX7_bunch_45, eX7_bunch_46, eX7_bunch_47, m_isEnd2, he, m_noFar])
theorem s_anew : Sim [] [] mX6_anew mX7_anew := by
  intro h R
  have R2 := R.dd (a := -8) (b := -8) (by decide) (by decide)
  have h1 : hm (dep h 1 (-8) (-8)) 1 = setD (mr h 18) (-8) (-8) := by rw [hm_dep, R.1]
  have f1 := f_threadAnew (h := h) HC1
  rw [show st (st h 1 3 (-8)) 1 4 (-8) = dep h 1 (-8) (-8) from rfl] at f1
  have f2 := f_secondsAnew (h := dep h 1 (-8) (-8)) (x := h 18 6) HC1 (by rw [h1]; exact ok_setD R.2.1 (by decide) (by decide))
  rw [h1, anSec_setD] at f2
  have m1 := m_threads (r := 18) (h := dep h 1 (-8) (-8)) rfl
  rw [show st (st (dep h 1 (-8) (-8)) 18 1 (-8)) 18 2 (-8) = dpm (dep h 1 (-8) (-8)) 18 (-8) (-8) from rfl] at m1
  have m18 : mr (dpm (dep h 1 (-8) (-8)) 18 (-8) (-8)) 18 = setD (mr h 18) (-8) (-8) := by rw [mr_dpm, mr_cell (dep_cell (by omega))]
  have m2 := m_anewSeconds (r := 18) (h := dpm (dep h 1 (-8) (-8)) 18 (-8) (-8)) rfl R2.2.1
  rw [m18, anSec_setD] at m2
  have p1 : dep h 1 (-8) (-8) 1 8 = h 18 6 := by rw [dep_c (by omega) (by omega)]; exact R.s6
  have p2 : setD (mr h 18) (-8) (-8) 6 = h 18 6 := rfl
  rw [p2] at m2
  exact ⟨anSec (mr h 18) (h 18 6), dep h 1 (-8) (-8), dpm (dep h 1 (-8) (-8)) 18 (-8) (-8), by simp [le_nl, -Int32.not_lt, eX6_anew_0, eX6_anew_1, eX6_anew_4, eX6_anew_7, eX6_anew_8, eX6_anew_11, eX6_anew_12, eX6_anew_15, eX6_anew_18, eX6_anew_21, f1, p1, f2, show lyC 1 = 0 from rfl, show rcv 1 = 0 from rfl], by simp [le_nl, -Int32.not_lt, eX7_anew_0, eX7_anew_1, eX7_anew_4, eX7_anew_7, eX7_anew_8, eX7_anew_11, eX7_anew_14, m1, m2], R2⟩
theorem n_of {x : Int32} {A B : Nat} (h1 : (A : Int) ≤ x.toInt) (h2 : x.toInt ≤ (B : Int)) : ∃ k : Nat, A ≤ k ∧ k ≤ B ∧ x = nI k := ⟨x.toInt.toNat, by omega, by omega, nI_nat (by omega)⟩
theorem lost_ite (z : Int32) : (if (0 : Int32) < z then (1 : Int32) else 0) = (if z < 1 then 0 else 1) := by
  by_cases y : z < 1
  · rw [if_pos y, if_neg (fun q => lost_not.mp q y)]
  · rw [if_neg y, if_pos (lost_not.mpr y)]
theorem s_wash {n : Int32} : Sim [.int n, .null] [.int n] mX6_wash mX7_wash := by
  intro h R
  by_cases h1 : n < 1
  · exact rf_both R (k := 4) (w := -4) (by omega) (by simp [le_nl, -Int32.not_lt, eX6_wash_0, eX6_wash_1, eX6_wash_2, eX6_wash_4, eX6_wash_7, eX6_wash_8, eX6_wash_9, eX6_wash_12, eX6_wash_13, eX6_wash_14, eX6_wash_17, eX6_wash_18, eX6_wash_19, eX6_wash_22, eX6_wash_23, eX6_wash_26, eX6_wash_27, eX6_wash_30, eX6_wash_33, f_outside, h1, f_refuse]) (by simp [le_nl, -Int32.not_lt, eX7_wash_0, eX7_wash_1, eX7_wash_2, eX7_wash_5, eX7_wash_6, eX7_wash_8, eX7_wash_11, eX7_wash_12, eX7_wash_13, eX7_wash_15, eX7_wash_18, eX7_wash_19, eX7_wash_21, eX7_wash_24, eX7_wash_25, eX7_wash_26, eX7_wash_29, eX7_wash_30, eX7_wash_33, eX7_wash_34, eX7_wash_37, eX7_wash_40, h1, m_no])
  · by_cases h2 : 40 < n
    · exact rf_both R (k := 6) (w := -6) (by omega) (by simp [le_nl, -Int32.not_lt, eX6_wash_0, eX6_wash_1, eX6_wash_2, eX6_wash_4, eX6_wash_7, eX6_wash_8, eX6_wash_9, eX6_wash_12, eX6_wash_13, eX6_wash_14, eX6_wash_17, eX6_wash_18, eX6_wash_19, eX6_wash_22, eX6_wash_23, eX6_wash_26, eX6_wash_27, eX6_wash_30, eX6_wash_33, f_outside, h1, h2, f_refuse]) (by simp [le_nl, -Int32.not_lt, eX7_wash_0, eX7_wash_1, eX7_wash_2, eX7_wash_5, eX7_wash_6, eX7_wash_8, eX7_wash_11, eX7_wash_12, eX7_wash_13, eX7_wash_15, eX7_wash_18, eX7_wash_19, eX7_wash_21, eX7_wash_24, eX7_wash_25, eX7_wash_26, eX7_wash_29, eX7_wash_30, eX7_wash_33, eX7_wash_34, eX7_wash_37, eX7_wash_40, h1, h2, m_no])
    · obtain ⟨k, hk1, hk2, rfl⟩ := n_of (A := 1) (B := 40) (lit_le rfl rfl h1 h2).1 (lit_le rfl rfl h1 h2).2
      have f1 := f_washTimes (h := h) (N := k) HC1 (by omega) R.ok1
      rw [R.1] at f1
      have po := wsN_ok (n := k) R.2.1
      obtain ⟨-, p1, p2, -⟩ := id po
      generalize ha : wsN (mr h 18) k 1 = a at *
      generalize hb : wsN (mr h 18) k 2 = b at *
      have m1 : mr (dep h 1 a b) 18 = mr h 18 := mr_cell (dep_cell (by omega))
      have mp := m_washesOn (r := 18) (h := dep h 1 a b) (N := k) rfl (by omega) (by rw [m1]; exact R.2.1)
      rw [m1, ha, hb] at mp
      have f2 := f_lostEnds (h := dep h 1 a b) HC1
      rw [dep3, dep4] at f2
      have m2 := m_lostMany (r := 18) (h := dpm (dep h 1 a b) 18 a b) rfl
      have d1 : dpm (dep h 1 a b) 18 a b 18 1 = a := by simp [dpm, st_at]
      have d2 : dpm (dep h 1 a b) 18 a b 18 2 = b := by simp [dpm, st_at]
      rw [d1, d2, lost_ite, lost_ite] at m2
      exact ⟨(if a < 1 then 0 else 1) + (if b < 1 then 0 else 1), dep h 1 a b, dpm (dep h 1 a b) 18 a b, by simp [le_nl, -Int32.not_lt, eX6_wash_0, eX6_wash_1, eX6_wash_2, eX6_wash_4, eX6_wash_7, eX6_wash_8, eX6_wash_9, eX6_wash_12, eX6_wash_13, eX6_wash_14, eX6_wash_17, eX6_wash_18, eX6_wash_19, eX6_wash_22, eX6_wash_23, eX6_wash_26, eX6_wash_27, eX6_wash_30, eX6_wash_33, f_outside, h1, h2, f1, f2, show lyC 1 = 0 from rfl, show rcv 1 = 0 from rfl], by simp [le_nl, -Int32.not_lt, eX7_wash_0, eX7_wash_1, eX7_wash_2, eX7_wash_5, eX7_wash_6, eX7_wash_8, eX7_wash_11, eX7_wash_12, eX7_wash_13, eX7_wash_15, eX7_wash_18, eX7_wash_19, eX7_wash_21, eX7_wash_24, eX7_wash_25, eX7_wash_26, eX7_wash_29, eX7_wash_30, eX7_wash_33, eX7_wash_34, eX7_wash_37, eX7_wash_40, h1, h2, mp, m2], R.dd p1 p2⟩
end CALLS5

/-! THE MODEL's methods on a row of 32 at cell r -/
theorem ix8 {k : Nat} (hk : k < 12) : ¬ (8 : Int32) + 2 * nI k < 0 ∧ ((8 : Int32) + 2 * nI k).toNatClampNeg = 8 + 2 * k ∧ ¬ (8 : Int32) + 2 * nI k + 1 < 0 ∧ ((8 : Int32) + 2 * nI k + 1).toNatClampNeg = 9 + 2 * k ∧ ¬ 32 ≤ 8 + 2 * k ∧ ¬ 32 ≤ 9 + 2 * k := by
  have h : ∀ k, k < 12 → (¬ (8 : Int32) + 2 * nI k < 0 ∧ ((8 : Int32) + 2 * nI k).toNatClampNeg = 8 + 2 * k ∧ ¬ (8 : Int32) + 2 * nI k + 1 < 0 ∧ ((8 : Int32) + 2 * nI k + 1).toNatClampNeg = 9 + 2 * k) := by decide
  obtain ⟨a, b, c, d⟩ := h k hk
  exact ⟨a, b, c, d, by omega, by omega⟩
section MOD
variable {r : Nat} {h : Sto} {k : Nat} {x y z v w e d n : Int32}
theorem m_isIn : ev mX7_isIn 0 [.int x, .int y, .int z] [] h = some (some (.int (if x < y then 0 else if z < x then 0 else 1)), h) := by
  by_cases h1 : x < y
  · simp [eX7_isIn_0, eX7_isIn_1, eX7_isIn_2, eX7_isIn_5, eX7_isIn_6, eX7_isIn_7, eX7_isIn_10, eX7_isIn_11, eX7_isIn_14, eX7_isIn_15, h1]
  · by_cases h2 : z < x
    · simp [eX7_isIn_0, eX7_isIn_1, eX7_isIn_2, eX7_isIn_5, eX7_isIn_6, eX7_isIn_7, eX7_isIn_10, eX7_isIn_11, eX7_isIn_14, eX7_isIn_15, h1, h2]
    · simp [eX7_isIn_0, eX7_isIn_1, eX7_isIn_2, eX7_isIn_5, eX7_isIn_6, eX7_isIn_7, eX7_isIn_10, eX7_isIn_11, eX7_isIn_14, eX7_isIn_15, h1, h2]
theorem m_least : ev mX7_least 0 [.int x, .int y] [] h = some (some (.int (if x < y then x else y)), h) := by
  by_cases h1 : x < y
  · have h1' : ¬ y ≤ x := Int32.not_le.mpr h1
    simp [eX7_least_0, eX7_least_1, eX7_least_2, eX7_least_5, eX7_least_6, eX7_least_9, eX7_least_10, h1, h1']
  · have h1' : y ≤ x := Int32.not_lt.mp h1
    simp [eX7_least_0, eX7_least_1, eX7_least_2, eX7_least_5, eX7_least_6, eX7_least_9, eX7_least_10, h1, h1']
theorem m_most : ev mX7_most 0 [.int x, .int y] [] h = some (some (.int (if y < x then x else y)), h) := by
  by_cases h1 : y < x
  · have h1' : ¬ x ≤ y := Int32.not_le.mpr h1
    simp [eX7_most_0, eX7_most_1, eX7_most_2, eX7_most_5, eX7_most_6, eX7_most_9, eX7_most_10, h1, h1']
  · have h1' : x ≤ y := Int32.not_lt.mp h1
    simp [eX7_most_0, eX7_most_1, eX7_most_2, eX7_most_5, eX7_most_6, eX7_most_9, eX7_most_10, h1, h1']
theorem m_isEnd : ev mX7_isEnd 0 [.int x] [] h = some (some (.int (if x < 0 then 0 else if 1 < x then 0 else 1)), h) := by
  simp [eX7_isEnd_0, eX7_isEnd_1, eX7_isEnd_2, eX7_isEnd_3, eX7_isEnd_6, m_isIn]
  by_cases h1 : x < 0
  · have h1' : ¬ 0 ≤ x := Int32.not_le.mpr h1
    simp [h1, h1']
  · by_cases h2 : 1 < x <;> simp [h1, h2]
theorem m_kindOf (hr : lyA r = some 32) (hk : k < 12) : ev mX7_kindOf 0 [.ref r, .int (nI k)] [] h = some (some (.int (h r (8 + 2 * k))), h) := by
  obtain ⟨a, b, c, d, e, f⟩ := ix8 hk
  simp [eX7_kindOf_0, eX7_kindOf_1, eX7_kindOf_3, eX7_kindOf_4, eX7_kindOf_5, eX7_kindOf_6, eX7_kindOf_7, eX7_kindOf_8, hr, a, b, e]
theorem m_figureOf (hr : lyA r = some 32) (hk : k < 12) : ev mX7_figureOf 0 [.ref r, .int (nI k)] [] h = some (some (.int (h r (9 + 2 * k))), h) := by
  obtain ⟨a, b, c, d, e, f⟩ := ix8 hk
  simp [eX7_figureOf_0, eX7_figureOf_1, eX7_figureOf_3, eX7_figureOf_4, eX7_figureOf_5, eX7_figureOf_6, eX7_figureOf_7, eX7_figureOf_8, eX7_figureOf_9, eX7_figureOf_10, hr, c, d, f]
theorem m_isSeam : ev mX7_isSeam 0 [.int x] [] h = some (some (.int (smK x)), h) := by
  unfold smK
  by_cases h1 : x = 1
  · simp [eX7_isSeam_0, eX7_isSeam_1, eX7_isSeam_2, eX7_isSeam_5, eX7_isSeam_6, eX7_isSeam_7, eX7_isSeam_10, eX7_isSeam_11, eX7_isSeam_12, eX7_isSeam_15, eX7_isSeam_16, eX7_isSeam_19, eX7_isSeam_20, h1]
  · by_cases h2 : x = 3
    · simp [eX7_isSeam_0, eX7_isSeam_1, eX7_isSeam_2, eX7_isSeam_5, eX7_isSeam_6, eX7_isSeam_7, eX7_isSeam_10, eX7_isSeam_11, eX7_isSeam_12, eX7_isSeam_15, eX7_isSeam_16, eX7_isSeam_19, eX7_isSeam_20, h1, h2]
    · by_cases h3 : x = 5 <;> simp [eX7_isSeam_0, eX7_isSeam_1, eX7_isSeam_2, eX7_isSeam_5, eX7_isSeam_6, eX7_isSeam_7, eX7_isSeam_10, eX7_isSeam_11, eX7_isSeam_12, eX7_isSeam_15, eX7_isSeam_16, eX7_isSeam_19, eX7_isSeam_20, h1, h2, h3]
theorem m_movesAt (hr : lyA r = some 32) (hk : k < 12) : ev mX7_movesAt 0 [.ref r, .int (nI k), .null] [] h = some (some (.int (mvK (h r (8 + 2 * k)))), h) := by
  simp only [eX7_movesAt_0, eX7_movesAt_1, eX7_movesAt_2, eX7_movesAt_5, eX7_movesAt_6, eX7_movesAt_7, eX7_movesAt_8, eX7_movesAt_11, eX7_movesAt_12, eX7_movesAt_15, eX7_movesAt_16, eX7_movesAt_19, eX7_movesAt_22, eX7_movesAt_23, eX7_movesAt_26, eX7_movesAt_27, eX7_movesAt_28, eX7_movesAt_31, eX7_movesAt_32, eX7_movesAt_35, eX7_movesAt_36, m_kindOf hr hk, m_isSeam, Option.bind_some, Option.toList_some, List.cons_append, List.nil_append]
  generalize h r (8 + 2 * k) = q
  unfold mvK smK
  by_cases h1 : q = 1
  · simp [h1]
  · by_cases h2 : q = 3
    · simp [h2]
    · by_cases h3 : q = 5
      · simp [h3]
      · by_cases h4 : q = 2 <;> simp [h1, h2, h3, h4]
theorem m_bunchAt (hr : lyA r = some 32) (hk : k < 12) : ev mX7_bunchAt 0 [.ref r, .int (nI k), .null] [] h = some (some (.int (bsK (h r (8 + 2 * k)) (h r (9 + 2 * k)))), h) := by
  simp only [eX7_bunchAt_0, eX7_bunchAt_1, eX7_bunchAt_2, eX7_bunchAt_5, eX7_bunchAt_6, eX7_bunchAt_7, eX7_bunchAt_10, eX7_bunchAt_13, eX7_bunchAt_14, eX7_bunchAt_17, eX7_bunchAt_18, eX7_bunchAt_19, eX7_bunchAt_22, eX7_bunchAt_23, eX7_bunchAt_24, eX7_bunchAt_25, eX7_bunchAt_28, eX7_bunchAt_29, eX7_bunchAt_32, eX7_bunchAt_33, m_kindOf hr hk, m_figureOf hr hk, m_isSeam, Option.bind_some, Option.toList_some, List.cons_append, List.nil_append]
  generalize h r (8 + 2 * k) = q
  unfold bsK smK
  by_cases h1 : q = 1
  · simp [h1]
  · by_cases h2 : q = 3
    · simp [h2]
    · by_cases h3 : q = 5
      · simp [h3]
      · by_cases h4 : q = 4 <;> simp [h1, h2, h3, h4]
theorem m_threadAt (hr : lyA r = some 32) (hk : k < 12) : ev mX7_threadAt 0 [.ref r, .int (nI k), .null] [] h = some (some (.int (thK (h r (8 + 2 * k)) (h r (9 + 2 * k)))), h) := by
  simp only [eX7_threadAt_0, eX7_threadAt_1, eX7_threadAt_2, eX7_threadAt_5, eX7_threadAt_6, eX7_threadAt_7, eX7_threadAt_8, eX7_threadAt_11, eX7_threadAt_13, eX7_threadAt_14, eX7_threadAt_15, eX7_threadAt_18, eX7_threadAt_19, eX7_threadAt_22, eX7_threadAt_23, eX7_threadAt_26, eX7_threadAt_29, eX7_threadAt_31, eX7_threadAt_34, eX7_threadAt_35, eX7_threadAt_36, eX7_threadAt_39, eX7_threadAt_41, eX7_threadAt_44, eX7_threadAt_45, m_kindOf hr hk, m_figureOf hr hk, m_isSeam, Option.bind_some, Option.toList_some, List.cons_append, List.nil_append]
  generalize h r (8 + 2 * k) = q
  unfold thK smK
  by_cases h1 : q = 1
  · simp [h1]
  · by_cases h2 : q = 3
    · simp [h2]
    · by_cases h3 : q = 5
      · simp [h3]
      · by_cases h4 : q = 4 <;> simp [h1, h2, h3, h4]
theorem m_drawsAt (hr : lyA r = some 32) (hk : k < 12) : ev mX7_drawsAt 0 [.ref r, .int (nI k), .null] [] h = some (some (.int (drK (h r (8 + 2 * k)) (h r 7))), h) := by
  simp only [eX7_drawsAt_0, eX7_drawsAt_1, eX7_drawsAt_2, eX7_drawsAt_5, eX7_drawsAt_6, eX7_drawsAt_7, eX7_drawsAt_8, eX7_drawsAt_11, eX7_drawsAt_12, eX7_drawsAt_15, eX7_drawsAt_16, eX7_drawsAt_19, eX7_drawsAt_22, eX7_drawsAt_23, eX7_drawsAt_25, eX7_drawsAt_26, eX7_drawsAt_27, eX7_drawsAt_28, eX7_drawsAt_31, eX7_drawsAt_32, eX7_drawsAt_33, eX7_drawsAt_36, eX7_drawsAt_37, eX7_drawsAt_39, eX7_drawsAt_40, eX7_drawsAt_41, eX7_drawsAt_42, eX7_drawsAt_45, eX7_drawsAt_46, eX7_drawsAt_48, eX7_drawsAt_49, m_kindOf hr hk, m_isSeam, hr, Option.bind_some, Option.toList_some, List.cons_append, List.nil_append]
  generalize h r (8 + 2 * k) = q
  unfold drK smK
  by_cases h1 : q = 1
  · simp [h1]
  · by_cases h2 : q = 3
    · simp [h2]
    · by_cases h3 : q = 5
      · simp [h3]
      · by_cases h4 : q = 2 <;> simp [h1, h2, h3, h4]
theorem m_threadBy (hr : lyA r = some 32) (hk : k < 12) : ev mX7_threadBy 0 [.ref r, .int (nI k)] [] h = some (some (.int (thB (mr h r) (h r 6) k)), h) := by
  unfold thB
  rw [mr_k hk, mr_f hk]
  simp [eX7_threadBy_0, eX7_threadBy_1, eX7_threadBy_2, eX7_threadBy_5, eX7_threadBy_6, eX7_threadBy_7, eX7_threadBy_10, eX7_threadBy_13, eX7_threadBy_16, eX7_threadBy_18, eX7_threadBy_19, eX7_threadBy_21, eX7_threadBy_22, eX7_threadBy_23, eX7_threadBy_26, eX7_threadBy_27, eX7_threadBy_28, m_kindOf hr hk, m_threadAt hr hk, m_isSeam, hr]
  split <;> simp
theorem m_inchOf (hr : lyA r = some 32) (he : e = 0 ∨ e = 1) : ev mX7_inchOf 0 [.ref r, .int e, .null] [] h = some (some (.int (ichD (h r 0) e (if e = 0 then h r 1 else h r 2))), h) := by
  unfold ichD
  rcases he with rfl | rfl
  · by_cases h1 : h r 1 < 1
    · have h1' : ¬ 1 ≤ h r 1 := Int32.not_le.mpr h1
      simp [eX7_inchOf_0, eX7_inchOf_1, eX7_inchOf_2, eX7_inchOf_3, eX7_inchOf_4, eX7_inchOf_5, eX7_inchOf_6, eX7_inchOf_9, eX7_inchOf_10, eX7_inchOf_13, eX7_inchOf_14, eX7_inchOf_15, eX7_inchOf_16, eX7_inchOf_17, eX7_inchOf_18, eX7_inchOf_19, eX7_inchOf_20, eX7_inchOf_21, eX7_inchOf_22, eX7_inchOf_23, eX7_inchOf_24, eX7_inchOf_25, eX7_inchOf_26, eX7_inchOf_27, eX7_inchOf_30, eX7_inchOf_31, eX7_inchOf_32, eX7_inchOf_35, eX7_inchOf_36, eX7_inchOf_39, eX7_inchOf_40, eX7_inchOf_41, eX7_inchOf_42, eX7_inchOf_43, eX7_inchOf_44, eX7_inchOf_45, eX7_inchOf_46, hr, h1, h1']
    · have h1' : 1 ≤ h r 1 := Int32.not_lt.mp h1
      simp [eX7_inchOf_0, eX7_inchOf_1, eX7_inchOf_2, eX7_inchOf_3, eX7_inchOf_4, eX7_inchOf_5, eX7_inchOf_6, eX7_inchOf_9, eX7_inchOf_10, eX7_inchOf_13, eX7_inchOf_14, eX7_inchOf_15, eX7_inchOf_16, eX7_inchOf_17, eX7_inchOf_18, eX7_inchOf_19, eX7_inchOf_20, eX7_inchOf_21, eX7_inchOf_22, eX7_inchOf_23, eX7_inchOf_24, eX7_inchOf_25, eX7_inchOf_26, eX7_inchOf_27, eX7_inchOf_30, eX7_inchOf_31, eX7_inchOf_32, eX7_inchOf_35, eX7_inchOf_36, eX7_inchOf_39, eX7_inchOf_40, eX7_inchOf_41, eX7_inchOf_42, eX7_inchOf_43, eX7_inchOf_44, eX7_inchOf_45, eX7_inchOf_46, hr, h1, h1', m_least]
  · by_cases h1 : h r 2 < 1
    · have h1' : ¬ 1 ≤ h r 2 := Int32.not_le.mpr h1
      simp [eX7_inchOf_0, eX7_inchOf_1, eX7_inchOf_2, eX7_inchOf_3, eX7_inchOf_4, eX7_inchOf_5, eX7_inchOf_6, eX7_inchOf_9, eX7_inchOf_10, eX7_inchOf_13, eX7_inchOf_14, eX7_inchOf_15, eX7_inchOf_16, eX7_inchOf_17, eX7_inchOf_18, eX7_inchOf_19, eX7_inchOf_20, eX7_inchOf_21, eX7_inchOf_22, eX7_inchOf_23, eX7_inchOf_24, eX7_inchOf_25, eX7_inchOf_26, eX7_inchOf_27, eX7_inchOf_30, eX7_inchOf_31, eX7_inchOf_32, eX7_inchOf_35, eX7_inchOf_36, eX7_inchOf_39, eX7_inchOf_40, eX7_inchOf_41, eX7_inchOf_42, eX7_inchOf_43, eX7_inchOf_44, eX7_inchOf_45, eX7_inchOf_46, hr, h1, h1']
    · have h1' : 1 ≤ h r 2 := Int32.not_lt.mp h1
      simp [eX7_inchOf_0, eX7_inchOf_1, eX7_inchOf_2, eX7_inchOf_3, eX7_inchOf_4, eX7_inchOf_5, eX7_inchOf_6, eX7_inchOf_9, eX7_inchOf_10, eX7_inchOf_13, eX7_inchOf_14, eX7_inchOf_15, eX7_inchOf_16, eX7_inchOf_17, eX7_inchOf_18, eX7_inchOf_19, eX7_inchOf_20, eX7_inchOf_21, eX7_inchOf_22, eX7_inchOf_23, eX7_inchOf_24, eX7_inchOf_25, eX7_inchOf_26, eX7_inchOf_27, eX7_inchOf_30, eX7_inchOf_31, eX7_inchOf_32, eX7_inchOf_35, eX7_inchOf_36, eX7_inchOf_39, eX7_inchOf_40, eX7_inchOf_41, eX7_inchOf_42, eX7_inchOf_43, eX7_inchOf_44, eX7_inchOf_45, eX7_inchOf_46, hr, h1, h1', m_least]
theorem m_isLost (hr : lyA r = some 32) (he : e = 0 ∨ e = 1) : ev mX7_isLost 0 [.ref r, .int e] [] h = some (some (.int (if 0 < (if e = 0 then h r 1 else h r 2) then 1 else 0)), h) := by
  rcases he with rfl | rfl
  · by_cases h1 : 0 < h r 1
    · simp [eX7_isLost_0, eX7_isLost_1, eX7_isLost_2, eX7_isLost_3, eX7_isLost_4, eX7_isLost_5, eX7_isLost_8, eX7_isLost_9, eX7_isLost_12, eX7_isLost_13, hr, h1]
    · simp [eX7_isLost_0, eX7_isLost_1, eX7_isLost_2, eX7_isLost_3, eX7_isLost_4, eX7_isLost_5, eX7_isLost_8, eX7_isLost_9, eX7_isLost_12, eX7_isLost_13, hr, h1]
  · by_cases h1 : 0 < h r 2
    · simp [eX7_isLost_0, eX7_isLost_1, eX7_isLost_2, eX7_isLost_3, eX7_isLost_4, eX7_isLost_5, eX7_isLost_8, eX7_isLost_9, eX7_isLost_12, eX7_isLost_13, hr, h1]
    · simp [eX7_isLost_0, eX7_isLost_1, eX7_isLost_2, eX7_isLost_3, eX7_isLost_4, eX7_isLost_5, eX7_isLost_8, eX7_isLost_9, eX7_isLost_12, eX7_isLost_13, hr, h1]
theorem m_lostMany (hr : lyA r = some 32) : ev mX7_lostMany 0 [.ref r] [] h = some (some (.int ((if 0 < h r 1 then 1 else 0) + (if 0 < h r 2 then 1 else 0))), h) := by
  simp only [eX7_lostMany_0, eX7_lostMany_1, eX7_lostMany_2, eX7_lostMany_5, eX7_lostMany_8, eX7_lostMany_9, eX7_lostMany_12, eX7_lostMany_13, eX7_lostMany_14, eX7_lostMany_15, eX7_lostMany_18, eX7_lostMany_21, eX7_lostMany_22, eX7_lostMany_25, eX7_lostMany_26, eX7_lostMany_27, m_isLost hr (Or.inl rfl), m_isLost hr (Or.inr rfl), Option.bind_some, Option.toList_some, List.cons_append, List.nil_append]
  by_cases h1 : 0 < h r 1 <;> by_cases h2 : 0 < h r 2 <;> simp [h1, h2]
theorem m_threads (hr : lyA r = some 32) : ev mX7_threads 0 [.ref r] [] h = some (none, st (st h r 1 (-8)) r 2 (-8)) := by
  simp [eX7_threads_0, eX7_threads_1, eX7_threads_2, eX7_threads_4, eX7_threads_5, eX7_threads_6, eX7_threads_7, eX7_threads_9, eX7_threads_10, hr]
theorem cpl_mod {sw own oth kn n : Int32} (hs : sw = 0 ∨ sw = 1) (hk : kn = 0 ∨ kn = 1) (h1 : -40 ≤ own.toInt ∧ own.toInt ≤ 24) (h2 : -40 ≤ oth.toInt ∧ oth.toInt ≤ 24) (hn : 0 ≤ n.toInt) : (if sw = 1 then 0 else (if (if n < (if own - -40 < (if kn = 1 then (if -oth < 0 then 0 else -oth) else 24 - oth) then own - -40 else (if kn = 1 then (if -oth < 0 then 0 else -oth) else 24 - oth)) then n else (if own - -40 < (if kn = 1 then (if -oth < 0 then 0 else -oth) else 24 - oth) then own - -40 else (if kn = 1 then (if -oth < 0 then 0 else -oth) else 24 - oth))) < 0 then 0 else (if n < (if own - -40 < (if kn = 1 then (if -oth < 0 then 0 else -oth) else 24 - oth) then own - -40 else (if kn = 1 then (if -oth < 0 then 0 else -oth) else 24 - oth)) then n else (if own - -40 < (if kn = 1 then (if -oth < 0 then 0 else -oth) else 24 - oth) then own - -40 else (if kn = 1 then (if -oth < 0 then 0 else -oth) else 24 - oth))))) = cplV sw own oth kn n := by
  have eA : (own - -40).toInt = own.toInt + 40 := by
    rw [t_sub (by show _ ≤ own.toInt - -40; omega) (by show own.toInt - -40 < _; omega)]
    show own.toInt - -40 = _
    omega
  have eB : ((24 : Int32) - oth).toInt = 24 - oth.toInt := t_sub (by show _ ≤ 24 - oth.toInt; omega) (by show 24 - oth.toInt < _; omega)
  have eN : (-oth).toInt = -oth.toInt := t_neg (by omega)
  have eZ : ((0 : Int32) - oth).toInt = -oth.toInt := by
    rw [t_sub (by show _ ≤ 0 - oth.toInt; omega) (by show 0 - oth.toInt < _; omega)]
    show 0 - oth.toInt = _
    omega
  have e0 : (0 : Int32).toInt = 0 := rfl
  have f01 : ((0 : Int32) = 1) = False := eq_false (by decide)
  have f10 : ((1 : Int32) = 0) = False := eq_false (by decide)
  unfold cplV
  rcases hs with rfl | rfl
  · rcases hk with rfl | rfl
    · simp only [f01, f10, ↓reduceIte]
      apply t_eq.mpr
      generalize own - -40 = A at *
      generalize (24 : Int32) - oth = B at *
      simp only [apply_ite Int32.toInt, t_lt, eA, eB, e0]
      repeat' split
      all_goals omega
    · simp only [f01, f10, ↓reduceIte]
      apply t_eq.mpr
      generalize own - -40 = A at *
      generalize (0 : Int32) - oth = B at *
      generalize -oth = C at *
      simp only [apply_ite Int32.toInt, t_lt, eA, eN, eZ, e0]
      repeat' split
      all_goals omega
  · simp only [f01, f10, ↓reduceIte]
theorem m_canPull (hr : lyA r = some 32) (ok : Ok (mr h r)) (hn : 0 ≤ n.toInt) (he : e = 0 ∨ e = 1) : ev mX7_canPull 0 [.ref r, .int e, .int n, .null, .null] [] h = some (some (.int (cpl (mr h r) e n)), h) := by
  obtain ⟨-, o1, o2, o3, o4, o5, -⟩ := ok
  rw [mr_lo (by omega)] at o1 o2 o3 o4 o5
  unfold cpl
  rw [mr_lo (by omega), mr_lo (by omega), mr_lo (by omega), mr_lo (by omega), mr_lo (by omega)]
  rcases he with rfl | rfl
  · rw [if_pos rfl, if_pos rfl, if_pos rfl, ← cpl_mod o5 o4 o1 o2 hn]
    by_cases h5 : h r 5 = 1
    · simp [eX7_canPull_0, eX7_canPull_1, eX7_canPull_2, eX7_canPull_3, eX7_canPull_4, eX7_canPull_7, eX7_canPull_8, eX7_canPull_9, eX7_canPull_10, eX7_canPull_11, eX7_canPull_12, eX7_canPull_13, eX7_canPull_14, eX7_canPull_15, eX7_canPull_16, eX7_canPull_17, eX7_canPull_18, eX7_canPull_19, eX7_canPull_20, eX7_canPull_21, eX7_canPull_24, eX7_canPull_25, eX7_canPull_26, eX7_canPull_27, eX7_canPull_30, eX7_canPull_33, eX7_canPull_35, eX7_canPull_36, eX7_canPull_37, eX7_canPull_39, eX7_canPull_40, eX7_canPull_41, eX7_canPull_42, eX7_canPull_43, eX7_canPull_44, eX7_canPull_45, eX7_canPull_46, eX7_canPull_48, eX7_canPull_49, eX7_canPull_51, eX7_canPull_54, eX7_canPull_57, eX7_canPull_60, hr, h5]
    · by_cases h4 : h r 4 = 1
      · simp [eX7_canPull_0, eX7_canPull_1, eX7_canPull_2, eX7_canPull_3, eX7_canPull_4, eX7_canPull_7, eX7_canPull_8, eX7_canPull_9, eX7_canPull_10, eX7_canPull_11, eX7_canPull_12, eX7_canPull_13, eX7_canPull_14, eX7_canPull_15, eX7_canPull_16, eX7_canPull_17, eX7_canPull_18, eX7_canPull_19, eX7_canPull_20, eX7_canPull_21, eX7_canPull_24, eX7_canPull_25, eX7_canPull_26, eX7_canPull_27, eX7_canPull_30, eX7_canPull_33, eX7_canPull_35, eX7_canPull_36, eX7_canPull_37, eX7_canPull_39, eX7_canPull_40, eX7_canPull_41, eX7_canPull_42, eX7_canPull_43, eX7_canPull_44, eX7_canPull_45, eX7_canPull_46, eX7_canPull_48, eX7_canPull_49, eX7_canPull_51, eX7_canPull_54, eX7_canPull_57, eX7_canPull_60, hr, h5, h4, m_least, m_most]
      · simp [eX7_canPull_0, eX7_canPull_1, eX7_canPull_2, eX7_canPull_3, eX7_canPull_4, eX7_canPull_7, eX7_canPull_8, eX7_canPull_9, eX7_canPull_10, eX7_canPull_11, eX7_canPull_12, eX7_canPull_13, eX7_canPull_14, eX7_canPull_15, eX7_canPull_16, eX7_canPull_17, eX7_canPull_18, eX7_canPull_19, eX7_canPull_20, eX7_canPull_21, eX7_canPull_24, eX7_canPull_25, eX7_canPull_26, eX7_canPull_27, eX7_canPull_30, eX7_canPull_33, eX7_canPull_35, eX7_canPull_36, eX7_canPull_37, eX7_canPull_39, eX7_canPull_40, eX7_canPull_41, eX7_canPull_42, eX7_canPull_43, eX7_canPull_44, eX7_canPull_45, eX7_canPull_46, eX7_canPull_48, eX7_canPull_49, eX7_canPull_51, eX7_canPull_54, eX7_canPull_57, eX7_canPull_60, hr, h5, h4, m_least, m_most]
  · rw [if_neg (by decide), if_neg (by decide), if_neg (by decide), ← cpl_mod o5 o3 o2 o1 hn]
    by_cases h5 : h r 5 = 1
    · simp [eX7_canPull_0, eX7_canPull_1, eX7_canPull_2, eX7_canPull_3, eX7_canPull_4, eX7_canPull_7, eX7_canPull_8, eX7_canPull_9, eX7_canPull_10, eX7_canPull_11, eX7_canPull_12, eX7_canPull_13, eX7_canPull_14, eX7_canPull_15, eX7_canPull_16, eX7_canPull_17, eX7_canPull_18, eX7_canPull_19, eX7_canPull_20, eX7_canPull_21, eX7_canPull_24, eX7_canPull_25, eX7_canPull_26, eX7_canPull_27, eX7_canPull_30, eX7_canPull_33, eX7_canPull_35, eX7_canPull_36, eX7_canPull_37, eX7_canPull_39, eX7_canPull_40, eX7_canPull_41, eX7_canPull_42, eX7_canPull_43, eX7_canPull_44, eX7_canPull_45, eX7_canPull_46, eX7_canPull_48, eX7_canPull_49, eX7_canPull_51, eX7_canPull_54, eX7_canPull_57, eX7_canPull_60, hr, h5]
    · by_cases h4 : h r 3 = 1
      · simp [eX7_canPull_0, eX7_canPull_1, eX7_canPull_2, eX7_canPull_3, eX7_canPull_4, eX7_canPull_7, eX7_canPull_8, eX7_canPull_9, eX7_canPull_10, eX7_canPull_11, eX7_canPull_12, eX7_canPull_13, eX7_canPull_14, eX7_canPull_15, eX7_canPull_16, eX7_canPull_17, eX7_canPull_18, eX7_canPull_19, eX7_canPull_20, eX7_canPull_21, eX7_canPull_24, eX7_canPull_25, eX7_canPull_26, eX7_canPull_27, eX7_canPull_30, eX7_canPull_33, eX7_canPull_35, eX7_canPull_36, eX7_canPull_37, eX7_canPull_39, eX7_canPull_40, eX7_canPull_41, eX7_canPull_42, eX7_canPull_43, eX7_canPull_44, eX7_canPull_45, eX7_canPull_46, eX7_canPull_48, eX7_canPull_49, eX7_canPull_51, eX7_canPull_54, eX7_canPull_57, eX7_canPull_60, hr, h5, h4, m_least, m_most]
      · simp [eX7_canPull_0, eX7_canPull_1, eX7_canPull_2, eX7_canPull_3, eX7_canPull_4, eX7_canPull_7, eX7_canPull_8, eX7_canPull_9, eX7_canPull_10, eX7_canPull_11, eX7_canPull_12, eX7_canPull_13, eX7_canPull_14, eX7_canPull_15, eX7_canPull_16, eX7_canPull_17, eX7_canPull_18, eX7_canPull_19, eX7_canPull_20, eX7_canPull_21, eX7_canPull_24, eX7_canPull_25, eX7_canPull_26, eX7_canPull_27, eX7_canPull_30, eX7_canPull_33, eX7_canPull_35, eX7_canPull_36, eX7_canPull_37, eX7_canPull_39, eX7_canPull_40, eX7_canPull_41, eX7_canPull_42, eX7_canPull_43, eX7_canPull_44, eX7_canPull_45, eX7_canPull_46, eX7_canPull_48, eX7_canPull_49, eX7_canPull_51, eX7_canPull_54, eX7_canPull_57, eX7_canPull_60, hr, h5, h4, m_least, m_most]
/-- both INs of a row -/
def dpm (h : Sto) (r : Nat) (a b : Int32) : Sto := st (st h r 1 a) r 2 b
theorem mr_dpm {h : Sto} {r : Nat} {a b : Int32} : mr (dpm h r a b) r = setD (mr h r) a b := by
  funext j
  unfold mr setD dpm
  by_cases h32 : j < 32
  · rw [if_pos h32]
    by_cases h1 : j = 1
    · simp [st_at, h1]
    · by_cases h2 : j = 2
      · simp [st_at, h2]
      · simp [st_at, h1, h2, h32]
  · rw [if_neg h32, if_neg (by omega), if_neg (by omega)]
    exact (if_neg h32).symm
theorem dpm_dpm {h : Sto} {r : Nat} {a b a' b' : Int32} : dpm (dpm h r a b) r a' b' = dpm h r a' b' := by
  unfold dpm
  rw [st_comm (h := st h r 1 a) (by omega : ¬ (r = r ∧ 2 = 1)), st_idem, st_idem]
theorem dpm_self {h : Sto} {r : Nat} : dpm h r (h r 1) (h r 2) = h := by
  unfold dpm
  rw [st_id, st_id]
theorem m_pulls (hr : lyA r = some 32) (ok : Ok (mr h r)) (hn : 0 ≤ n.toInt) (he : e = 0 ∨ e = 1) : ev mX7_pulls 0 [.ref r, .int e, .int n, .null] [] h = some (some (.int (cpl (mr h r) e n)), dpm h r (pul (mr h r) e n 1) (pul (mr h r) e n 2)) := by
  unfold pul setD dpm
  rcases he with rfl | rfl
  · simp [eX7_pulls_0, eX7_pulls_1, eX7_pulls_2, eX7_pulls_3, eX7_pulls_6, eX7_pulls_7, eX7_pulls_8, eX7_pulls_9, eX7_pulls_10, eX7_pulls_11, eX7_pulls_12, eX7_pulls_13, eX7_pulls_14, eX7_pulls_15, eX7_pulls_16, eX7_pulls_17, eX7_pulls_18, eX7_pulls_19, eX7_pulls_20, eX7_pulls_21, eX7_pulls_22, eX7_pulls_23, eX7_pulls_24, eX7_pulls_25, eX7_pulls_26, hr, m_canPull hr ok hn (Or.inl rfl), st_at]
    rw [mr_lo (by omega), mr_lo (by omega)]
  · simp [eX7_pulls_0, eX7_pulls_1, eX7_pulls_2, eX7_pulls_3, eX7_pulls_6, eX7_pulls_7, eX7_pulls_8, eX7_pulls_9, eX7_pulls_10, eX7_pulls_11, eX7_pulls_12, eX7_pulls_13, eX7_pulls_14, eX7_pulls_15, eX7_pulls_16, eX7_pulls_17, eX7_pulls_18, eX7_pulls_19, eX7_pulls_20, eX7_pulls_21, eX7_pulls_22, eX7_pulls_23, eX7_pulls_24, eX7_pulls_25, eX7_pulls_26, hr, m_canPull hr ok hn (Or.inr rfl), st_at]
    rw [mr_lo (by omega), mr_lo (by omega), st_comm (by omega)]
theorem m_washes (hr : lyA r = some 32) (ok : Ok (mr h r)) : ev mX7_washes 0 [.ref r, .null] [] h = some (some (.int (wfar (mr h r))), dpm h r (wst (mr h r) 1) (wst (mr h r) 2)) := by
  have o := id ok
  obtain ⟨o0, o1, o2, -, -, -, -, o7, -⟩ := o
  have hd : ∀ k, 0 ≤ (drK k (h r 7)).toInt := by
    intro k
    rw [mr_lo (by omega)] at o7
    exact (drK_in o7).1
  rw [mr_lo (by omega)] at o0 o1 o2
  unfold wfar wst wdr
  rw [mr_lo (by omega), mr_lo (by omega), mr_lo (by omega), mr_lo (by omega)]
  by_cases h12 : h r 1 < h r 2
  · have h12' : ¬ h r 2 ≤ h r 1 := Int32.not_le.mpr h12
    have a1 := (ich_in (e := 1) o0 o2.2).1
    have a2 := ix12 (e := 1) o0 o2.2
    simp [eX7_washes_0, eX7_washes_1, eX7_washes_2, eX7_washes_3, eX7_washes_4, eX7_washes_5, eX7_washes_6, eX7_washes_9, eX7_washes_10, eX7_washes_13, eX7_washes_14, eX7_washes_15, eX7_washes_16, eX7_washes_17, eX7_washes_18, eX7_washes_19, eX7_washes_20, eX7_washes_21, eX7_washes_22, eX7_washes_25, eX7_washes_28, eX7_washes_31, hr, h12, h12', m_inchOf hr (Or.inr rfl), a1, m_drawsAt hr a2, mr_k a2, m_pulls hr ok (hd _) (Or.inl rfl)]
  · have h12' : h r 2 ≤ h r 1 := Int32.not_lt.mp h12
    have a1 := (ich_in (e := 0) o0 o1.2).1
    have a2 := ix12 (e := 0) o0 o1.2
    simp [eX7_washes_0, eX7_washes_1, eX7_washes_2, eX7_washes_3, eX7_washes_4, eX7_washes_5, eX7_washes_6, eX7_washes_9, eX7_washes_10, eX7_washes_13, eX7_washes_14, eX7_washes_15, eX7_washes_16, eX7_washes_17, eX7_washes_18, eX7_washes_19, eX7_washes_20, eX7_washes_21, eX7_washes_22, eX7_washes_25, eX7_washes_28, eX7_washes_31, hr, h12, h12', m_inchOf hr (Or.inl rfl), a1, m_drawsAt hr a2, mr_k a2, m_pulls hr ok (hd _) (Or.inr rfl)]
theorem mw_loop (hr : lyA r = some 32) {N : Nat} (hN : N < 2147483648) : ∀ (m j : Nat) (h : Sto) (v : Int32), j + m = N → Ok (mr h r) → ev mX7_washesOn 4 [.ref r, .int (nI N), .int v, .int (nI j)] [] h = some (none, dpm h r (wsN (mr h r) m 1) (wsN (mr h r) m 2)) := by
  intro m
  induction m with
  | zero =>
    intro j h v hj ok
    have e1 : nI N ≤ nI j := by rw [show j = N by omega]; exact Int32.le_refl _
    simp [eX7_washesOn_0, eX7_washesOn_1, eX7_washesOn_2, eX7_washesOn_3, eX7_washesOn_4, eX7_washesOn_5, eX7_washesOn_6, eX7_washesOn_9, eX7_washesOn_10, eX7_washesOn_11, eX7_washesOn_14, eX7_washesOn_15, eX7_washesOn_16, eX7_washesOn_19, eX7_washesOn_22, e1]
    show h = dpm h r (mr h r 1) (mr h r 2)
    rw [mr_lo (by omega), mr_lo (by omega)]
    exact dpm_self.symm
  | succ m ih =>
    intro j h v hj ok
    have e1 : ¬ nI N ≤ nI j := nI_ge (by omega) (by omega)
    have ok2 : Ok (mr (dpm h r (wst (mr h r) 1) (wst (mr h r) 2)) r) := by
      rw [mr_dpm, ← wst_form]
      exact wst_ok ok
    have k := ih (j + 1) _ (v + wfar (mr h r)) (by omega) ok2
    rw [mr_dpm, ← wst_form, dpm_dpm] at k
    rw [eX7_washesOn_4]
    simp [eX7_washesOn_0, eX7_washesOn_1, eX7_washesOn_2, eX7_washesOn_3, eX7_washesOn_5, eX7_washesOn_6, eX7_washesOn_9, eX7_washesOn_10, eX7_washesOn_11, eX7_washesOn_14, eX7_washesOn_15, eX7_washesOn_16, eX7_washesOn_19, eX7_washesOn_22, e1, hr, m_washes hr ok, nI_1]
    exact k
theorem m_washesOn (hr : lyA r = some 32) {N : Nat} (hN : N < 2147483648) (ok : Ok (mr h r)) : ev mX7_washesOn 0 [.ref r, .int (nI N), .null, .null] [] h = some (none, dpm h r (wsN (mr h r) N 1) (wsN (mr h r) N 2)) := by
  have k := mw_loop hr hN N 0 h 0 (by omega) ok
  rw [eX7_washesOn_0, eX7_washesOn_1, eX7_washesOn_2, eX7_washesOn_3]
  exact k
end MOD

/-! HEM's methods, at a cell c that is a Hem -/
def HC (c : Nat) : Prop := lyC c = 0 ∧ rcv c = 0 ∧ lyA (c + 1) = some 12 ∧ lyA (c + 2) = some 12
theorem HC1 : HC 1 := ⟨rfl, rfl, rfl, rfl⟩
theorem HC4 : HC 4 := ⟨rfl, rfl, rfl, rfl⟩
theorem HC7 : HC 7 := ⟨rfl, rfl, rfl, rfl⟩
theorem n12 {k : Nat} (hk : k < 12) : ¬ nI k < 0 ∧ ¬ (12 : Int32) ≤ nI k ∧ (nI k).toNatClampNeg = k ∧ ¬ 12 ≤ k := by
  refine ⟨nI_pos (by omega), ?_, nI_clamp (by omega), by omega⟩
  rw [t_le, t_nI (by omega)]
  show ¬ (12 : Int) ≤ _
  omega
section HEM
variable {c : Nat} {h : Sto} {k : Nat} {x v w e d n : Int32}
theorem f_kindAt (hc : HC c) (hk : k < 12) : ev mX0_kindAt 0 [.ref c, .int (nI k)] [] h = some (some (.int (h (c + 1) k)), h) := by
  obtain ⟨h1, h2, h3, h4⟩ := hc
  obtain ⟨k1, k2, k3, k4⟩ := n12 hk
  simp [eX0_kindAt_0, eX0_kindAt_1, eX0_kindAt_4, eX0_kindAt_5, eX0_kindAt_6, eX0_kindAt_9, eX0_kindAt_10, eX0_kindAt_13, eX0_kindAt_14, eX0_kindAt_17, eX0_kindAt_18, eX0_kindAt_19, eX0_kindAt_22, eX0_kindAt_23, h1, h3, k1, k2, k3, k4]
theorem f_figureAt (hc : HC c) (hk : k < 12) : ev mX0_figureAt 0 [.ref c, .int (nI k)] [] h = some (some (.int (h (c + 2) k)), h) := by
  obtain ⟨h1, h2, h3, h4⟩ := hc
  obtain ⟨k1, k2, k3, k4⟩ := n12 hk
  simp [eX0_figureAt_0, eX0_figureAt_1, eX0_figureAt_4, eX0_figureAt_5, eX0_figureAt_6, eX0_figureAt_9, eX0_figureAt_10, eX0_figureAt_13, eX0_figureAt_14, eX0_figureAt_17, eX0_figureAt_18, eX0_figureAt_19, eX0_figureAt_22, eX0_figureAt_23, h1, h4, k1, k2, k3, k4]
theorem f_make (hc : HC c) (hk : k < 12) : ev mX0_make 0 [.ref c, .int (nI k), .int v, .int w] [] h = some (none, st (st h (c + 1) k v) (c + 2) k w) := by
  obtain ⟨h1, h2, h3, h4⟩ := hc
  obtain ⟨k1, k2, k3, k4⟩ := n12 hk
  simp [eX0_make_0, eX0_make_1, eX0_make_4, eX0_make_5, eX0_make_6, eX0_make_9, eX0_make_10, eX0_make_13, eX0_make_14, eX0_make_15, eX0_make_18, eX0_make_19, eX0_make_22, eX0_make_23, eX0_make_26, eX0_make_27, eX0_make_28, eX0_make_29, eX0_make_30, eX0_make_33, eX0_make_34, eX0_make_35, eX0_make_36, h1, h3, h4, k1, k2, k3, k4]
theorem f_hasInch (hc : HC c) : ev mX0_hasInch 0 [.ref c, .int x] [] h = some (some (.int (if x < 0 then 0 else if h c 2 ≤ x then 0 else 1)), h) := by
  obtain ⟨h1, h2, h3, h4⟩ := hc
  simp only [eX0_hasInch_0, eX0_hasInch_1, eX0_hasInch_4, eX0_hasInch_5, eX0_hasInch_6, eX0_hasInch_9, eX0_hasInch_12, eX0_hasInch_13, eX0_hasInch_16, eX0_hasInch_17, h1]
  repeat' split
  all_goals first | rfl | (simp_all; done)
theorem f_bunchMove (hc : HC c) (hk : k < 12) : ev mX0_bunchMove 0 [.ref c, .int (nI k)] [] h = some (some (.int (mvK (h (c + 1) k))), h) := by
  simp [eX0_bunchMove_0, eX0_bunchMove_1, eX0_bunchMove_2, eX0_bunchMove_5, eX0_bunchMove_8, hc.2.1, f_kindAt hc hk, f_Kind_bunchMove]
theorem f_bunchSeconds (hc : HC c) (hk : k < 12) : ev mX0_bunchSeconds 0 [.ref c, .int (nI k)] [] h = some (some (.int (bsK (h (c + 1) k) (h (c + 2) k))), h) := by
  simp [eX0_bunchSeconds_0, eX0_bunchSeconds_1, eX0_bunchSeconds_2, eX0_bunchSeconds_5, eX0_bunchSeconds_6, eX0_bunchSeconds_7, eX0_bunchSeconds_10, eX0_bunchSeconds_13, hc.2.1, f_kindAt hc hk, f_figureAt hc hk, f_Kind_bunchSeconds]
theorem f_threadSeconds (hc : HC c) (hk : k < 12) : ev mX0_threadSeconds 0 [.ref c, .int (nI k)] [] h = some (some (.int (thK (h (c + 1) k) (h (c + 2) k))), h) := by
  simp [eX0_threadSeconds_0, eX0_threadSeconds_1, eX0_threadSeconds_2, eX0_threadSeconds_5, eX0_threadSeconds_6, eX0_threadSeconds_7, eX0_threadSeconds_10, eX0_threadSeconds_13, hc.2.1, f_kindAt hc hk, f_figureAt hc hk, f_Kind_threadSeconds]
theorem f_washDraw (hc : HC c) (hk : k < 12) : ev mX0_washDraw 0 [.ref c, .int (nI k)] [] h = some (some (.int (drK (h (c + 1) k) (h c 9))), h) := by
  simp [eX0_washDraw_0, eX0_washDraw_1, eX0_washDraw_2, eX0_washDraw_5, eX0_washDraw_6, eX0_washDraw_9, eX0_washDraw_12, hc.1, hc.2.1, f_kindAt hc hk, f_Kind_washDraw]
theorem f_secondsAnewOf (hc : HC c) (hk : k < 12) : ev mX0_secondsAnewOf 0 [.ref c, .int (nI k), .int x] [] h = some (some (.int (thK (h (c + 1) k) (h (c + 2) k) + (if smK (h (c + 1) k) = 0 then 0 else 10 - x))), h) := by
  simp [eX0_secondsAnewOf_0, eX0_secondsAnewOf_1, eX0_secondsAnewOf_2, eX0_secondsAnewOf_5, eX0_secondsAnewOf_6, eX0_secondsAnewOf_7, eX0_secondsAnewOf_10, eX0_secondsAnewOf_13, eX0_secondsAnewOf_16, eX0_secondsAnewOf_18, eX0_secondsAnewOf_19, eX0_secondsAnewOf_20, eX0_secondsAnewOf_23, eX0_secondsAnewOf_24, eX0_secondsAnewOf_25, hc.2.1, f_kindAt hc hk, f_threadSeconds hc hk, f_Kind_isSeam]
  split <;> simp
theorem f_threadAnew (hc : HC c) : ev mX0_threadAnew 0 [.ref c] [] h = some (none, st (st h c 3 (-8)) c 4 (-8)) := by
  simp [eX0_threadAnew_0, eX0_threadAnew_1, eX0_threadAnew_3, eX0_threadAnew_6, eX0_threadAnew_7, eX0_threadAnew_9, eX0_threadAnew_12, hc.1]
theorem f_depth (hc : HC c) : ev mX0_depth 0 [.ref c, .int e] [] h = some (some (.int (if e = 0 then h c 3 else h c 4)), h) := by
  simp [eX0_depth_0, eX0_depth_1, eX0_depth_4, eX0_depth_5, eX0_depth_8, eX0_depth_11, eX0_depth_12, eX0_depth_15, hc.1]
  split <;> rfl
theorem f_place (hc : HC c) : ev mX0_place 0 [.ref c, .int e, .int d] [] h = some (none, st h c (if e = 0 then 3 else 4) d) := by
  simp [eX0_place_0, eX0_place_1, eX0_place_4, eX0_place_5, eX0_place_6, eX0_place_9, eX0_place_12, eX0_place_13, eX0_place_14, eX0_place_17, hc.1]
  split <;> rfl
theorem f_isKnotted (hc : HC c) (h5 : h c 5 = 0 ∨ h c 5 = 1) (h6 : h c 6 = 0 ∨ h c 6 = 1) : ev mX0_isKnotted 0 [.ref c, .int e] [] h = some (some (.int (if e = 0 then h c 5 else h c 6)), h) := by
  simp [eX0_isKnotted_0, eX0_isKnotted_1, eX0_isKnotted_4, eX0_isKnotted_5, eX0_isKnotted_8, eX0_isKnotted_11, eX0_isKnotted_12, eX0_isKnotted_15, hc.1, h5, h6]
  split <;> rfl
theorem f_knot (hc : HC c) (hv : v = 0 ∨ v = 1) : ev mX0_knot 0 [.ref c, .int e, .int v] [] h = some (none, st h c (if e = 0 then 5 else 6) v) := by
  simp [eX0_knot_0, eX0_knot_1, eX0_knot_4, eX0_knot_5, eX0_knot_6, eX0_knot_9, eX0_knot_12, eX0_knot_13, eX0_knot_14, eX0_knot_17, hc.1, hv]
  split <;> rfl
theorem f_isLost (hc : HC c) : ev mX0_isLost 0 [.ref c, .int e] [] h = some (some (.int (if (if e = 0 then h c 3 else h c 4) < 1 then 0 else 1)), h) := by
  simp only [eX0_isLost_0, eX0_isLost_1, eX0_isLost_2, eX0_isLost_5, eX0_isLost_6, eX0_isLost_9, eX0_isLost_10, eX0_isLost_13, eX0_isLost_14, hc.2.1, f_depth hc, Option.bind_some, Option.toList_some, List.cons_append, List.nil_append]
  by_cases hd : (if e = 0 then h c 3 else h c 4) < 1
  · simp [hd]
  · simp [hd]
theorem f_lostEnds (hc : HC c) : ev mX0_lostEnds 0 [.ref c] [] h = some (some (.int ((if h c 3 < 1 then 0 else 1) + (if h c 4 < 1 then 0 else 1))), h) := by
  simp only [eX0_lostEnds_0, eX0_lostEnds_1, eX0_lostEnds_2, eX0_lostEnds_5, eX0_lostEnds_8, eX0_lostEnds_9, eX0_lostEnds_12, eX0_lostEnds_13, eX0_lostEnds_14, eX0_lostEnds_15, eX0_lostEnds_18, eX0_lostEnds_21, eX0_lostEnds_22, eX0_lostEnds_25, eX0_lostEnds_26, eX0_lostEnds_27, hc.2.1, f_isLost hc, Option.bind_some, Option.toList_some, List.cons_append, List.nil_append]
  by_cases h1 : h c 3 < 1 <;> by_cases h2 : h c 4 < 1 <;> simp [h1, h2]
end HEM

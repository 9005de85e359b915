/-! THE CALLS, one by one -/
theorem le_nl {a b : Int32} : a ≤ b ↔ ¬ b < a := Int32.not_lt.symm
section CALLS
variable {h : Sto} {LX LM : List Value} {mx mm : MD}
theorem rf_both {w : Int32} {k : Nat} (R : Rel h) (hk : k < 7) (a : ev mx 0 (.ref 0 :: LX) [] h = some (some (.int w), st h 16 k (h 16 k + 1))) (b : ev mm 0 (.ref 17 :: LM) [] (st h 16 k (h 16 k + 1)) = some (some (.int w), st (st h 16 k (h 16 k + 1)) 24 k (st h 16 k (h 16 k + 1) 24 k + 1))) : ∃ (v : Int32) (h1 h2 : Sto), ev mx 0 (.ref 0 :: LX) [] h = some (some (.int v), h1) ∧ ev mm 0 (.ref 17 :: LM) [] h1 = some (some (.int v), h2) ∧ Rel h2 := by
  refine ⟨w, _, _, a, b, ?_⟩
  rw [show st h 16 k (h 16 k + 1) 24 k = h 24 k by rw [st_at, if_neg (by omega)]]
  exact R.rf hk
theorem qr_both {v : Int32} {h1 h2 : Sto} (R : Rel h) (a : ev mx 0 (.ref 0 :: LX) [] h = some (some (.int v), h1)) (fa : ∀ a x, ¬ Scr a x → h1 a x = h a x) (b : ev mm 0 (.ref 17 :: LM) [] h1 = some (some (.int v), h2)) (fb : ∀ a x, ¬ Scr a x → h2 a x = h1 a x) : ∃ (v : Int32) (h1 h2 : Sto), ev mx 0 (.ref 0 :: LX) [] h = some (some (.int v), h1) ∧ ev mm 0 (.ref 17 :: LM) [] h1 = some (some (.int v), h2) ∧ Rel h2 :=
  ⟨v, h1, h2, a, b, R.fr (fun a x z => by rw [fb a x z, fa a x z])⟩
theorem qs_both {v : Int32} (R : Rel h) (a : ev mx 0 (.ref 0 :: LX) [] h = some (some (.int v), h)) (b : ev mm 0 (.ref 17 :: LM) [] h = some (some (.int v), h)) : ∃ (v : Int32) (h1 h2 : Sto), ev mx 0 (.ref 0 :: LX) [] h = some (some (.int v), h1) ∧ ev mm 0 (.ref 17 :: LM) [] h1 = some (some (.int v), h2) ∧ Rel h2 := ⟨v, h, h, a, b, R⟩
theorem Rel.s0 (R : Rel h) : h 1 2 = h 18 0 := congrFun R.1 0
theorem Rel.s1 (R : Rel h) : h 1 3 = h 18 1 := congrFun R.1 1
theorem Rel.s2 (R : Rel h) : h 1 4 = h 18 2 := congrFun R.1 2
theorem Rel.s3 (R : Rel h) : h 1 5 = h 18 3 := congrFun R.1 3
theorem Rel.s4 (R : Rel h) : h 1 6 = h 18 4 := congrFun R.1 4
theorem Rel.s5 (R : Rel h) : h 1 7 = h 18 5 := congrFun R.1 5
theorem Rel.s6 (R : Rel h) : h 1 8 = h 18 6 := congrFun R.1 6
theorem Rel.s7 (R : Rel h) : h 1 9 = h 18 7 := congrFun R.1 7
theorem Rel.kk (R : Rel h) {i : Nat} (hi : i < 12) : h 2 i = h 18 (8 + 2 * i) := by
  have := congrFun R.1 (8 + 2 * i)
  rw [mr_lo (by omega)] at this
  rw [← this]
  exact (hm_k (h := h) (c := 1) hi).symm
theorem Rel.ff (R : Rel h) {i : Nat} (hi : i < 12) : h 3 i = h 18 (9 + 2 * i) := by
  have := congrFun R.1 (9 + 2 * i)
  rw [mr_lo (by omega)] at this
  rw [← this]
  exact (hm_f (h := h) (c := 1) hi).symm
/-- a slot of the row becomes another, on both sides -/
theorem hm_st {c j : Nat} {v : Int32} (hj : j < 8) : hm (st h c (j + 2) v) c = upd (hm h c) j v := by
  funext i
  unfold upd
  by_cases h8 : i < 8
  · rw [hm_lo h8, st_at]
    by_cases hij : i = j
    · rw [if_pos ⟨rfl, by omega⟩, if_pos hij]
    · rw [if_neg (by omega), if_neg hij, hm_lo h8]
  · rw [if_neg (show ¬ i = j by omega)]
    exact hm_hi h8 (st_cell (by omega)) (st_cell (by omega))
theorem mr_st {r j : Nat} {v : Int32} (hj : j < 32) : mr (st h r j v) r = upd (mr h r) j v := by
  funext i
  unfold upd mr
  by_cases hi : i < 32
  · rw [if_pos hi, st_at]
    by_cases hij : i = j
    · rw [if_pos ⟨rfl, hij⟩, if_pos hij]
    · rw [if_neg (by omega), if_neg hij, if_pos hi]
  · rw [if_neg hi, if_neg (by omega), if_neg hi]
theorem mr_oth {r a j : Nat} {v : Int32} (hr : r ≠ a) : mr (st h a j v) r = mr h r := by
  unfold mr
  rw [st_cell hr]
theorem hm_oth {c a j : Nat} {v : Int32} (h0 : c ≠ a) (h1 : c + 1 ≠ a) (h2 : c + 2 ≠ a) : hm (st h a j v) c = hm h c := hm_o (st_cell h0) (st_cell h1) (st_cell h2)
/-- both rows get the same in a slot -/
theorem Rel.slot (R : Rel h) {j : Nat} {v : Int32} (hj : j < 8) (ok : Ok (upd (mr h 18) j v)) : Rel (st (st h 1 (j + 2) v) 18 j v) := by
  have m : mr (st (st h 1 (j + 2) v) 18 j v) 18 = upd (mr h 18) j v := by rw [mr_st (by omega), mr_oth (by omega)]
  refine R.nw ?_ (by rw [m]; exact ok) (fun a x y1 y2 y3 y4 _ => by rw [st_cell y4, st_cell y1])
  rw [m, hm_oth (by omega) (by omega) (by omega), hm_st hj, R.1]
theorem upd_at {f : Nat → Int32} {k j : Nat} {v : Int32} : upd f k v j = if j = k then v else f j := rfl
theorem ok_upd {r : Nat → Int32} {j : Nat} {v : Int32} (ok : Ok r) (hj : j < 8) (hv : (j = 0 → 2 ≤ v.toInt ∧ v.toInt ≤ 12) ∧ (j = 1 ∨ j = 2 → -40 ≤ v.toInt ∧ v.toInt ≤ 24) ∧ (j = 3 ∨ j = 4 ∨ j = 5 → v = 0 ∨ v = 1) ∧ (j = 6 → 1 ≤ v.toInt ∧ v.toInt ≤ 9) ∧ (j = 7 → 0 ≤ v.toInt ∧ v.toInt ≤ 9)) : Ok (upd r j v) := by
  obtain ⟨o0, o1, o2, o3, o4, o5, o6, o7, o8⟩ := ok
  obtain ⟨v0, v1, v3, v6, v7⟩ := hv
  have kf : ∀ i, kO (upd r j v) i = kO r i ∧ fO (upd r j v) i = fO r i := by
    intro i
    unfold kO fO upd
    rw [if_neg (by omega), if_neg (by omega)]
    exact ⟨rfl, rfl⟩
  refine ⟨?_, ?_, ?_, ?_, ?_, ?_, ?_, ?_, fun i hi => by rw [(kf i).1, (kf i).2]; exact o8 i hi⟩
  · rw [upd_at]; split
    · rename_i z; exact v0 z.symm
    · exact o0
  · rw [upd_at]; split
    · rename_i z; exact v1 (Or.inl z.symm)
    · exact o1
  · rw [upd_at]; split
    · rename_i z; exact v1 (Or.inr z.symm)
    · exact o2
  · rw [upd_at]; split
    · rename_i z; exact v3 (Or.inl z.symm)
    · exact o3
  · rw [upd_at]; split
    · rename_i z; exact v3 (Or.inr (Or.inl z.symm))
    · exact o4
  · rw [upd_at]; split
    · rename_i z; exact v3 (Or.inr (Or.inr z.symm))
    · exact o5
  · rw [upd_at]; split
    · rename_i z; exact v6 z.symm
    · exact o6
  · rw [upd_at]; split
    · rename_i z; exact v7 z.symm
    · exact o7
theorem lit_le {x : Int32} {a b : Int32} {A B : Int} (ha : a.toInt = A) (hb : b.toInt = B) (h1 : ¬ x < a) (h2 : ¬ b < x) : A ≤ x.toInt ∧ x.toInt ≤ B := by
  rw [t_lt] at h1 h2
  omega
theorem s_inches {n : Int32} : Sim [.int n, .null, .null] [.int n, .null] mX6_inches mX7_inches := by
  intro h R
  by_cases h1 : n < 2
  · exact rf_both R (k := 4) (w := -4) (by omega) (by simp [le_nl, -Int32.not_lt, eX6_inches_0, eX6_inches_1, eX6_inches_2, eX6_inches_4, eX6_inches_7, eX6_inches_8, eX6_inches_9, eX6_inches_12, eX6_inches_13, eX6_inches_14, eX6_inches_17, eX6_inches_18, eX6_inches_19, eX6_inches_22, eX6_inches_25, eX6_inches_26, eX6_inches_27, eX6_inches_30, eX6_inches_31, eX6_inches_34, eX6_inches_35, f_outside, h1, f_refuse]) (by simp [le_nl, -Int32.not_lt, eX7_inches_0, eX7_inches_1, eX7_inches_2, eX7_inches_5, eX7_inches_6, eX7_inches_8, eX7_inches_11, eX7_inches_12, eX7_inches_13, eX7_inches_15, eX7_inches_18, eX7_inches_19, eX7_inches_21, eX7_inches_24, eX7_inches_25, eX7_inches_26, eX7_inches_29, eX7_inches_30, eX7_inches_31, eX7_inches_32, eX7_inches_33, eX7_inches_36, eX7_inches_37, eX7_inches_38, eX7_inches_39, eX7_inches_40, h1, m_no])
  · by_cases h2 : 12 < n
    · exact rf_both R (k := 6) (w := -6) (by omega) (by simp [le_nl, -Int32.not_lt, eX6_inches_0, eX6_inches_1, eX6_inches_2, eX6_inches_4, eX6_inches_7, eX6_inches_8, eX6_inches_9, eX6_inches_12, eX6_inches_13, eX6_inches_14, eX6_inches_17, eX6_inches_18, eX6_inches_19, eX6_inches_22, eX6_inches_25, eX6_inches_26, eX6_inches_27, eX6_inches_30, eX6_inches_31, eX6_inches_34, eX6_inches_35, f_outside, h1, h2, f_refuse]) (by simp [le_nl, -Int32.not_lt, eX7_inches_0, eX7_inches_1, eX7_inches_2, eX7_inches_5, eX7_inches_6, eX7_inches_8, eX7_inches_11, eX7_inches_12, eX7_inches_13, eX7_inches_15, eX7_inches_18, eX7_inches_19, eX7_inches_21, eX7_inches_24, eX7_inches_25, eX7_inches_26, eX7_inches_29, eX7_inches_30, eX7_inches_31, eX7_inches_32, eX7_inches_33, eX7_inches_36, eX7_inches_37, eX7_inches_38, eX7_inches_39, eX7_inches_40, h1, h2, m_no])
    · refine ⟨h 1 2, st h 1 2 n, st (st h 1 2 n) 18 0 n, by simp [le_nl, -Int32.not_lt, eX6_inches_0, eX6_inches_1, eX6_inches_2, eX6_inches_4, eX6_inches_7, eX6_inches_8, eX6_inches_9, eX6_inches_12, eX6_inches_13, eX6_inches_14, eX6_inches_17, eX6_inches_18, eX6_inches_19, eX6_inches_22, eX6_inches_25, eX6_inches_26, eX6_inches_27, eX6_inches_30, eX6_inches_31, eX6_inches_34, eX6_inches_35, f_outside, h1, h2, show lyC 1 = 0 from rfl], by simp [le_nl, -Int32.not_lt, eX7_inches_0, eX7_inches_1, eX7_inches_2, eX7_inches_5, eX7_inches_6, eX7_inches_8, eX7_inches_11, eX7_inches_12, eX7_inches_13, eX7_inches_15, eX7_inches_18, eX7_inches_19, eX7_inches_21, eX7_inches_24, eX7_inches_25, eX7_inches_26, eX7_inches_29, eX7_inches_30, eX7_inches_31, eX7_inches_32, eX7_inches_33, eX7_inches_36, eX7_inches_37, eX7_inches_38, eX7_inches_39, eX7_inches_40, h1, h2, R.s0, st_at, show lyA 18 = some 32 from rfl], ?_⟩
      exact R.slot (j := 0) (by omega) (ok_upd R.2.1 (by omega) ⟨fun _ => lit_le rfl rfl h1 h2, by omega, by omega, by omega, by omega⟩)
theorem s_end {e v : Int32} : Sim [.int e, .int v, .null, .null] [.int e, .int v, .null] mX6_end mX7_end := by
  intro h R
  by_cases he : e = 0 ∨ e = 1
  · by_cases h1 : v < -40
    · exact rf_both R (k := 4) (w := 1000000004) (by omega) (by simp [le_nl, -Int32.not_lt, eX6_end_0, eX6_end_1, eX6_end_4, eX6_end_7, eX6_end_8, eX6_end_9, eX6_end_12, eX6_end_13, eX6_end_14, eX6_end_16, eX6_end_18, eX6_end_21, eX6_end_22, eX6_end_23, eX6_end_26, eX6_end_27, eX6_end_28, eX6_end_31, eX6_end_32, eX6_end_33, eX6_end_36, eX6_end_37, eX6_end_40, eX6_end_42, eX6_end_43, eX6_end_46, eX6_end_47, eX6_end_48, eX6_end_51, eX6_end_53, f_isEnd, he, f_outside, h1, f_refuseT]) (by simp [le_nl, -Int32.not_lt, eX7_end_0, eX7_end_1, eX7_end_4, eX7_end_7, eX7_end_8, eX7_end_9, eX7_end_12, eX7_end_13, eX7_end_14, eX7_end_16, eX7_end_19, eX7_end_20, eX7_end_22, eX7_end_25, eX7_end_26, eX7_end_27, eX7_end_29, eX7_end_32, eX7_end_33, eX7_end_35, eX7_end_38, eX7_end_39, eX7_end_40, eX7_end_43, eX7_end_44, eX7_end_45, eX7_end_46, eX7_end_47, eX7_end_48, eX7_end_49, eX7_end_52, eX7_end_53, eX7_end_54, eX7_end_55, eX7_end_56, eX7_end_57, eX7_end_58, m_isEnd2, he, h1, m_noFar])
    · by_cases h2 : 24 < v
      · exact rf_both R (k := 6) (w := 1000000006) (by omega) (by simp [le_nl, -Int32.not_lt, eX6_end_0, eX6_end_1, eX6_end_4, eX6_end_7, eX6_end_8, eX6_end_9, eX6_end_12, eX6_end_13, eX6_end_14, eX6_end_16, eX6_end_18, eX6_end_21, eX6_end_22, eX6_end_23, eX6_end_26, eX6_end_27, eX6_end_28, eX6_end_31, eX6_end_32, eX6_end_33, eX6_end_36, eX6_end_37, eX6_end_40, eX6_end_42, eX6_end_43, eX6_end_46, eX6_end_47, eX6_end_48, eX6_end_51, eX6_end_53, f_isEnd, he, f_outside, h1, h2, f_refuseT]) (by simp [le_nl, -Int32.not_lt, eX7_end_0, eX7_end_1, eX7_end_4, eX7_end_7, eX7_end_8, eX7_end_9, eX7_end_12, eX7_end_13, eX7_end_14, eX7_end_16, eX7_end_19, eX7_end_20, eX7_end_22, eX7_end_25, eX7_end_26, eX7_end_27, eX7_end_29, eX7_end_32, eX7_end_33, eX7_end_35, eX7_end_38, eX7_end_39, eX7_end_40, eX7_end_43, eX7_end_44, eX7_end_45, eX7_end_46, eX7_end_47, eX7_end_48, eX7_end_49, eX7_end_52, eX7_end_53, eX7_end_54, eX7_end_55, eX7_end_56, eX7_end_57, eX7_end_58, m_isEnd2, he, h1, h2, m_noFar])
      · rcases he with rfl | rfl
        · refine ⟨h 1 3, st h 1 3 v, st (st h 1 3 v) 18 1 v, by simp [le_nl, -Int32.not_lt, eX6_end_0, eX6_end_1, eX6_end_4, eX6_end_7, eX6_end_8, eX6_end_9, eX6_end_12, eX6_end_13, eX6_end_14, eX6_end_16, eX6_end_18, eX6_end_21, eX6_end_22, eX6_end_23, eX6_end_26, eX6_end_27, eX6_end_28, eX6_end_31, eX6_end_32, eX6_end_33, eX6_end_36, eX6_end_37, eX6_end_40, eX6_end_42, eX6_end_43, eX6_end_46, eX6_end_47, eX6_end_48, eX6_end_51, eX6_end_53, f_isEnd, f_outside, h1, h2, f_depth HC1, f_place HC1, show rcv 1 = 0 from rfl], by simp [le_nl, -Int32.not_lt, eX7_end_0, eX7_end_1, eX7_end_4, eX7_end_7, eX7_end_8, eX7_end_9, eX7_end_12, eX7_end_13, eX7_end_14, eX7_end_16, eX7_end_19, eX7_end_20, eX7_end_22, eX7_end_25, eX7_end_26, eX7_end_27, eX7_end_29, eX7_end_32, eX7_end_33, eX7_end_35, eX7_end_38, eX7_end_39, eX7_end_40, eX7_end_43, eX7_end_44, eX7_end_45, eX7_end_46, eX7_end_47, eX7_end_48, eX7_end_49, eX7_end_52, eX7_end_53, eX7_end_54, eX7_end_55, eX7_end_56, eX7_end_57, eX7_end_58, m_isEnd2, h1, h2, R.s1, st_at, show lyA 18 = some 32 from rfl], ?_⟩
          exact R.slot (j := 1) (by omega) (ok_upd R.2.1 (by omega) ⟨by omega, fun _ => lit_le rfl rfl h1 h2, by omega, by omega, by omega⟩)
        · refine ⟨h 1 4, st h 1 4 v, st (st h 1 4 v) 18 2 v, by simp [le_nl, -Int32.not_lt, eX6_end_0, eX6_end_1, eX6_end_4, eX6_end_7, eX6_end_8, eX6_end_9, eX6_end_12, eX6_end_13, eX6_end_14, eX6_end_16, eX6_end_18, eX6_end_21, eX6_end_22, eX6_end_23, eX6_end_26, eX6_end_27, eX6_end_28, eX6_end_31, eX6_end_32, eX6_end_33, eX6_end_36, eX6_end_37, eX6_end_40, eX6_end_42, eX6_end_43, eX6_end_46, eX6_end_47, eX6_end_48, eX6_end_51, eX6_end_53, f_isEnd, f_outside, h1, h2, f_depth HC1, f_place HC1, show rcv 1 = 0 from rfl], by simp [le_nl, -Int32.not_lt, eX7_end_0, eX7_end_1, eX7_end_4, eX7_end_7, eX7_end_8, eX7_end_9, eX7_end_12, eX7_end_13, eX7_end_14, eX7_end_16, eX7_end_19, eX7_end_20, eX7_end_22, eX7_end_25, eX7_end_26, eX7_end_27, eX7_end_29, eX7_end_32, eX7_end_33, eX7_end_35, eX7_end_38, eX7_end_39, eX7_end_40, eX7_end_43, eX7_end_44, eX7_end_45, eX7_end_46, eX7_end_47, eX7_end_48, eX7_end_49, eX7_end_52, eX7_end_53, eX7_end_54, eX7_end_55, eX7_end_56, eX7_end_57, eX7_end_58, m_isEnd2, h1, h2, R.s2, st_at, show lyA 18 = some 32 from rfl], ?_⟩
          exact R.slot (j := 2) (by omega) (ok_upd R.2.1 (by omega) ⟨by omega, fun _ => lit_le rfl rfl h1 h2, by omega, by omega, by omega⟩)
  · exact rf_both R (k := 1) (w := 1000000001) (by omega) (by simp [le_nl, -Int32.not_lt, eX6_end_0, eX6_end_1, eX6_end_4, eX6_end_7, eX6_end_8, eX6_end_9, eX6_end_12, eX6_end_13, eX6_end_14, eX6_end_16, eX6_end_18, eX6_end_21, eX6_end_22, eX6_end_23, eX6_end_26, eX6_end_27, eX6_end_28, eX6_end_31, eX6_end_32, eX6_end_33, eX6_end_36, eX6_end_37, eX6_end_40, eX6_end_42, eX6_end_43, eX6_end_46, eX6_end_47, eX6_end_48, eX6_end_51, eX6_end_53, f_isEnd, he, f_refuseT]) (by simp [le_nl, -Int32.not_lt, eX7_end_0, eX7_end_1, eX7_end_4, eX7_end_7, eX7_end_8, eX7_end_9, eX7_end_12, eX7_end_13, eX7_end_14, eX7_end_16, eX7_end_19, eX7_end_20, eX7_end_22, eX7_end_25, eX7_end_26, eX7_end_27, eX7_end_29, eX7_end_32, eX7_end_33, eX7_end_35, eX7_end_38, eX7_end_39, eX7_end_40, eX7_end_43, eX7_end_44, eX7_end_45, eX7_end_46, eX7_end_47, eX7_end_48, eX7_end_49, eX7_end_52, eX7_end_53, eX7_end_54, eX7_end_55, eX7_end_56, eX7_end_57, eX7_end_58, m_isEnd2, he, m_noFar])
end CALLS

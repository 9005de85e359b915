def dep (h : Sto) (c : Nat) (a b : Int32) : Sto := st (st h c 3 a) c 4 b
theorem st_comm {h : Sto} {c j c' j' : Nat} {v v' : Int32} (hne : ¬ (c = c' ∧ j = j')) : st (st h c j v) c' j' v' = st (st h c' j' v') c j v := by
  funext a b
  unfold st
  by_cases h1 : a = c' ∧ b = j'
  · rw [if_pos h1, if_neg, if_pos h1]
    rintro ⟨rfl, rfl⟩
    exact hne ⟨h1.1, h1.2⟩
  · rw [if_neg h1]
    by_cases h2 : a = c ∧ b = j
    · rw [if_pos h2, if_pos h2]
    · rw [if_neg h2, if_neg h2, if_neg h1]
theorem st_idem {h : Sto} {c j : Nat} {v v' : Int32} : st (st h c j v) c j v' = st h c j v' := by
  funext a b
  unfold st
  by_cases h1 : a = c ∧ b = j
  · rw [if_pos h1, if_pos h1]
  · rw [if_neg h1, if_neg h1, if_neg h1]
theorem st_id {h : Sto} {c j : Nat} : st h c j (h c j) = h := by
  funext a b
  unfold st
  split
  · rename_i hh; rw [hh.1, hh.2]
  · rfl
theorem dep_dep {h : Sto} {c : Nat} {a b a' b' : Int32} : dep (dep h c a b) c a' b' = dep h c a' b' := by
  unfold dep
  rw [st_comm (h := st h c 3 a) (by omega : ¬ (c = c ∧ 4 = 3)), st_idem, st_idem]
theorem dep_self {h : Sto} {c : Nat} : dep h c (h c 3) (h c 4) = h := by
  unfold dep
  rw [st_id, st_id]
theorem dep3 {h : Sto} {c : Nat} {a b : Int32} : dep h c a b c 3 = a := by simp [dep, st]
theorem dep4 {h : Sto} {c : Nat} {a b : Int32} : dep h c a b c 4 = b := by simp [dep, st]
theorem dep_o {h : Sto} {c x y : Nat} {a b : Int32} (hn : x ≠ c) : dep h c a b x y = h x y := by simp [dep, st, hn]
theorem dep_c {h : Sto} {c y : Nat} {a b : Int32} (h3 : y ≠ 3) (h4 : y ≠ 4) : dep h c a b c y = h c y := by simp [dep, st, h3, h4]
theorem hm_lo {h : Sto} {c j : Nat} (hj : j < 8) : hm h c j = h c (j + 2) := by unfold hm; rw [if_pos hj]
theorem hm_hi {h h' : Sto} {c c' j : Nat} (hj : ¬ j < 8) (h1 : h' (c' + 1) = h (c + 1)) (h2 : h' (c' + 2) = h (c + 2)) : hm h' c' j = hm h c j := by
  unfold hm
  rw [if_neg hj, if_neg hj, h1, h2]
theorem hm_dep {h : Sto} {c : Nat} {a b : Int32} : hm (dep h c a b) c = setD (hm h c) a b := by
  funext j
  by_cases h8 : j < 8
  · rw [hm_lo h8]
    unfold setD
    by_cases h1 : j = 1
    · subst h1; rw [if_pos rfl]; exact dep3
    · rw [if_neg h1]
      by_cases h2 : j = 2
      · subst h2; rw [if_pos rfl]; exact dep4
      · rw [if_neg h2, hm_lo h8]; exact dep_c (by omega) (by omega)
  · unfold setD
    rw [if_neg (show ¬ j = 1 by omega), if_neg (show ¬ j = 2 by omega)]
    exact hm_hi h8 (funext fun y => dep_o (by omega)) (funext fun y => dep_o (by omega))
theorem hm0 {h : Sto} {c : Nat} : hm h c 0 = h c 2 := rfl
theorem hm1 {h : Sto} {c : Nat} : hm h c 1 = h c 3 := rfl
theorem hm2 {h : Sto} {c : Nat} : hm h c 2 = h c 4 := rfl
theorem hm3 {h : Sto} {c : Nat} : hm h c 3 = h c 5 := rfl
theorem hm4 {h : Sto} {c : Nat} : hm h c 4 = h c 6 := rfl
theorem hm5 {h : Sto} {c : Nat} : hm h c 5 = h c 7 := rfl
theorem hm6 {h : Sto} {c : Nat} : hm h c 6 = h c 8 := rfl
theorem hm7 {h : Sto} {c : Nat} : hm h c 7 = h c 9 := rfl
/-- how many SEAMS; SECONDS to thread an INCH, all -/
def smSum (r : Nat → Int32) : Nat → Nat → Int32 → Int32
  | 0, _, v => v
  | m + 1, j, v => smSum r m (j + 1) (v + (if smK (kO r j) = 0 then 0 else 1))
def thB (r : Nat → Int32) (x : Int32) (j : Nat) : Int32 := thK (kO r j) (fO r j) + (if smK (kO r j) = 0 then 0 else 10 - x)
def anSum (r : Nat → Int32) (x : Int32) : Nat → Nat → Int32 → Int32
  | 0, _, v => v
  | m + 1, j, v => anSum r x m (j + 1) (v + thB r x j)
def anSec (r : Nat → Int32) (x : Int32) : Int32 := anSum r x (r 0).toInt.toNat 0 0
section HEM2
variable {c : Nat} {h : Sto} {k : Nat} {x v w e d n : Int32}
theorem f_inchAt (hc : HC c) : ev mX0_inchAt 0 [.ref c, .int e, .int d, .null] [] h = some (some (.int (ichD (h c 2) e d)), h) := by
  by_cases h1 : d < 1
  · have h1' : ¬ 1 ≤ d := Int32.not_le.mpr h1
    by_cases he : e = 0
    · simp [eX0_inchAt_0, eX0_inchAt_1, eX0_inchAt_2, eX0_inchAt_5, eX0_inchAt_6, eX0_inchAt_7, eX0_inchAt_8, eX0_inchAt_9, eX0_inchAt_10, eX0_inchAt_11, eX0_inchAt_14, eX0_inchAt_15, eX0_inchAt_16, eX0_inchAt_19, eX0_inchAt_22, eX0_inchAt_23, eX0_inchAt_24, eX0_inchAt_25, eX0_inchAt_28, eX0_inchAt_29, eX0_inchAt_32, eX0_inchAt_33, eX0_inchAt_36, eX0_inchAt_37, eX0_inchAt_38, eX0_inchAt_39, eX0_inchAt_40, hc.1, h1, he, ichD]
    · simp [eX0_inchAt_0, eX0_inchAt_1, eX0_inchAt_2, eX0_inchAt_5, eX0_inchAt_6, eX0_inchAt_7, eX0_inchAt_8, eX0_inchAt_9, eX0_inchAt_10, eX0_inchAt_11, eX0_inchAt_14, eX0_inchAt_15, eX0_inchAt_16, eX0_inchAt_19, eX0_inchAt_22, eX0_inchAt_23, eX0_inchAt_24, eX0_inchAt_25, eX0_inchAt_28, eX0_inchAt_29, eX0_inchAt_32, eX0_inchAt_33, eX0_inchAt_36, eX0_inchAt_37, eX0_inchAt_38, eX0_inchAt_39, eX0_inchAt_40, hc.1, h1, he, ichD]
  · have h1' : 1 ≤ d := Int32.not_lt.mp h1
    by_cases he : e = 0
    · simp [eX0_inchAt_0, eX0_inchAt_1, eX0_inchAt_2, eX0_inchAt_5, eX0_inchAt_6, eX0_inchAt_7, eX0_inchAt_8, eX0_inchAt_9, eX0_inchAt_10, eX0_inchAt_11, eX0_inchAt_14, eX0_inchAt_15, eX0_inchAt_16, eX0_inchAt_19, eX0_inchAt_22, eX0_inchAt_23, eX0_inchAt_24, eX0_inchAt_25, eX0_inchAt_28, eX0_inchAt_29, eX0_inchAt_32, eX0_inchAt_33, eX0_inchAt_36, eX0_inchAt_37, eX0_inchAt_38, eX0_inchAt_39, eX0_inchAt_40, hc.1, h1, he, ichD]
    · simp [eX0_inchAt_0, eX0_inchAt_1, eX0_inchAt_2, eX0_inchAt_5, eX0_inchAt_6, eX0_inchAt_7, eX0_inchAt_8, eX0_inchAt_9, eX0_inchAt_10, eX0_inchAt_11, eX0_inchAt_14, eX0_inchAt_15, eX0_inchAt_16, eX0_inchAt_19, eX0_inchAt_22, eX0_inchAt_23, eX0_inchAt_24, eX0_inchAt_25, eX0_inchAt_28, eX0_inchAt_29, eX0_inchAt_32, eX0_inchAt_33, eX0_inchAt_36, eX0_inchAt_37, eX0_inchAt_38, eX0_inchAt_39, eX0_inchAt_40, hc.1, h1, he, ichD]
theorem f_canDraw (hc : HC c) (he : e = 0 ∨ e = 1) : ev mX0_canDraw 0 [.ref c, .int e, .int n, .null, .null, .null, .null] [] h = some (some (.int (cpl (hm h c) e n)), h) := by
  unfold cpl cplV
  rw [hm1, hm2, hm3, hm4, hm5]
  rcases he with rfl | rfl
  · by_cases h7 : h c 7 = 0
    · by_cases h6 : h c 6 = 0
      · simp [eX0_canDraw_0, eX0_canDraw_1, eX0_canDraw_4, eX0_canDraw_7, eX0_canDraw_8, eX0_canDraw_9, eX0_canDraw_10, eX0_canDraw_13, eX0_canDraw_14, eX0_canDraw_17, eX0_canDraw_20, eX0_canDraw_21, eX0_canDraw_24, eX0_canDraw_25, eX0_canDraw_26, eX0_canDraw_29, eX0_canDraw_30, eX0_canDraw_33, eX0_canDraw_36, eX0_canDraw_37, eX0_canDraw_40, eX0_canDraw_42, eX0_canDraw_43, eX0_canDraw_46, eX0_canDraw_47, eX0_canDraw_50, eX0_canDraw_53, eX0_canDraw_54, eX0_canDraw_57, eX0_canDraw_59, eX0_canDraw_60, eX0_canDraw_62, eX0_canDraw_63, eX0_canDraw_65, eX0_canDraw_68, eX0_canDraw_69, eX0_canDraw_72, eX0_canDraw_74, eX0_canDraw_76, eX0_canDraw_77, eX0_canDraw_80, eX0_canDraw_82, eX0_canDraw_83, eX0_canDraw_84, eX0_canDraw_86, eX0_canDraw_89, eX0_canDraw_92, hc.1, h7, h6]
      · simp [eX0_canDraw_0, eX0_canDraw_1, eX0_canDraw_4, eX0_canDraw_7, eX0_canDraw_8, eX0_canDraw_9, eX0_canDraw_10, eX0_canDraw_13, eX0_canDraw_14, eX0_canDraw_17, eX0_canDraw_20, eX0_canDraw_21, eX0_canDraw_24, eX0_canDraw_25, eX0_canDraw_26, eX0_canDraw_29, eX0_canDraw_30, eX0_canDraw_33, eX0_canDraw_36, eX0_canDraw_37, eX0_canDraw_40, eX0_canDraw_42, eX0_canDraw_43, eX0_canDraw_46, eX0_canDraw_47, eX0_canDraw_50, eX0_canDraw_53, eX0_canDraw_54, eX0_canDraw_57, eX0_canDraw_59, eX0_canDraw_60, eX0_canDraw_62, eX0_canDraw_63, eX0_canDraw_65, eX0_canDraw_68, eX0_canDraw_69, eX0_canDraw_72, eX0_canDraw_74, eX0_canDraw_76, eX0_canDraw_77, eX0_canDraw_80, eX0_canDraw_82, eX0_canDraw_83, eX0_canDraw_84, eX0_canDraw_86, eX0_canDraw_89, eX0_canDraw_92, hc.1, h7, h6]
    · simp [eX0_canDraw_0, eX0_canDraw_1, eX0_canDraw_4, eX0_canDraw_7, eX0_canDraw_8, eX0_canDraw_9, eX0_canDraw_10, eX0_canDraw_13, eX0_canDraw_14, eX0_canDraw_17, eX0_canDraw_20, eX0_canDraw_21, eX0_canDraw_24, eX0_canDraw_25, eX0_canDraw_26, eX0_canDraw_29, eX0_canDraw_30, eX0_canDraw_33, eX0_canDraw_36, eX0_canDraw_37, eX0_canDraw_40, eX0_canDraw_42, eX0_canDraw_43, eX0_canDraw_46, eX0_canDraw_47, eX0_canDraw_50, eX0_canDraw_53, eX0_canDraw_54, eX0_canDraw_57, eX0_canDraw_59, eX0_canDraw_60, eX0_canDraw_62, eX0_canDraw_63, eX0_canDraw_65, eX0_canDraw_68, eX0_canDraw_69, eX0_canDraw_72, eX0_canDraw_74, eX0_canDraw_76, eX0_canDraw_77, eX0_canDraw_80, eX0_canDraw_82, eX0_canDraw_83, eX0_canDraw_84, eX0_canDraw_86, eX0_canDraw_89, eX0_canDraw_92, hc.1, h7]
  · by_cases h7 : h c 7 = 0
    · by_cases h6 : h c 5 = 0
      · simp [eX0_canDraw_0, eX0_canDraw_1, eX0_canDraw_4, eX0_canDraw_7, eX0_canDraw_8, eX0_canDraw_9, eX0_canDraw_10, eX0_canDraw_13, eX0_canDraw_14, eX0_canDraw_17, eX0_canDraw_20, eX0_canDraw_21, eX0_canDraw_24, eX0_canDraw_25, eX0_canDraw_26, eX0_canDraw_29, eX0_canDraw_30, eX0_canDraw_33, eX0_canDraw_36, eX0_canDraw_37, eX0_canDraw_40, eX0_canDraw_42, eX0_canDraw_43, eX0_canDraw_46, eX0_canDraw_47, eX0_canDraw_50, eX0_canDraw_53, eX0_canDraw_54, eX0_canDraw_57, eX0_canDraw_59, eX0_canDraw_60, eX0_canDraw_62, eX0_canDraw_63, eX0_canDraw_65, eX0_canDraw_68, eX0_canDraw_69, eX0_canDraw_72, eX0_canDraw_74, eX0_canDraw_76, eX0_canDraw_77, eX0_canDraw_80, eX0_canDraw_82, eX0_canDraw_83, eX0_canDraw_84, eX0_canDraw_86, eX0_canDraw_89, eX0_canDraw_92, hc.1, h7, h6]
      · simp [eX0_canDraw_0, eX0_canDraw_1, eX0_canDraw_4, eX0_canDraw_7, eX0_canDraw_8, eX0_canDraw_9, eX0_canDraw_10, eX0_canDraw_13, eX0_canDraw_14, eX0_canDraw_17, eX0_canDraw_20, eX0_canDraw_21, eX0_canDraw_24, eX0_canDraw_25, eX0_canDraw_26, eX0_canDraw_29, eX0_canDraw_30, eX0_canDraw_33, eX0_canDraw_36, eX0_canDraw_37, eX0_canDraw_40, eX0_canDraw_42, eX0_canDraw_43, eX0_canDraw_46, eX0_canDraw_47, eX0_canDraw_50, eX0_canDraw_53, eX0_canDraw_54, eX0_canDraw_57, eX0_canDraw_59, eX0_canDraw_60, eX0_canDraw_62, eX0_canDraw_63, eX0_canDraw_65, eX0_canDraw_68, eX0_canDraw_69, eX0_canDraw_72, eX0_canDraw_74, eX0_canDraw_76, eX0_canDraw_77, eX0_canDraw_80, eX0_canDraw_82, eX0_canDraw_83, eX0_canDraw_84, eX0_canDraw_86, eX0_canDraw_89, eX0_canDraw_92, hc.1, h7, h6]
    · simp [eX0_canDraw_0, eX0_canDraw_1, eX0_canDraw_4, eX0_canDraw_7, eX0_canDraw_8, eX0_canDraw_9, eX0_canDraw_10, eX0_canDraw_13, eX0_canDraw_14, eX0_canDraw_17, eX0_canDraw_20, eX0_canDraw_21, eX0_canDraw_24, eX0_canDraw_25, eX0_canDraw_26, eX0_canDraw_29, eX0_canDraw_30, eX0_canDraw_33, eX0_canDraw_36, eX0_canDraw_37, eX0_canDraw_40, eX0_canDraw_42, eX0_canDraw_43, eX0_canDraw_46, eX0_canDraw_47, eX0_canDraw_50, eX0_canDraw_53, eX0_canDraw_54, eX0_canDraw_57, eX0_canDraw_59, eX0_canDraw_60, eX0_canDraw_62, eX0_canDraw_63, eX0_canDraw_65, eX0_canDraw_68, eX0_canDraw_69, eX0_canDraw_72, eX0_canDraw_74, eX0_canDraw_76, eX0_canDraw_77, eX0_canDraw_80, eX0_canDraw_82, eX0_canDraw_83, eX0_canDraw_84, eX0_canDraw_86, eX0_canDraw_89, eX0_canDraw_92, hc.1, h7]
theorem f_draw (hc : HC c) (he : e = 0 ∨ e = 1) : ev mX0_draw 0 [.ref c, .int e, .int n, .null, .null] [] h = some (some (.int (cpl (hm h c) e n)), dep h c (pul (hm h c) e n 1) (pul (hm h c) e n 2)) := by
  have hc1 := hc.1
  have hc2 := hc.2.1
  unfold pul setD
  rcases he with rfl | rfl
  · simp [eX0_draw_0, eX0_draw_1, eX0_draw_2, eX0_draw_3, eX0_draw_6, eX0_draw_7, eX0_draw_8, eX0_draw_9, eX0_draw_10, eX0_draw_12, eX0_draw_13, eX0_draw_14, eX0_draw_15, eX0_draw_16, eX0_draw_19, eX0_draw_20, eX0_draw_21, eX0_draw_24, eX0_draw_25, eX0_draw_27, eX0_draw_28, eX0_draw_30, eX0_draw_33, eX0_draw_34, eX0_draw_35, eX0_draw_38, eX0_draw_39, hc2, f_canDraw hc (Or.inl rfl), f_depth hc, f_place hc, st_at]
    rw [hm1, hm2]
    rfl
  · simp [eX0_draw_0, eX0_draw_1, eX0_draw_2, eX0_draw_3, eX0_draw_6, eX0_draw_7, eX0_draw_8, eX0_draw_9, eX0_draw_10, eX0_draw_12, eX0_draw_13, eX0_draw_14, eX0_draw_15, eX0_draw_16, eX0_draw_19, eX0_draw_20, eX0_draw_21, eX0_draw_24, eX0_draw_25, eX0_draw_27, eX0_draw_28, eX0_draw_30, eX0_draw_33, eX0_draw_34, eX0_draw_35, eX0_draw_38, eX0_draw_39, hc2, f_canDraw hc (Or.inr rfl), f_depth hc, f_place hc, st_at]
    rw [hm1, hm2, st_comm (by omega)]
    rfl
theorem f_washOnce (hc : HC c) (ok : Ok (hm h c)) : ev mX0_washOnce 0 [.ref c, .null] [] h = some (some (.int (wfar (hm h c))), dep h c (wst (hm h c) 1) (wst (hm h c) 2)) := by
  have hc1 := hc.1
  have hc2 := hc.2.1
  have o := id ok
  obtain ⟨o0, o1, o2, -⟩ := o
  rw [hm0] at o0
  rw [hm1] at o1
  rw [hm2] at o2
  unfold wfar wst wdr
  rw [hm0, hm1, hm2, hm7]
  by_cases h12 : h c 3 < h c 4
  · have h12' : ¬ h c 4 ≤ h c 3 := Int32.not_le.mpr h12
    have a1 := (ich_in (e := 1) o0 o2.2).1
    have a2 := ix12 (e := 1) o0 o2.2
    simp [eX0_washOnce_0, eX0_washOnce_1, eX0_washOnce_4, eX0_washOnce_5, eX0_washOnce_8, eX0_washOnce_11, eX0_washOnce_12, eX0_washOnce_15, eX0_washOnce_16, eX0_washOnce_17, eX0_washOnce_18, eX0_washOnce_19, eX0_washOnce_20, eX0_washOnce_21, eX0_washOnce_22, eX0_washOnce_23, eX0_washOnce_24, eX0_washOnce_25, eX0_washOnce_26, eX0_washOnce_29, eX0_washOnce_32, eX0_washOnce_35, eX0_washOnce_38, hc1, hc2, h12, h12', f_depth hc, f_inchAt hc, a1, f_washDraw hc a2, hm_k a2, f_draw hc (Or.inl rfl)]
  · have h12' : h c 4 ≤ h c 3 := Int32.not_lt.mp h12
    have a1 := (ich_in (e := 0) o0 o1.2).1
    have a2 := ix12 (e := 0) o0 o1.2
    simp [eX0_washOnce_0, eX0_washOnce_1, eX0_washOnce_4, eX0_washOnce_5, eX0_washOnce_8, eX0_washOnce_11, eX0_washOnce_12, eX0_washOnce_15, eX0_washOnce_16, eX0_washOnce_17, eX0_washOnce_18, eX0_washOnce_19, eX0_washOnce_20, eX0_washOnce_21, eX0_washOnce_22, eX0_washOnce_23, eX0_washOnce_24, eX0_washOnce_25, eX0_washOnce_26, eX0_washOnce_29, eX0_washOnce_32, eX0_washOnce_35, eX0_washOnce_38, hc1, hc2, h12, h12', f_depth hc, f_inchAt hc, a1, f_washDraw hc a2, hm_k a2, f_draw hc (Or.inr rfl)]
theorem wt_loop (hc : HC c) {N : Nat} (hN : N < 2147483648) : ∀ (m j : Nat) (h : Sto), j + m = N → Ok (hm h c) → ev mX0_washTimes 2 [.ref c, .int (nI N), .int (nI j)] [] h = some (none, dep h c (wsN (hm h c) m 1) (wsN (hm h c) m 2)) := by
  intro m
  induction m with
  | zero =>
    intro j h hj ok
    have e1 : nI N ≤ nI j := by rw [show j = N by omega]; exact Int32.le_refl _
    simp [eX0_washTimes_0, eX0_washTimes_1, eX0_washTimes_2, eX0_washTimes_3, eX0_washTimes_4, eX0_washTimes_7, eX0_washTimes_8, eX0_washTimes_11, eX0_washTimes_14, eX0_washTimes_15, eX0_washTimes_18, eX0_washTimes_21, e1]
    exact dep_self.symm
  | succ m ih =>
    intro j h hj ok
    have e1 : ¬ nI N ≤ nI j := nI_ge (by omega) (by omega)
    by_cases h0 : wfar (hm h c) = 0
    · have e2 : dep h c (wst (hm h c) 1) (wst (hm h c) 2) = h := by rw [wst_still h0]; exact dep_self
      rw [eX0_washTimes_2]
      simp [eX0_washTimes_0, eX0_washTimes_1, eX0_washTimes_3, eX0_washTimes_4, eX0_washTimes_7, eX0_washTimes_8, eX0_washTimes_11, eX0_washTimes_14, eX0_washTimes_15, eX0_washTimes_18, eX0_washTimes_21, e1, hc.2.1, f_washOnce hc ok, h0, e2]
      rw [show wsN (hm h c) (m + 1) = hm h c from wsN_still h0 _]
      exact dep_self.symm
    · have ok2 : Ok (hm (dep h c (wst (hm h c) 1) (wst (hm h c) 2)) c) := by
        rw [hm_dep, ← wst_form]
        exact wst_ok ok
      have k := ih (j + 1) _ (by omega) ok2
      rw [hm_dep, ← wst_form, dep_dep] at k
      rw [eX0_washTimes_2]
      simp [eX0_washTimes_0, eX0_washTimes_1, eX0_washTimes_3, eX0_washTimes_4, eX0_washTimes_7, eX0_washTimes_8, eX0_washTimes_11, eX0_washTimes_14, eX0_washTimes_15, eX0_washTimes_18, eX0_washTimes_21, e1, hc.2.1, f_washOnce hc ok, h0, nI_1]
      exact k
theorem f_washTimes (hc : HC c) {N : Nat} (hN : N < 2147483648) (ok : Ok (hm h c)) : ev mX0_washTimes 0 [.ref c, .int (nI N), .null] [] h = some (none, dep h c (wsN (hm h c) N 1) (wsN (hm h c) N 2)) := by
  have k := wt_loop hc hN N 0 h (by omega) ok
  rw [eX0_washTimes_0, eX0_washTimes_1]
  exact k
/-- two Hems' cells are apart -/
def Apt (c c2 : Nat) : Prop := c2 ≠ c ∧ c2 ≠ c + 1 ∧ c2 ≠ c + 2 ∧ c2 + 1 ≠ c ∧ c2 + 1 ≠ c + 1 ∧ c2 + 1 ≠ c + 2 ∧ c2 + 2 ≠ c ∧ c2 + 2 ≠ c + 1 ∧ c2 + 2 ≠ c + 2
theorem cf_loop {c2 : Nat} (hc : HC c) (hc2 : HC c2) (ap : Apt c c2) : ∀ (m j : Nat) (h : Sto), j + m = 12 → (h c2 5 = 0 ∨ h c2 5 = 1) → (h c2 6 = 0 ∨ h c2 6 = 1) → (h c2 7 = 0 ∨ h c2 7 = 1) → ∃ h' : Sto, ev mX0_copyFrom 2 [.ref c, .ref c2, .int (nI j)] [] h = some (none, h') ∧ (∀ i, j ≤ i → i < 12 → h' (c + 1) i = h (c2 + 1) i ∧ h' (c + 2) i = h (c2 + 2) i) ∧ (∀ i, i < j → h' (c + 1) i = h (c + 1) i ∧ h' (c + 2) i = h (c + 2) i) ∧ (∀ b, 2 ≤ b → b ≤ 9 → h' c b = h c2 b) ∧ ∀ a, a ≠ c → a ≠ c + 1 → a ≠ c + 2 → h' a = h a := by
  obtain ⟨p1, p2, p3, p4, p5, p6, p7, p8, p9⟩ := ap
  intro m
  induction m with
  | zero =>
    intro j h hj b5 b6 b7
    obtain rfl : j = 12 := by omega
    have e1 : (12 : Int32) ≤ nI 12 := by decide
    refine ⟨_, by
      simp [eX0_copyFrom_0, eX0_copyFrom_1, eX0_copyFrom_2, eX0_copyFrom_3, eX0_copyFrom_5, eX0_copyFrom_8, eX0_copyFrom_9, eX0_copyFrom_10, eX0_copyFrom_11, eX0_copyFrom_12, eX0_copyFrom_15, eX0_copyFrom_16, eX0_copyFrom_17, eX0_copyFrom_20, eX0_copyFrom_23, eX0_copyFrom_26, eX0_copyFrom_29, eX0_copyFrom_30, eX0_copyFrom_31, eX0_copyFrom_34, eX0_copyFrom_37, eX0_copyFrom_38, eX0_copyFrom_39, eX0_copyFrom_42, eX0_copyFrom_45, eX0_copyFrom_46, eX0_copyFrom_47, eX0_copyFrom_50, eX0_copyFrom_53, eX0_copyFrom_54, eX0_copyFrom_55, eX0_copyFrom_58, eX0_copyFrom_61, eX0_copyFrom_62, eX0_copyFrom_63, eX0_copyFrom_66, eX0_copyFrom_69, eX0_copyFrom_70, eX0_copyFrom_71, eX0_copyFrom_74, eX0_copyFrom_77, eX0_copyFrom_78, eX0_copyFrom_79, eX0_copyFrom_82, eX0_copyFrom_85, eX0_copyFrom_86, eX0_copyFrom_87, eX0_copyFrom_90, eX0_copyFrom_93, e1, hc.1, hc2.1, st_at, p1, b5, b6, b7]
      rfl, ?_, ?_, ?_, ?_⟩
    · intro i h1 h2; omega
    · intro i h1; simp [st_at]
    · intro b h1 h2
      have : b = 2 ∨ b = 3 ∨ b = 4 ∨ b = 5 ∨ b = 6 ∨ b = 7 ∨ b = 8 ∨ b = 9 := by omega
      rcases this with rfl | rfl | rfl | rfl | rfl | rfl | rfl | rfl <;> simp [st_at]
    · intro a h1 h2 h3
      funext b
      simp [st_at, h1]
  | succ m ih =>
    intro j h hj b5 b6 b7
    have hj12 : j < 12 := by omega
    obtain ⟨k1, k2, k3, k4⟩ := n12 hj12
    have q5 : ∀ b, (st (st h (c + 1) j (h (c2 + 1) j)) (c + 2) j (h (c2 + 2) j)) c2 b = h c2 b := by intro b; simp [st_at, p1, p2, p3]
    obtain ⟨h', g1, g2, g3, g4, g5⟩ := ih (j + 1) (st (st h (c + 1) j (h (c2 + 1) j)) (c + 2) j (h (c2 + 2) j)) (by omega) (by rw [q5]; exact b5) (by rw [q5]; exact b6) (by rw [q5]; exact b7)
    refine ⟨h', ?_, ?_, ?_, ?_, ?_⟩
    · rw [eX0_copyFrom_2]
      simp [eX0_copyFrom_0, eX0_copyFrom_1, eX0_copyFrom_3, eX0_copyFrom_5, eX0_copyFrom_8, eX0_copyFrom_9, eX0_copyFrom_10, eX0_copyFrom_11, eX0_copyFrom_12, eX0_copyFrom_15, eX0_copyFrom_16, eX0_copyFrom_17, eX0_copyFrom_20, eX0_copyFrom_23, eX0_copyFrom_26, eX0_copyFrom_29, eX0_copyFrom_30, eX0_copyFrom_31, eX0_copyFrom_34, eX0_copyFrom_37, eX0_copyFrom_38, eX0_copyFrom_39, eX0_copyFrom_42, eX0_copyFrom_45, eX0_copyFrom_46, eX0_copyFrom_47, eX0_copyFrom_50, eX0_copyFrom_53, eX0_copyFrom_54, eX0_copyFrom_55, eX0_copyFrom_58, eX0_copyFrom_61, eX0_copyFrom_62, eX0_copyFrom_63, eX0_copyFrom_66, eX0_copyFrom_69, eX0_copyFrom_70, eX0_copyFrom_71, eX0_copyFrom_74, eX0_copyFrom_77, eX0_copyFrom_78, eX0_copyFrom_79, eX0_copyFrom_82, eX0_copyFrom_85, eX0_copyFrom_86, eX0_copyFrom_87, eX0_copyFrom_90, eX0_copyFrom_93, k2, hc.2.1, hc2.2.1, f_kindAt hc2 hj12, f_figureAt hc2 hj12, f_make hc hj12, nI_1]
      exact g1
    · intro i h1 h2
      by_cases hij : i = j
      · subst hij
        have := g3 i (by omega)
        simp [st_at] at this
        exact this
      · have := g2 i (by omega) h2
        simp [st_at, p1, p2, hij, p5, p6, p8, p9] at this
        exact this
    · intro i h1
      have := g3 i (by omega)
      simp [st_at, show ¬ i = j by omega] at this
      exact this
    · intro b h1 h2
      rw [g4 b h1 h2, q5]
    · intro a h1 h2 h3
      rw [g5 a h1 h2 h3]
      funext b
      simp [st_at, h2, h3]
theorem f_copyFrom {c2 : Nat} (hc : HC c) (hc2 : HC c2) (ap : Apt c c2) (ok : Ok (hm h c2)) : ∃ h' : Sto, ev mX0_copyFrom 0 [.ref c, .ref c2, .null] [] h = some (none, h') ∧ hm h' c = hm h c2 ∧ ∀ a, a ≠ c → a ≠ c + 1 → a ≠ c + 2 → h' a = h a := by
  obtain ⟨o0, o1, o2, o3, o4, o5, -⟩ := ok
  rw [hm3] at o3
  rw [hm4] at o4
  rw [hm5] at o5
  obtain ⟨h', g1, g2, g3, g4, g5⟩ := cf_loop hc hc2 ap 12 0 h rfl o3 o4 o5
  refine ⟨h', ?_, ?_, g5⟩
  · rw [eX0_copyFrom_0, eX0_copyFrom_1]
    exact g1
  · funext j
    by_cases h8 : j < 8
    · rw [hm_lo h8, hm_lo h8, g4 _ (by omega) (by omega)]
    · unfold hm
      rw [if_neg h8, if_neg h8]
      by_cases h32 : 32 ≤ j
      · rw [if_pos h32, if_pos h32]
      · rw [if_neg h32, if_neg h32, (g2 ((j - 8) / 2) (by omega) (by omega)).1, (g2 ((j - 9) / 2) (by omega) (by omega)).2]
theorem sm_loop (hc : HC c) (hl : (h c 2).toInt ≤ 12) : ∀ (m j : Nat) (v : Int32), (h c 2).toInt = (j : Int) + m → ev mX0_seams 4 [.ref c, .int v, .int (nI j)] [] h = some (some (.int (smSum (hm h c) m j v)), h) := by
  intro m
  induction m with
  | zero =>
    intro j v hj
    have e1 : h c 2 ≤ nI j := by rw [t_le, t_nI (by omega)]; omega
    simp [eX0_seams_0, eX0_seams_1, eX0_seams_2, eX0_seams_3, eX0_seams_4, eX0_seams_5, eX0_seams_6, eX0_seams_9, eX0_seams_12, eX0_seams_13, eX0_seams_14, eX0_seams_15, eX0_seams_18, eX0_seams_21, eX0_seams_24, eX0_seams_25, eX0_seams_28, eX0_seams_29, eX0_seams_30, eX0_seams_31, eX0_seams_34, eX0_seams_37, eX0_seams_38, hc.1, e1, smSum]
  | succ m ih =>
    intro j v hj
    have hj12 : j < 12 := by omega
    have e1 : ¬ h c 2 ≤ nI j := by rw [t_le, t_nI (by omega)]; omega
    have k := ih (j + 1) (v + (if smK (h (c + 1) j) = 0 then 0 else 1)) (by omega)
    rw [eX0_seams_4]
    simp [eX0_seams_0, eX0_seams_1, eX0_seams_2, eX0_seams_3, eX0_seams_5, eX0_seams_6, eX0_seams_9, eX0_seams_12, eX0_seams_13, eX0_seams_14, eX0_seams_15, eX0_seams_18, eX0_seams_21, eX0_seams_24, eX0_seams_25, eX0_seams_28, eX0_seams_29, eX0_seams_30, eX0_seams_31, eX0_seams_34, eX0_seams_37, eX0_seams_38, hc.1, e1, hc.2.1, f_kindAt hc hj12, f_Kind_isSeam, smSum, hm_k hj12, nI_1]
    by_cases h0 : smK (h (c + 1) j) = 0
    · simp [h0] at k ⊢; exact k
    · simp [h0] at k ⊢; exact k
theorem an_loop (hc : HC c) (hl : (h c 2).toInt ≤ 12) : ∀ (m j : Nat) (v : Int32), (h c 2).toInt = (j : Int) + m → ev mX0_secondsAnew 4 [.ref c, .int x, .int v, .int (nI j)] [] h = some (some (.int (anSum (hm h c) x m j v)), h) := by
  intro m
  induction m with
  | zero =>
    intro j v hj
    have e1 : h c 2 ≤ nI j := by rw [t_le, t_nI (by omega)]; omega
    simp [eX0_secondsAnew_0, eX0_secondsAnew_1, eX0_secondsAnew_2, eX0_secondsAnew_3, eX0_secondsAnew_4, eX0_secondsAnew_5, eX0_secondsAnew_6, eX0_secondsAnew_9, eX0_secondsAnew_12, eX0_secondsAnew_13, eX0_secondsAnew_14, eX0_secondsAnew_15, eX0_secondsAnew_16, eX0_secondsAnew_19, eX0_secondsAnew_20, eX0_secondsAnew_21, eX0_secondsAnew_24, eX0_secondsAnew_27, eX0_secondsAnew_28, hc.1, e1, anSum]
  | succ m ih =>
    intro j v hj
    have hj12 : j < 12 := by omega
    have e1 : ¬ h c 2 ≤ nI j := by rw [t_le, t_nI (by omega)]; omega
    have k := ih (j + 1) (v + (thK (h (c + 1) j) (h (c + 2) j) + (if smK (h (c + 1) j) = 0 then 0 else 10 - x))) (by omega)
    rw [eX0_secondsAnew_4]
    simp [eX0_secondsAnew_0, eX0_secondsAnew_1, eX0_secondsAnew_2, eX0_secondsAnew_3, eX0_secondsAnew_5, eX0_secondsAnew_6, eX0_secondsAnew_9, eX0_secondsAnew_12, eX0_secondsAnew_13, eX0_secondsAnew_14, eX0_secondsAnew_15, eX0_secondsAnew_16, eX0_secondsAnew_19, eX0_secondsAnew_20, eX0_secondsAnew_21, eX0_secondsAnew_24, eX0_secondsAnew_27, eX0_secondsAnew_28, hc.1, e1, hc.2.1, f_secondsAnewOf hc hj12, anSum, thB, hm_k hj12, hm_f hj12, nI_1]
    exact k
theorem f_seams (hc : HC c) (ok : Ok (hm h c)) : ev mX0_seams 0 [.ref c, .null, .null] [] h = some (some (.int (smSum (hm h c) (h c 2).toInt.toNat 0 0)), h) := by
  obtain ⟨o0, -⟩ := ok
  rw [hm0] at o0
  rw [eX0_seams_0, eX0_seams_1, eX0_seams_2, eX0_seams_3]
  exact sm_loop hc o0.2 _ 0 0 (by omega)
theorem f_secondsAnew (hc : HC c) (ok : Ok (hm h c)) : ev mX0_secondsAnew 0 [.ref c, .int x, .null, .null] [] h = some (some (.int (anSec (hm h c) x)), h) := by
  obtain ⟨o0, -⟩ := ok
  rw [hm0] at o0
  rw [eX0_secondsAnew_0, eX0_secondsAnew_1, eX0_secondsAnew_2, eX0_secondsAnew_3]
  exact an_loop hc o0.2 _ 0 0 (by rw [hm0]; omega)
end HEM2

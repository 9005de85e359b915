/-! JUDGE, WHICH -/
section ROWS
variable {h h' : Sto} {e n : Int32}
/-- the first of the ROW that is not so -/
def fwN (w : Nat → Int32) (e : Int32) : Nat → Nat → (Nat → Int32) → Int32
  | 0, _, _ => -9
  | m + 1, j, r => if w j = INr r e + 50 then fwN w e m (j + 1) (wst r) else nI j
theorem fwN_in (w : Nat → Int32) : ∀ (m j : Nat) (r : Nat → Int32), j + m ≤ 12 → fwN w e m j r = -9 ∨ ∃ k, k < 12 ∧ fwN w e m j r = nI k := by
  intro m
  induction m with
  | zero => intro j r hj; exact Or.inl rfl
  | succ m ih =>
    intro j r hj
    rw [fwN]
    split
    · exact ih (j + 1) (wst r) (by omega)
    · exact Or.inr ⟨j, by omega, rfl⟩
theorem fwN_neg {w : Nat → Int32} {m j : Nat} {r : Nat → Int32} (hj : j + m ≤ 12) : fwN w e m j r < 0 ↔ fwN w e m j r = -9 := by
  rcases fwN_in (e := e) w m j r hj with z | ⟨k, hk, z⟩
  · rw [z]; decide
  · rw [z]
    constructor
    · intro y; exact absurd y (nI_pos (by omega))
    · intro y; exact absurd y (nI_n9 (by omega))
theorem fwN_congr {w w' : Nat → Int32} : ∀ (m j : Nat) (r : Nat → Int32), (∀ i, i < j + m → w i = w' i) → fwN w e m j r = fwN w' e m j r := by
  intro m
  induction m with
  | zero => intro j r hw; rfl
  | succ m ih =>
    intro j r hw
    rw [fwN, fwN, hw j (by omega), ih (j + 1) (wst r) (fun i hi => hw i (by omega))]
theorem jc_loop {N : Nat} (hN : N ≤ 12) : ∀ (m j : Nat) (h : Sto), j + m = N → h 14 1 = nI N → Ok (hm h 4) → ∃ h' : Sto, ev mX4_firstNotSo 2 [.ref 14, .ref 4, .int e, .int (nI j)] [] h = some (some (.int (fwN (h 15) e m j (hm h 4))), h') ∧ ∀ a, a ≠ 4 → h' a = h a := by
  intro m
  induction m with
  | zero =>
    intro j h hj hn ok
    have e1 : nI N ≤ nI j := by rw [show j = N by omega]; exact Int32.le_refl _
    exact ⟨h, by simp [eX4_firstNotSo_0, eX4_firstNotSo_1, eX4_firstNotSo_2, eX4_firstNotSo_3, eX4_firstNotSo_4, eX4_firstNotSo_7, eX4_firstNotSo_10, eX4_firstNotSo_11, eX4_firstNotSo_12, eX4_firstNotSo_15, eX4_firstNotSo_16, eX4_firstNotSo_19, eX4_firstNotSo_20, eX4_firstNotSo_23, eX4_firstNotSo_24, eX4_firstNotSo_25, eX4_firstNotSo_26, eX4_firstNotSo_27, eX4_firstNotSo_30, eX4_firstNotSo_32, eX4_firstNotSo_33, eX4_firstNotSo_36, eX4_firstNotSo_37, eX4_firstNotSo_38, eX4_firstNotSo_39, eX4_firstNotSo_42, eX4_firstNotSo_43, eX4_firstNotSo_46, eX4_firstNotSo_49, eX4_firstNotSo_51, hn, e1, fwN], fun _ _ => rfl⟩
  | succ m ih =>
    intro j h hj hn ok
    have e1 : ¬ nI N ≤ nI j := nI_ge (by omega) (by omega)
    obtain ⟨k1, k2, k3, k4⟩ := n12 (show j < 12 by omega)
    have w1 := f_washOnce HC4 ok
    have hw : hm (dep h 4 (wst (hm h 4) 1) (wst (hm h 4) 2)) 4 = wst (hm h 4) := by rw [hm_dep, ← wst_form]
    have fd := f_depth (h := h) (e := e) HC4
    rw [show (if e = 0 then h 4 3 else h 4 4) = INr (hm h 4) e from rfl] at fd
    rw [eX4_firstNotSo_2]
    by_cases c : h 15 j = INr (hm h 4) e + 50
    · obtain ⟨h', g1, g2⟩ := ih (j + 1) (dep h 4 (wst (hm h 4) 1) (wst (hm h 4) 2)) (by omega) (by rw [dep_cell (by omega)]; exact hn) (by rw [hw]; exact wst_ok ok)
      rw [hw, dep_cell (show 15 ≠ 4 by omega)] at g1
      refine ⟨h', ?_, fun a z => by rw [g2 a z, dep_cell z]⟩
      rw [fwN, if_pos c]
      refine Eq.trans ?_ g1
      simp [eX4_firstNotSo_0, eX4_firstNotSo_1, eX4_firstNotSo_3, eX4_firstNotSo_4, eX4_firstNotSo_7, eX4_firstNotSo_10, eX4_firstNotSo_11, eX4_firstNotSo_12, eX4_firstNotSo_15, eX4_firstNotSo_16, eX4_firstNotSo_19, eX4_firstNotSo_20, eX4_firstNotSo_23, eX4_firstNotSo_24, eX4_firstNotSo_25, eX4_firstNotSo_26, eX4_firstNotSo_27, eX4_firstNotSo_30, eX4_firstNotSo_32, eX4_firstNotSo_33, eX4_firstNotSo_36, eX4_firstNotSo_37, eX4_firstNotSo_38, eX4_firstNotSo_39, eX4_firstNotSo_42, eX4_firstNotSo_43, eX4_firstNotSo_46, eX4_firstNotSo_49, eX4_firstNotSo_51, hn, e1, k1, k2, k3, k4, fd, c, w1, nI_1, show lyC 1 = 0 from rfl, show rcv 1 = 0 from rfl, show rcv 4 = 0 from rfl, show lyC 4 = 0 from rfl, show lyA 15 = some 12 from rfl]
    · refine ⟨h, ?_, fun _ _ => rfl⟩
      rw [fwN, if_neg c]
      simp [eX4_firstNotSo_0, eX4_firstNotSo_1, eX4_firstNotSo_3, eX4_firstNotSo_4, eX4_firstNotSo_7, eX4_firstNotSo_10, eX4_firstNotSo_11, eX4_firstNotSo_12, eX4_firstNotSo_15, eX4_firstNotSo_16, eX4_firstNotSo_19, eX4_firstNotSo_20, eX4_firstNotSo_23, eX4_firstNotSo_24, eX4_firstNotSo_25, eX4_firstNotSo_26, eX4_firstNotSo_27, eX4_firstNotSo_30, eX4_firstNotSo_32, eX4_firstNotSo_33, eX4_firstNotSo_36, eX4_firstNotSo_37, eX4_firstNotSo_38, eX4_firstNotSo_39, eX4_firstNotSo_42, eX4_firstNotSo_43, eX4_firstNotSo_46, eX4_firstNotSo_49, eX4_firstNotSo_51, hn, e1, k1, k2, k3, k4, fd, c, show lyC 1 = 0 from rfl, show rcv 1 = 0 from rfl, show rcv 4 = 0 from rfl, show lyC 4 = 0 from rfl, show lyA 15 = some 12 from rfl]
theorem f_fns {N : Nat} (hN : N ≤ 12) (hn : h 14 1 = nI N) (ok : Ok (hm h 4)) : ∃ h' : Sto, ev mX4_firstNotSo 0 [.ref 14, .ref 4, .int e, .null] [] h = some (some (.int (fwN (h 15) e N 0 (hm h 4))), h') ∧ ∀ a, a ≠ 4 → h' a = h a := by
  obtain ⟨h', g1, g2⟩ := jc_loop (e := e) hN N 0 h (by omega) hn ok
  refine ⟨h', ?_, g2⟩
  rw [← g1]
  simp [eX4_firstNotSo_0, eX4_firstNotSo_1, nI_0]
theorem jm_loop (he : e = 0 ∨ e = 1) {N : Nat} (hN : N ≤ 12) : ∀ (m j : Nat) (h : Sto) (r : Nat → Int32) (a4 : Value), j + m = N → Ok (mr h 19) → (j = 0 → mr h 19 = r) → (j ≠ 0 → wst (mr h 19) = r) → ∃ h' : Sto, ev mX7_firstWrong 2 [.ref 17, .int e, .int (nI N), .int (nI j), a4] [] h = some (some (.int (fwN (h 23) e m j r)), h') ∧ ∀ a, a ≠ 19 → h' a = h a := by
  intro m
  induction m with
  | zero =>
    intro j h r a4 hj ok h0 h1
    have e1 : nI N ≤ nI j := by rw [show j = N by omega]; exact Int32.le_refl _
    exact ⟨h, by simp [eX7_firstWrong_0, eX7_firstWrong_1, eX7_firstWrong_2, eX7_firstWrong_3, eX7_firstWrong_4, eX7_firstWrong_7, eX7_firstWrong_8, eX7_firstWrong_11, eX7_firstWrong_12, eX7_firstWrong_15, eX7_firstWrong_18, eX7_firstWrong_21, eX7_firstWrong_22, eX7_firstWrong_24, eX7_firstWrong_25, eX7_firstWrong_28, eX7_firstWrong_29, eX7_firstWrong_30, eX7_firstWrong_31, eX7_firstWrong_32, eX7_firstWrong_34, eX7_firstWrong_35, eX7_firstWrong_36, eX7_firstWrong_39, eX7_firstWrong_40, eX7_firstWrong_41, eX7_firstWrong_44, eX7_firstWrong_45, eX7_firstWrong_46, eX7_firstWrong_49, eX7_firstWrong_52, eX7_firstWrong_54, e1, fwN], fun _ _ => rfl⟩
  | succ m ih =>
    intro j h r a4 hj ok h0 h1
    have e1 : ¬ nI N ≤ nI j := nI_ge (by omega) (by omega)
    obtain ⟨k1, k2, k3, k4⟩ := n12 (show j < 12 by omega)
    have pre : ∃ (g : Sto) (a4' : Value), ev mX7_firstWrong 2 [.ref 17, .int e, .int (nI N), .int (nI j), a4] [] h = ev mX7_firstWrong 24 [.ref 17, .int e, .int (nI N), .int (nI j), a4'] [] g ∧ mr g 19 = r ∧ ∀ a, a ≠ 19 → g a = h a := by
      by_cases hj0 : j = 0
      · subst hj0
        have z : nI 0 ≤ 0 := by decide
        exact ⟨h, .int 0, by rw [eX7_firstWrong_2]; simp [eX7_firstWrong_0, eX7_firstWrong_1, eX7_firstWrong_3, eX7_firstWrong_4, eX7_firstWrong_7, eX7_firstWrong_8, eX7_firstWrong_11, eX7_firstWrong_12, eX7_firstWrong_15, eX7_firstWrong_18, eX7_firstWrong_21, eX7_firstWrong_22, eX7_firstWrong_25, eX7_firstWrong_28, eX7_firstWrong_29, eX7_firstWrong_30, eX7_firstWrong_31, eX7_firstWrong_32, eX7_firstWrong_34, eX7_firstWrong_35, eX7_firstWrong_36, eX7_firstWrong_39, eX7_firstWrong_40, eX7_firstWrong_41, eX7_firstWrong_44, eX7_firstWrong_45, eX7_firstWrong_46, eX7_firstWrong_49, eX7_firstWrong_52, eX7_firstWrong_54, e1, z], h0 rfl, fun _ _ => rfl⟩
      · have z : ¬ nI j ≤ 0 := nI_nle (by omega) (by omega)
        have w1 := m_washes (r := 19) (h := h) rfl ok
        refine ⟨dpm h 19 (wst (mr h 19) 1) (wst (mr h 19) 2), .int (wfar (mr h 19)), ?_, ?_, fun a z => dpm_cell z⟩
        · rw [eX7_firstWrong_2]
          simp [eX7_firstWrong_0, eX7_firstWrong_1, eX7_firstWrong_3, eX7_firstWrong_4, eX7_firstWrong_7, eX7_firstWrong_8, eX7_firstWrong_11, eX7_firstWrong_12, eX7_firstWrong_15, eX7_firstWrong_18, eX7_firstWrong_21, eX7_firstWrong_22, eX7_firstWrong_25, eX7_firstWrong_28, eX7_firstWrong_29, eX7_firstWrong_30, eX7_firstWrong_31, eX7_firstWrong_32, eX7_firstWrong_34, eX7_firstWrong_35, eX7_firstWrong_36, eX7_firstWrong_39, eX7_firstWrong_40, eX7_firstWrong_41, eX7_firstWrong_44, eX7_firstWrong_45, eX7_firstWrong_46, eX7_firstWrong_49, eX7_firstWrong_52, eX7_firstWrong_54, e1, z, w1]
        · rw [mr_dpm, ← wst_form]
          exact h1 hj0
    obtain ⟨g, a4', p1, p2, p3⟩ := pre
    have okr : Ok r := by
      by_cases hj0 : j = 0
      · rw [← h0 hj0]; exact ok
      · rw [← h1 hj0]; exact wst_ok ok
    have r1 : g 19 1 = r 1 := by rw [← p2]; rfl
    have r2 : g 19 2 = r 2 := by rw [← p2]; rfl
    have c23 : g 23 = h 23 := p3 23 (by omega)
    have mid : ev mX7_firstWrong 24 [.ref 17, .int e, .int (nI N), .int (nI j), a4'] [] g = ev mX7_firstWrong 41 [.ref 17, .int e, .int (nI N), .int (nI j), a4'] [.int (h 23 j), .int (INr r e + 50)] g := by
      rcases he with rfl | rfl
      · simp [eX7_firstWrong_24, eX7_firstWrong_25, eX7_firstWrong_28, eX7_firstWrong_29, eX7_firstWrong_30, eX7_firstWrong_31, eX7_firstWrong_32, eX7_firstWrong_34, eX7_firstWrong_35, eX7_firstWrong_36, eX7_firstWrong_39, eX7_firstWrong_40, INr, r1, k1, k3, k4, c23, show lyA 19 = some 32 from rfl, show lyA 23 = some 12 from rfl]
      · simp [eX7_firstWrong_24, eX7_firstWrong_25, eX7_firstWrong_28, eX7_firstWrong_29, eX7_firstWrong_30, eX7_firstWrong_31, eX7_firstWrong_32, eX7_firstWrong_34, eX7_firstWrong_35, eX7_firstWrong_36, eX7_firstWrong_39, eX7_firstWrong_40, INr, r2, k1, k3, k4, c23, show lyA 19 = some 32 from rfl, show lyA 23 = some 12 from rfl]
    rw [p1, mid]
    by_cases c : h 23 j = INr r e + 50
    · obtain ⟨h', g1, g2⟩ := ih (j + 1) g (wst r) a4' (by omega) (by rw [p2]; exact okr) (fun z => absurd z (by omega)) (fun _ => by rw [p2])
      rw [c23] at g1
      refine ⟨h', ?_, fun a z => by rw [g2 a z, p3 a z]⟩
      rw [fwN, if_pos c]
      refine Eq.trans ?_ g1
      simp [eX7_firstWrong_0, eX7_firstWrong_1, eX7_firstWrong_3, eX7_firstWrong_4, eX7_firstWrong_7, eX7_firstWrong_8, eX7_firstWrong_11, eX7_firstWrong_12, eX7_firstWrong_15, eX7_firstWrong_18, eX7_firstWrong_21, eX7_firstWrong_22, eX7_firstWrong_25, eX7_firstWrong_28, eX7_firstWrong_29, eX7_firstWrong_30, eX7_firstWrong_31, eX7_firstWrong_32, eX7_firstWrong_34, eX7_firstWrong_35, eX7_firstWrong_36, eX7_firstWrong_39, eX7_firstWrong_40, eX7_firstWrong_41, eX7_firstWrong_44, eX7_firstWrong_45, eX7_firstWrong_46, eX7_firstWrong_49, eX7_firstWrong_52, eX7_firstWrong_54, c, nI_1]
    · refine ⟨g, ?_, p3⟩
      have c' : ¬ INr r e + 50 = h 23 j := fun z => c z.symm
      rw [fwN, if_neg c]
      simp [eX7_firstWrong_0, eX7_firstWrong_1, eX7_firstWrong_3, eX7_firstWrong_4, eX7_firstWrong_7, eX7_firstWrong_8, eX7_firstWrong_11, eX7_firstWrong_12, eX7_firstWrong_15, eX7_firstWrong_18, eX7_firstWrong_21, eX7_firstWrong_22, eX7_firstWrong_25, eX7_firstWrong_28, eX7_firstWrong_29, eX7_firstWrong_30, eX7_firstWrong_31, eX7_firstWrong_32, eX7_firstWrong_34, eX7_firstWrong_35, eX7_firstWrong_36, eX7_firstWrong_39, eX7_firstWrong_40, eX7_firstWrong_41, eX7_firstWrong_44, eX7_firstWrong_45, eX7_firstWrong_46, eX7_firstWrong_49, eX7_firstWrong_52, eX7_firstWrong_54, c']
theorem m_fw (he : e = 0 ∨ e = 1) {N : Nat} (hN : N ≤ 12) (ok : Ok (mr h 19)) : ∃ h' : Sto, ev mX7_firstWrong 0 [.ref 17, .int e, .int (nI N), .null, .null] [] h = some (some (.int (fwN (h 23) e N 0 (mr h 19))), h') ∧ ∀ a, a ≠ 19 → h' a = h a := by
  obtain ⟨h', g1, g2⟩ := jm_loop (e := e) he hN N 0 h (mr h 19) .null (by omega) ok (fun _ => rfl) (fun z => absurd rfl z)
  refine ⟨h', ?_, g2⟩
  rw [← g1]
  simp [eX7_firstWrong_0, eX7_firstWrong_1, nI_0]
theorem s_judge {e : Int32} : Sim [.int e, .null] [.int e, .null] mX6_judge mX7_judge := by
  intro h R
  by_cases he : e = 0 ∨ e = 1
  · obtain ⟨N, r1, r2, r3, r4⟩ := id R.2.2.2.2.2
    obtain ⟨g1, a1, a2, a3⟩ := f_cp R
    obtain ⟨g2, b1, b2⟩ := f_fns (h := g1) (e := e) r1 (by rw [a3 14 (by omega) (by omega) (by omega)]; exact r2) (by rw [a2]; exact R.2.1)
    rw [a2, a3 15 (by omega) (by omega) (by omega)] at b1
    have fr2 : ∀ a, a ≠ 4 → a ≠ 5 → a ≠ 6 → g2 a = h a := fun a z1 z2 z3 => by rw [b2 a z1, a3 a z1 z2 z3]
    have R2 := R.f456 fr2
    have cl : ev mX4_clear 0 [.ref 14] [] g2 = some (none, st g2 14 1 0) := by simp [eX4_clear_0, eX4_clear_1, eX4_clear_2, eX4_clear_5]
    have n9 : st g2 14 1 0 17 9 = nI N := by rw [st_cell (by omega), fr2 17 (by omega) (by omega) (by omega)]; exact r3
    obtain ⟨g3, c1, c2, c3⟩ := m_lays (r := 18) (t := 19) (h := st (st g2 14 1 0) 17 9 0) rfl rfl (by omega)
    have e18 : mr (st (st g2 14 1 0) 17 9 0) 18 = mr h 18 := mr_cell (by rw [st_cell (by omega), st_cell (by omega), fr2 18 (by omega) (by omega) (by omega)])
    rw [e18] at c2
    obtain ⟨g4, d1, d2⟩ := m_fw (h := g3) (e := e) he r1 (by rw [c2]; exact R.2.1)
    rw [c2] at d1
    have c23 : g3 23 = h 23 := by rw [c3 23 (by omega), st_cell (by omega), st_cell (by omega), fr2 23 (by omega) (by omega) (by omega)]
    rw [c23, ← fwN_congr (w := h 15) (w' := h 23) N 0 (mr h 18) (fun i hi => r4 i (by omega))] at d1
    refine ⟨fwN (h 15) e N 0 (mr h 18), st g2 14 1 0, g4, ?_, ?_, ?_⟩
    · simp [le_nl, -Int32.not_lt, eX6_judge_0, eX6_judge_1, eX6_judge_4, eX6_judge_7, eX6_judge_8, eX6_judge_9, eX6_judge_12, eX6_judge_13, eX6_judge_14, eX6_judge_17, eX6_judge_18, eX6_judge_21, eX6_judge_24, eX6_judge_25, eX6_judge_28, eX6_judge_29, eX6_judge_32, eX6_judge_33, eX6_judge_36, eX6_judge_37, eX6_judge_38, eX6_judge_41, eX6_judge_44, eX6_judge_45, f_isEnd, he, a1, b1, cl, show lyC 1 = 0 from rfl, show rcv 1 = 0 from rfl, show rcv 4 = 0 from rfl, show lyC 4 = 0 from rfl]
    · simp [le_nl, -Int32.not_lt, eX7_judge_0, eX7_judge_1, eX7_judge_4, eX7_judge_7, eX7_judge_8, eX7_judge_9, eX7_judge_12, eX7_judge_13, eX7_judge_14, eX7_judge_17, eX7_judge_18, eX7_judge_19, eX7_judge_20, eX7_judge_23, eX7_judge_24, eX7_judge_27, eX7_judge_28, eX7_judge_31, eX7_judge_34, eX7_judge_35, eX7_judge_36, eX7_judge_37, eX7_judge_40, m_isEnd2, he, n9, c1, d1]
    · have f4 : ∀ a, a ≠ 19 → g4 a = st (st g2 14 1 0) 17 9 0 a := fun a z => by rw [d2 a z, c3 a z]
      have R3 : Rel (st (st g2 14 1 0) 17 9 0) := R2.ro (n := 0) (by omega) (by simp [st_at]; rfl) (by simp [st_at]; rfl) (fun i hi => absurd hi (Nat.not_lt_zero _)) (fun a z1 z2 z3 z4 => by rw [st_cell z3, st_cell z1]) (by simp [st_at]) (by simp [st_at])
      exact R3.f19 f4
  · exact rf_both R (k := 1) (w := -1) (by omega) (by simp [le_nl, -Int32.not_lt, eX6_judge_0, eX6_judge_1, eX6_judge_4, eX6_judge_7, eX6_judge_8, eX6_judge_9, eX6_judge_12, eX6_judge_13, eX6_judge_14, eX6_judge_17, eX6_judge_18, eX6_judge_21, eX6_judge_24, eX6_judge_25, eX6_judge_28, eX6_judge_29, eX6_judge_32, eX6_judge_33, eX6_judge_36, eX6_judge_37, eX6_judge_38, eX6_judge_41, eX6_judge_44, eX6_judge_45, f_isEnd, he, f_refuse]) (by simp [le_nl, -Int32.not_lt, eX7_judge_0, eX7_judge_1, eX7_judge_4, eX7_judge_7, eX7_judge_8, eX7_judge_9, eX7_judge_12, eX7_judge_13, eX7_judge_14, eX7_judge_17, eX7_judge_18, eX7_judge_19, eX7_judge_20, eX7_judge_23, eX7_judge_24, eX7_judge_27, eX7_judge_28, eX7_judge_31, eX7_judge_34, eX7_judge_35, eX7_judge_36, eX7_judge_37, eX7_judge_40, m_isEnd2, he, m_no])
/-- WHICH: bits -/
def wbN (f : Nat → Int32) : Nat → Nat → Int32 → Int32
  | 0, _, b => b
  | m + 1, k, b => if f k = -9 then wbN f m (k + 1) (b ||| 1 <<< (nI k &&& 31)) else wbN f m (k + 1) b
theorem kb_loop {i N : Nat} (hi : i < 12) (hN : N ≤ 12) : ∀ (m k : Nat) (h : Sto) (b : Int32), k + m = 6 → Rel h → h 14 1 = nI N → ∃ h' : Sto, ev mX6_kindsByRow 4 [.ref 0, .int (nI i), .int b, .int (nI k)] [] h = some (some (.int (wbN (fun k => fwN (h 15) 0 N 0 (upd (mr h 18) (8 + 2 * i) (nI k))) m k b)), h') ∧ ∀ a, a ≠ 4 → a ≠ 5 → a ≠ 6 → h' a = h a := by
  intro m
  induction m with
  | zero =>
    intro k h b hk R hn
    have e1 : (6 : Int32) ≤ nI k := by rw [show k = 6 by omega]; decide
    exact ⟨h, by simp [eX6_kindsByRow_0, eX6_kindsByRow_1, eX6_kindsByRow_2, eX6_kindsByRow_3, eX6_kindsByRow_4, eX6_kindsByRow_5, eX6_kindsByRow_7, eX6_kindsByRow_10, eX6_kindsByRow_11, eX6_kindsByRow_14, eX6_kindsByRow_15, eX6_kindsByRow_18, eX6_kindsByRow_21, eX6_kindsByRow_22, eX6_kindsByRow_25, eX6_kindsByRow_26, eX6_kindsByRow_27, eX6_kindsByRow_28, eX6_kindsByRow_31, eX6_kindsByRow_32, eX6_kindsByRow_35, eX6_kindsByRow_38, eX6_kindsByRow_39, eX6_kindsByRow_42, eX6_kindsByRow_43, eX6_kindsByRow_46, eX6_kindsByRow_47, eX6_kindsByRow_50, eX6_kindsByRow_52, eX6_kindsByRow_55, eX6_kindsByRow_56, eX6_kindsByRow_57, eX6_kindsByRow_58, eX6_kindsByRow_59, eX6_kindsByRow_60, eX6_kindsByRow_61, eX6_kindsByRow_64, eX6_kindsByRow_67, eX6_kindsByRow_68, e1, wbN], fun _ _ _ _ => rfl⟩
  | succ m ih =>
    intro k h b hk R hn
    have e1 : ¬ (6 : Int32) ≤ nI k := by
      rw [t_le, t_nI (by omega)]
      show ¬ (6 : Int) ≤ _
      omega
    obtain ⟨g1, a1, a2, a3⟩ := f_cp R
    have ff : ev mX0_figureAt 0 [.ref 1, .int (nI i)] [] g1 = some (some (.int (fO (mr h 18) i)), g1) := by
      rw [f_figureAt HC1 hi, a3 (1 + 2) (by omega) (by omega) (by omega), mr_f hi]
      exact congrArg (fun z => some (some (Value.int z), g1)) (R.ff hi)
    have fm := f_make (h := g1) (v := nI k) (w := fO (mr h 18) i) HC4 hi
    have e2 : hm (st (st g1 5 i (nI k)) 6 i (fO (mr h 18) i)) 4 = upd (mr h 18) (8 + 2 * i) (nI k) := by
      rw [← upd_kf_same, ← a2]
      exact hm_kf hi
    obtain ⟨g2, b1, b2⟩ := f_fns (h := st (st g1 5 i (nI k)) 6 i (fO (mr h 18) i)) (e := 0) hN (by rw [st_cell (by omega), st_cell (by omega), a3 14 (by omega) (by omega) (by omega)]; exact hn) (by rw [e2]; exact ok_k R.2.1 hi (by rw [t_nI (by omega)]; omega))
    rw [e2, st_cell (show 15 ≠ 6 by omega), st_cell (show 15 ≠ 5 by omega), a3 15 (by omega) (by omega) (by omega)] at b1
    have fr2 : ∀ a, a ≠ 4 → a ≠ 5 → a ≠ 6 → g2 a = h a := fun a z1 z2 z3 => by rw [b2 a z1, st_cell z3, st_cell z2, a3 a z1 z2 z3]
    have R2 := R.f456 fr2
    have e18 : mr g2 18 = mr h 18 := mr_cell (fr2 18 (by omega) (by omega) (by omega))
    have e15 : g2 15 = h 15 := fr2 15 (by omega) (by omega) (by omega)
    have hn2 : g2 14 1 = nI N := by rw [fr2 14 (by omega) (by omega) (by omega)]; exact hn
    rw [eX6_kindsByRow_4]
    by_cases c : fwN (h 15) 0 N 0 (upd (mr h 18) (8 + 2 * i) (nI k)) = -9
    · obtain ⟨g3, c1, c2⟩ := ih (k + 1) g2 (b ||| 1 <<< (nI k &&& 31)) (by omega) R2 hn2
      rw [e18, e15] at c1
      refine ⟨g3, ?_, fun a z1 z2 z3 => by rw [c2 a z1 z2 z3, fr2 a z1 z2 z3]⟩
      rw [wbN, if_pos c]
      refine Eq.trans ?_ c1
      simp [eX6_kindsByRow_0, eX6_kindsByRow_1, eX6_kindsByRow_2, eX6_kindsByRow_3, eX6_kindsByRow_5, eX6_kindsByRow_7, eX6_kindsByRow_10, eX6_kindsByRow_11, eX6_kindsByRow_14, eX6_kindsByRow_15, eX6_kindsByRow_18, eX6_kindsByRow_21, eX6_kindsByRow_22, eX6_kindsByRow_25, eX6_kindsByRow_26, eX6_kindsByRow_27, eX6_kindsByRow_28, eX6_kindsByRow_31, eX6_kindsByRow_32, eX6_kindsByRow_35, eX6_kindsByRow_38, eX6_kindsByRow_39, eX6_kindsByRow_42, eX6_kindsByRow_43, eX6_kindsByRow_46, eX6_kindsByRow_47, eX6_kindsByRow_50, eX6_kindsByRow_52, eX6_kindsByRow_55, eX6_kindsByRow_56, eX6_kindsByRow_57, eX6_kindsByRow_58, eX6_kindsByRow_59, eX6_kindsByRow_60, eX6_kindsByRow_61, eX6_kindsByRow_64, eX6_kindsByRow_67, eX6_kindsByRow_68, e1, a1, ff, fm, b1, c, nI_1, show lyC 1 = 0 from rfl, show rcv 1 = 0 from rfl, show rcv 4 = 0 from rfl, show lyC 4 = 0 from rfl]
    · obtain ⟨g3, c1, c2⟩ := ih (k + 1) g2 b (by omega) R2 hn2
      rw [e18, e15] at c1
      refine ⟨g3, ?_, fun a z1 z2 z3 => by rw [c2 a z1 z2 z3, fr2 a z1 z2 z3]⟩
      rw [wbN, if_neg c]
      refine Eq.trans ?_ c1
      simp [eX6_kindsByRow_0, eX6_kindsByRow_1, eX6_kindsByRow_2, eX6_kindsByRow_3, eX6_kindsByRow_5, eX6_kindsByRow_7, eX6_kindsByRow_10, eX6_kindsByRow_11, eX6_kindsByRow_14, eX6_kindsByRow_15, eX6_kindsByRow_18, eX6_kindsByRow_21, eX6_kindsByRow_22, eX6_kindsByRow_25, eX6_kindsByRow_26, eX6_kindsByRow_27, eX6_kindsByRow_28, eX6_kindsByRow_31, eX6_kindsByRow_32, eX6_kindsByRow_35, eX6_kindsByRow_38, eX6_kindsByRow_39, eX6_kindsByRow_42, eX6_kindsByRow_43, eX6_kindsByRow_46, eX6_kindsByRow_47, eX6_kindsByRow_50, eX6_kindsByRow_52, eX6_kindsByRow_55, eX6_kindsByRow_56, eX6_kindsByRow_57, eX6_kindsByRow_58, eX6_kindsByRow_59, eX6_kindsByRow_60, eX6_kindsByRow_61, eX6_kindsByRow_64, eX6_kindsByRow_67, eX6_kindsByRow_68, e1, a1, ff, fm, b1, c, nI_1, show lyC 1 = 0 from rfl, show rcv 1 = 0 from rfl, show rcv 4 = 0 from rfl, show lyC 4 = 0 from rfl]
theorem sb_loop {N : Nat} (hN : N ≤ 12) : ∀ (m k : Nat) (h : Sto) (b : Int32), k + m = 10 → Rel h → h 14 1 = nI N → ∃ h' : Sto, ev mX6_strengthsByRow 4 [.ref 0, .int b, .int (nI k)] [] h = some (some (.int (wbN (fun k => fwN (h 15) 0 N 0 (upd (mr h 18) 7 (nI k))) m k b)), h') ∧ ∀ a, a ≠ 4 → a ≠ 5 → a ≠ 6 → h' a = h a := by
  intro m
  induction m with
  | zero =>
    intro k h b hk R hn
    have e1 : (9 : Int32) < nI k := by rw [show k = 10 by omega]; decide
    exact ⟨h, by simp [eX6_strengthsByRow_0, eX6_strengthsByRow_1, eX6_strengthsByRow_2, eX6_strengthsByRow_3, eX6_strengthsByRow_4, eX6_strengthsByRow_5, eX6_strengthsByRow_7, eX6_strengthsByRow_10, eX6_strengthsByRow_11, eX6_strengthsByRow_14, eX6_strengthsByRow_15, eX6_strengthsByRow_18, eX6_strengthsByRow_21, eX6_strengthsByRow_22, eX6_strengthsByRow_25, eX6_strengthsByRow_26, eX6_strengthsByRow_29, eX6_strengthsByRow_30, eX6_strengthsByRow_33, eX6_strengthsByRow_34, eX6_strengthsByRow_37, eX6_strengthsByRow_38, eX6_strengthsByRow_41, eX6_strengthsByRow_43, eX6_strengthsByRow_46, eX6_strengthsByRow_47, eX6_strengthsByRow_48, eX6_strengthsByRow_49, eX6_strengthsByRow_50, eX6_strengthsByRow_51, eX6_strengthsByRow_52, eX6_strengthsByRow_55, eX6_strengthsByRow_58, eX6_strengthsByRow_59, e1, wbN], fun _ _ _ _ => rfl⟩
  | succ m ih =>
    intro k h b hk R hn
    have e1 : ¬ (9 : Int32) < nI k := by
      rw [t_lt, t_nI (by omega)]
      show ¬ (9 : Int) < _
      omega
    obtain ⟨g1, a1, a2, a3⟩ := f_cp R
    have e2 : hm (st g1 4 9 (nI k)) 4 = upd (mr h 18) 7 (nI k) := by
      rw [← a2]
      exact hm_st (c := 4) (j := 7) (by omega)
    obtain ⟨g2, b1, b2⟩ := f_fns (h := st g1 4 9 (nI k)) (e := 0) hN (by rw [st_cell (by omega), a3 14 (by omega) (by omega) (by omega)]; exact hn) (by rw [e2]; exact ok_upd R.2.1 (by omega) ⟨by omega, by omega, by omega, by omega, fun _ => by rw [t_nI (by omega)]; omega⟩)
    rw [e2, st_cell (show 15 ≠ 4 by omega), a3 15 (by omega) (by omega) (by omega)] at b1
    have fr2 : ∀ a, a ≠ 4 → a ≠ 5 → a ≠ 6 → g2 a = h a := fun a z1 z2 z3 => by rw [b2 a z1, st_cell z1, a3 a z1 z2 z3]
    have R2 := R.f456 fr2
    have e18 : mr g2 18 = mr h 18 := mr_cell (fr2 18 (by omega) (by omega) (by omega))
    have e15 : g2 15 = h 15 := fr2 15 (by omega) (by omega) (by omega)
    have hn2 : g2 14 1 = nI N := by rw [fr2 14 (by omega) (by omega) (by omega)]; exact hn
    rw [eX6_strengthsByRow_4]
    by_cases c : fwN (h 15) 0 N 0 (upd (mr h 18) 7 (nI k)) = -9
    · obtain ⟨g3, c1, c2⟩ := ih (k + 1) g2 (b ||| 1 <<< (nI k &&& 31)) (by omega) R2 hn2
      rw [e18, e15] at c1
      refine ⟨g3, ?_, fun a z1 z2 z3 => by rw [c2 a z1 z2 z3, fr2 a z1 z2 z3]⟩
      rw [wbN, if_pos c]
      refine Eq.trans ?_ c1
      simp [eX6_strengthsByRow_0, eX6_strengthsByRow_1, eX6_strengthsByRow_2, eX6_strengthsByRow_3, eX6_strengthsByRow_5, eX6_strengthsByRow_7, eX6_strengthsByRow_10, eX6_strengthsByRow_11, eX6_strengthsByRow_14, eX6_strengthsByRow_15, eX6_strengthsByRow_18, eX6_strengthsByRow_21, eX6_strengthsByRow_22, eX6_strengthsByRow_25, eX6_strengthsByRow_26, eX6_strengthsByRow_29, eX6_strengthsByRow_30, eX6_strengthsByRow_33, eX6_strengthsByRow_34, eX6_strengthsByRow_37, eX6_strengthsByRow_38, eX6_strengthsByRow_41, eX6_strengthsByRow_43, eX6_strengthsByRow_46, eX6_strengthsByRow_47, eX6_strengthsByRow_48, eX6_strengthsByRow_49, eX6_strengthsByRow_50, eX6_strengthsByRow_51, eX6_strengthsByRow_52, eX6_strengthsByRow_55, eX6_strengthsByRow_58, eX6_strengthsByRow_59, e1, a1, b1, c, nI_1, show lyC 1 = 0 from rfl, show rcv 1 = 0 from rfl, show rcv 4 = 0 from rfl, show lyC 4 = 0 from rfl]
    · obtain ⟨g3, c1, c2⟩ := ih (k + 1) g2 b (by omega) R2 hn2
      rw [e18, e15] at c1
      refine ⟨g3, ?_, fun a z1 z2 z3 => by rw [c2 a z1 z2 z3, fr2 a z1 z2 z3]⟩
      rw [wbN, if_neg c]
      refine Eq.trans ?_ c1
      simp [eX6_strengthsByRow_0, eX6_strengthsByRow_1, eX6_strengthsByRow_2, eX6_strengthsByRow_3, eX6_strengthsByRow_5, eX6_strengthsByRow_7, eX6_strengthsByRow_10, eX6_strengthsByRow_11, eX6_strengthsByRow_14, eX6_strengthsByRow_15, eX6_strengthsByRow_18, eX6_strengthsByRow_21, eX6_strengthsByRow_22, eX6_strengthsByRow_25, eX6_strengthsByRow_26, eX6_strengthsByRow_29, eX6_strengthsByRow_30, eX6_strengthsByRow_33, eX6_strengthsByRow_34, eX6_strengthsByRow_37, eX6_strengthsByRow_38, eX6_strengthsByRow_41, eX6_strengthsByRow_43, eX6_strengthsByRow_46, eX6_strengthsByRow_47, eX6_strengthsByRow_48, eX6_strengthsByRow_49, eX6_strengthsByRow_50, eX6_strengthsByRow_51, eX6_strengthsByRow_52, eX6_strengthsByRow_55, eX6_strengthsByRow_58, eX6_strengthsByRow_59, e1, a1, b1, c, nI_1, show lyC 1 = 0 from rfl, show rcv 1 = 0 from rfl, show rcv 4 = 0 from rfl, show lyC 4 = 0 from rfl]
/-- the model's row in mind there -/
def wiR (q : Int32) (r : Nat → Int32) (i k : Nat) : Nat → Int32 := if q = 0 then upd r (8 + 2 * i) (nI k) else upd r 7 (nI k)
def wiM (q : Int32) : Nat := if q = 0 then 6 else 10
theorem wm_which {q : Int32} (hq : q = 0 ∨ q = 1) {i N : Nat} (hi : i < 12) (hN : N ≤ 12) {r : Nat → Int32} (ok : Ok r) {w : Nat → Int32} : ∀ (m k : Nat) (h : Sto) (b : Int32), k + m = wiM q → mr h 18 = r → h 17 9 = nI N → h 23 = w → ∃ h' : Sto, ev mX7_which 35 [.ref 17, .int (nI i), .int q, .int b, .int (nI k)] [] h = some (some (.int (wbN (fun k => fwN w 0 N 0 (wiR q r i k)) m k b)), h') ∧ ∀ a, a ≠ 19 → h' a = h a := by
  intro m
  induction m with
  | zero =>
    intro k h b hk hr hn hw
    refine ⟨h, ?_, fun _ _ => rfl⟩
    unfold wiM at hk
    rcases hq with rfl | rfl
    · have e1 : (6 : Int32) ≤ nI k := by rw [show k = 6 by simpa using hk]; decide
      simp [eX7_which_0, eX7_which_1, eX7_which_2, eX7_which_5, eX7_which_8, eX7_which_9, eX7_which_10, eX7_which_13, eX7_which_14, eX7_which_15, eX7_which_16, eX7_which_17, eX7_which_20, eX7_which_23, eX7_which_24, eX7_which_26, eX7_which_29, eX7_which_30, eX7_which_31, eX7_which_32, eX7_which_33, eX7_which_35, eX7_which_37, eX7_which_38, eX7_which_41, eX7_which_43, eX7_which_46, eX7_which_48, eX7_which_51, eX7_which_52, eX7_which_55, eX7_which_56, eX7_which_59, eX7_which_62, eX7_which_63, eX7_which_66, eX7_which_67, eX7_which_70, eX7_which_72, eX7_which_73, eX7_which_74, eX7_which_75, eX7_which_76, eX7_which_78, eX7_which_79, eX7_which_82, eX7_which_83, eX7_which_86, eX7_which_88, eX7_which_90, eX7_which_91, eX7_which_92, eX7_which_93, eX7_which_94, eX7_which_95, eX7_which_98, eX7_which_101, eX7_which_104, eX7_which_105, eX7_which_107, eX7_which_108, eX7_which_111, eX7_which_112, eX7_which_113, eX7_which_114, eX7_which_117, eX7_which_120, eX7_which_121, e1, wbN]
    · have e1 : (10 : Int32) ≤ nI k := by rw [show k = 10 by simpa using hk]; decide
      simp [eX7_which_0, eX7_which_1, eX7_which_2, eX7_which_5, eX7_which_8, eX7_which_9, eX7_which_10, eX7_which_13, eX7_which_14, eX7_which_15, eX7_which_16, eX7_which_17, eX7_which_20, eX7_which_23, eX7_which_24, eX7_which_26, eX7_which_29, eX7_which_30, eX7_which_31, eX7_which_32, eX7_which_33, eX7_which_35, eX7_which_37, eX7_which_38, eX7_which_41, eX7_which_43, eX7_which_46, eX7_which_48, eX7_which_51, eX7_which_52, eX7_which_55, eX7_which_56, eX7_which_59, eX7_which_62, eX7_which_63, eX7_which_66, eX7_which_67, eX7_which_70, eX7_which_72, eX7_which_73, eX7_which_74, eX7_which_75, eX7_which_76, eX7_which_78, eX7_which_79, eX7_which_82, eX7_which_83, eX7_which_86, eX7_which_88, eX7_which_90, eX7_which_91, eX7_which_92, eX7_which_93, eX7_which_94, eX7_which_95, eX7_which_98, eX7_which_101, eX7_which_104, eX7_which_105, eX7_which_107, eX7_which_108, eX7_which_111, eX7_which_112, eX7_which_113, eX7_which_114, eX7_which_117, eX7_which_120, eX7_which_121, e1, wbN]
  | succ m ih =>
    intro k h b hk hr hn hw
    obtain ⟨a8, b8, c8, d8, e8, g8⟩ := ix8 hi
    obtain ⟨g1, a1, a2, a3⟩ := m_lays (r := 18) (t := 19) (h := h) rfl rfl (by omega)
    rw [hr] at a2
    have pre : ∃ g : Sto, ev mX7_which 35 [.ref 17, .int (nI i), .int q, .int b, .int (nI k)] [] h = ev mX7_which 91 [.ref 17, .int (nI i), .int q, .int b, .int (nI k)] [] g ∧ mr g 19 = wiR q r i k ∧ Ok (wiR q r i k) ∧ ∀ a, a ≠ 19 → g a = h a := by
      unfold wiM at hk
      rcases hq with rfl | rfl
      · have hk6 : k + (m + 1) = 6 := by simpa using hk
        have e1 : ¬ (6 : Int32) ≤ nI k := by
          rw [t_le, t_nI (by omega)]
          show ¬ (6 : Int) ≤ _
          omega
        refine ⟨st g1 19 (8 + 2 * i) (nI k), ?_, ?_, ?_, fun a z => by rw [st_cell z, a3 a z]⟩
        · rw [eX7_which_35]
          simp [eX7_which_0, eX7_which_1, eX7_which_2, eX7_which_5, eX7_which_8, eX7_which_9, eX7_which_10, eX7_which_13, eX7_which_14, eX7_which_15, eX7_which_16, eX7_which_17, eX7_which_20, eX7_which_23, eX7_which_24, eX7_which_26, eX7_which_29, eX7_which_30, eX7_which_31, eX7_which_32, eX7_which_33, eX7_which_37, eX7_which_38, eX7_which_41, eX7_which_43, eX7_which_46, eX7_which_48, eX7_which_51, eX7_which_52, eX7_which_55, eX7_which_56, eX7_which_59, eX7_which_62, eX7_which_63, eX7_which_66, eX7_which_67, eX7_which_70, eX7_which_72, eX7_which_73, eX7_which_74, eX7_which_75, eX7_which_76, eX7_which_78, eX7_which_79, eX7_which_82, eX7_which_83, eX7_which_86, eX7_which_88, eX7_which_90, eX7_which_92, eX7_which_93, eX7_which_94, eX7_which_95, eX7_which_98, eX7_which_101, eX7_which_104, eX7_which_105, eX7_which_107, eX7_which_108, eX7_which_111, eX7_which_112, eX7_which_113, eX7_which_114, eX7_which_117, eX7_which_120, eX7_which_121, e1, a1, a8, b8, e8, show lyA 19 = some 32 from rfl]
        · rw [mr_st (by omega), a2]
          unfold wiR
          rw [if_pos rfl]
        · unfold wiR
          rw [if_pos rfl]
          exact ok_k ok hi (by rw [t_nI (by omega)]; omega)
      · have hk10 : k + (m + 1) = 10 := by simpa using hk
        have e1 : ¬ (10 : Int32) ≤ nI k := by
          rw [t_le, t_nI (by omega)]
          show ¬ (10 : Int) ≤ _
          omega
        refine ⟨st g1 19 7 (nI k), ?_, ?_, ?_, fun a z => by rw [st_cell z, a3 a z]⟩
        · rw [eX7_which_35]
          simp [eX7_which_0, eX7_which_1, eX7_which_2, eX7_which_5, eX7_which_8, eX7_which_9, eX7_which_10, eX7_which_13, eX7_which_14, eX7_which_15, eX7_which_16, eX7_which_17, eX7_which_20, eX7_which_23, eX7_which_24, eX7_which_26, eX7_which_29, eX7_which_30, eX7_which_31, eX7_which_32, eX7_which_33, eX7_which_37, eX7_which_38, eX7_which_41, eX7_which_43, eX7_which_46, eX7_which_48, eX7_which_51, eX7_which_52, eX7_which_55, eX7_which_56, eX7_which_59, eX7_which_62, eX7_which_63, eX7_which_66, eX7_which_67, eX7_which_70, eX7_which_72, eX7_which_73, eX7_which_74, eX7_which_75, eX7_which_76, eX7_which_78, eX7_which_79, eX7_which_82, eX7_which_83, eX7_which_86, eX7_which_88, eX7_which_90, eX7_which_92, eX7_which_93, eX7_which_94, eX7_which_95, eX7_which_98, eX7_which_101, eX7_which_104, eX7_which_105, eX7_which_107, eX7_which_108, eX7_which_111, eX7_which_112, eX7_which_113, eX7_which_114, eX7_which_117, eX7_which_120, eX7_which_121, e1, a1, show lyA 19 = some 32 from rfl]
        · rw [mr_st (by omega), a2]
          unfold wiR
          rw [if_neg (by decide)]
        · unfold wiR
          rw [if_neg (by decide)]
          exact ok_upd ok (by omega) ⟨by omega, by omega, by omega, by omega, fun _ => by rw [t_nI (by omega)]; omega⟩
    obtain ⟨g, p1, p2, p3, p4⟩ := pre
    obtain ⟨g2, b1, b2⟩ := m_fw (h := g) (e := 0) (Or.inl rfl) hN (by rw [p2]; exact p3)
    rw [p2, p4 23 (by omega), hw] at b1
    have hn1 : g 17 9 = nI N := by rw [p4 17 (by omega)]; exact hn
    have fr2 : ∀ a, a ≠ 19 → g2 a = h a := fun a z => by rw [b2 a z, p4 a z]
    have neg := fwN_neg (e := 0) (w := w) (m := N) (j := 0) (r := wiR q r i k) (by omega)
    rw [p1]
    by_cases c : fwN w 0 N 0 (wiR q r i k) = -9
    · obtain ⟨g3, c1, c2⟩ := ih (k + 1) g2 (b ||| 1 <<< (nI k &&& 31)) (by omega) (by rw [mr_cell (fr2 18 (by omega))]; exact hr) (by rw [fr2 17 (by omega)]; exact hn) (by rw [fr2 23 (by omega)]; exact hw)
      refine ⟨g3, ?_, fun a z => by rw [c2 a z, fr2 a z]⟩
      rw [wbN, if_pos c]
      refine Eq.trans ?_ c1
      rw [c] at b1
      simp [eX7_which_0, eX7_which_1, eX7_which_2, eX7_which_5, eX7_which_8, eX7_which_9, eX7_which_10, eX7_which_13, eX7_which_14, eX7_which_15, eX7_which_16, eX7_which_17, eX7_which_20, eX7_which_23, eX7_which_24, eX7_which_26, eX7_which_29, eX7_which_30, eX7_which_31, eX7_which_32, eX7_which_33, eX7_which_37, eX7_which_38, eX7_which_41, eX7_which_43, eX7_which_46, eX7_which_48, eX7_which_51, eX7_which_52, eX7_which_55, eX7_which_56, eX7_which_59, eX7_which_62, eX7_which_63, eX7_which_66, eX7_which_67, eX7_which_70, eX7_which_72, eX7_which_73, eX7_which_74, eX7_which_75, eX7_which_76, eX7_which_78, eX7_which_79, eX7_which_82, eX7_which_83, eX7_which_86, eX7_which_88, eX7_which_90, eX7_which_91, eX7_which_92, eX7_which_93, eX7_which_94, eX7_which_95, eX7_which_98, eX7_which_101, eX7_which_104, eX7_which_105, eX7_which_107, eX7_which_108, eX7_which_111, eX7_which_112, eX7_which_113, eX7_which_114, eX7_which_117, eX7_which_120, eX7_which_121, hn1, b1, nI_1]
    · have c' : ¬ fwN w 0 N 0 (wiR q r i k) < 0 := fun z => c (neg.mp z)
      have c2' : 0 ≤ fwN w 0 N 0 (wiR q r i k) := Int32.not_lt.mp c'
      obtain ⟨g3, c1, c2⟩ := ih (k + 1) g2 b (by omega) (by rw [mr_cell (fr2 18 (by omega))]; exact hr) (by rw [fr2 17 (by omega)]; exact hn) (by rw [fr2 23 (by omega)]; exact hw)
      refine ⟨g3, ?_, fun a z => by rw [c2 a z, fr2 a z]⟩
      rw [wbN, if_neg c]
      refine Eq.trans ?_ c1
      simp [eX7_which_0, eX7_which_1, eX7_which_2, eX7_which_5, eX7_which_8, eX7_which_9, eX7_which_10, eX7_which_13, eX7_which_14, eX7_which_15, eX7_which_16, eX7_which_17, eX7_which_20, eX7_which_23, eX7_which_24, eX7_which_26, eX7_which_29, eX7_which_30, eX7_which_31, eX7_which_32, eX7_which_33, eX7_which_37, eX7_which_38, eX7_which_41, eX7_which_43, eX7_which_46, eX7_which_48, eX7_which_51, eX7_which_52, eX7_which_55, eX7_which_56, eX7_which_59, eX7_which_62, eX7_which_63, eX7_which_66, eX7_which_67, eX7_which_70, eX7_which_72, eX7_which_73, eX7_which_74, eX7_which_75, eX7_which_76, eX7_which_78, eX7_which_79, eX7_which_82, eX7_which_83, eX7_which_86, eX7_which_88, eX7_which_90, eX7_which_91, eX7_which_92, eX7_which_93, eX7_which_94, eX7_which_95, eX7_which_98, eX7_which_101, eX7_which_104, eX7_which_105, eX7_which_107, eX7_which_108, eX7_which_111, eX7_which_112, eX7_which_113, eX7_which_114, eX7_which_117, eX7_which_120, eX7_which_121, hn1, b1, c2', nI_1]
theorem s_which {x q : Int32} : Sim [.int x, .int q] [.int x, .int q, .null, .null] mX6_which mX7_which := by
  intro h R
  have fi : ev mX0_hasInch 0 [.ref 1, .int x] [] h = some (some (.int (if x < 0 then 0 else if x < h 18 0 then 1 else 0)), h) := by
    rw [f_hasInch HC1, R.s0]
    by_cases h1 : x < 0
    · rw [if_pos h1, if_pos h1]
    · rw [if_neg h1, if_neg h1]
      by_cases h2 : x < h 18 0
      · rw [if_pos h2, if_neg (Int32.not_le.mpr h2)]
      · rw [if_neg h2, if_pos (Int32.not_lt.mp h2)]
  have mi : ∀ h' : Sto, h' 18 = h 18 → ev mX7_isInch 0 [.ref 17, .int x] [] h' = some (some (.int (if x < 0 then 0 else if x < h 18 0 then 1 else 0)), h') := by
    intro h' hc
    rw [m_isInch (by rw [hc]; exact R.len), hc]
  by_cases h1 : x < 0
  · rw [if_pos h1] at fi
    have mi1 := mi (st h 16 1 (h 16 1 + 1)) (st_cell (by omega))
    rw [if_pos h1] at mi1
    exact rf_both R (k := 1) (w := -1) (by omega) (by simp [le_nl, -Int32.not_lt, eX6_which_0, eX6_which_1, eX6_which_4, eX6_which_5, eX6_which_8, eX6_which_11, eX6_which_12, eX6_which_13, eX6_which_16, eX6_which_17, eX6_which_18, eX6_which_21, eX6_which_22, eX6_which_23, eX6_which_26, eX6_which_27, eX6_which_29, eX6_which_32, eX6_which_33, eX6_which_34, eX6_which_37, eX6_which_38, eX6_which_39, eX6_which_42, eX6_which_45, eX6_which_46, eX6_which_49, fi, f_refuse, show lyC 1 = 0 from rfl, show rcv 1 = 0 from rfl, show rcv 4 = 0 from rfl, show lyC 4 = 0 from rfl]) (by simp [le_nl, -Int32.not_lt, eX7_which_0, eX7_which_1, eX7_which_2, eX7_which_5, eX7_which_8, eX7_which_9, eX7_which_10, eX7_which_13, eX7_which_14, eX7_which_15, eX7_which_16, eX7_which_17, eX7_which_20, eX7_which_23, eX7_which_24, eX7_which_26, eX7_which_29, eX7_which_30, eX7_which_31, eX7_which_32, eX7_which_33, eX7_which_37, eX7_which_38, eX7_which_41, eX7_which_43, eX7_which_46, eX7_which_48, eX7_which_51, eX7_which_52, eX7_which_55, eX7_which_56, eX7_which_59, eX7_which_62, eX7_which_63, eX7_which_66, eX7_which_67, eX7_which_70, eX7_which_72, eX7_which_73, eX7_which_74, eX7_which_75, eX7_which_76, eX7_which_78, eX7_which_79, eX7_which_82, eX7_which_83, eX7_which_86, eX7_which_88, eX7_which_90, eX7_which_91, eX7_which_92, eX7_which_93, eX7_which_94, eX7_which_95, eX7_which_98, eX7_which_101, eX7_which_104, eX7_which_105, eX7_which_107, eX7_which_108, eX7_which_111, eX7_which_112, eX7_which_113, eX7_which_114, eX7_which_117, eX7_which_120, eX7_which_121, mi1, m_no])
  · by_cases h2 : x < h 18 0
    · simp only [h1, h2, ↓reduceIte] at fi mi
      by_cases hq : q = 0 ∨ q = 1
      · obtain ⟨i, hi, rfl⟩ := inch_k R h1 h2
        obtain ⟨N, r1, r2, r3, r4⟩ := id R.2.2.2.2.2
        rcases hq with rfl | rfl
        · obtain ⟨g1, a1, a2⟩ := kb_loop hi r1 6 0 h 0 rfl R r2
          have R1 := R.f456 a2
          have f18 : g1 18 = h 18 := a2 18 (by omega) (by omega) (by omega)
          obtain ⟨g2, b1, b2⟩ := wm_which (q := 0) (Or.inl rfl) hi r1 R.2.1 6 0 g1 0 rfl (mr_cell f18) (by rw [a2 17 (by omega) (by omega) (by omega)]; exact r3) (a2 23 (by omega) (by omega) (by omega))
          have ew : (fun k => fwN (h 23) 0 N 0 (wiR 0 (mr h 18) i k)) = fun k => fwN (h 15) 0 N 0 (upd (mr h 18) (8 + 2 * i) (nI k)) := by
            funext k
            unfold wiR
            rw [if_pos rfl, fwN_congr (w := h 23) (w' := h 15) N 0 _ (fun i hi => (r4 i (by omega)).symm)]
          rw [ew] at b1
          rw [nI_0] at a1 b1
          have mi1 := mi g1 f18
          generalize wbN (fun k => fwN (h 15) 0 N 0 (upd (mr h 18) (8 + 2 * i) (nI k))) 6 0 0 = V at a1 b1
          refine ⟨V, g1, g2, ?_, ?_, R1.f19 b2⟩
          rotate_left
          · simp [le_nl, -Int32.not_lt, eX7_which_0, eX7_which_1, eX7_which_2, eX7_which_5, eX7_which_8, eX7_which_9, eX7_which_10, eX7_which_13, eX7_which_14, eX7_which_15, eX7_which_16, eX7_which_17, eX7_which_20, eX7_which_23, eX7_which_24, eX7_which_26, eX7_which_29, eX7_which_30, eX7_which_31, eX7_which_32, eX7_which_33, eX7_which_37, eX7_which_38, eX7_which_41, eX7_which_43, eX7_which_46, eX7_which_48, eX7_which_51, eX7_which_52, eX7_which_55, eX7_which_56, eX7_which_59, eX7_which_62, eX7_which_63, eX7_which_66, eX7_which_67, eX7_which_70, eX7_which_72, eX7_which_73, eX7_which_74, eX7_which_75, eX7_which_76, eX7_which_78, eX7_which_79, eX7_which_82, eX7_which_83, eX7_which_86, eX7_which_88, eX7_which_90, eX7_which_91, eX7_which_92, eX7_which_93, eX7_which_94, eX7_which_95, eX7_which_98, eX7_which_101, eX7_which_104, eX7_which_105, eX7_which_107, eX7_which_108, eX7_which_111, eX7_which_112, eX7_which_113, eX7_which_114, eX7_which_117, eX7_which_120, eX7_which_121, mi1, m_isIn]
            exact b1
          · simp [le_nl, -Int32.not_lt, eX6_which_0, eX6_which_1, eX6_which_4, eX6_which_5, eX6_which_8, eX6_which_11, eX6_which_12, eX6_which_13, eX6_which_16, eX6_which_17, eX6_which_18, eX6_which_21, eX6_which_22, eX6_which_23, eX6_which_26, eX6_which_27, eX6_which_29, eX6_which_32, eX6_which_33, eX6_which_34, eX6_which_37, eX6_which_38, eX6_which_39, eX6_which_42, eX6_which_45, eX6_which_46, eX6_which_49, eX6_kindsByRow_0, eX6_kindsByRow_1, eX6_kindsByRow_2, eX6_kindsByRow_3, eX6_kindsByRow_5, eX6_kindsByRow_7, eX6_kindsByRow_10, eX6_kindsByRow_11, eX6_kindsByRow_14, eX6_kindsByRow_15, eX6_kindsByRow_18, eX6_kindsByRow_21, eX6_kindsByRow_22, eX6_kindsByRow_25, eX6_kindsByRow_26, eX6_kindsByRow_27, eX6_kindsByRow_28, eX6_kindsByRow_31, eX6_kindsByRow_32, eX6_kindsByRow_35, eX6_kindsByRow_38, eX6_kindsByRow_39, eX6_kindsByRow_42, eX6_kindsByRow_43, eX6_kindsByRow_46, eX6_kindsByRow_47, eX6_kindsByRow_50, eX6_kindsByRow_52, eX6_kindsByRow_55, eX6_kindsByRow_56, eX6_kindsByRow_57, eX6_kindsByRow_58, eX6_kindsByRow_59, eX6_kindsByRow_60, eX6_kindsByRow_61, eX6_kindsByRow_64, eX6_kindsByRow_67, eX6_kindsByRow_68, fi, a1, show lyC 1 = 0 from rfl, show rcv 1 = 0 from rfl, show rcv 4 = 0 from rfl, show lyC 4 = 0 from rfl]
        · obtain ⟨g1, a1, a2⟩ := sb_loop r1 10 0 h 0 rfl R r2
          have R1 := R.f456 a2
          have f18 : g1 18 = h 18 := a2 18 (by omega) (by omega) (by omega)
          obtain ⟨g2, b1, b2⟩ := wm_which (q := 1) (Or.inr rfl) hi r1 R.2.1 10 0 g1 0 rfl (mr_cell f18) (by rw [a2 17 (by omega) (by omega) (by omega)]; exact r3) (a2 23 (by omega) (by omega) (by omega))
          have ew : (fun k => fwN (h 23) 0 N 0 (wiR 1 (mr h 18) i k)) = fun k => fwN (h 15) 0 N 0 (upd (mr h 18) 7 (nI k)) := by
            funext k
            unfold wiR
            rw [if_neg (by decide), fwN_congr (w := h 23) (w' := h 15) N 0 _ (fun i hi => (r4 i (by omega)).symm)]
          rw [ew] at b1
          rw [nI_0] at a1 b1
          have mi1 := mi g1 f18
          generalize wbN (fun k => fwN (h 15) 0 N 0 (upd (mr h 18) 7 (nI k))) 10 0 0 = V at a1 b1
          refine ⟨V, g1, g2, ?_, ?_, R1.f19 b2⟩
          rotate_left
          · simp [le_nl, -Int32.not_lt, eX7_which_0, eX7_which_1, eX7_which_2, eX7_which_5, eX7_which_8, eX7_which_9, eX7_which_10, eX7_which_13, eX7_which_14, eX7_which_15, eX7_which_16, eX7_which_17, eX7_which_20, eX7_which_23, eX7_which_24, eX7_which_26, eX7_which_29, eX7_which_30, eX7_which_31, eX7_which_32, eX7_which_33, eX7_which_37, eX7_which_38, eX7_which_41, eX7_which_43, eX7_which_46, eX7_which_48, eX7_which_51, eX7_which_52, eX7_which_55, eX7_which_56, eX7_which_59, eX7_which_62, eX7_which_63, eX7_which_66, eX7_which_67, eX7_which_70, eX7_which_72, eX7_which_73, eX7_which_74, eX7_which_75, eX7_which_76, eX7_which_78, eX7_which_79, eX7_which_82, eX7_which_83, eX7_which_86, eX7_which_88, eX7_which_90, eX7_which_91, eX7_which_92, eX7_which_93, eX7_which_94, eX7_which_95, eX7_which_98, eX7_which_101, eX7_which_104, eX7_which_105, eX7_which_107, eX7_which_108, eX7_which_111, eX7_which_112, eX7_which_113, eX7_which_114, eX7_which_117, eX7_which_120, eX7_which_121, mi1, m_isIn]
            exact b1
          · simp [le_nl, -Int32.not_lt, eX6_which_0, eX6_which_1, eX6_which_4, eX6_which_5, eX6_which_8, eX6_which_11, eX6_which_12, eX6_which_13, eX6_which_16, eX6_which_17, eX6_which_18, eX6_which_21, eX6_which_22, eX6_which_23, eX6_which_26, eX6_which_27, eX6_which_29, eX6_which_32, eX6_which_33, eX6_which_34, eX6_which_37, eX6_which_38, eX6_which_39, eX6_which_42, eX6_which_45, eX6_which_46, eX6_which_49, eX6_strengthsByRow_0, eX6_strengthsByRow_1, eX6_strengthsByRow_2, eX6_strengthsByRow_3, eX6_strengthsByRow_5, eX6_strengthsByRow_7, eX6_strengthsByRow_10, eX6_strengthsByRow_11, eX6_strengthsByRow_14, eX6_strengthsByRow_15, eX6_strengthsByRow_18, eX6_strengthsByRow_21, eX6_strengthsByRow_22, eX6_strengthsByRow_25, eX6_strengthsByRow_26, eX6_strengthsByRow_29, eX6_strengthsByRow_30, eX6_strengthsByRow_33, eX6_strengthsByRow_34, eX6_strengthsByRow_37, eX6_strengthsByRow_38, eX6_strengthsByRow_41, eX6_strengthsByRow_43, eX6_strengthsByRow_46, eX6_strengthsByRow_47, eX6_strengthsByRow_48, eX6_strengthsByRow_49, eX6_strengthsByRow_50, eX6_strengthsByRow_51, eX6_strengthsByRow_52, eX6_strengthsByRow_55, eX6_strengthsByRow_58, eX6_strengthsByRow_59, fi, a1, show lyC 1 = 0 from rfl, show rcv 1 = 0 from rfl, show rcv 4 = 0 from rfl, show lyC 4 = 0 from rfl]
      · have n0 : ¬ q = 0 := fun z => hq (Or.inl z)
        have n1 : ¬ q = 1 := fun z => hq (Or.inr z)
        have mq : ev mX7_isIn 0 [.int q, .int 0, .int 1] [] (st h 16 2 (h 16 2 + 1)) = some (some (.int 0), st h 16 2 (h 16 2 + 1)) := by
          rw [m_isIn]
          by_cases a : q < 0
          · rw [if_pos a]
          · rw [if_neg a]
            by_cases b : 1 < q
            · rw [if_pos b]
            · exact absurd (end_in.mp ⟨a, b⟩) hq
        have mi1 := mi (st h 16 2 (h 16 2 + 1)) (st_cell (by omega))
        exact rf_both R (k := 2) (w := -2) (by omega) (by simp [le_nl, -Int32.not_lt, eX6_which_0, eX6_which_1, eX6_which_4, eX6_which_5, eX6_which_8, eX6_which_11, eX6_which_12, eX6_which_13, eX6_which_16, eX6_which_17, eX6_which_18, eX6_which_21, eX6_which_22, eX6_which_23, eX6_which_26, eX6_which_27, eX6_which_29, eX6_which_32, eX6_which_33, eX6_which_34, eX6_which_37, eX6_which_38, eX6_which_39, eX6_which_42, eX6_which_45, eX6_which_46, eX6_which_49, fi, n0, n1, f_refuse, show lyC 1 = 0 from rfl, show rcv 1 = 0 from rfl, show rcv 4 = 0 from rfl, show lyC 4 = 0 from rfl]) (by simp [le_nl, -Int32.not_lt, eX7_which_0, eX7_which_1, eX7_which_2, eX7_which_5, eX7_which_8, eX7_which_9, eX7_which_10, eX7_which_13, eX7_which_14, eX7_which_15, eX7_which_16, eX7_which_17, eX7_which_20, eX7_which_23, eX7_which_24, eX7_which_26, eX7_which_29, eX7_which_30, eX7_which_31, eX7_which_32, eX7_which_33, eX7_which_37, eX7_which_38, eX7_which_41, eX7_which_43, eX7_which_46, eX7_which_48, eX7_which_51, eX7_which_52, eX7_which_55, eX7_which_56, eX7_which_59, eX7_which_62, eX7_which_63, eX7_which_66, eX7_which_67, eX7_which_70, eX7_which_72, eX7_which_73, eX7_which_74, eX7_which_75, eX7_which_76, eX7_which_78, eX7_which_79, eX7_which_82, eX7_which_83, eX7_which_86, eX7_which_88, eX7_which_90, eX7_which_91, eX7_which_92, eX7_which_93, eX7_which_94, eX7_which_95, eX7_which_98, eX7_which_101, eX7_which_104, eX7_which_105, eX7_which_107, eX7_which_108, eX7_which_111, eX7_which_112, eX7_which_113, eX7_which_114, eX7_which_117, eX7_which_120, eX7_which_121, mi1, mq, m_no])
    · have mi1 := mi (st h 16 1 (h 16 1 + 1)) (st_cell (by omega))
      rw [if_neg h1, if_neg h2] at mi1 fi
      exact rf_both R (k := 1) (w := -1) (by omega) (by simp [le_nl, -Int32.not_lt, eX6_which_0, eX6_which_1, eX6_which_4, eX6_which_5, eX6_which_8, eX6_which_11, eX6_which_12, eX6_which_13, eX6_which_16, eX6_which_17, eX6_which_18, eX6_which_21, eX6_which_22, eX6_which_23, eX6_which_26, eX6_which_27, eX6_which_29, eX6_which_32, eX6_which_33, eX6_which_34, eX6_which_37, eX6_which_38, eX6_which_39, eX6_which_42, eX6_which_45, eX6_which_46, eX6_which_49, fi, f_refuse, show lyC 1 = 0 from rfl, show rcv 1 = 0 from rfl, show rcv 4 = 0 from rfl, show lyC 4 = 0 from rfl]) (by simp [le_nl, -Int32.not_lt, eX7_which_0, eX7_which_1, eX7_which_2, eX7_which_5, eX7_which_8, eX7_which_9, eX7_which_10, eX7_which_13, eX7_which_14, eX7_which_15, eX7_which_16, eX7_which_17, eX7_which_20, eX7_which_23, eX7_which_24, eX7_which_26, eX7_which_29, eX7_which_30, eX7_which_31, eX7_which_32, eX7_which_33, eX7_which_37, eX7_which_38, eX7_which_41, eX7_which_43, eX7_which_46, eX7_which_48, eX7_which_51, eX7_which_52, eX7_which_55, eX7_which_56, eX7_which_59, eX7_which_62, eX7_which_63, eX7_which_66, eX7_which_67, eX7_which_70, eX7_which_72, eX7_which_73, eX7_which_74, eX7_which_75, eX7_which_76, eX7_which_78, eX7_which_79, eX7_which_82, eX7_which_83, eX7_which_86, eX7_which_88, eX7_which_90, eX7_which_91, eX7_which_92, eX7_which_93, eX7_which_94, eX7_which_95, eX7_which_98, eX7_which_101, eX7_which_104, eX7_which_105, eX7_which_107, eX7_which_108, eX7_which_111, eX7_which_112, eX7_which_113, eX7_which_114, eX7_which_117, eX7_which_120, eX7_which_121, mi1, m_no])
end ROWS

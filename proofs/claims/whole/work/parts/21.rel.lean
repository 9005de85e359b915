/-! WHAT HOLDS BETWEEN CALLS: class and model alike -/
def Rel (h : Sto) : Prop := hm h 1 = mr h 18 ∧ Ok (mr h 18) ∧ ((h 0 3 = 0 ∨ h 0 3 = 1) ∧ h 17 4 = h 0 3 ∧ (h 0 3 = 1 → hm h 7 = mr h 20 ∧ Ok (mr h 20))) ∧ (∀ j, j < 7 → h 16 j = h 24 j) ∧ (∃ n : Nat, n ≤ 96 ∧ h 12 1 = nI n ∧ h 17 8 = nI n ∧ ∀ i, i < n → h 13 i = h 22 i ∧ 0 ≤ (h 13 i).toInt ∧ (h 13 i).toInt ≤ 255) ∧ (∃ n : Nat, n ≤ 12 ∧ h 14 1 = nI n ∧ h 17 9 = nI n ∧ ∀ i, i < n → h 15 i = h 23 i)
def Scr (a x : Nat) : Prop := Scc a ∨ Scm a x
theorem Rel.fr {h h' : Sto} (R : Rel h) (hf : ∀ a x, ¬ Scr a x → h' a x = h a x) : Rel h' := by
  have ce : ∀ a, a ≠ 4 → a ≠ 5 → a ≠ 6 → a ≠ 10 → a ≠ 11 → a ≠ 19 → a ≠ 21 → a ≠ 25 → a ≠ 26 → a ≠ 17 → h' a = h a := by
    intro a z1 z2 z3 z4 z5 z6 z7 z8 z9 z10
    funext x
    apply hf
    unfold Scr Scc Scm
    omega
  have c17 : ∀ x, x ≠ 11 → x ≠ 12 → x ≠ 14 → x ≠ 15 → h' 17 x = h 17 x := by
    intro x z1 z2 z3 z4
    apply hf
    unfold Scr Scc Scm
    omega
  obtain ⟨r1, r2, ⟨r3, r4, r5⟩, r6, ⟨n, r7, r8, r9, r10⟩, ⟨k, r11, r12, r13, r14⟩⟩ := R
  have e1 : hm h' 1 = hm h 1 := hm_o (ce 1 (by omega) (by omega) (by omega) (by omega) (by omega) (by omega) (by omega) (by omega) (by omega) (by omega)) (ce 2 (by omega) (by omega) (by omega) (by omega) (by omega) (by omega) (by omega) (by omega) (by omega) (by omega)) (ce 3 (by omega) (by omega) (by omega) (by omega) (by omega) (by omega) (by omega) (by omega) (by omega) (by omega))
  have e7 : hm h' 7 = hm h 7 := hm_o (ce 7 (by omega) (by omega) (by omega) (by omega) (by omega) (by omega) (by omega) (by omega) (by omega) (by omega)) (ce 8 (by omega) (by omega) (by omega) (by omega) (by omega) (by omega) (by omega) (by omega) (by omega) (by omega)) (ce 9 (by omega) (by omega) (by omega) (by omega) (by omega) (by omega) (by omega) (by omega) (by omega) (by omega))
  have m18 : mr h' 18 = mr h 18 := by unfold mr; rw [ce 18 (by omega) (by omega) (by omega) (by omega) (by omega) (by omega) (by omega) (by omega) (by omega) (by omega)]
  have m20 : mr h' 20 = mr h 20 := by unfold mr; rw [ce 20 (by omega) (by omega) (by omega) (by omega) (by omega) (by omega) (by omega) (by omega) (by omega) (by omega)]
  have c0 := ce 0 (by omega) (by omega) (by omega) (by omega) (by omega) (by omega) (by omega) (by omega) (by omega) (by omega)
  have c16 := ce 16 (by omega) (by omega) (by omega) (by omega) (by omega) (by omega) (by omega) (by omega) (by omega) (by omega)
  have c24 := ce 24 (by omega) (by omega) (by omega) (by omega) (by omega) (by omega) (by omega) (by omega) (by omega) (by omega)
  have c12 := ce 12 (by omega) (by omega) (by omega) (by omega) (by omega) (by omega) (by omega) (by omega) (by omega) (by omega)
  have c13 := ce 13 (by omega) (by omega) (by omega) (by omega) (by omega) (by omega) (by omega) (by omega) (by omega) (by omega)
  have c14 := ce 14 (by omega) (by omega) (by omega) (by omega) (by omega) (by omega) (by omega) (by omega) (by omega) (by omega)
  have c15 := ce 15 (by omega) (by omega) (by omega) (by omega) (by omega) (by omega) (by omega) (by omega) (by omega) (by omega)
  have c22 := ce 22 (by omega) (by omega) (by omega) (by omega) (by omega) (by omega) (by omega) (by omega) (by omega) (by omega)
  have c23 := ce 23 (by omega) (by omega) (by omega) (by omega) (by omega) (by omega) (by omega) (by omega) (by omega) (by omega)
  unfold Rel
  rw [e1, e7, m18, m20, c0, c16, c24, c12, c13, c14, c15, c22, c23, c17 4 (by omega) (by omega) (by omega) (by omega), c17 8 (by omega) (by omega) (by omega) (by omega), c17 9 (by omega) (by omega) (by omega) (by omega)]
  exact ⟨r1, r2, ⟨r3, r4, r5⟩, r6, ⟨n, r7, r8, r9, r10⟩, ⟨k, r11, r12, r13, r14⟩⟩
/-- both refuse -/
theorem Rel.rf {h : Sto} (R : Rel h) {k : Nat} (hk : k < 7) : Rel (st (st h 16 k (h 16 k + 1)) 24 k (h 24 k + 1)) := by
  obtain ⟨r1, r2, ⟨r3, r4, r5⟩, r6, ⟨n, r7, r8, r9, r10⟩, ⟨m, r11, r12, r13, r14⟩⟩ := R
  have ce : ∀ a, a ≠ 16 → a ≠ 24 → st (st h 16 k (h 16 k + 1)) 24 k (h 24 k + 1) a = h a := fun a z1 z2 => by rw [st_cell z2, st_cell z1]
  have e1 : hm (st (st h 16 k (h 16 k + 1)) 24 k (h 24 k + 1)) 1 = hm h 1 := hm_o (ce _ (by omega) (by omega)) (ce _ (by omega) (by omega)) (ce _ (by omega) (by omega))
  have e7 : hm (st (st h 16 k (h 16 k + 1)) 24 k (h 24 k + 1)) 7 = hm h 7 := hm_o (ce _ (by omega) (by omega)) (ce _ (by omega) (by omega)) (ce _ (by omega) (by omega))
  have m18 : mr (st (st h 16 k (h 16 k + 1)) 24 k (h 24 k + 1)) 18 = mr h 18 := by unfold mr; rw [ce 18 (by omega) (by omega)]
  have m20 : mr (st (st h 16 k (h 16 k + 1)) 24 k (h 24 k + 1)) 20 = mr h 20 := by unfold mr; rw [ce 20 (by omega) (by omega)]
  have h6 : ∀ j, j < 7 → st (st h 16 k (h 16 k + 1)) 24 k (h 24 k + 1) 16 j = st (st h 16 k (h 16 k + 1)) 24 k (h 24 k + 1) 24 j := by
    intro j hj
    by_cases hjk : j = k
    · subst hjk; simp [st_at, r6 j hj]
    · simp [st_at, hjk, r6 j hj]
  refine ⟨by rw [e1, m18]; exact r1, by rw [m18]; exact r2, ?_, h6, ?_, ?_⟩
  · rw [e7, m20, ce 0 (by omega) (by omega), ce 17 (by omega) (by omega)]; exact ⟨r3, r4, r5⟩
  · rw [ce 12 (by omega) (by omega), ce 13 (by omega) (by omega), ce 17 (by omega) (by omega), ce 22 (by omega) (by omega)]; exact ⟨n, r7, r8, r9, r10⟩
  · rw [ce 14 (by omega) (by omega), ce 15 (by omega) (by omega), ce 17 (by omega) (by omega), ce 23 (by omega) (by omega)]; exact ⟨m, r11, r12, r13, r14⟩
/-- a new row for both -/
theorem Rel.nw {h h' : Sto} (R : Rel h) (h1 : hm h' 1 = mr h' 18) (h2 : Ok (mr h' 18)) (hf : ∀ a x, a ≠ 1 → a ≠ 2 → a ≠ 3 → a ≠ 18 → ¬ Scr a x → h' a x = h a x) : Rel h' := by
  have ce : ∀ a, a ≠ 1 → a ≠ 2 → a ≠ 3 → a ≠ 18 → a ≠ 4 → a ≠ 5 → a ≠ 6 → a ≠ 10 → a ≠ 11 → a ≠ 19 → a ≠ 21 → a ≠ 25 → a ≠ 26 → a ≠ 17 → h' a = h a := by
    intro a y1 y2 y3 y4 z1 z2 z3 z4 z5 z6 z7 z8 z9 z10
    funext x
    apply hf a x y1 y2 y3 y4
    unfold Scr Scc Scm
    omega
  have c17 : ∀ x, x ≠ 11 → x ≠ 12 → x ≠ 14 → x ≠ 15 → h' 17 x = h 17 x := by
    intro x z1 z2 z3 z4
    apply hf 17 x (by omega) (by omega) (by omega) (by omega)
    unfold Scr Scc Scm
    omega
  obtain ⟨r1, r2, ⟨r3, r4, r5⟩, r6, ⟨n, r7, r8, r9, r10⟩, ⟨k, r11, r12, r13, r14⟩⟩ := R
  have sp : ∀ a, a = 0 ∨ a = 7 ∨ a = 8 ∨ a = 9 ∨ a = 12 ∨ a = 13 ∨ a = 14 ∨ a = 15 ∨ a = 16 ∨ a = 20 ∨ a = 22 ∨ a = 23 ∨ a = 24 → h' a = h a := fun a ha => ce a (by omega) (by omega) (by omega) (by omega) (by omega) (by omega) (by omega) (by omega) (by omega) (by omega) (by omega) (by omega) (by omega) (by omega)
  have e7 : hm h' 7 = hm h 7 := hm_o (sp _ (by omega)) (sp _ (by omega)) (sp _ (by omega))
  have m20 : mr h' 20 = mr h 20 := by unfold mr; rw [sp 20 (by omega)]
  refine ⟨h1, h2, ?_, ?_, ?_, ?_⟩
  · rw [e7, m20, sp 0 (by omega), c17 4 (by omega) (by omega) (by omega) (by omega)]; exact ⟨r3, r4, r5⟩
  · rw [sp 16 (by omega), sp 24 (by omega)]; exact r6
  · rw [sp 12 (by omega), sp 13 (by omega), sp 22 (by omega), c17 8 (by omega) (by omega) (by omega) (by omega)]; exact ⟨n, r7, r8, r9, r10⟩
  · rw [sp 14 (by omega), sp 15 (by omega), sp 23 (by omega), c17 9 (by omega) (by omega) (by omega) (by omega)]; exact ⟨k, r11, r12, r13, r14⟩
/-- a call: both answer alike, and go on alike -/
def Sim (LX LM : List Value) (mx mm : MD) : Prop := ∀ h, Rel h → ∃ (v : Int32) (h1 h2 : Sto), ev mx 0 (.ref 0 :: LX) [] h = some (some (.int v), h1) ∧ ev mm 0 (.ref 17 :: LM) [] h1 = some (some (.int v), h2) ∧ Rel h2
section REF
variable {h : Sto} {w x y z : Int32}
theorem f_refuse (h1 : ¬ -w < 0) (h2 : -w < 7) : ev mX6_refuse 0 [.ref 0, .int w, .null] [] h = some (some (.int w), st h 16 (-w).toNatClampNeg (h 16 (-w).toNatClampNeg + 1)) := by
  have h3 : ¬ 7 ≤ (-w).toNatClampNeg := by
    rw [t_cl]
    rw [t_lt] at h2
    have h4 : (-w).toInt < 7 := h2
    omega
  have h4 : ¬ 7 ≤ -w := Int32.not_le.mpr h2
  simp [eX6_refuse_0, eX6_refuse_1, eX6_refuse_2, eX6_refuse_3, eX6_refuse_4, eX6_refuse_7, eX6_refuse_8, eX6_refuse_9, eX6_refuse_12, eX6_refuse_13, eX6_refuse_16, eX6_refuse_17, eX6_refuse_20, eX6_refuse_21, eX6_refuse_22, eX6_refuse_23, eX6_refuse_24, eX6_refuse_25, eX6_refuse_26, eX6_refuse_27, h1, h4, h3, show lyA 16 = some 7 from rfl]
theorem f_refuseT (h1 : ¬ -w < 0) (h2 : -w < 7) : ev mX6_refuseAsTold 0 [.ref 0, .int w] [] h = some (some (.int (1000000000 - w)), st h 16 (-w).toNatClampNeg (h 16 (-w).toNatClampNeg + 1)) := by
  simp [eX6_refuseAsTold_0, eX6_refuseAsTold_3, eX6_refuseAsTold_4, eX6_refuseAsTold_5, eX6_refuseAsTold_8, eX6_refuseAsTold_9, f_refuse h1 h2]
theorem m_no (h1 : ¬ -w < 0) (h2 : -w < 7) : ev mX7_no 0 [.ref 17, .int w] [] h = some (some (.int w), st h 24 (-w).toNatClampNeg (h 24 (-w).toNatClampNeg + 1)) := by
  have h3 : ¬ 7 ≤ (-w).toNatClampNeg := by
    rw [t_cl]
    rw [t_lt] at h2
    have h4 : (-w).toInt < 7 := h2
    omega
  simp [eX7_no_0, eX7_no_1, eX7_no_4, eX7_no_5, eX7_no_6, eX7_no_7, eX7_no_8, eX7_no_9, eX7_no_10, eX7_no_11, eX7_no_12, h1, h3, show lyA 24 = some 7 from rfl]
theorem m_noFar (h1 : ¬ -w < 0) (h2 : -w < 7) : ev mX7_noFar 0 [.ref 17, .int w] [] h = some (some (.int (1000000000 - w)), st h 24 (-w).toNatClampNeg (h 24 (-w).toNatClampNeg + 1)) := by
  simp [eX7_noFar_0, eX7_noFar_2, eX7_noFar_3, eX7_noFar_4, eX7_noFar_7, eX7_noFar_8, m_no h1 h2]
theorem f_outside : ev mX6_outside 0 [.int x, .int y, .int z] [] h = some (some (.int (if x < y then -4 else if z < x then -6 else 0)), h) := by
  by_cases h1 : x < y
  · have h1' : ¬ y ≤ x := Int32.not_le.mpr h1
    simp [eX6_outside_0, eX6_outside_1, eX6_outside_2, eX6_outside_5, eX6_outside_7, eX6_outside_8, eX6_outside_9, eX6_outside_10, eX6_outside_13, eX6_outside_15, eX6_outside_18, eX6_outside_19, h1, h1']
  · have h1' : y ≤ x := Int32.not_lt.mp h1
    by_cases h2 : z < x
    · have h2' : ¬ x ≤ z := Int32.not_le.mpr h2
      simp [eX6_outside_0, eX6_outside_1, eX6_outside_2, eX6_outside_5, eX6_outside_7, eX6_outside_8, eX6_outside_9, eX6_outside_10, eX6_outside_13, eX6_outside_15, eX6_outside_18, eX6_outside_19, h1, h1', h2, h2']
    · have h2' : x ≤ z := Int32.not_lt.mp h2
      simp [eX6_outside_0, eX6_outside_1, eX6_outside_2, eX6_outside_5, eX6_outside_7, eX6_outside_8, eX6_outside_9, eX6_outside_10, eX6_outside_13, eX6_outside_15, eX6_outside_18, eX6_outside_19, h1, h1', h2, h2']
theorem f_isEnd : ev mX6_isEnd 0 [.int x] [] h = some (some (.int (if x = 0 ∨ x = 1 then 1 else 0)), h) := by
  by_cases h1 : x = 0
  · simp [eX6_isEnd_0, eX6_isEnd_1, eX6_isEnd_4, eX6_isEnd_5, eX6_isEnd_6, eX6_isEnd_9, eX6_isEnd_10, eX6_isEnd_13, eX6_isEnd_14, h1]
  · by_cases h2 : x = 1 <;> simp [eX6_isEnd_0, eX6_isEnd_1, eX6_isEnd_4, eX6_isEnd_5, eX6_isEnd_6, eX6_isEnd_9, eX6_isEnd_10, eX6_isEnd_13, eX6_isEnd_14, h1, h2]
theorem end_in : (¬ x < 0 ∧ ¬ 1 < x) ↔ (x = 0 ∨ x = 1) := by
  rw [t_lt, t_lt, t_eq, t_eq]
  show (¬ x.toInt < 0 ∧ ¬ 1 < x.toInt) ↔ (x.toInt = 0 ∨ x.toInt = 1)
  omega
theorem m_isEnd2 : ev mX7_isEnd 0 [.int x] [] h = some (some (.int (if x = 0 ∨ x = 1 then 1 else 0)), h) := by
  rw [m_isEnd]
  by_cases he : x = 0 ∨ x = 1
  · have := end_in.mpr he
    rw [if_neg this.1, if_neg this.2, if_pos he]
  · rw [if_neg he]
    by_cases h1 : x < 0
    · rw [if_pos h1]
    · rw [if_neg h1]
      by_cases h2 : 1 < x
      · rw [if_pos h2]
      · exact absurd (end_in.mp ⟨h1, h2⟩) he
end REF

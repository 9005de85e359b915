section CALLS4
variable {h h' : Sto}
theorem Rel.ok1 (R : Rel h) : Ok (hm h 1) := by rw [R.1]; exact R.2.1
theorem mr_cell {r : Nat} (hc : h' r = h r) : mr h' r = mr h r := by unfold mr; rw [hc]
theorem Rel.im (R : Rel h) (e0 : h' 0 3 = 1) (e1 : h' 17 4 = 1) (e2 : hm h' 7 = mr h' 20) (e3 : Ok (mr h' 20)) (hf : ∀ a, a ≠ 0 → a ≠ 7 → a ≠ 8 → a ≠ 9 → a ≠ 17 → a ≠ 20 → h' a = h a) (e8 : h' 17 8 = h 17 8) (e9 : h' 17 9 = h 17 9) : Rel h' := by
  obtain ⟨r1, r2, -, r6, ⟨n, r7, r8, r9, r10⟩, ⟨k, r11, r12, r13, r14⟩⟩ := R
  have sp : ∀ a, a = 1 ∨ a = 2 ∨ a = 3 ∨ a = 12 ∨ a = 13 ∨ a = 14 ∨ a = 15 ∨ a = 16 ∨ a = 18 ∨ a = 22 ∨ a = 23 ∨ a = 24 → h' a = h a := fun a ha => hf a (by omega) (by omega) (by omega) (by omega) (by omega) (by omega)
  have m1 : hm h' 1 = hm h 1 := hm_o (sp _ (by omega)) (sp _ (by omega)) (sp _ (by omega))
  have m18 : mr h' 18 = mr h 18 := mr_cell (sp _ (by omega))
  refine ⟨by rw [m1, m18]; exact r1, by rw [m18]; exact r2, ⟨Or.inr e0, by rw [e0, e1], fun _ => ⟨e2, e3⟩⟩, ?_, ?_, ?_⟩
  · rw [sp 16 (by omega), sp 24 (by omega)]; exact r6
  · rw [sp 12 (by omega), sp 13 (by omega), sp 22 (by omega), e8]; exact ⟨n, r7, r8, r9, r10⟩
  · rw [sp 14 (by omega), sp 15 (by omega), sp 23 (by omega), e9]; exact ⟨k, r11, r12, r13, r14⟩
/-- other letters for both -/
theorem Rel.lt (R : Rel h) {n : Nat} (hn : n ≤ 96) (e1 : h' 12 1 = nI n) (e2 : h' 17 8 = nI n) (e3 : ∀ i, i < n → h' 13 i = h' 22 i ∧ 0 ≤ (h' 13 i).toInt ∧ (h' 13 i).toInt ≤ 255) (hf : ∀ a, a ≠ 12 → a ≠ 13 → a ≠ 17 → a ≠ 22 → h' a = h a) (e4 : h' 17 4 = h 17 4) (e9 : h' 17 9 = h 17 9) : Rel h' := by
  obtain ⟨r1, r2, ⟨r3, r4, r5⟩, r6, -, ⟨k, r11, r12, r13, r14⟩⟩ := R
  have sp : ∀ a, a = 0 ∨ a = 1 ∨ a = 2 ∨ a = 3 ∨ a = 7 ∨ a = 8 ∨ a = 9 ∨ a = 14 ∨ a = 15 ∨ a = 16 ∨ a = 18 ∨ a = 20 ∨ a = 23 ∨ a = 24 → h' a = h a := fun a ha => hf a (by omega) (by omega) (by omega) (by omega)
  have m1 : hm h' 1 = hm h 1 := hm_o (sp _ (by omega)) (sp _ (by omega)) (sp _ (by omega))
  have m7 : hm h' 7 = hm h 7 := hm_o (sp _ (by omega)) (sp _ (by omega)) (sp _ (by omega))
  have m18 : mr h' 18 = mr h 18 := mr_cell (sp _ (by omega))
  have m20 : mr h' 20 = mr h 20 := mr_cell (sp _ (by omega))
  refine ⟨by rw [m1, m18]; exact r1, by rw [m18]; exact r2, ?_, ?_, ⟨n, hn, e1, e2, e3⟩, ?_⟩
  · rw [m7, m20, sp 0 (by omega), e4]; exact ⟨r3, r4, r5⟩
  · rw [sp 16 (by omega), sp 24 (by omega)]; exact r6
  · rw [sp 14 (by omega), sp 15 (by omega), sp 23 (by omega), e9]; exact ⟨k, r11, r12, r13, r14⟩
/-- another ROW for both -/
theorem Rel.ro (R : Rel h) {n : Nat} (hn : n ≤ 12) (e1 : h' 14 1 = nI n) (e2 : h' 17 9 = nI n) (e3 : ∀ i, i < n → h' 15 i = h' 23 i) (hf : ∀ a, a ≠ 14 → a ≠ 15 → a ≠ 17 → a ≠ 23 → h' a = h a) (e4 : h' 17 4 = h 17 4) (e8 : h' 17 8 = h 17 8) : Rel h' := by
  obtain ⟨r1, r2, ⟨r3, r4, r5⟩, r6, ⟨k, r11, r12, r13, r14⟩, -⟩ := R
  have sp : ∀ a, a = 0 ∨ a = 1 ∨ a = 2 ∨ a = 3 ∨ a = 7 ∨ a = 8 ∨ a = 9 ∨ a = 12 ∨ a = 13 ∨ a = 16 ∨ a = 18 ∨ a = 20 ∨ a = 22 ∨ a = 24 → h' a = h a := fun a ha => hf a (by omega) (by omega) (by omega) (by omega)
  have m1 : hm h' 1 = hm h 1 := hm_o (sp _ (by omega)) (sp _ (by omega)) (sp _ (by omega))
  have m7 : hm h' 7 = hm h 7 := hm_o (sp _ (by omega)) (sp _ (by omega)) (sp _ (by omega))
  have m18 : mr h' 18 = mr h 18 := mr_cell (sp _ (by omega))
  have m20 : mr h' 20 = mr h 20 := mr_cell (sp _ (by omega))
  refine ⟨by rw [m1, m18]; exact r1, by rw [m18]; exact r2, ?_, ?_, ?_, ⟨n, hn, e1, e2, e3⟩⟩
  · rw [m7, m20, sp 0 (by omega), e4]; exact ⟨r3, r4, r5⟩
  · rw [sp 16 (by omega), sp 24 (by omega)]; exact r6
  · rw [sp 12 (by omega), sp 13 (by omega), sp 22 (by omega), e8]; exact ⟨k, r11, r12, r13, r14⟩
theorem s_image : Sim [] [] mX6_image mX7_image := by
  intro h R
  obtain ⟨h1, a1, a2, a3⟩ := f_copyFrom (h := h) HC7 HC1 (by unfold Apt; omega) R.ok1
  have c1 : ∀ a, a ≠ 0 → a ≠ 7 → a ≠ 8 → a ≠ 9 → st h1 0 3 1 a = h a := fun a z0 z1 z2 z3 => by rw [st_cell z0]; exact a3 a z1 z2 z3
  obtain ⟨h2, b1, b2, b3⟩ := m_lays (r := 18) (t := 20) (h := st h1 0 3 1) rfl rfl (by omega)
  have v1 : st h1 0 3 1 1 2 = h 18 0 := by rw [c1 1 (by omega) (by omega) (by omega) (by omega)]; exact R.s0
  have v2 : st h2 17 4 1 18 0 = h 18 0 := by rw [st_cell (by omega), b3 18 (by omega), c1 18 (by omega) (by omega) (by omega) (by omega)]
  have m18 : mr (st h1 0 3 1) 18 = mr h 18 := mr_cell (c1 18 (by omega) (by omega) (by omega) (by omega))
  refine ⟨h 18 0, st h1 0 3 1, st h2 17 4 1, ?_, ?_, ?_⟩
  · simp [le_nl, -Int32.not_lt, eX6_image_0, eX6_image_1, eX6_image_4, eX6_image_5, eX6_image_8, eX6_image_11, eX6_image_12, eX6_image_13, eX6_image_16, eX6_image_17, eX6_image_20, eX6_image_23, a1, v1, show lyC 1 = 0 from rfl, show rcv 1 = 0 from rfl, show rcv 7 = 0 from rfl]
  · simp [le_nl, -Int32.not_lt, eX7_image_0, eX7_image_1, eX7_image_4, eX7_image_5, eX7_image_8, eX7_image_11, eX7_image_12, eX7_image_13, eX7_image_16, eX7_image_17, eX7_image_20, eX7_image_21, eX7_image_22, b1, v2, show lyA 18 = some 32 from rfl]
  · have m20 : mr (st h2 17 4 1) 20 = mr h 18 := by rw [mr_oth (by omega), b2, m18]
    refine R.im ?_ ?_ ?_ ?_ ?_ ?_ ?_
    · rw [st_cell (by omega), b3 0 (by omega)]; simp [st_at]
    · simp [st_at]
    · rw [m20, hm_oth (by omega) (by omega) (by omega), hm_o (b3 7 (by omega)) (b3 8 (by omega)) (b3 9 (by omega)), hm_oth (by omega) (by omega) (by omega), a2]
      exact R.1
    · rw [m20]; exact R.2.1
    · intro a z0 z7 z8 z9 z17 z20
      rw [st_cell z17, b3 a z20, c1 a z0 z7 z8 z9]
    · rw [st_at, if_neg (by omega), b3 17 (by omega), c1 17 (by omega) (by omega) (by omega) (by omega)]
    · rw [st_at, if_neg (by omega), b3 17 (by omega), c1 17 (by omega) (by omega) (by omega) (by omega)]
theorem s_on : Sim [] [] mX6_on mX7_on := by
  intro h R
  obtain ⟨r3, r4, r5⟩ := id R.2.2.1
  by_cases z : h 0 3 = 0
  · have y : st h 16 3 (h 16 3 + 1) 17 4 = 0 := by rw [st_cell (by omega), r4, z]
    exact rf_both R (k := 3) (w := -3) (by omega) (by simp [le_nl, -Int32.not_lt, eX6_on_0, eX6_on_1, eX6_on_4, eX6_on_7, eX6_on_8, eX6_on_10, eX6_on_13, eX6_on_14, eX6_on_15, eX6_on_18, eX6_on_19, eX6_on_22, eX6_on_25, eX6_on_26, eX6_on_29, eX6_on_32, z, f_refuse]) (by simp [le_nl, -Int32.not_lt, eX7_on_0, eX7_on_1, eX7_on_4, eX7_on_7, eX7_on_8, eX7_on_10, eX7_on_13, eX7_on_14, eX7_on_15, eX7_on_18, eX7_on_19, eX7_on_22, eX7_on_25, eX7_on_26, eX7_on_29, eX7_on_30, eX7_on_31, y, m_no])
  · have z1 : h 0 3 = 1 := r3.resolve_left z
    obtain ⟨e7, ok7⟩ := r5 z1
    obtain ⟨h1, a1, a2, a3⟩ := f_copyFrom (h := h) HC1 HC7 (by unfold Apt; omega) (by rw [e7]; exact ok7)
    obtain ⟨h2, b1, b2, b3⟩ := m_lays (r := 20) (t := 18) (h := h1) rfl rfl (by omega)
    have m20 : mr h1 20 = mr h 20 := mr_cell (a3 20 (by omega) (by omega) (by omega))
    have v1 : h1 1 2 = h 20 0 := by
      have := congrFun a2 0
      rw [e7] at this
      exact this
    have v2 : h2 18 0 = h 20 0 := by
      have := congrFun b2 0
      rw [m20] at this
      exact this
    have y : h1 17 4 = 1 := by rw [a3 17 (by omega) (by omega) (by omega), r4, z1]
    refine ⟨h 20 0, h1, h2, ?_, ?_, ?_⟩
    · simp [le_nl, -Int32.not_lt, eX6_on_0, eX6_on_1, eX6_on_4, eX6_on_7, eX6_on_8, eX6_on_10, eX6_on_13, eX6_on_14, eX6_on_15, eX6_on_18, eX6_on_19, eX6_on_22, eX6_on_25, eX6_on_26, eX6_on_29, eX6_on_32, z1, a1, v1, show lyC 1 = 0 from rfl, show rcv 1 = 0 from rfl]
    · simp [le_nl, -Int32.not_lt, eX7_on_0, eX7_on_1, eX7_on_4, eX7_on_7, eX7_on_8, eX7_on_10, eX7_on_13, eX7_on_14, eX7_on_15, eX7_on_18, eX7_on_19, eX7_on_22, eX7_on_25, eX7_on_26, eX7_on_29, eX7_on_30, eX7_on_31, y, b1, v2, show lyA 18 = some 32 from rfl]
    · refine R.nw ?_ ?_ ?_
      · rw [b2, m20, ← e7, ← a2]
        exact hm_o (b3 1 (by omega)) (b3 2 (by omega)) (b3 3 (by omega))
      · rw [b2, m20]; exact ok7
      · intro a x z1 z2 z3 z4 _
        rw [b3 a z4, a3 a z1 z2 z3]
theorem f_lFull : ev mX2_isFull 0 [.ref 12] [] h = some (some (.int (if h 12 1 < 96 then 0 else 1)), h) := by
  by_cases h1 : h 12 1 < 96 <;> simp [eX2_isFull_0, eX2_isFull_1, eX2_isFull_4, eX2_isFull_5, eX2_isFull_8, eX2_isFull_9, eX2_isFull_12, eX2_isFull_13, eX2_isFull_16, eX2_isFull_17, h1, show lyA 13 = some 96 from rfl]
theorem f_lAdd {c : Int32} {n : Nat} (hn : n < 96) (e : h 12 1 = nI n) : ev mX2_add 0 [.ref 12, .int c] [] h = some (none, st (st h 13 n c) 12 1 (nI (n + 1))) := by
  have e1 : ¬ nI n < 0 := nI_pos (by omega)
  have e2 : nI n < 96 := nI_lt (b := 96) hn (by omega)
  have e3 : (nI n).toNatClampNeg = n := nI_clamp (by omega)
  have e4 : ¬ 96 ≤ n := by omega
  simp [le_nl, -Int32.not_lt, eX2_add_0, eX2_add_1, eX2_add_4, eX2_add_7, eX2_add_8, eX2_add_11, eX2_add_12, eX2_add_15, eX2_add_16, eX2_add_19, eX2_add_20, eX2_add_23, eX2_add_24, eX2_add_27, eX2_add_28, eX2_add_29, eX2_add_30, eX2_add_31, eX2_add_34, eX2_add_35, eX2_add_36, eX2_add_39, e, e1, e2, e3, e4, st_at, nI_1, show lyA 13 = some 96 from rfl]
theorem s_letter {c : Int32} : Sim [.int c, .null] [.int c] mX6_letter mX7_letter := by
  intro h R
  obtain ⟨n, r7, r8, r9, r10⟩ := id R.2.2.2.2.1
  by_cases h1 : c < 0
  · exact rf_both R (k := 4) (w := -4) (by omega) (by simp [le_nl, -Int32.not_lt, eX6_letter_0, eX6_letter_1, eX6_letter_2, eX6_letter_5, eX6_letter_8, eX6_letter_9, eX6_letter_10, eX6_letter_13, eX6_letter_14, eX6_letter_15, eX6_letter_18, eX6_letter_19, eX6_letter_20, eX6_letter_23, eX6_letter_26, eX6_letter_29, eX6_letter_30, eX6_letter_32, eX6_letter_35, eX6_letter_36, eX6_letter_37, eX6_letter_40, eX6_letter_41, eX6_letter_44, eX6_letter_45, eX6_letter_48, eX6_letter_51, f_outside, h1, f_refuse]) (by simp [le_nl, -Int32.not_lt, eX7_letter_0, eX7_letter_1, eX7_letter_4, eX7_letter_5, eX7_letter_7, eX7_letter_10, eX7_letter_11, eX7_letter_12, eX7_letter_15, eX7_letter_18, eX7_letter_19, eX7_letter_22, eX7_letter_24, eX7_letter_27, eX7_letter_28, eX7_letter_30, eX7_letter_33, eX7_letter_34, eX7_letter_35, eX7_letter_38, eX7_letter_39, eX7_letter_42, eX7_letter_43, eX7_letter_44, eX7_letter_45, eX7_letter_46, eX7_letter_49, eX7_letter_50, eX7_letter_51, eX7_letter_54, eX7_letter_55, eX7_letter_58, h1, m_no])
  · by_cases h2 : 255 < c
    · exact rf_both R (k := 6) (w := -6) (by omega) (by simp [le_nl, -Int32.not_lt, eX6_letter_0, eX6_letter_1, eX6_letter_2, eX6_letter_5, eX6_letter_8, eX6_letter_9, eX6_letter_10, eX6_letter_13, eX6_letter_14, eX6_letter_15, eX6_letter_18, eX6_letter_19, eX6_letter_20, eX6_letter_23, eX6_letter_26, eX6_letter_29, eX6_letter_30, eX6_letter_32, eX6_letter_35, eX6_letter_36, eX6_letter_37, eX6_letter_40, eX6_letter_41, eX6_letter_44, eX6_letter_45, eX6_letter_48, eX6_letter_51, f_outside, h1, h2, f_refuse]) (by simp [le_nl, -Int32.not_lt, eX7_letter_0, eX7_letter_1, eX7_letter_4, eX7_letter_5, eX7_letter_7, eX7_letter_10, eX7_letter_11, eX7_letter_12, eX7_letter_15, eX7_letter_18, eX7_letter_19, eX7_letter_22, eX7_letter_24, eX7_letter_27, eX7_letter_28, eX7_letter_30, eX7_letter_33, eX7_letter_34, eX7_letter_35, eX7_letter_38, eX7_letter_39, eX7_letter_42, eX7_letter_43, eX7_letter_44, eX7_letter_45, eX7_letter_46, eX7_letter_49, eX7_letter_50, eX7_letter_51, eX7_letter_54, eX7_letter_55, eX7_letter_58, h1, h2, m_no])
    · by_cases h3 : n < 96
      · have e2 : nI n < 96 := nI_lt (b := 96) h3 (by omega)
        have e5 : ¬ nI n = 96 := fun z => by rw [z] at e2; exact absurd e2 (by decide)
        have e1 : ¬ nI n < 0 := nI_pos (by omega)
        have e3 : (nI n).toNatClampNeg = n := nI_clamp (by omega)
        have e4 : ¬ 96 ≤ n := by omega
        refine ⟨nI (n + 1), st (st h 13 n c) 12 1 (nI (n + 1)), st (st (st (st h 13 n c) 12 1 (nI (n + 1))) 22 n c) 17 8 (nI (n + 1)), ?_, ?_, ?_⟩
        · simp [le_nl, -Int32.not_lt, eX6_letter_0, eX6_letter_1, eX6_letter_2, eX6_letter_5, eX6_letter_8, eX6_letter_9, eX6_letter_10, eX6_letter_13, eX6_letter_14, eX6_letter_15, eX6_letter_18, eX6_letter_19, eX6_letter_20, eX6_letter_23, eX6_letter_26, eX6_letter_29, eX6_letter_30, eX6_letter_32, eX6_letter_35, eX6_letter_36, eX6_letter_37, eX6_letter_40, eX6_letter_41, eX6_letter_44, eX6_letter_45, eX6_letter_48, eX6_letter_51, f_outside, h1, h2, f_lFull, r8, e2, f_lAdd h3 r8, st_at]
        · simp [le_nl, -Int32.not_lt, eX7_letter_0, eX7_letter_1, eX7_letter_4, eX7_letter_5, eX7_letter_7, eX7_letter_10, eX7_letter_11, eX7_letter_12, eX7_letter_15, eX7_letter_18, eX7_letter_19, eX7_letter_22, eX7_letter_24, eX7_letter_27, eX7_letter_28, eX7_letter_30, eX7_letter_33, eX7_letter_34, eX7_letter_35, eX7_letter_38, eX7_letter_39, eX7_letter_42, eX7_letter_43, eX7_letter_44, eX7_letter_45, eX7_letter_46, eX7_letter_49, eX7_letter_50, eX7_letter_51, eX7_letter_54, eX7_letter_55, eX7_letter_58, h1, h2, st_at, r9, e1, e3, e4, e5, nI_1, show lyA 22 = some 96 from rfl]
        · refine R.lt (n := n + 1) (by omega) (by simp [st_at]) (by simp [st_at]) ?_ ?_ (by simp [st_at]) (by simp [st_at])
          · intro i hi
            by_cases hin : i = n
            · subst hin
              have := lit_le (A := 0) (B := 255) rfl rfl h1 h2
              simp [st_at]
              exact this
            · have := r10 i (by omega)
              simp [st_at, hin]
              exact this
          · intro a z1 z2 z3 z4
            rw [st_cell z3, st_cell z4, st_cell z1, st_cell z2]
      · have hn : n = 96 := by omega
        subst hn
        have e1 : nI 96 = 96 := by decide
        rw [e1] at r8 r9
        exact rf_both R (k := 6) (w := -6) (by omega) (by simp [le_nl, -Int32.not_lt, eX6_letter_0, eX6_letter_1, eX6_letter_2, eX6_letter_5, eX6_letter_8, eX6_letter_9, eX6_letter_10, eX6_letter_13, eX6_letter_14, eX6_letter_15, eX6_letter_18, eX6_letter_19, eX6_letter_20, eX6_letter_23, eX6_letter_26, eX6_letter_29, eX6_letter_30, eX6_letter_32, eX6_letter_35, eX6_letter_36, eX6_letter_37, eX6_letter_40, eX6_letter_41, eX6_letter_44, eX6_letter_45, eX6_letter_48, eX6_letter_51, f_outside, h1, h2, f_lFull, r8, f_refuse]) (by simp [le_nl, -Int32.not_lt, eX7_letter_0, eX7_letter_1, eX7_letter_4, eX7_letter_5, eX7_letter_7, eX7_letter_10, eX7_letter_11, eX7_letter_12, eX7_letter_15, eX7_letter_18, eX7_letter_19, eX7_letter_22, eX7_letter_24, eX7_letter_27, eX7_letter_28, eX7_letter_30, eX7_letter_33, eX7_letter_34, eX7_letter_35, eX7_letter_38, eX7_letter_39, eX7_letter_42, eX7_letter_43, eX7_letter_44, eX7_letter_45, eX7_letter_46, eX7_letter_49, eX7_letter_50, eX7_letter_51, eX7_letter_54, eX7_letter_55, eX7_letter_58, h1, h2, st_at, r9, m_no])
theorem f_rFull : ev mX4_isFull 0 [.ref 14] [] h = some (some (.int (if h 14 1 < 12 then 0 else 1)), h) := by
  by_cases h1 : h 14 1 < 12 <;> simp [eX4_isFull_0, eX4_isFull_1, eX4_isFull_4, eX4_isFull_5, eX4_isFull_8, eX4_isFull_9, eX4_isFull_12, eX4_isFull_13, eX4_isFull_16, eX4_isFull_17, h1, show lyA 15 = some 12 from rfl]
theorem f_rAdd {c : Int32} {n : Nat} (hn : n < 12) (e : h 14 1 = nI n) : ev mX4_add 0 [.ref 14, .int c] [] h = some (none, st (st h 15 n c) 14 1 (nI (n + 1))) := by
  have e1 : ¬ nI n < 0 := nI_pos (by omega)
  have e2 : nI n < 12 := nI_lt (b := 12) hn (by omega)
  have e3 : (nI n).toNatClampNeg = n := nI_clamp (by omega)
  have e4 : ¬ 12 ≤ n := by omega
  simp [le_nl, -Int32.not_lt, eX4_add_0, eX4_add_1, eX4_add_4, eX4_add_7, eX4_add_8, eX4_add_11, eX4_add_12, eX4_add_15, eX4_add_16, eX4_add_19, eX4_add_20, eX4_add_23, eX4_add_24, eX4_add_27, eX4_add_28, eX4_add_29, eX4_add_30, eX4_add_31, eX4_add_34, eX4_add_35, eX4_add_36, eX4_add_39, e, e1, e2, e3, e4, st_at, nI_1, show lyA 15 = some 12 from rfl]
theorem s_row {c : Int32} : Sim [.int c, .null] [.int c] mX6_row mX7_row := by
  intro h R
  obtain ⟨n, r7, r8, r9, r10⟩ := id R.2.2.2.2.2
  by_cases h1 : c < 0
  · exact rf_both R (k := 4) (w := -4) (by omega) (by simp [le_nl, -Int32.not_lt, eX6_row_0, eX6_row_1, eX6_row_2, eX6_row_4, eX6_row_7, eX6_row_8, eX6_row_9, eX6_row_12, eX6_row_13, eX6_row_14, eX6_row_17, eX6_row_18, eX6_row_19, eX6_row_22, eX6_row_25, eX6_row_28, eX6_row_29, eX6_row_31, eX6_row_34, eX6_row_35, eX6_row_36, eX6_row_39, eX6_row_40, eX6_row_43, eX6_row_44, eX6_row_47, eX6_row_50, f_outside, h1, f_refuse]) (by simp [le_nl, -Int32.not_lt, eX7_row_0, eX7_row_1, eX7_row_4, eX7_row_5, eX7_row_7, eX7_row_10, eX7_row_11, eX7_row_12, eX7_row_14, eX7_row_17, eX7_row_18, eX7_row_21, eX7_row_23, eX7_row_26, eX7_row_27, eX7_row_29, eX7_row_32, eX7_row_33, eX7_row_34, eX7_row_37, eX7_row_38, eX7_row_41, eX7_row_42, eX7_row_43, eX7_row_44, eX7_row_45, eX7_row_48, eX7_row_49, eX7_row_50, eX7_row_53, eX7_row_54, eX7_row_57, h1, m_no])
  · by_cases h2 : 99 < c
    · exact rf_both R (k := 6) (w := -6) (by omega) (by simp [le_nl, -Int32.not_lt, eX6_row_0, eX6_row_1, eX6_row_2, eX6_row_4, eX6_row_7, eX6_row_8, eX6_row_9, eX6_row_12, eX6_row_13, eX6_row_14, eX6_row_17, eX6_row_18, eX6_row_19, eX6_row_22, eX6_row_25, eX6_row_28, eX6_row_29, eX6_row_31, eX6_row_34, eX6_row_35, eX6_row_36, eX6_row_39, eX6_row_40, eX6_row_43, eX6_row_44, eX6_row_47, eX6_row_50, f_outside, h1, h2, f_refuse]) (by simp [le_nl, -Int32.not_lt, eX7_row_0, eX7_row_1, eX7_row_4, eX7_row_5, eX7_row_7, eX7_row_10, eX7_row_11, eX7_row_12, eX7_row_14, eX7_row_17, eX7_row_18, eX7_row_21, eX7_row_23, eX7_row_26, eX7_row_27, eX7_row_29, eX7_row_32, eX7_row_33, eX7_row_34, eX7_row_37, eX7_row_38, eX7_row_41, eX7_row_42, eX7_row_43, eX7_row_44, eX7_row_45, eX7_row_48, eX7_row_49, eX7_row_50, eX7_row_53, eX7_row_54, eX7_row_57, h1, h2, m_no])
    · by_cases h3 : n < 12
      · have e2 : nI n < 12 := nI_lt (b := 12) h3 (by omega)
        have e5 : ¬ nI n = 12 := fun z => by rw [z] at e2; exact absurd e2 (by decide)
        have e1 : ¬ nI n < 0 := nI_pos (by omega)
        have e3 : (nI n).toNatClampNeg = n := nI_clamp (by omega)
        have e4 : ¬ 12 ≤ n := by omega
        refine ⟨nI (n + 1), st (st h 15 n c) 14 1 (nI (n + 1)), st (st (st (st h 15 n c) 14 1 (nI (n + 1))) 23 n c) 17 9 (nI (n + 1)), ?_, ?_, ?_⟩
        · simp [le_nl, -Int32.not_lt, eX6_row_0, eX6_row_1, eX6_row_2, eX6_row_4, eX6_row_7, eX6_row_8, eX6_row_9, eX6_row_12, eX6_row_13, eX6_row_14, eX6_row_17, eX6_row_18, eX6_row_19, eX6_row_22, eX6_row_25, eX6_row_28, eX6_row_29, eX6_row_31, eX6_row_34, eX6_row_35, eX6_row_36, eX6_row_39, eX6_row_40, eX6_row_43, eX6_row_44, eX6_row_47, eX6_row_50, f_outside, h1, h2, f_rFull, r8, e2, f_rAdd h3 r8, st_at]
        · simp [le_nl, -Int32.not_lt, eX7_row_0, eX7_row_1, eX7_row_4, eX7_row_5, eX7_row_7, eX7_row_10, eX7_row_11, eX7_row_12, eX7_row_14, eX7_row_17, eX7_row_18, eX7_row_21, eX7_row_23, eX7_row_26, eX7_row_27, eX7_row_29, eX7_row_32, eX7_row_33, eX7_row_34, eX7_row_37, eX7_row_38, eX7_row_41, eX7_row_42, eX7_row_43, eX7_row_44, eX7_row_45, eX7_row_48, eX7_row_49, eX7_row_50, eX7_row_53, eX7_row_54, eX7_row_57, h1, h2, st_at, r9, e1, e3, e4, e5, nI_1, show lyA 23 = some 12 from rfl]
        · refine R.ro (n := n + 1) (by omega) (by simp [st_at]) (by simp [st_at]) ?_ ?_ (by simp [st_at]) (by simp [st_at])
          · intro i hi
            by_cases hin : i = n
            · subst hin
              simp [st_at]
            · have := r10 i (by omega)
              simp [st_at, hin]
              exact this
          · intro a z1 z2 z3 z4
            rw [st_cell z3, st_cell z4, st_cell z1, st_cell z2]
      · have hn : n = 12 := by omega
        subst hn
        have e1 : nI 12 = 12 := by decide
        rw [e1] at r8 r9
        exact rf_both R (k := 6) (w := -6) (by omega) (by simp [le_nl, -Int32.not_lt, eX6_row_0, eX6_row_1, eX6_row_2, eX6_row_4, eX6_row_7, eX6_row_8, eX6_row_9, eX6_row_12, eX6_row_13, eX6_row_14, eX6_row_17, eX6_row_18, eX6_row_19, eX6_row_22, eX6_row_25, eX6_row_28, eX6_row_29, eX6_row_31, eX6_row_34, eX6_row_35, eX6_row_36, eX6_row_39, eX6_row_40, eX6_row_43, eX6_row_44, eX6_row_47, eX6_row_50, f_outside, h1, h2, f_rFull, r8, f_refuse]) (by simp [le_nl, -Int32.not_lt, eX7_row_0, eX7_row_1, eX7_row_4, eX7_row_5, eX7_row_7, eX7_row_10, eX7_row_11, eX7_row_12, eX7_row_14, eX7_row_17, eX7_row_18, eX7_row_21, eX7_row_23, eX7_row_26, eX7_row_27, eX7_row_29, eX7_row_32, eX7_row_33, eX7_row_34, eX7_row_37, eX7_row_38, eX7_row_41, eX7_row_42, eX7_row_43, eX7_row_44, eX7_row_45, eX7_row_48, eX7_row_49, eX7_row_50, eX7_row_53, eX7_row_54, eX7_row_57, h1, h2, st_at, r9, m_no])
/-- an INCH becomes another -/
theorem hm_kf {c k : Nat} {v w : Int32} (hk : k < 12) : hm (st (st h (c + 1) k v) (c + 2) k w) c = upd (upd (hm h c) (8 + 2 * k) v) (9 + 2 * k) w := by
  funext j
  unfold upd
  by_cases h8 : j < 8
  · rw [hm_lo h8, if_neg (by omega), if_neg (by omega), hm_lo h8, st_cell (by omega), st_cell (by omega)]
  · unfold hm
    rw [if_neg h8, if_neg h8]
    by_cases h32 : 32 ≤ j
    · rw [if_pos h32, if_pos h32, if_neg (by omega), if_neg (by omega)]
    · rw [if_neg h32, if_neg h32]
      by_cases hp : j % 2 = 0
      · rw [if_pos hp, if_pos hp, if_neg (by omega)]
        by_cases hj : j = 8 + 2 * k
        · rw [if_pos hj, hj, st_cell (by omega), show (8 + 2 * k - 8) / 2 = k by omega, st_at, if_pos ⟨rfl, rfl⟩]
        · rw [if_neg hj, st_cell (by omega), st_at, if_neg (by omega)]
      · rw [if_neg hp, if_neg hp]
        by_cases hj : j = 9 + 2 * k
        · rw [if_pos hj, hj, show (9 + 2 * k - 9) / 2 = k by omega, st_at, if_pos ⟨rfl, rfl⟩]
        · rw [if_neg hj, if_neg (by omega), st_at, if_neg (by omega), st_cell (by omega)]
theorem mr_kf {r k : Nat} {v w : Int32} (hk : k < 12) : mr (st (st h r (8 + 2 * k) v) r (9 + 2 * k) w) r = upd (upd (mr h r) (8 + 2 * k) v) (9 + 2 * k) w := by rw [mr_st (by omega), mr_st (by omega)]
theorem ok_kf {r : Nat → Int32} {k : Nat} {v w : Int32} (ok : Ok r) (hv : 0 ≤ v.toInt ∧ v.toInt ≤ 5) (hw : 0 ≤ w.toInt ∧ w.toInt ≤ 9) : Ok (upd (upd r (8 + 2 * k) v) (9 + 2 * k) w) := by
  obtain ⟨o0, o1, o2, o3, o4, o5, o6, o7, o8⟩ := ok
  have lo : ∀ j, j < 8 → upd (upd r (8 + 2 * k) v) (9 + 2 * k) w j = r j := by
    intro j hj
    unfold upd
    rw [if_neg (by omega), if_neg (by omega)]
  unfold Ok
  rw [lo 0 (by omega), lo 1 (by omega), lo 2 (by omega), lo 3 (by omega), lo 4 (by omega), lo 5 (by omega), lo 6 (by omega), lo 7 (by omega)]
  refine ⟨o0, o1, o2, o3, o4, o5, o6, o7, fun i hi => ?_⟩
  have o := o8 i hi
  unfold kO fO upd at *
  by_cases hik : i = k
  · subst hik
    rw [if_neg (by omega), if_pos rfl, if_pos rfl]
    exact ⟨hv, hw⟩
  · rw [if_neg (by omega), if_neg (by omega), if_neg (by omega), if_neg (by omega)]
    exact o
theorem s_turn {x y z : Int32} : Sim [.int x, .int y, .int z, .null, .null] [.int x, .int y, .int z, .null] mX6_turn mX7_turn := by
  intro h R
  have mi := fun (k : Nat) (hk : k ≠ 18) => m_isInch (h := st h 16 k (h 16 k + 1)) (x := x) R.len
  have s18 : ∀ k, st h 16 k (h 16 k + 1) 18 0 = h 18 0 := fun k => by rw [st_cell (by omega)]
  simp only [s18] at mi
  have fi : ev mX0_hasInch 0 [.ref 1, .int x] [] h = some (some (.int (if x < 0 then 0 else if x < h 18 0 then 1 else 0)), h) := by
    rw [f_hasInch HC1, R.s0]
    by_cases h1 : x < 0
    · rw [if_pos h1, if_pos h1]
    · rw [if_neg h1, if_neg h1]
      by_cases h2 : x < h 18 0
      · rw [if_pos h2, if_neg (Int32.not_le.mpr h2)]
      · rw [if_neg h2, if_pos (Int32.not_lt.mp h2)]
  by_cases h1 : x < 0
  · rw [if_pos h1] at fi
    have mi1 := mi 1 (by omega)
    rw [if_pos h1] at mi1
    exact rf_both R (k := 1) (w := -1) (by omega) (by simp [le_nl, -Int32.not_lt, eX6_turn_0, eX6_turn_1, eX6_turn_4, eX6_turn_5, eX6_turn_8, eX6_turn_11, eX6_turn_12, eX6_turn_13, eX6_turn_16, eX6_turn_17, eX6_turn_18, eX6_turn_21, eX6_turn_22, eX6_turn_24, eX6_turn_27, eX6_turn_28, eX6_turn_30, eX6_turn_33, eX6_turn_34, eX6_turn_35, eX6_turn_36, eX6_turn_38, eX6_turn_41, eX6_turn_43, eX6_turn_45, eX6_turn_48, eX6_turn_49, eX6_turn_51, eX6_turn_54, eX6_turn_55, eX6_turn_57, eX6_turn_58, eX6_turn_61, eX6_turn_62, eX6_turn_65, eX6_turn_66, eX6_turn_67, eX6_turn_70, eX6_turn_71, eX6_turn_74, eX6_turn_75, eX6_turn_77, eX6_turn_78, eX6_turn_81, eX6_turn_82, eX6_turn_83, eX6_turn_84, eX6_turn_87, eX6_turn_89, fi, f_refuse, show lyC 1 = 0 from rfl, show rcv 1 = 0 from rfl]) (by simp [le_nl, -Int32.not_lt, eX7_turn_0, eX7_turn_1, eX7_turn_2, eX7_turn_5, eX7_turn_8, eX7_turn_9, eX7_turn_10, eX7_turn_13, eX7_turn_14, eX7_turn_15, eX7_turn_16, eX7_turn_17, eX7_turn_20, eX7_turn_23, eX7_turn_24, eX7_turn_26, eX7_turn_29, eX7_turn_30, eX7_turn_31, eX7_turn_34, eX7_turn_35, eX7_turn_37, eX7_turn_40, eX7_turn_41, eX7_turn_42, eX7_turn_44, eX7_turn_47, eX7_turn_48, eX7_turn_50, eX7_turn_53, eX7_turn_54, eX7_turn_56, eX7_turn_57, eX7_turn_60, eX7_turn_61, eX7_turn_64, eX7_turn_65, eX7_turn_66, eX7_turn_69, eX7_turn_70, eX7_turn_73, eX7_turn_74, eX7_turn_76, eX7_turn_77, eX7_turn_80, eX7_turn_82, eX7_turn_83, eX7_turn_84, eX7_turn_85, eX7_turn_86, eX7_turn_87, eX7_turn_88, eX7_turn_89, eX7_turn_92, eX7_turn_94, eX7_turn_95, eX7_turn_96, eX7_turn_97, eX7_turn_98, eX7_turn_99, eX7_turn_100, eX7_turn_101, eX7_turn_102, eX7_turn_104, mi1, m_no])
  · by_cases h2 : x < h 18 0
    · simp only [h1, h2, ↓reduceIte] at fi mi
      by_cases k1 : y < 0
      · exact rf_both R (k := 2) (w := -2) (by omega) (by simp [le_nl, -Int32.not_lt, eX6_turn_0, eX6_turn_1, eX6_turn_4, eX6_turn_5, eX6_turn_8, eX6_turn_11, eX6_turn_12, eX6_turn_13, eX6_turn_16, eX6_turn_17, eX6_turn_18, eX6_turn_21, eX6_turn_22, eX6_turn_24, eX6_turn_27, eX6_turn_28, eX6_turn_30, eX6_turn_33, eX6_turn_34, eX6_turn_35, eX6_turn_36, eX6_turn_38, eX6_turn_41, eX6_turn_43, eX6_turn_45, eX6_turn_48, eX6_turn_49, eX6_turn_51, eX6_turn_54, eX6_turn_55, eX6_turn_57, eX6_turn_58, eX6_turn_61, eX6_turn_62, eX6_turn_65, eX6_turn_66, eX6_turn_67, eX6_turn_70, eX6_turn_71, eX6_turn_74, eX6_turn_75, eX6_turn_77, eX6_turn_78, eX6_turn_81, eX6_turn_82, eX6_turn_83, eX6_turn_84, eX6_turn_87, eX6_turn_89, fi, k1, f_refuse, show lyC 1 = 0 from rfl, show rcv 1 = 0 from rfl]) (by simp [le_nl, -Int32.not_lt, eX7_turn_0, eX7_turn_1, eX7_turn_2, eX7_turn_5, eX7_turn_8, eX7_turn_9, eX7_turn_10, eX7_turn_13, eX7_turn_14, eX7_turn_15, eX7_turn_16, eX7_turn_17, eX7_turn_20, eX7_turn_23, eX7_turn_24, eX7_turn_26, eX7_turn_29, eX7_turn_30, eX7_turn_31, eX7_turn_34, eX7_turn_35, eX7_turn_37, eX7_turn_40, eX7_turn_41, eX7_turn_42, eX7_turn_44, eX7_turn_47, eX7_turn_48, eX7_turn_50, eX7_turn_53, eX7_turn_54, eX7_turn_56, eX7_turn_57, eX7_turn_60, eX7_turn_61, eX7_turn_64, eX7_turn_65, eX7_turn_66, eX7_turn_69, eX7_turn_70, eX7_turn_73, eX7_turn_74, eX7_turn_76, eX7_turn_77, eX7_turn_80, eX7_turn_82, eX7_turn_83, eX7_turn_84, eX7_turn_85, eX7_turn_86, eX7_turn_87, eX7_turn_88, eX7_turn_89, eX7_turn_92, eX7_turn_94, eX7_turn_95, eX7_turn_96, eX7_turn_97, eX7_turn_98, eX7_turn_99, eX7_turn_100, eX7_turn_101, eX7_turn_102, eX7_turn_104, mi 2 (by omega), m_isIn, k1, m_no])
      · by_cases k2 : 5 < y
        · have k3 : ¬ y < 6 := by
            rw [t_lt] at k2 ⊢
            have : (5 : Int) < y.toInt := k2
            show ¬ y.toInt < (6 : Int)
            omega
          exact rf_both R (k := 2) (w := -2) (by omega) (by simp [le_nl, -Int32.not_lt, eX6_turn_0, eX6_turn_1, eX6_turn_4, eX6_turn_5, eX6_turn_8, eX6_turn_11, eX6_turn_12, eX6_turn_13, eX6_turn_16, eX6_turn_17, eX6_turn_18, eX6_turn_21, eX6_turn_22, eX6_turn_24, eX6_turn_27, eX6_turn_28, eX6_turn_30, eX6_turn_33, eX6_turn_34, eX6_turn_35, eX6_turn_36, eX6_turn_38, eX6_turn_41, eX6_turn_43, eX6_turn_45, eX6_turn_48, eX6_turn_49, eX6_turn_51, eX6_turn_54, eX6_turn_55, eX6_turn_57, eX6_turn_58, eX6_turn_61, eX6_turn_62, eX6_turn_65, eX6_turn_66, eX6_turn_67, eX6_turn_70, eX6_turn_71, eX6_turn_74, eX6_turn_75, eX6_turn_77, eX6_turn_78, eX6_turn_81, eX6_turn_82, eX6_turn_83, eX6_turn_84, eX6_turn_87, eX6_turn_89, fi, k1, k3, f_refuse, show lyC 1 = 0 from rfl, show rcv 1 = 0 from rfl]) (by simp [le_nl, -Int32.not_lt, eX7_turn_0, eX7_turn_1, eX7_turn_2, eX7_turn_5, eX7_turn_8, eX7_turn_9, eX7_turn_10, eX7_turn_13, eX7_turn_14, eX7_turn_15, eX7_turn_16, eX7_turn_17, eX7_turn_20, eX7_turn_23, eX7_turn_24, eX7_turn_26, eX7_turn_29, eX7_turn_30, eX7_turn_31, eX7_turn_34, eX7_turn_35, eX7_turn_37, eX7_turn_40, eX7_turn_41, eX7_turn_42, eX7_turn_44, eX7_turn_47, eX7_turn_48, eX7_turn_50, eX7_turn_53, eX7_turn_54, eX7_turn_56, eX7_turn_57, eX7_turn_60, eX7_turn_61, eX7_turn_64, eX7_turn_65, eX7_turn_66, eX7_turn_69, eX7_turn_70, eX7_turn_73, eX7_turn_74, eX7_turn_76, eX7_turn_77, eX7_turn_80, eX7_turn_82, eX7_turn_83, eX7_turn_84, eX7_turn_85, eX7_turn_86, eX7_turn_87, eX7_turn_88, eX7_turn_89, eX7_turn_92, eX7_turn_94, eX7_turn_95, eX7_turn_96, eX7_turn_97, eX7_turn_98, eX7_turn_99, eX7_turn_100, eX7_turn_101, eX7_turn_102, eX7_turn_104, mi 2 (by omega), m_isIn, k1, k2, m_no])
        · have k3 : y < 6 := by
            rw [t_lt] at k2 ⊢
            have : ¬ (5 : Int) < y.toInt := k2
            show y.toInt < (6 : Int)
            omega
          by_cases f1 : z < 0
          · exact rf_both R (k := 4) (w := -4) (by omega) (by simp [le_nl, -Int32.not_lt, eX6_turn_0, eX6_turn_1, eX6_turn_4, eX6_turn_5, eX6_turn_8, eX6_turn_11, eX6_turn_12, eX6_turn_13, eX6_turn_16, eX6_turn_17, eX6_turn_18, eX6_turn_21, eX6_turn_22, eX6_turn_24, eX6_turn_27, eX6_turn_28, eX6_turn_30, eX6_turn_33, eX6_turn_34, eX6_turn_35, eX6_turn_36, eX6_turn_38, eX6_turn_41, eX6_turn_43, eX6_turn_45, eX6_turn_48, eX6_turn_49, eX6_turn_51, eX6_turn_54, eX6_turn_55, eX6_turn_57, eX6_turn_58, eX6_turn_61, eX6_turn_62, eX6_turn_65, eX6_turn_66, eX6_turn_67, eX6_turn_70, eX6_turn_71, eX6_turn_74, eX6_turn_75, eX6_turn_77, eX6_turn_78, eX6_turn_81, eX6_turn_82, eX6_turn_83, eX6_turn_84, eX6_turn_87, eX6_turn_89, fi, k1, k3, f_outside, f1, f_refuse, show lyC 1 = 0 from rfl, show rcv 1 = 0 from rfl]) (by simp [le_nl, -Int32.not_lt, eX7_turn_0, eX7_turn_1, eX7_turn_2, eX7_turn_5, eX7_turn_8, eX7_turn_9, eX7_turn_10, eX7_turn_13, eX7_turn_14, eX7_turn_15, eX7_turn_16, eX7_turn_17, eX7_turn_20, eX7_turn_23, eX7_turn_24, eX7_turn_26, eX7_turn_29, eX7_turn_30, eX7_turn_31, eX7_turn_34, eX7_turn_35, eX7_turn_37, eX7_turn_40, eX7_turn_41, eX7_turn_42, eX7_turn_44, eX7_turn_47, eX7_turn_48, eX7_turn_50, eX7_turn_53, eX7_turn_54, eX7_turn_56, eX7_turn_57, eX7_turn_60, eX7_turn_61, eX7_turn_64, eX7_turn_65, eX7_turn_66, eX7_turn_69, eX7_turn_70, eX7_turn_73, eX7_turn_74, eX7_turn_76, eX7_turn_77, eX7_turn_80, eX7_turn_82, eX7_turn_83, eX7_turn_84, eX7_turn_85, eX7_turn_86, eX7_turn_87, eX7_turn_88, eX7_turn_89, eX7_turn_92, eX7_turn_94, eX7_turn_95, eX7_turn_96, eX7_turn_97, eX7_turn_98, eX7_turn_99, eX7_turn_100, eX7_turn_101, eX7_turn_102, eX7_turn_104, mi 4 (by omega), m_isIn, k1, k2, f1, m_no])
          · by_cases f2 : 9 < z
            · exact rf_both R (k := 6) (w := -6) (by omega) (by simp [le_nl, -Int32.not_lt, eX6_turn_0, eX6_turn_1, eX6_turn_4, eX6_turn_5, eX6_turn_8, eX6_turn_11, eX6_turn_12, eX6_turn_13, eX6_turn_16, eX6_turn_17, eX6_turn_18, eX6_turn_21, eX6_turn_22, eX6_turn_24, eX6_turn_27, eX6_turn_28, eX6_turn_30, eX6_turn_33, eX6_turn_34, eX6_turn_35, eX6_turn_36, eX6_turn_38, eX6_turn_41, eX6_turn_43, eX6_turn_45, eX6_turn_48, eX6_turn_49, eX6_turn_51, eX6_turn_54, eX6_turn_55, eX6_turn_57, eX6_turn_58, eX6_turn_61, eX6_turn_62, eX6_turn_65, eX6_turn_66, eX6_turn_67, eX6_turn_70, eX6_turn_71, eX6_turn_74, eX6_turn_75, eX6_turn_77, eX6_turn_78, eX6_turn_81, eX6_turn_82, eX6_turn_83, eX6_turn_84, eX6_turn_87, eX6_turn_89, fi, k1, k3, f_outside, f1, f2, f_refuse, show lyC 1 = 0 from rfl, show rcv 1 = 0 from rfl]) (by simp [le_nl, -Int32.not_lt, eX7_turn_0, eX7_turn_1, eX7_turn_2, eX7_turn_5, eX7_turn_8, eX7_turn_9, eX7_turn_10, eX7_turn_13, eX7_turn_14, eX7_turn_15, eX7_turn_16, eX7_turn_17, eX7_turn_20, eX7_turn_23, eX7_turn_24, eX7_turn_26, eX7_turn_29, eX7_turn_30, eX7_turn_31, eX7_turn_34, eX7_turn_35, eX7_turn_37, eX7_turn_40, eX7_turn_41, eX7_turn_42, eX7_turn_44, eX7_turn_47, eX7_turn_48, eX7_turn_50, eX7_turn_53, eX7_turn_54, eX7_turn_56, eX7_turn_57, eX7_turn_60, eX7_turn_61, eX7_turn_64, eX7_turn_65, eX7_turn_66, eX7_turn_69, eX7_turn_70, eX7_turn_73, eX7_turn_74, eX7_turn_76, eX7_turn_77, eX7_turn_80, eX7_turn_82, eX7_turn_83, eX7_turn_84, eX7_turn_85, eX7_turn_86, eX7_turn_87, eX7_turn_88, eX7_turn_89, eX7_turn_92, eX7_turn_94, eX7_turn_95, eX7_turn_96, eX7_turn_97, eX7_turn_98, eX7_turn_99, eX7_turn_100, eX7_turn_101, eX7_turn_102, eX7_turn_104, mi 6 (by omega), m_isIn, k1, k2, f1, f2, m_no])
            · obtain ⟨k, hk, rfl⟩ := inch_k R h1 h2
              obtain ⟨a8, b8, c8, d8, e8, g8⟩ := ix8 hk
              have e1 : ev mX0_kindAt 0 [.ref 1, .int (nI k)] [] h = some (some (.int (h 18 (8 + 2 * k))), h) := by rw [f_kindAt HC1 hk]; exact congrArg (fun z => some (some (Value.int z), h)) (R.kk hk)
              have e2 : ev mX0_figureAt 0 [.ref 1, .int (nI k)] [] h = some (some (.int (h 18 (9 + 2 * k))), h) := by rw [f_figureAt HC1 hk]; exact congrArg (fun z => some (some (Value.int z), h)) (R.ff hk)
              have mm := m_isInch (h := st (st h 2 k y) 3 k z) (x := nI k) R.len
              have s18 : st (st h 2 k y) 3 k z 18 0 = h 18 0 := by rw [st_cell (by omega), st_cell (by omega)]
              simp only [s18, h1, h2, ↓reduceIte] at mm
              have q1 : ∀ j, st (st h 2 k y) 3 k z 18 j = h 18 j := fun j => by rw [st_cell (by omega), st_cell (by omega)]
              have n1 : ev mX7_kindOf 0 [.ref 18, .int (nI k)] [] (st (st h 2 k y) 3 k z) = some (some (.int (h 18 (8 + 2 * k))), st (st h 2 k y) 3 k z) := by rw [m_kindOf rfl hk, q1]
              have n2 : ev mX7_figureOf 0 [.ref 18, .int (nI k)] [] (st (st h 2 k y) 3 k z) = some (some (.int (h 18 (9 + 2 * k))), st (st h 2 k y) 3 k z) := by rw [m_figureOf rfl hk, q1]
              refine ⟨10 * h 18 (8 + 2 * k) + h 18 (9 + 2 * k), st (st h 2 k y) 3 k z, st (st (st (st h 2 k y) 3 k z) 18 (8 + 2 * k) y) 18 (9 + 2 * k) z, ?_, ?_, ?_⟩
              · simp [le_nl, -Int32.not_lt, eX6_turn_0, eX6_turn_1, eX6_turn_4, eX6_turn_5, eX6_turn_8, eX6_turn_11, eX6_turn_12, eX6_turn_13, eX6_turn_16, eX6_turn_17, eX6_turn_18, eX6_turn_21, eX6_turn_22, eX6_turn_24, eX6_turn_27, eX6_turn_28, eX6_turn_30, eX6_turn_33, eX6_turn_34, eX6_turn_35, eX6_turn_36, eX6_turn_38, eX6_turn_41, eX6_turn_43, eX6_turn_45, eX6_turn_48, eX6_turn_49, eX6_turn_51, eX6_turn_54, eX6_turn_55, eX6_turn_57, eX6_turn_58, eX6_turn_61, eX6_turn_62, eX6_turn_65, eX6_turn_66, eX6_turn_67, eX6_turn_70, eX6_turn_71, eX6_turn_74, eX6_turn_75, eX6_turn_77, eX6_turn_78, eX6_turn_81, eX6_turn_82, eX6_turn_83, eX6_turn_84, eX6_turn_87, eX6_turn_89, fi, k1, k3, f_outside, f1, f2, e1, e2, f_make HC1 hk, show lyC 1 = 0 from rfl, show rcv 1 = 0 from rfl]
              · simp [le_nl, -Int32.not_lt, eX7_turn_0, eX7_turn_1, eX7_turn_2, eX7_turn_5, eX7_turn_8, eX7_turn_9, eX7_turn_10, eX7_turn_13, eX7_turn_14, eX7_turn_15, eX7_turn_16, eX7_turn_17, eX7_turn_20, eX7_turn_23, eX7_turn_24, eX7_turn_26, eX7_turn_29, eX7_turn_30, eX7_turn_31, eX7_turn_34, eX7_turn_35, eX7_turn_37, eX7_turn_40, eX7_turn_41, eX7_turn_42, eX7_turn_44, eX7_turn_47, eX7_turn_48, eX7_turn_50, eX7_turn_53, eX7_turn_54, eX7_turn_56, eX7_turn_57, eX7_turn_60, eX7_turn_61, eX7_turn_64, eX7_turn_65, eX7_turn_66, eX7_turn_69, eX7_turn_70, eX7_turn_73, eX7_turn_74, eX7_turn_76, eX7_turn_77, eX7_turn_80, eX7_turn_82, eX7_turn_83, eX7_turn_84, eX7_turn_85, eX7_turn_86, eX7_turn_87, eX7_turn_88, eX7_turn_89, eX7_turn_92, eX7_turn_94, eX7_turn_95, eX7_turn_96, eX7_turn_97, eX7_turn_98, eX7_turn_99, eX7_turn_100, eX7_turn_101, eX7_turn_102, eX7_turn_104, mm, m_isIn, k1, k2, f1, f2, n1, n2, a8, b8, c8, d8, e8, g8, show lyA 18 = some 32 from rfl]
              · have m1 : mr (st (st (st (st h 2 k y) 3 k z) 18 (8 + 2 * k) y) 18 (9 + 2 * k) z) 18 = upd (upd (mr h 18) (8 + 2 * k) y) (9 + 2 * k) z := by rw [mr_kf hk, mr_oth (by omega), mr_oth (by omega)]
                refine R.nw ?_ ?_ ?_
                · rw [m1, hm_oth (by omega) (by omega) (by omega), hm_oth (by omega) (by omega) (by omega), ← R.1]
                  exact hm_kf hk
                · rw [m1]
                  exact ok_kf R.2.1 (lit_le rfl rfl k1 k2) (lit_le rfl rfl f1 f2)
                · intro a x z1 z2 z3 z4 _
                  rw [st_cell z4, st_cell z4, st_cell z3, st_cell z2]
    · have mi1 := mi 1 (by omega)
      rw [if_neg h1, if_neg h2] at mi1 fi
      exact rf_both R (k := 1) (w := -1) (by omega) (by simp [le_nl, -Int32.not_lt, eX6_turn_0, eX6_turn_1, eX6_turn_4, eX6_turn_5, eX6_turn_8, eX6_turn_11, eX6_turn_12, eX6_turn_13, eX6_turn_16, eX6_turn_17, eX6_turn_18, eX6_turn_21, eX6_turn_22, eX6_turn_24, eX6_turn_27, eX6_turn_28, eX6_turn_30, eX6_turn_33, eX6_turn_34, eX6_turn_35, eX6_turn_36, eX6_turn_38, eX6_turn_41, eX6_turn_43, eX6_turn_45, eX6_turn_48, eX6_turn_49, eX6_turn_51, eX6_turn_54, eX6_turn_55, eX6_turn_57, eX6_turn_58, eX6_turn_61, eX6_turn_62, eX6_turn_65, eX6_turn_66, eX6_turn_67, eX6_turn_70, eX6_turn_71, eX6_turn_74, eX6_turn_75, eX6_turn_77, eX6_turn_78, eX6_turn_81, eX6_turn_82, eX6_turn_83, eX6_turn_84, eX6_turn_87, eX6_turn_89, fi, f_refuse, show lyC 1 = 0 from rfl, show rcv 1 = 0 from rfl]) (by simp [le_nl, -Int32.not_lt, eX7_turn_0, eX7_turn_1, eX7_turn_2, eX7_turn_5, eX7_turn_8, eX7_turn_9, eX7_turn_10, eX7_turn_13, eX7_turn_14, eX7_turn_15, eX7_turn_16, eX7_turn_17, eX7_turn_20, eX7_turn_23, eX7_turn_24, eX7_turn_26, eX7_turn_29, eX7_turn_30, eX7_turn_31, eX7_turn_34, eX7_turn_35, eX7_turn_37, eX7_turn_40, eX7_turn_41, eX7_turn_42, eX7_turn_44, eX7_turn_47, eX7_turn_48, eX7_turn_50, eX7_turn_53, eX7_turn_54, eX7_turn_56, eX7_turn_57, eX7_turn_60, eX7_turn_61, eX7_turn_64, eX7_turn_65, eX7_turn_66, eX7_turn_69, eX7_turn_70, eX7_turn_73, eX7_turn_74, eX7_turn_76, eX7_turn_77, eX7_turn_80, eX7_turn_82, eX7_turn_83, eX7_turn_84, eX7_turn_85, eX7_turn_86, eX7_turn_87, eX7_turn_88, eX7_turn_89, eX7_turn_92, eX7_turn_94, eX7_turn_95, eX7_turn_96, eX7_turn_97, eX7_turn_98, eX7_turn_99, eX7_turn_100, eX7_turn_101, eX7_turn_102, eX7_turn_104, mi1, m_no])
end CALLS4

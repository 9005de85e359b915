theorem ly32 {r : Nat} (hr : lyA r = some 32) : 18 ≤ r ∧ r ≤ 21 := by
  unfold lyA at hr
  split at hr <;> first | omega | (injection hr; omega) | cases hr
section MOD2
variable {r : Nat} {h : Sto} {k : Nat} {x y z v w e d n : Int32}
theorem ly_loop {t : Nat} (hr : lyA r = some 32) (ht : lyA t = some 32) (hne : r ≠ t) : ∀ (m j : Nat) (h : Sto), j + m = 32 → ∃ h' : Sto, ev mX7_lays 2 [.ref r, .ref t, .int (nI j)] [] h = some (none, h') ∧ (∀ i, j ≤ i → i < 32 → h' t i = h r i) ∧ (∀ i, i < j → h' t i = h t i) ∧ ∀ a, a ≠ t → h' a = h a := by
  intro m
  induction m with
  | zero =>
    intro j h hj
    have e1 : (32 : Int32) ≤ nI j := by rw [show j = 32 by omega]; decide
    exact ⟨h, by simp [eX7_lays_0, eX7_lays_1, eX7_lays_2, eX7_lays_3, eX7_lays_5, eX7_lays_8, eX7_lays_9, eX7_lays_10, eX7_lays_11, eX7_lays_12, eX7_lays_13, eX7_lays_14, eX7_lays_17, eX7_lays_20, e1], fun i h1 h2 => by omega, fun i _ => rfl, fun a _ => rfl⟩
  | succ m ih =>
    intro j h hj
    have e1 : ¬ (32 : Int32) ≤ nI j := by
      rw [t_le, t_nI (by omega)]
      show ¬ (32 : Int) ≤ _
      omega
    have e2 : ¬ nI j < 0 := nI_pos (by omega)
    have e3 : (nI j).toNatClampNeg = j := nI_clamp (by omega)
    have e4 : ¬ 32 ≤ j := by omega
    obtain ⟨h', g1, g2, g3, g4⟩ := ih (j + 1) (st h t j (h r j)) (by omega)
    refine ⟨h', ?_, ?_, ?_, ?_⟩
    · rw [eX7_lays_2]
      simp [eX7_lays_0, eX7_lays_1, eX7_lays_3, eX7_lays_5, eX7_lays_8, eX7_lays_9, eX7_lays_10, eX7_lays_11, eX7_lays_12, eX7_lays_13, eX7_lays_14, eX7_lays_17, eX7_lays_20, e1, e2, e3, e4, hr, ht, nI_1]
      exact g1
    · intro i h1 h2
      by_cases hij : i = j
      · subst hij
        rw [g3 i (by omega)]
        simp [st_at]
      · rw [g2 i (by omega) h2]
        simp [st_at, hne]
    · intro i h1
      rw [g3 i (by omega)]
      simp [st_at, show ¬ i = j by omega]
    · intro a ha
      rw [g4 a ha]
      exact st_cell ha
theorem m_lays {t : Nat} (hr : lyA r = some 32) (ht : lyA t = some 32) (hne : r ≠ t) : ∃ h' : Sto, ev mX7_lays 0 [.ref r, .ref t, .null] [] h = some (none, h') ∧ mr h' t = mr h r ∧ ∀ a, a ≠ t → h' a = h a := by
  obtain ⟨h', g1, g2, g3, g4⟩ := ly_loop hr ht hne 32 0 h rfl
  refine ⟨h', ?_, ?_, g4⟩
  · rw [eX7_lays_0, eX7_lays_1]
    exact g1
  · funext j
    unfold mr
    by_cases hj : j < 32
    · rw [if_pos hj, if_pos hj, g2 j (by omega) hj]
    · rw [if_neg hj, if_neg hj]
theorem mn_loop (hr : lyA r = some 32) (hl : (h r 0).toInt ≤ 12) : ∀ (m j : Nat) (v : Int32), (h r 0).toInt = (j : Int) + m → ev mX7_anewSeconds 4 [.ref r, .int v, .int (nI j)] [] h = some (some (.int (anSum (mr h r) (h r 6) m j v)), h) := by
  intro m
  induction m with
  | zero =>
    intro j v hj
    have e1 : h r 0 ≤ nI j := by rw [t_le, t_nI (by omega)]; omega
    simp [eX7_anewSeconds_0, eX7_anewSeconds_1, eX7_anewSeconds_2, eX7_anewSeconds_3, eX7_anewSeconds_4, eX7_anewSeconds_5, eX7_anewSeconds_6, eX7_anewSeconds_7, eX7_anewSeconds_8, eX7_anewSeconds_11, eX7_anewSeconds_12, eX7_anewSeconds_13, eX7_anewSeconds_14, eX7_anewSeconds_17, eX7_anewSeconds_18, eX7_anewSeconds_19, eX7_anewSeconds_22, eX7_anewSeconds_25, eX7_anewSeconds_26, hr, e1, anSum]
  | succ m ih =>
    intro j v hj
    have hj12 : j < 12 := by omega
    have e1 : ¬ h r 0 ≤ nI j := by rw [t_le, t_nI (by omega)]; omega
    have k := ih (j + 1) (v + thB (mr h r) (h r 6) j) (by omega)
    rw [eX7_anewSeconds_4]
    simp [eX7_anewSeconds_0, eX7_anewSeconds_1, eX7_anewSeconds_2, eX7_anewSeconds_3, eX7_anewSeconds_5, eX7_anewSeconds_6, eX7_anewSeconds_7, eX7_anewSeconds_8, eX7_anewSeconds_11, eX7_anewSeconds_12, eX7_anewSeconds_13, eX7_anewSeconds_14, eX7_anewSeconds_17, eX7_anewSeconds_18, eX7_anewSeconds_19, eX7_anewSeconds_22, eX7_anewSeconds_25, eX7_anewSeconds_26, hr, e1, m_threadBy hr hj12, anSum, nI_1]
    exact k
theorem m_anewSeconds (hr : lyA r = some 32) (ok : Ok (mr h r)) : ev mX7_anewSeconds 0 [.ref r, .null, .null] [] h = some (some (.int (anSec (mr h r) (mr h r 6))), h) := by
  obtain ⟨o0, -⟩ := ok
  rw [mr_lo (by omega)] at o0
  rw [eX7_anewSeconds_0, eX7_anewSeconds_1, eX7_anewSeconds_2, eX7_anewSeconds_3]
  rw [mr_lo (show 6 < 32 by omega)]
  exact mn_loop hr o0.2 _ 0 0 (by rw [mr_lo (by omega)]; omega)
theorem m_bunches (hr : lyA r = some 32) (he : e = 0 ∨ e = 1) {i : Nat} (hi : i < 12) (hx : ichD (h r 0) e (if e = 0 then h r 1 else h r 2) = nI i) : ev mX7_bunches 0 [.ref r, .int e] [] h = some (none, st h r (if e = 0 then 1 else 2) (if (if e = 0 then h r 1 else h r 2) - mvK (h r (8 + 2 * i)) < 0 then 0 else (if e = 0 then h r 1 else h r 2) - mvK (h r (8 + 2 * i)))) := by
  rcases he with rfl | rfl
  · simp at hx
    simp [eX7_bunches_0, eX7_bunches_1, eX7_bunches_2, eX7_bunches_3, eX7_bunches_4, eX7_bunches_5, eX7_bunches_6, eX7_bunches_7, eX7_bunches_8, eX7_bunches_9, eX7_bunches_10, eX7_bunches_11, eX7_bunches_12, eX7_bunches_13, eX7_bunches_16, eX7_bunches_19, eX7_bunches_20, eX7_bunches_23, eX7_bunches_24, hr, m_inchOf hr (Or.inl rfl), hx, m_movesAt hr hi, m_most]
  · simp at hx
    simp [eX7_bunches_0, eX7_bunches_1, eX7_bunches_2, eX7_bunches_3, eX7_bunches_4, eX7_bunches_5, eX7_bunches_6, eX7_bunches_7, eX7_bunches_8, eX7_bunches_9, eX7_bunches_10, eX7_bunches_11, eX7_bunches_12, eX7_bunches_13, eX7_bunches_16, eX7_bunches_19, eX7_bunches_20, eX7_bunches_23, eX7_bunches_24, hr, m_inchOf hr (Or.inr rfl), hx, m_movesAt hr hi, m_most]
/-- the store on the way of outSeconds -/
def oS (h : Sto) (r : Nat) (e d b : Int32) (g : Nat → Nat) : Sto := fun a x => if a = r ∧ x = (if e = 0 then 1 else 2) then d else if a = 17 ∧ x = 11 then b else if a = 25 ∧ x < 12 then nI (g x) else h a x
theorem oS_d {g : Nat → Nat} {b d' : Int32} : st (oS h r e d b g) r (if e = 0 then 1 else 2) d' = oS h r e d' b g := by
  funext a x
  unfold st oS
  by_cases h1 : a = r ∧ x = (if e = 0 then 1 else 2)
  · rw [if_pos h1, if_pos h1]
  · rw [if_neg h1, if_neg h1, if_neg h1]
theorem oS_b {g : Nat → Nat} {b b' : Int32} (hr : lyA r = some 32) : st (oS h r e d b g) 17 11 b' = oS h r e d b' g := by
  have := ly32 hr
  funext a x
  unfold st oS
  by_cases h1 : a = 17 ∧ x = 11
  · rw [if_pos h1, if_neg (by rintro ⟨z, -⟩; omega), if_pos h1]
  · rw [if_neg h1, if_neg h1, if_neg h1]
theorem oS_g {g : Nat → Nat} {b : Int32} {i t : Nat} (hr : lyA r = some 32) (hi : i < 12) : st (oS h r e d b g) 25 i (nI (g i + t)) = oS h r e d b (bump g i t) := by
  have := ly32 hr
  funext a x
  unfold st oS bump
  by_cases h1 : a = 25 ∧ x = i
  · rw [if_pos h1, if_neg (by rintro ⟨z, -⟩; omega), if_neg (by rintro ⟨z, -⟩; omega), if_pos ⟨h1.1, by omega⟩, h1.2, if_pos rfl]
  · rw [if_neg h1]
    by_cases h2 : a = 25 ∧ x < 12
    · rw [if_pos h2, if_pos h2, if_neg (show ¬ x = i from fun z => h1 ⟨h2.1, z⟩)]
    · rw [if_neg h2, if_neg h2]
theorem oS_rd {g : Nat → Nat} {b : Int32} : oS h r e d b g r (if e = 0 then 1 else 2) = d := by unfold oS; rw [if_pos ⟨rfl, rfl⟩]
theorem oS_ro {g : Nat → Nat} {b : Int32} {x : Nat} (hr : lyA r = some 32) (hx : x ≠ 1) (hx2 : x ≠ 2) : oS h r e d b g r x = h r x := by
  have := ly32 hr
  unfold oS
  rw [if_neg (by rintro ⟨-, z⟩; split at z <;> omega), if_neg (by rintro ⟨z, -⟩; omega), if_neg (by rintro ⟨z, -⟩; omega)]
theorem oS_17 {g : Nat → Nat} {b : Int32} (hr : lyA r = some 32) : oS h r e d b g 17 11 = b := by
  have := ly32 hr
  unfold oS
  rw [if_neg (by rintro ⟨z, -⟩; omega), if_pos ⟨rfl, rfl⟩]
theorem oS_25 {g : Nat → Nat} {b : Int32} {i : Nat} (hr : lyA r = some 32) (hi : i < 12) : oS h r e d b g 25 i = nI (g i) := by
  have := ly32 hr
  unfold oS
  rw [if_neg (by rintro ⟨z, -⟩; omega), if_neg (by rintro ⟨z, -⟩; omega), if_pos ⟨rfl, hi⟩]
theorem oS_in {g : Nat → Nat} {b : Int32} (he : e = 0 ∨ e = 1) : (if e = 0 then oS h r e d b g r 1 else oS h r e d b g r 2) = d := by
  rcases he with rfl | rfl
  · simp [oS]
  · simp [oS]
theorem clamp_sub {a b : Nat} (ha : a < 1000) (hb : b < 1000) : (if nI a - nI b < 0 then 0 else nI a - nI b) = nI (a - b) := by
  by_cases hab : b ≤ a
  · rw [pk_sub hab, if_neg (nI_pos (by omega))]
  · have : nI a - nI b < 0 := pk_sneg (by omega) (by omega)
    rw [if_pos this, show a - b = 0 by omega]
    rfl
def resI (o : Option (Nat × Nat × (Nat → Nat))) : Int32 := match o with
  | none => -9
  | some q => nI q.2.1
theorem os_fin (hr : lyA r = some 32) (he : e = 0 ∨ e = 1) (own v : Int32) (b d : Int32) (g : Nat → Nat) (a5 : Value) : ev mX7_outSeconds 119 [.ref 17, .ref r, .int e, .int own, .int v, a5] [] (oS h r e d b g) = some (some (.int v), oS h r e own b g) := by
  have k := oS_d (h := h) (r := r) (e := e) (d := d) (b := b) (g := g) (d' := own)
  rcases he with rfl | rfl
  · simp at k
    simp [eX7_outSeconds_0, eX7_outSeconds_1, eX7_outSeconds_2, eX7_outSeconds_3, eX7_outSeconds_4, eX7_outSeconds_5, eX7_outSeconds_6, eX7_outSeconds_7, eX7_outSeconds_9, eX7_outSeconds_10, eX7_outSeconds_11, eX7_outSeconds_14, eX7_outSeconds_15, eX7_outSeconds_19, eX7_outSeconds_21, eX7_outSeconds_24, eX7_outSeconds_25, eX7_outSeconds_28, eX7_outSeconds_30, eX7_outSeconds_31, eX7_outSeconds_32, eX7_outSeconds_35, eX7_outSeconds_40, eX7_outSeconds_43, eX7_outSeconds_44, eX7_outSeconds_45, eX7_outSeconds_48, eX7_outSeconds_51, eX7_outSeconds_52, eX7_outSeconds_53, eX7_outSeconds_56, eX7_outSeconds_58, eX7_outSeconds_59, eX7_outSeconds_62, eX7_outSeconds_64, eX7_outSeconds_65, eX7_outSeconds_66, eX7_outSeconds_67, eX7_outSeconds_69, eX7_outSeconds_72, eX7_outSeconds_73, eX7_outSeconds_74, eX7_outSeconds_76, eX7_outSeconds_77, eX7_outSeconds_79, eX7_outSeconds_82, eX7_outSeconds_83, eX7_outSeconds_85, eX7_outSeconds_86, eX7_outSeconds_87, eX7_outSeconds_90, eX7_outSeconds_91, eX7_outSeconds_92, eX7_outSeconds_95, eX7_outSeconds_96, eX7_outSeconds_98, eX7_outSeconds_101, eX7_outSeconds_104, eX7_outSeconds_106, eX7_outSeconds_108, eX7_outSeconds_111, eX7_outSeconds_112, eX7_outSeconds_113, eX7_outSeconds_116, eX7_outSeconds_119, eX7_outSeconds_120, eX7_outSeconds_121, eX7_outSeconds_122, eX7_outSeconds_123, eX7_outSeconds_124, eX7_outSeconds_125, eX7_outSeconds_127, hr, k]
  · simp at k
    simp [eX7_outSeconds_0, eX7_outSeconds_1, eX7_outSeconds_2, eX7_outSeconds_3, eX7_outSeconds_4, eX7_outSeconds_5, eX7_outSeconds_6, eX7_outSeconds_7, eX7_outSeconds_9, eX7_outSeconds_10, eX7_outSeconds_11, eX7_outSeconds_14, eX7_outSeconds_15, eX7_outSeconds_19, eX7_outSeconds_21, eX7_outSeconds_24, eX7_outSeconds_25, eX7_outSeconds_28, eX7_outSeconds_30, eX7_outSeconds_31, eX7_outSeconds_32, eX7_outSeconds_35, eX7_outSeconds_40, eX7_outSeconds_43, eX7_outSeconds_44, eX7_outSeconds_45, eX7_outSeconds_48, eX7_outSeconds_51, eX7_outSeconds_52, eX7_outSeconds_53, eX7_outSeconds_56, eX7_outSeconds_58, eX7_outSeconds_59, eX7_outSeconds_62, eX7_outSeconds_64, eX7_outSeconds_65, eX7_outSeconds_66, eX7_outSeconds_67, eX7_outSeconds_69, eX7_outSeconds_72, eX7_outSeconds_73, eX7_outSeconds_74, eX7_outSeconds_76, eX7_outSeconds_77, eX7_outSeconds_79, eX7_outSeconds_82, eX7_outSeconds_83, eX7_outSeconds_85, eX7_outSeconds_86, eX7_outSeconds_87, eX7_outSeconds_90, eX7_outSeconds_91, eX7_outSeconds_92, eX7_outSeconds_95, eX7_outSeconds_96, eX7_outSeconds_98, eX7_outSeconds_101, eX7_outSeconds_104, eX7_outSeconds_106, eX7_outSeconds_108, eX7_outSeconds_111, eX7_outSeconds_112, eX7_outSeconds_113, eX7_outSeconds_116, eX7_outSeconds_119, eX7_outSeconds_120, eX7_outSeconds_121, eX7_outSeconds_122, eX7_outSeconds_123, eX7_outSeconds_124, eX7_outSeconds_125, eX7_outSeconds_127, hr, k]
theorem os_loop (hr : lyA r = some 32) (ok : Ok (mr h r)) (he : e = 0 ∨ e = 1) : ∀ (f d b s : Nat) (g : Nat → Nat) (own : Int32) (a5 : Value), f ≤ 24 → d ≤ f → s + 12 * d ≤ 288 →
    ∃ (b' : Nat) (g' : Nat → Nat), ev mX7_outSeconds 38 [.ref 17, .ref r, .int e, .int own, .int (nI s), a5] [] (oS h r e (nI d) (nI b) g) = some (some (.int (resI (wkc (mr h r) e f d b s g))), oS h r e own (nI b') g') ∧ ∀ q, wkc (mr h r) e f d b s g = some q → b' = q.1 ∧ g' = q.2.2 := by
  have l := len_in ok
  have fin : ∀ (own v : Int32) (b : Nat) (d : Int32) (g : Nat → Nat) (a5 : Value), ev mX7_outSeconds 119 [.ref 17, .ref r, .int e, .int own, .int v, a5] [] (oS h r e d (nI b) g) = some (some (.int v), oS h r e own (nI b) g) := fun own v b d g a5 => os_fin hr he own v (nI b) d g a5
  intro f
  induction f with
  | zero =>
    intro d b s g own a5 hf hd hs
    obtain rfl : d = 0 := by omega
    have e1 : ¬ nI s < 0 := nI_pos (by omega)
    have lo : ev mX7_isLost 0 [.ref r, .int e] [] (oS h r e (nI 0) (nI b) g) = some (some (.int 0), oS h r e (nI 0) (nI b) g) := by
      rw [m_isLost hr he]
      rw [oS_in he, if_neg (by decide)]
    refine ⟨b, g, ?_, ?_⟩
    · rw [eX7_outSeconds_38]
      simp [eX7_outSeconds_0, eX7_outSeconds_1, eX7_outSeconds_2, eX7_outSeconds_3, eX7_outSeconds_4, eX7_outSeconds_5, eX7_outSeconds_6, eX7_outSeconds_7, eX7_outSeconds_9, eX7_outSeconds_10, eX7_outSeconds_11, eX7_outSeconds_14, eX7_outSeconds_15, eX7_outSeconds_17, eX7_outSeconds_19, eX7_outSeconds_21, eX7_outSeconds_24, eX7_outSeconds_25, eX7_outSeconds_28, eX7_outSeconds_30, eX7_outSeconds_31, eX7_outSeconds_32, eX7_outSeconds_35, eX7_outSeconds_40, eX7_outSeconds_43, eX7_outSeconds_44, eX7_outSeconds_45, eX7_outSeconds_48, eX7_outSeconds_51, eX7_outSeconds_52, eX7_outSeconds_53, eX7_outSeconds_56, eX7_outSeconds_58, eX7_outSeconds_59, eX7_outSeconds_62, eX7_outSeconds_64, eX7_outSeconds_65, eX7_outSeconds_66, eX7_outSeconds_67, eX7_outSeconds_69, eX7_outSeconds_72, eX7_outSeconds_73, eX7_outSeconds_74, eX7_outSeconds_76, eX7_outSeconds_77, eX7_outSeconds_79, eX7_outSeconds_82, eX7_outSeconds_83, eX7_outSeconds_85, eX7_outSeconds_86, eX7_outSeconds_87, eX7_outSeconds_90, eX7_outSeconds_91, eX7_outSeconds_92, eX7_outSeconds_95, eX7_outSeconds_96, eX7_outSeconds_98, eX7_outSeconds_101, eX7_outSeconds_104, eX7_outSeconds_106, eX7_outSeconds_108, eX7_outSeconds_111, eX7_outSeconds_112, eX7_outSeconds_113, eX7_outSeconds_116, eX7_outSeconds_120, eX7_outSeconds_121, eX7_outSeconds_122, eX7_outSeconds_123, eX7_outSeconds_124, eX7_outSeconds_125, eX7_outSeconds_127, e1, lo, fin, wkc, resI]
    · intro q hq
      cases hq
      exact ⟨rfl, rfl⟩
  | succ f ih =>
    intro d b s g own a5 hf hd hs
    have e1 : ¬ nI s < 0 := nI_pos (by omega)
    have lo : ev mX7_isLost 0 [.ref r, .int e] [] (oS h r e (nI d) (nI b) g) = some (some (.int (if 0 < nI d then 1 else 0)), oS h r e (nI d) (nI b) g) := by
      rw [m_isLost hr he, oS_in he]
    by_cases hd0 : d = 0
    · subst hd0
      rw [if_neg (by decide)] at lo
      refine ⟨b, g, ?_, ?_⟩
      · rw [eX7_outSeconds_38]
        simp [eX7_outSeconds_0, eX7_outSeconds_1, eX7_outSeconds_2, eX7_outSeconds_3, eX7_outSeconds_4, eX7_outSeconds_5, eX7_outSeconds_6, eX7_outSeconds_7, eX7_outSeconds_9, eX7_outSeconds_10, eX7_outSeconds_11, eX7_outSeconds_14, eX7_outSeconds_15, eX7_outSeconds_17, eX7_outSeconds_19, eX7_outSeconds_21, eX7_outSeconds_24, eX7_outSeconds_25, eX7_outSeconds_28, eX7_outSeconds_30, eX7_outSeconds_31, eX7_outSeconds_32, eX7_outSeconds_35, eX7_outSeconds_40, eX7_outSeconds_43, eX7_outSeconds_44, eX7_outSeconds_45, eX7_outSeconds_48, eX7_outSeconds_51, eX7_outSeconds_52, eX7_outSeconds_53, eX7_outSeconds_56, eX7_outSeconds_58, eX7_outSeconds_59, eX7_outSeconds_62, eX7_outSeconds_64, eX7_outSeconds_65, eX7_outSeconds_66, eX7_outSeconds_67, eX7_outSeconds_69, eX7_outSeconds_72, eX7_outSeconds_73, eX7_outSeconds_74, eX7_outSeconds_76, eX7_outSeconds_77, eX7_outSeconds_79, eX7_outSeconds_82, eX7_outSeconds_83, eX7_outSeconds_85, eX7_outSeconds_86, eX7_outSeconds_87, eX7_outSeconds_90, eX7_outSeconds_91, eX7_outSeconds_92, eX7_outSeconds_95, eX7_outSeconds_96, eX7_outSeconds_98, eX7_outSeconds_101, eX7_outSeconds_104, eX7_outSeconds_106, eX7_outSeconds_108, eX7_outSeconds_111, eX7_outSeconds_112, eX7_outSeconds_113, eX7_outSeconds_116, eX7_outSeconds_120, eX7_outSeconds_121, eX7_outSeconds_122, eX7_outSeconds_123, eX7_outSeconds_124, eX7_outSeconds_125, eX7_outSeconds_127, e1, lo, fin, wkc, resI]
      · intro q hq
        unfold wkc at hq
        rw [if_pos rfl] at hq
        cases hq
        exact ⟨rfl, rfl⟩
    · have p0 : 0 < nI d := by
        rw [t_lt, t_nI (by omega)]
        show (0 : Int) < _
        omega
      rw [if_pos p0] at lo
      obtain ⟨i1, i2, i3⟩ := ixd_in (e := e) ok (show d ≤ 24 by omega)
      rw [mr_lo (by omega)] at i3
      generalize hi : ixd (mr h r) e d = i at *
      have fi : ∀ b' g', ev mX7_inchOf 0 [.ref r, .int e, .null] [] (oS h r e (nI d) b' g') = some (some (.int (nI i)), oS h r e (nI d) b' g') := by
        intro b' g'
        rw [m_inchOf hr he, oS_in he, oS_ro hr (by omega) (by omega), i3]
      obtain ⟨m1, m2⟩ := mvN_eq (mr h r) i
      obtain ⟨t1, t2, t3⟩ := bsN_eq ok i2
      rw [mr_k i2] at m1
      rw [mr_k i2, mr_f i2] at t1
      have fm : ∀ b' g', ev mX7_movesAt 0 [.ref r, .int (nI i), .null] [] (oS h r e (nI d) b' g') = some (some (.int (nI (mvN (mr h r) i))), oS h r e (nI d) b' g') := by
        intro b' g'
        rw [m_movesAt hr i2, oS_ro hr (by omega) (by omega), m1]
      have fs : ∀ b' g', ev mX7_bunchAt 0 [.ref r, .int (nI i), .null] [] (oS h r e (nI d) b' g') = some (some (.int (nI (bsN (mr h r) i))), oS h r e (nI d) b' g') := by
        intro b' g'
        rw [m_bunchAt hr i2, oS_ro hr (by omega) (by omega), oS_ro hr (by omega) (by omega), t1]
      obtain ⟨k1, k2, k3, k4⟩ := n12 i2
      have r25 : ∀ b' g', oS h r e (nI d) b' g' 25 i = nI (g' i) := fun b' g' => oS_25 hr i2
      have w25 : ∀ b' (g' : Nat → Nat) t, st (oS h r e (nI d) b' g') 25 i (nI (g' i + t)) = oS h r e (nI d) b' (bump g' i t) := fun b' g' t => oS_g hr i2
      have r17 : ∀ b' g', oS h r e (nI d) b' g' 17 11 = b' := fun b' g' => oS_17 hr
      have w17 : ∀ b' b'' g', st (oS h r e (nI d) b' g') 17 11 b'' = oS h r e (nI d) b'' g' := fun b' b'' g' => oS_b hr
      by_cases hm0' : mvN (mr h r) i = 0
      · refine ⟨b + 1, bump g i (bsN (mr h r) i), ?_, ?_⟩
        · have z0 : nI 0 = 0 := nI_0
          have n9 : (-9 : Int32) < 0 := by decide
          rw [hm0'] at fm
          have e38 : ∀ (a0 a1 a2 a3 : Value) (T S : List Value) (h : Sto), ev mX7_outSeconds 38 (a0 :: a1 :: a2 :: a3 :: .int (-9) :: T) S h = ev mX7_outSeconds 40 (a0 :: a1 :: a2 :: a3 :: .int (-9) :: T) (.int (-9) :: S) h := fun _ _ _ _ _ _ _ => eX7_outSeconds_38
          have ew : wkc (mr h r) e (f + 1) d b s g = none := by rw [wkc, if_neg hd0, hi, if_pos hm0']
          rw [ew]
          rw [eX7_outSeconds_38]
          simp [eX7_outSeconds_0, eX7_outSeconds_1, eX7_outSeconds_2, eX7_outSeconds_3, eX7_outSeconds_4, eX7_outSeconds_5, eX7_outSeconds_6, eX7_outSeconds_7, eX7_outSeconds_9, eX7_outSeconds_10, eX7_outSeconds_11, eX7_outSeconds_14, eX7_outSeconds_15, eX7_outSeconds_17, eX7_outSeconds_19, eX7_outSeconds_21, eX7_outSeconds_24, eX7_outSeconds_25, eX7_outSeconds_28, eX7_outSeconds_30, eX7_outSeconds_31, eX7_outSeconds_32, eX7_outSeconds_35, eX7_outSeconds_40, eX7_outSeconds_43, eX7_outSeconds_44, eX7_outSeconds_45, eX7_outSeconds_48, eX7_outSeconds_51, eX7_outSeconds_52, eX7_outSeconds_53, eX7_outSeconds_56, eX7_outSeconds_58, eX7_outSeconds_59, eX7_outSeconds_62, eX7_outSeconds_64, eX7_outSeconds_65, eX7_outSeconds_66, eX7_outSeconds_67, eX7_outSeconds_69, eX7_outSeconds_72, eX7_outSeconds_73, eX7_outSeconds_74, eX7_outSeconds_76, eX7_outSeconds_77, eX7_outSeconds_79, eX7_outSeconds_82, eX7_outSeconds_83, eX7_outSeconds_85, eX7_outSeconds_86, eX7_outSeconds_87, eX7_outSeconds_90, eX7_outSeconds_91, eX7_outSeconds_92, eX7_outSeconds_95, eX7_outSeconds_96, eX7_outSeconds_98, eX7_outSeconds_101, eX7_outSeconds_104, eX7_outSeconds_106, eX7_outSeconds_108, eX7_outSeconds_111, eX7_outSeconds_112, eX7_outSeconds_113, eX7_outSeconds_116, eX7_outSeconds_120, eX7_outSeconds_121, eX7_outSeconds_122, eX7_outSeconds_123, eX7_outSeconds_124, eX7_outSeconds_125, eX7_outSeconds_127, e1, lo, fi, fm, fs, k1, k3, k4, r25, w25, r17, w17, nI_add, nI_1, z0, e38, fin, resI, show lyA 25 = some 12 from rfl]
        · intro q hq
          unfold wkc at hq
          rw [if_neg hd0, hi, if_pos hm0'] at hq
          cases hq
      · have fb : ∀ b' g', ev mX7_bunches 0 [.ref r, .int e] [] (oS h r e (nI d) b' g') = some (none, oS h r e (nI (d - mvN (mr h r) i)) b' g') := by
          intro b' g'
          rw [m_bunches hr he i2 (by rw [oS_ro hr (by omega) (by omega), oS_in he, i3]), oS_in he, oS_ro hr (by omega) (by omega), m1, oS_d, clamp_sub (by omega) (by omega)]
        have ew : wkc (mr h r) e (f + 1) d b s g = wkc (mr h r) e f (d - mvN (mr h r) i) (b + 1) (s + bsN (mr h r) i) (bump g i (bsN (mr h r) i)) := by
          rw [wkc, if_neg hd0, hi, if_neg hm0']
        obtain ⟨b', g', q1, q2⟩ := ih (d - mvN (mr h r) i) (b + 1) (s + bsN (mr h r) i) (bump g i (bsN (mr h r) i)) own (.int (nI i)) (by omega) (by omega) (by omega)
        rw [ew]
        refine ⟨b', g', ?_, q2⟩
        rw [← q1]
        have mz : ¬ nI (mvN (mr h r) i) = 0 := nI_ne0 (by omega) (by omega)
        rw [eX7_outSeconds_38]
        simp [eX7_outSeconds_0, eX7_outSeconds_1, eX7_outSeconds_2, eX7_outSeconds_3, eX7_outSeconds_4, eX7_outSeconds_5, eX7_outSeconds_6, eX7_outSeconds_7, eX7_outSeconds_9, eX7_outSeconds_10, eX7_outSeconds_11, eX7_outSeconds_14, eX7_outSeconds_15, eX7_outSeconds_17, eX7_outSeconds_19, eX7_outSeconds_21, eX7_outSeconds_24, eX7_outSeconds_25, eX7_outSeconds_28, eX7_outSeconds_30, eX7_outSeconds_31, eX7_outSeconds_32, eX7_outSeconds_35, eX7_outSeconds_40, eX7_outSeconds_43, eX7_outSeconds_44, eX7_outSeconds_45, eX7_outSeconds_48, eX7_outSeconds_51, eX7_outSeconds_52, eX7_outSeconds_53, eX7_outSeconds_56, eX7_outSeconds_58, eX7_outSeconds_59, eX7_outSeconds_62, eX7_outSeconds_64, eX7_outSeconds_65, eX7_outSeconds_66, eX7_outSeconds_67, eX7_outSeconds_69, eX7_outSeconds_72, eX7_outSeconds_73, eX7_outSeconds_74, eX7_outSeconds_76, eX7_outSeconds_77, eX7_outSeconds_79, eX7_outSeconds_82, eX7_outSeconds_83, eX7_outSeconds_85, eX7_outSeconds_86, eX7_outSeconds_87, eX7_outSeconds_90, eX7_outSeconds_91, eX7_outSeconds_92, eX7_outSeconds_95, eX7_outSeconds_96, eX7_outSeconds_98, eX7_outSeconds_101, eX7_outSeconds_104, eX7_outSeconds_106, eX7_outSeconds_108, eX7_outSeconds_111, eX7_outSeconds_112, eX7_outSeconds_113, eX7_outSeconds_116, eX7_outSeconds_120, eX7_outSeconds_121, eX7_outSeconds_122, eX7_outSeconds_123, eX7_outSeconds_124, eX7_outSeconds_125, eX7_outSeconds_127, e1, lo, fi, fm, fs, fb, k1, k3, k4, r25, w25, r17, w17, nI_add, nI_1, mz, show lyA 25 = some 12 from rfl]
theorem oc_loop (hr : lyA r = some 32) {own v : Int32} : ∀ (m j : Nat) (h : Sto), j + m = 12 → ∃ h' : Sto, ev mX7_outSeconds 17 [.ref 17, .ref r, .int e, .int own, .int v, .int (nI j)] [] h = ev mX7_outSeconds 38 [.ref 17, .ref r, .int e, .int own, .int v, .int (nI 12)] [] h' ∧ ∀ a x, h' a x = if a = 25 ∧ j ≤ x ∧ x < 12 then 0 else h a x := by
  intro m
  induction m with
  | zero =>
    intro j h hj
    obtain rfl : j = 12 := by omega
    have e1 : (12 : Int32) ≤ nI 12 := by decide
    refine ⟨h, ?_, fun a x => ?_⟩
    · simp [eX7_outSeconds_0, eX7_outSeconds_1, eX7_outSeconds_2, eX7_outSeconds_3, eX7_outSeconds_4, eX7_outSeconds_5, eX7_outSeconds_6, eX7_outSeconds_7, eX7_outSeconds_9, eX7_outSeconds_10, eX7_outSeconds_11, eX7_outSeconds_14, eX7_outSeconds_15, eX7_outSeconds_17, eX7_outSeconds_19, eX7_outSeconds_21, eX7_outSeconds_24, eX7_outSeconds_25, eX7_outSeconds_28, eX7_outSeconds_30, eX7_outSeconds_31, eX7_outSeconds_32, eX7_outSeconds_35, eX7_outSeconds_40, eX7_outSeconds_43, eX7_outSeconds_44, eX7_outSeconds_45, eX7_outSeconds_48, eX7_outSeconds_51, eX7_outSeconds_52, eX7_outSeconds_53, eX7_outSeconds_56, eX7_outSeconds_58, eX7_outSeconds_59, eX7_outSeconds_62, eX7_outSeconds_64, eX7_outSeconds_65, eX7_outSeconds_66, eX7_outSeconds_67, eX7_outSeconds_69, eX7_outSeconds_72, eX7_outSeconds_73, eX7_outSeconds_74, eX7_outSeconds_76, eX7_outSeconds_77, eX7_outSeconds_79, eX7_outSeconds_82, eX7_outSeconds_83, eX7_outSeconds_85, eX7_outSeconds_86, eX7_outSeconds_87, eX7_outSeconds_90, eX7_outSeconds_91, eX7_outSeconds_92, eX7_outSeconds_95, eX7_outSeconds_96, eX7_outSeconds_98, eX7_outSeconds_101, eX7_outSeconds_104, eX7_outSeconds_106, eX7_outSeconds_108, eX7_outSeconds_111, eX7_outSeconds_112, eX7_outSeconds_113, eX7_outSeconds_116, eX7_outSeconds_119, eX7_outSeconds_120, eX7_outSeconds_121, eX7_outSeconds_122, eX7_outSeconds_123, eX7_outSeconds_124, eX7_outSeconds_125, eX7_outSeconds_127, e1]
    · rw [if_neg (by omega)]
  | succ m ih =>
    intro j h hj
    obtain ⟨k1, k2, k3, k4⟩ := n12 (show j < 12 by omega)
    obtain ⟨h', g1, g2⟩ := ih (j + 1) (st h 25 j 0) (by omega)
    refine ⟨h', ?_, fun a x => ?_⟩
    · rw [← g1, eX7_outSeconds_17]
      simp [eX7_outSeconds_0, eX7_outSeconds_1, eX7_outSeconds_2, eX7_outSeconds_3, eX7_outSeconds_4, eX7_outSeconds_5, eX7_outSeconds_6, eX7_outSeconds_7, eX7_outSeconds_9, eX7_outSeconds_10, eX7_outSeconds_11, eX7_outSeconds_14, eX7_outSeconds_15, eX7_outSeconds_19, eX7_outSeconds_21, eX7_outSeconds_24, eX7_outSeconds_25, eX7_outSeconds_28, eX7_outSeconds_30, eX7_outSeconds_31, eX7_outSeconds_32, eX7_outSeconds_35, eX7_outSeconds_40, eX7_outSeconds_43, eX7_outSeconds_44, eX7_outSeconds_45, eX7_outSeconds_48, eX7_outSeconds_51, eX7_outSeconds_52, eX7_outSeconds_53, eX7_outSeconds_56, eX7_outSeconds_58, eX7_outSeconds_59, eX7_outSeconds_62, eX7_outSeconds_64, eX7_outSeconds_65, eX7_outSeconds_66, eX7_outSeconds_67, eX7_outSeconds_69, eX7_outSeconds_72, eX7_outSeconds_73, eX7_outSeconds_74, eX7_outSeconds_76, eX7_outSeconds_77, eX7_outSeconds_79, eX7_outSeconds_82, eX7_outSeconds_83, eX7_outSeconds_85, eX7_outSeconds_86, eX7_outSeconds_87, eX7_outSeconds_90, eX7_outSeconds_91, eX7_outSeconds_92, eX7_outSeconds_95, eX7_outSeconds_96, eX7_outSeconds_98, eX7_outSeconds_101, eX7_outSeconds_104, eX7_outSeconds_106, eX7_outSeconds_108, eX7_outSeconds_111, eX7_outSeconds_112, eX7_outSeconds_113, eX7_outSeconds_116, eX7_outSeconds_119, eX7_outSeconds_120, eX7_outSeconds_121, eX7_outSeconds_122, eX7_outSeconds_123, eX7_outSeconds_124, eX7_outSeconds_125, eX7_outSeconds_127, k1, k2, k3, k4, lyA, nI_1]
    · rw [g2 a x]
      by_cases h1 : a = 25 ∧ j ≤ x ∧ x < 12
      · rw [if_pos h1]
        by_cases h2 : x = j
        · rw [if_neg (by omega), st_at, if_pos ⟨h1.1, h2⟩]
        · rw [if_pos ⟨h1.1, by omega, h1.2.2⟩]
      · rw [if_neg h1, if_neg (by omega), st_at, if_neg (by rintro ⟨z1, z2⟩; exact h1 ⟨z1, by omega, by omega⟩)]
/-- outSeconds: the walk from where it is; costs and bunchesMany alone are written -/
theorem m_outSeconds (hr : lyA r = some 32) (ok : Ok (mr h r)) (he : e = 0 ∨ e = 1) : ∃ (b' : Nat) (g' : Nat → Nat), ev mX7_outSeconds 0 [.ref 17, .ref r, .int e, .null, .null, .null] [] h = some (some (.int (resI (wkc (mr h r) e 24 (if e = 0 then h r 1 else h r 2).toInt.toNat 0 0 (fun _ => 0)))), oS h r e (if e = 0 then h r 1 else h r 2) (nI b') g') ∧ ∀ q, wkc (mr h r) e 24 (if e = 0 then h r 1 else h r 2).toInt.toNat 0 0 (fun _ => 0) = some q → b' = q.1 ∧ g' = q.2.2 := by
  have l32 := ly32 hr
  have hIN : ∃ IN : Int32, (if e = 0 then h r 1 else h r 2) = IN ∧ IN.toInt ≤ 24 := by
    obtain ⟨-, o1, o2, -⟩ := ok
    rw [mr_lo (by omega)] at o1 o2
    rcases he with rfl | rfl
    · exact ⟨_, rfl, by rw [if_pos rfl]; exact o1.2⟩
    · exact ⟨_, rfl, by rw [if_neg (by decide)]; exact o2.2⟩
  obtain ⟨IN, hI, hI2⟩ := hIN
  rw [hI]
  obtain ⟨h', g1, g2⟩ := oc_loop (e := e) hr (own := IN) (v := 0) 12 0 (st h 17 11 0) rfl
  have eo : h' = oS h r e IN (nI 0) (fun _ => 0) := by
    funext a x
    rw [g2 a x]
    unfold oS
    by_cases h1 : a = r ∧ x = (if e = 0 then 1 else 2)
    · rw [if_pos h1, if_neg (by omega), st_at, if_neg (by omega), ← hI, h1.1, h1.2]
      rcases he with rfl | rfl <;> rfl
    · rw [if_neg h1]
      by_cases h2 : a = 17 ∧ x = 11
      · rw [if_pos h2, if_neg (by omega), st_at, if_pos h2]
        rfl
      · rw [if_neg h2]
        by_cases h3 : a = 25 ∧ x < 12
        · rw [if_pos h3, if_pos ⟨h3.1, by omega, h3.2⟩]
          rfl
        · rw [if_neg h3, if_neg (by omega), st_at, if_neg h2]
  have e0 : ev mX7_outSeconds 0 [.ref 17, .ref r, .int e, .null, .null, .null] [] h = ev mX7_outSeconds 17 [.ref 17, .ref r, .int e, .int IN, .int 0, .int (nI 0)] [] (st h 17 11 0) := by
    rcases he with rfl | rfl
    · simp at hI
      simp [eX7_outSeconds_0, eX7_outSeconds_1, eX7_outSeconds_2, eX7_outSeconds_3, eX7_outSeconds_4, eX7_outSeconds_5, eX7_outSeconds_6, eX7_outSeconds_7, eX7_outSeconds_9, eX7_outSeconds_10, eX7_outSeconds_11, eX7_outSeconds_14, eX7_outSeconds_15, eX7_outSeconds_19, eX7_outSeconds_21, eX7_outSeconds_24, eX7_outSeconds_25, eX7_outSeconds_28, eX7_outSeconds_30, eX7_outSeconds_31, eX7_outSeconds_32, eX7_outSeconds_35, eX7_outSeconds_40, eX7_outSeconds_43, eX7_outSeconds_44, eX7_outSeconds_45, eX7_outSeconds_48, eX7_outSeconds_51, eX7_outSeconds_52, eX7_outSeconds_53, eX7_outSeconds_56, eX7_outSeconds_58, eX7_outSeconds_59, eX7_outSeconds_62, eX7_outSeconds_64, eX7_outSeconds_65, eX7_outSeconds_66, eX7_outSeconds_67, eX7_outSeconds_69, eX7_outSeconds_72, eX7_outSeconds_73, eX7_outSeconds_74, eX7_outSeconds_76, eX7_outSeconds_77, eX7_outSeconds_79, eX7_outSeconds_82, eX7_outSeconds_83, eX7_outSeconds_85, eX7_outSeconds_86, eX7_outSeconds_87, eX7_outSeconds_90, eX7_outSeconds_91, eX7_outSeconds_92, eX7_outSeconds_95, eX7_outSeconds_96, eX7_outSeconds_98, eX7_outSeconds_101, eX7_outSeconds_104, eX7_outSeconds_106, eX7_outSeconds_108, eX7_outSeconds_111, eX7_outSeconds_112, eX7_outSeconds_113, eX7_outSeconds_116, eX7_outSeconds_119, eX7_outSeconds_120, eX7_outSeconds_121, eX7_outSeconds_122, eX7_outSeconds_123, eX7_outSeconds_124, eX7_outSeconds_125, eX7_outSeconds_127, hr, hI]
      rfl
    · simp at hI
      simp [eX7_outSeconds_0, eX7_outSeconds_1, eX7_outSeconds_2, eX7_outSeconds_3, eX7_outSeconds_4, eX7_outSeconds_5, eX7_outSeconds_6, eX7_outSeconds_7, eX7_outSeconds_9, eX7_outSeconds_10, eX7_outSeconds_11, eX7_outSeconds_14, eX7_outSeconds_15, eX7_outSeconds_19, eX7_outSeconds_21, eX7_outSeconds_24, eX7_outSeconds_25, eX7_outSeconds_28, eX7_outSeconds_30, eX7_outSeconds_31, eX7_outSeconds_32, eX7_outSeconds_35, eX7_outSeconds_40, eX7_outSeconds_43, eX7_outSeconds_44, eX7_outSeconds_45, eX7_outSeconds_48, eX7_outSeconds_51, eX7_outSeconds_52, eX7_outSeconds_53, eX7_outSeconds_56, eX7_outSeconds_58, eX7_outSeconds_59, eX7_outSeconds_62, eX7_outSeconds_64, eX7_outSeconds_65, eX7_outSeconds_66, eX7_outSeconds_67, eX7_outSeconds_69, eX7_outSeconds_72, eX7_outSeconds_73, eX7_outSeconds_74, eX7_outSeconds_76, eX7_outSeconds_77, eX7_outSeconds_79, eX7_outSeconds_82, eX7_outSeconds_83, eX7_outSeconds_85, eX7_outSeconds_86, eX7_outSeconds_87, eX7_outSeconds_90, eX7_outSeconds_91, eX7_outSeconds_92, eX7_outSeconds_95, eX7_outSeconds_96, eX7_outSeconds_98, eX7_outSeconds_101, eX7_outSeconds_104, eX7_outSeconds_106, eX7_outSeconds_108, eX7_outSeconds_111, eX7_outSeconds_112, eX7_outSeconds_113, eX7_outSeconds_116, eX7_outSeconds_119, eX7_outSeconds_120, eX7_outSeconds_121, eX7_outSeconds_122, eX7_outSeconds_123, eX7_outSeconds_124, eX7_outSeconds_125, eX7_outSeconds_127, hr, hI]
      rfl
  rw [e0, g1, eo]
  by_cases hp : 1 ≤ IN.toInt
  · have eN : IN = nI IN.toInt.toNat := nI_nat (by omega)
    obtain ⟨b', g', q1, q2⟩ := os_loop (h := h) hr ok he 24 IN.toInt.toNat 0 0 (fun _ => 0) IN (.int (nI 12)) (by omega) (by omega) (by omega)
    rw [← eN] at q1
    exact ⟨b', g', q1, q2⟩
  · have hz : IN.toInt.toNat = 0 := by omega
    rw [hz]
    have lo : ev mX7_isLost 0 [.ref r, .int e] [] (oS h r e IN (nI 0) (fun _ => 0)) = some (some (.int 0), oS h r e IN (nI 0) (fun _ => 0)) := by
      rw [m_isLost hr he, oS_in he, if_neg]
      rw [t_lt]
      show ¬ (0 : Int) < _
      omega
    refine ⟨0, fun _ => 0, ?_, ?_⟩
    · rw [eX7_outSeconds_38]
      simp [eX7_outSeconds_0, eX7_outSeconds_1, eX7_outSeconds_2, eX7_outSeconds_3, eX7_outSeconds_4, eX7_outSeconds_5, eX7_outSeconds_6, eX7_outSeconds_7, eX7_outSeconds_9, eX7_outSeconds_10, eX7_outSeconds_11, eX7_outSeconds_14, eX7_outSeconds_15, eX7_outSeconds_17, eX7_outSeconds_19, eX7_outSeconds_21, eX7_outSeconds_24, eX7_outSeconds_25, eX7_outSeconds_28, eX7_outSeconds_30, eX7_outSeconds_31, eX7_outSeconds_32, eX7_outSeconds_35, eX7_outSeconds_40, eX7_outSeconds_43, eX7_outSeconds_44, eX7_outSeconds_45, eX7_outSeconds_48, eX7_outSeconds_51, eX7_outSeconds_52, eX7_outSeconds_53, eX7_outSeconds_56, eX7_outSeconds_58, eX7_outSeconds_59, eX7_outSeconds_62, eX7_outSeconds_64, eX7_outSeconds_65, eX7_outSeconds_66, eX7_outSeconds_67, eX7_outSeconds_69, eX7_outSeconds_72, eX7_outSeconds_73, eX7_outSeconds_74, eX7_outSeconds_76, eX7_outSeconds_77, eX7_outSeconds_79, eX7_outSeconds_82, eX7_outSeconds_83, eX7_outSeconds_85, eX7_outSeconds_86, eX7_outSeconds_87, eX7_outSeconds_90, eX7_outSeconds_91, eX7_outSeconds_92, eX7_outSeconds_95, eX7_outSeconds_96, eX7_outSeconds_98, eX7_outSeconds_101, eX7_outSeconds_104, eX7_outSeconds_106, eX7_outSeconds_108, eX7_outSeconds_111, eX7_outSeconds_112, eX7_outSeconds_113, eX7_outSeconds_116, eX7_outSeconds_120, eX7_outSeconds_121, eX7_outSeconds_122, eX7_outSeconds_123, eX7_outSeconds_124, eX7_outSeconds_125, eX7_outSeconds_127, lo, os_fin hr he, wkc, resI]
      rfl
    · intro q hq
      unfold wkc at hq
      rw [if_pos rfl] at hq
      cases hq
      exact ⟨rfl, rfl⟩
end MOD2

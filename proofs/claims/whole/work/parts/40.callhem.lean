section CALLHEM
variable {h h' g : Sto} {w : Nat → Nat} {n p k q : Nat} {r : Nat → Int32}
/-- a HEM came, or not: the letters are no more -/
theorem Rel.hem (R : Rel h) (h1 : hm h' 1 = mr h' 18) (h2 : Ok (mr h' 18)) (e1 : h' 12 1 = 0) (e2 : h' 17 8 = 0) (hf : ∀ a x, a ≠ 1 → a ≠ 2 → a ≠ 3 → a ≠ 18 → a ≠ 12 → ¬ (a = 17 ∧ x = 8) → ¬ Scr a x → h' a x = h a x) : Rel h' := by
  have Rq : Rel (fun a x => if a = 12 then h 12 x else if a = 17 ∧ x = 8 then h 17 8 else h' a x) := by
    refine R.nw (h' := fun a x => if a = 12 then h 12 x else if a = 17 ∧ x = 8 then h 17 8 else h' a x) ?_ ?_ ?_
    · rw [hm_o (h := h') (h' := fun a x => if a = 12 then h 12 x else if a = 17 ∧ x = 8 then h 17 8 else h' a x) (c := 1) (funext fun x => by simp) (funext fun x => by simp) (funext fun x => by simp)]
      rw [h1]
      exact (mr_cell (funext fun x => by simp)).symm
    · rw [mr_cell (h := h') (h' := fun a x => if a = 12 then h 12 x else if a = 17 ∧ x = 8 then h 17 8 else h' a x) (r := 18) (funext fun x => by simp)]
      exact h2
    · intro a x z1 z2 z3 z4 z5
      show (if a = 12 then h 12 x else if a = 17 ∧ x = 8 then h 17 8 else h' a x) = h a x
      by_cases y : a = 12
      · rw [if_pos y, y]
      · rw [if_neg y]
        by_cases y2 : a = 17 ∧ x = 8
        · rw [if_pos y2, y2.1, y2.2]
        · rw [if_neg y2]
          exact hf a x z1 z2 z3 z4 y y2 z5
  refine Rq.lt (n := 0) (by omega) (by rw [e1]; rfl) (by rw [e2]; rfl) (fun i hi => absurd hi (Nat.not_lt_zero _)) ?_ ?_ ?_
  · intro a z1 z2 z3 z4
    funext x
    show h' a x = (if a = 12 then h 12 x else if a = 17 ∧ x = 8 then h 17 8 else h' a x)
    rw [if_neg z1, if_neg (fun y => z3 y.1)]
  · show h' 17 4 = (if 17 = 12 then h 12 4 else if 17 = 17 ∧ 4 = 8 then h 17 8 else h' 17 4)
    rw [if_neg (by omega), if_neg (by omega)]
  · show h' 17 9 = (if 17 = 12 then h 12 9 else if 17 = 17 ∧ 9 = 8 then h 17 8 else h' 17 9)
    rw [if_neg (by omega), if_neg (by omega)]
theorem flN_le : ∀ (f p : Nat), p ≤ n → ∀ q, flN w n f p = some q → q ≤ n := by
  intro f
  induction f with
  | zero => intro p hp q h; cases h
  | succ f ih =>
    intro p hp q h
    have le := stN_le (w := w) hp
    rw [flN] at h
    split at h
    · split at h
      · exact ih _ le.2 q h
      · cases h
    · injection h with h
      omega
theorem s_hem : Sim [.null, .null] [.null, .null, .null, .null, .null] mX6_hem mX7_hem := by
  intro h R
  obtain ⟨n, r7, r8, r9, r10⟩ := id R.2.2.2.2.1
  obtain ⟨w, hw⟩ : ∃ w : Nat → Nat, w = fun i => (h 13 i).toInt.toNat := ⟨_, rfl⟩
  have wv : ∀ i, i < n → h 13 i = nI (w i) ∧ h 22 i = nI (w i) ∧ w i < 256 := by
    intro i hi
    obtain ⟨a, b, c⟩ := r10 i hi
    have e : h 13 i = nI (w i) := nI_nat (by rw [hw]; show (h 13 i).toInt = ((h 13 i).toInt.toNat : Int); omega)
    exact ⟨e, by rw [← a]; exact e, by rw [hw]; show (h 13 i).toInt.toNat < 256; omega⟩
  have L : LX h n w := ⟨r7, r8, fun i hi => ⟨(wv i hi).1, (wv i hi).2.2⟩⟩
  have M : LM h n w := ⟨r7, r9, fun i hi => ⟨(wv i hi).2.1, (wv i hi).2.2⟩⟩
  have fu := f_firstUnfit L
  have cl : ∀ g : Sto, ev mX2_clear 0 [.ref 12] [] g = some (none, st g 12 1 0) := fun g => by simp [eX2_clear_0, eX2_clear_1, eX2_clear_2, eX2_clear_5]
  cases hfl : flN w n (n + 1) 0 with
  | some q =>
    have ql := flN_le _ _ (Nat.zero_le _) q hfl
    rw [hfl] at fu
    have fu : ev mX2_firstUnfit 0 [.ref 12, .null, .null, .null] [] h = some (some (.int (nI q)), h) := fu
    have nq : ¬ nI q = -9 := nI_n9 (by omega)
    have ne : ¬ (-1000 : Int32) - nI q = -9 := by
      rw [t_eq, t_sub (by rw [t_nI (by omega)]; show _ ≤ (-1000 : Int) - _; omega) (by rw [t_nI (by omega)]; show (-1000 : Int) - _ < _; omega), t_nI (by omega)]
      show ¬ (-1000 : Int) - _ = -9
      omega
    have M1 : LM (st (st h 12 1 0) 17 12 0) n w := by
      obtain ⟨m1, m2, m3⟩ := M
      exact ⟨m1, by rw [st_at, if_neg (by omega), st_cell (by omega)]; exact m2, fun i hi => by rw [st_cell (by omega), st_cell (by omega)]; exact m3 i hi⟩
    obtain ⟨g1, k1, k2, k3⟩ := h1_loop (n + 1) 0 (st (st h 12 1 0) 17 12 0) 0 .null .null .null M1 (by rw [st_at, if_pos ⟨rfl, rfl⟩]; rfl) (Nat.zero_le _) (by omega)
    obtain ⟨c', kc⟩ := k3 q hfl
    obtain ⟨g2, l1, l2, l3⟩ := m_lays (r := 18) (t := 21) (h := g1) rfl rfl (by omega)
    refine ⟨-1000 - nI q, st h 12 1 0, st (st g2 17 12 0) 17 8 0, ?_, ?_, ?_⟩
    · simp [eX6_hem_0, eX6_hem_1, eX6_hem_4, eX6_hem_7, eX6_hem_8, eX6_hem_9, eX6_hem_11, eX6_hem_14, eX6_hem_15, eX6_hem_18, eX6_hem_21, eX6_hem_24, eX6_hem_25, eX6_hem_26, eX6_hem_27, eX6_hem_28, eX6_hem_31, eX6_hem_34, eX6_hem_35, fu, nq, cl]
    · simp [eX7_hem_0, eX7_hem_1, eX7_hem_2, eX7_hem_5, eX7_hem_6, eX7_hem_7, eX7_hem_9]
      rw [kc]
      simp [eX7_hem_0, eX7_hem_1, eX7_hem_2, eX7_hem_5, eX7_hem_6, eX7_hem_7, eX7_hem_9, eX7_hem_11, eX7_hem_14, eX7_hem_17, eX7_hem_20, eX7_hem_21, eX7_hem_24, eX7_hem_25, eX7_hem_26, eX7_hem_29, eX7_hem_30, eX7_hem_32, eX7_hem_35, eX7_hem_36, eX7_hem_39, eX7_hem_40, eX7_hem_43, eX7_hem_47, eX7_hem_50, eX7_hem_51, eX7_hem_54, eX7_hem_57, eX7_hem_58, eX7_hem_59, eX7_hem_63, eX7_hem_65, eX7_hem_68, eX7_hem_69, eX7_hem_72, eX7_hem_73, eX7_hem_76, eX7_hem_79, eX7_hem_80, eX7_hem_83, eX7_hem_84, eX7_hem_85, eX7_hem_88, eX7_hem_90, eX7_hem_91, eX7_hem_94, eX7_hem_96, eX7_hem_97, eX7_hem_99, eX7_hem_102, eX7_hem_105, eX7_hem_108, eX7_hem_111, eX7_hem_112, eX7_hem_113, eX7_hem_114, eX7_hem_115, eX7_hem_118, eX7_hem_119, eX7_hem_122, eX7_hem_125, eX7_hem_129, eX7_hem_130, eX7_hem_133, eX7_hem_134, eX7_hem_136, eX7_hem_139, eX7_hem_140, eX7_hem_143, eX7_hem_144, eX7_hem_46, l1]
      rw [eX7_hem_62]
      simp [eX7_hem_0, eX7_hem_1, eX7_hem_2, eX7_hem_5, eX7_hem_6, eX7_hem_7, eX7_hem_9, eX7_hem_11, eX7_hem_14, eX7_hem_17, eX7_hem_20, eX7_hem_21, eX7_hem_24, eX7_hem_25, eX7_hem_26, eX7_hem_29, eX7_hem_30, eX7_hem_32, eX7_hem_35, eX7_hem_36, eX7_hem_39, eX7_hem_40, eX7_hem_43, eX7_hem_47, eX7_hem_50, eX7_hem_51, eX7_hem_54, eX7_hem_57, eX7_hem_58, eX7_hem_59, eX7_hem_63, eX7_hem_65, eX7_hem_68, eX7_hem_69, eX7_hem_72, eX7_hem_73, eX7_hem_76, eX7_hem_79, eX7_hem_80, eX7_hem_83, eX7_hem_84, eX7_hem_85, eX7_hem_88, eX7_hem_90, eX7_hem_91, eX7_hem_94, eX7_hem_96, eX7_hem_97, eX7_hem_99, eX7_hem_102, eX7_hem_105, eX7_hem_108, eX7_hem_111, eX7_hem_112, eX7_hem_113, eX7_hem_114, eX7_hem_115, eX7_hem_118, eX7_hem_119, eX7_hem_122, eX7_hem_125, eX7_hem_129, eX7_hem_130, eX7_hem_133, eX7_hem_134, eX7_hem_136, eX7_hem_139, eX7_hem_140, eX7_hem_143, eX7_hem_144, ne]
      rw [eX7_hem_128]
      simp [eX7_hem_0, eX7_hem_1, eX7_hem_2, eX7_hem_5, eX7_hem_6, eX7_hem_7, eX7_hem_9, eX7_hem_11, eX7_hem_14, eX7_hem_17, eX7_hem_20, eX7_hem_21, eX7_hem_24, eX7_hem_25, eX7_hem_26, eX7_hem_29, eX7_hem_30, eX7_hem_32, eX7_hem_35, eX7_hem_36, eX7_hem_39, eX7_hem_40, eX7_hem_43, eX7_hem_47, eX7_hem_50, eX7_hem_51, eX7_hem_54, eX7_hem_57, eX7_hem_58, eX7_hem_59, eX7_hem_63, eX7_hem_65, eX7_hem_68, eX7_hem_69, eX7_hem_72, eX7_hem_73, eX7_hem_76, eX7_hem_79, eX7_hem_80, eX7_hem_83, eX7_hem_84, eX7_hem_85, eX7_hem_88, eX7_hem_90, eX7_hem_91, eX7_hem_94, eX7_hem_96, eX7_hem_97, eX7_hem_99, eX7_hem_102, eX7_hem_105, eX7_hem_108, eX7_hem_111, eX7_hem_112, eX7_hem_113, eX7_hem_114, eX7_hem_115, eX7_hem_118, eX7_hem_119, eX7_hem_122, eX7_hem_125, eX7_hem_129, eX7_hem_130, eX7_hem_133, eX7_hem_134, eX7_hem_136, eX7_hem_139, eX7_hem_140, eX7_hem_143, eX7_hem_144, ne]
    · have fr : ∀ a x, a ≠ 12 → ¬ (a = 17 ∧ x = 8) → ¬ Scr a x → st (st g2 17 12 0) 17 8 0 a x = h a x := by
        intro a x z1 z2 z3
        unfold Scr Scc Scm at z3
        rw [st_at, if_neg z2, st_at, if_neg (by omega), l3 a (by omega), k1 a x (by omega) (by omega), st_at, if_neg (by omega), st_cell z1]
      have c18 : mr (st (st g2 17 12 0) 17 8 0) 18 = mr h 18 := mr_same (fun j _ => fr 18 j (by omega) (by omega) (by unfold Scr Scc Scm; omega))
      have c1 : hm (st (st g2 17 12 0) 17 8 0) 1 = hm h 1 := hm_o (funext fun x => fr 1 x (by omega) (by omega) (by unfold Scr Scc Scm; omega)) (funext fun x => fr 2 x (by omega) (by omega) (by unfold Scr Scc Scm; omega)) (funext fun x => fr 3 x (by omega) (by omega) (by unfold Scr Scc Scm; omega))
      refine R.hem ?_ ?_ ?_ ?_ ?_
      · rw [c1, c18]; exact R.1
      · rw [c18]; exact R.2.1
      · rw [st_cell (by omega), st_cell (by omega), l3 12 (by omega), k1 12 1 (by omega) (by omega), st_cell (by omega), st_at, if_pos ⟨rfl, rfl⟩]
      · rw [st_at, if_pos ⟨rfl, rfl⟩]
      · intro a x z1 z2 z3 z4 z5 z6 z7
        exact fr a x z5 z6 z7
  | none =>
    rw [hfl] at fu
    have fu : ev mX2_firstUnfit 0 [.ref 12, .null, .null, .null] [] h = some (some (.int (-9)), h) := fu
    obtain ⟨x1, a1, a2, a3⟩ := f_cp R
    have Lx : LX x1 n w := L.o (a3 12 (by omega) (by omega) (by omega)) (a3 13 (by omega) (by omega) (by omega))
    have sc := sc_loop (n + 1) 0 x1 0 Lx (by rw [a2]; exact R.2.1) (Nat.zero_le _) (by omega) (fun _ => hfl)
    rw [a2, nI_0] at sc
    -- the model, from any store that differs from h in cells that it doesn't read
    have mod : ∀ g : Sto, (∀ a, a ≠ 1 → a ≠ 2 → a ≠ 3 → a ≠ 4 → a ≠ 5 → a ≠ 6 → a ≠ 12 → g a = h a) → ∃ (y1 : Sto) (b3 b4 b5 : Value), (∀ a x, a ≠ 18 → a ≠ 26 → a ≠ 21 → ¬ (a = 17 ∧ x = 12) → y1 a x = g a x) ∧ (∀ q r', f2N w n (n + 1) 0 (mr h 18) = (some q, r') → ev mX7_hem 0 [.ref 17, .null, .null, .null, .null, .null] [] g = ev mX7_hem 128 [.ref 17, .int (nI (cnN w n (n + 1) 0)), .int (-2000 - nI q), b3, b4, b5] [] y1 ∧ q ≤ n ∧ mr y1 18 = mr h 18) ∧ (∀ r', f2N w n (n + 1) 0 (mr h 18) = (none, r') → ev mX7_hem 0 [.ref 17, .null, .null, .null, .null, .null] [] g = ev mX7_hem 128 [.ref 17, .int (nI (cnN w n (n + 1) 0)), .int (-9), b3, b4, b5] [] y1 ∧ mr y1 18 = r') := by
      intro g hg
      have M1 : LM (st g 17 12 0) n w := by
        obtain ⟨m1, m2, m3⟩ := M
        exact ⟨m1, by rw [st_at, if_neg (by omega), hg 17 (by omega) (by omega) (by omega) (by omega) (by omega) (by omega) (by omega)]; exact m2, fun i hi => by rw [st_cell (by omega), hg 22 (by omega) (by omega) (by omega) (by omega) (by omega) (by omega) (by omega)]; exact m3 i hi⟩
      obtain ⟨g1, k1, k2, k3⟩ := h1_loop (n + 1) 0 (st g 17 12 0) 0 .null .null .null M1 (by rw [st_at, if_pos ⟨rfl, rfl⟩]; rfl) (Nat.zero_le _) (by omega)
      have k2 := k2 hfl
      rw [Int32.zero_add] at k2
      have g18 : mr g1 18 = mr h 18 := by
        rw [mr_same (h := st g 17 12 0) (fun j _ => k1 18 j (by omega) (by omega)), mr_oth (by omega), mr_cell (hg 18 (by omega) (by omega) (by omega) (by omega) (by omega) (by omega) (by omega))]
      obtain ⟨g2, l1, l2, l3⟩ := m_lays (r := 18) (t := 21) (h := g1) rfl rfl (by omega)
      rw [g18] at l2
      have m2 : mr (st g2 17 12 0) 18 = mr h 18 := by rw [mr_oth (by omega), mr_cell (l3 18 (by omega)), g18]
      have m21 : mr (st g2 17 12 0) 21 = mr h 18 := by rw [mr_oth (by omega), l2]
      have M2 : LM (st g2 17 12 0) n w := by
        obtain ⟨q1, q2, q3⟩ := M1.fr k1
        exact ⟨q1, by rw [st_at, if_neg (by omega), l3 17 (by omega)]; exact q2, fun i hi => by rw [st_cell (by omega), l3 22 (by omega)]; exact q3 i hi⟩
      obtain ⟨y1, b3, b4, b5, v1, v2, v3⟩ := h2_loop L (c := nI (cnN w n (n + 1) 0)) (n + 1) 0 (st g2 17 12 0) .null .null .null M2 (by rw [m2]; exact R.2.1) (by rw [st_at, if_pos ⟨rfl, rfl⟩]; rfl) (Nat.zero_le _) (by omega) (fun _ => hfl)
      rw [m2] at v2 v3
      have go : ev mX7_hem 0 [.ref 17, .null, .null, .null, .null, .null] [] g = ev mX7_hem 62 [.ref 17, .int (nI (cnN w n (n + 1) 0)), .int (-9), .null, .null, .null] [] (st g2 17 12 0) := by
        simp [eX7_hem_0, eX7_hem_1, eX7_hem_2, eX7_hem_5, eX7_hem_6, eX7_hem_7, eX7_hem_9]
        rw [k2]
        simp [eX7_hem_0, eX7_hem_1, eX7_hem_2, eX7_hem_5, eX7_hem_6, eX7_hem_7, eX7_hem_9, eX7_hem_11, eX7_hem_14, eX7_hem_17, eX7_hem_20, eX7_hem_21, eX7_hem_24, eX7_hem_25, eX7_hem_26, eX7_hem_29, eX7_hem_30, eX7_hem_32, eX7_hem_35, eX7_hem_36, eX7_hem_39, eX7_hem_40, eX7_hem_43, eX7_hem_47, eX7_hem_50, eX7_hem_51, eX7_hem_54, eX7_hem_57, eX7_hem_58, eX7_hem_59, eX7_hem_63, eX7_hem_65, eX7_hem_68, eX7_hem_69, eX7_hem_72, eX7_hem_73, eX7_hem_76, eX7_hem_79, eX7_hem_80, eX7_hem_83, eX7_hem_84, eX7_hem_85, eX7_hem_88, eX7_hem_90, eX7_hem_91, eX7_hem_94, eX7_hem_96, eX7_hem_97, eX7_hem_99, eX7_hem_102, eX7_hem_105, eX7_hem_108, eX7_hem_111, eX7_hem_112, eX7_hem_113, eX7_hem_114, eX7_hem_115, eX7_hem_118, eX7_hem_119, eX7_hem_122, eX7_hem_125, eX7_hem_129, eX7_hem_130, eX7_hem_133, eX7_hem_134, eX7_hem_136, eX7_hem_139, eX7_hem_140, eX7_hem_143, eX7_hem_144, eX7_hem_46, l1]
      refine ⟨y1, b3, b4, b5, ?_, ?_, ?_⟩
      · intro a x z1 z2 z3 z4
        rw [v1 a x z1 z2 z4, st_at, if_neg z4, l3 a z3, k1 a x z2 z4, st_at, if_neg z4]
      · intro q r' e
        obtain ⟨u1, u2, u3⟩ := v2 q r' e
        exact ⟨by rw [go]; exact u1, u2, by rw [u3, m21]⟩
      · intro r' e
        obtain ⟨u1, u2⟩ := v3 r' e
        exact ⟨by rw [go]; exact u1, u2⟩
    cases hf2 : f2N w n (n + 1) 0 (mr h 18) with
    | mk o rr =>
      cases o with
      | some q =>
        obtain ⟨x2, s1, s2⟩ := sc.1 q rr hf2
        have fx : ∀ a, a ≠ 4 → a ≠ 5 → a ≠ 6 → a ≠ 12 → st x2 12 1 0 a = h a := fun a z1 z2 z3 z4 => by rw [st_cell z4, s2 a z1 z2 z3, a3 a z1 z2 z3]
        obtain ⟨y1, b3, b4, b5, u1, u2, u3⟩ := mod (st x2 12 1 0) (fun a z1 z2 z3 z4 z5 z6 z7 => fx a z4 z5 z6 z7)
        obtain ⟨u2, uq, u4⟩ := u2 q rr hf2
        have ne : ¬ (-2000 : Int32) - nI q = -9 := by
          rw [t_eq, t_sub (by rw [t_nI (by omega)]; show _ ≤ (-2000 : Int) - _; omega) (by rw [t_nI (by omega)]; show (-2000 : Int) - _ < _; omega), t_nI (by omega)]
          show ¬ (-2000 : Int) - _ = -9
          omega
        refine ⟨-2000 - nI q, st x2 12 1 0, st y1 17 8 0, ?_, ?_, ?_⟩
        · have sc0 : ev mX6_statementsCome 0 [.ref 0, .null, .null] [] h = some (some (.int (-2000 - nI q)), x2) := by
            rw [← s1]
            simp [eX6_statementsCome_0, eX6_statementsCome_1, eX6_statementsCome_4, eX6_statementsCome_5, eX6_statementsCome_8, eX6_statementsCome_11, eX6_statementsCome_12, eX6_statementsCome_13, eX6_statementsCome_14, eX6_statementsCome_16, eX6_statementsCome_17, eX6_statementsCome_20, eX6_statementsCome_23, eX6_statementsCome_26, eX6_statementsCome_27, eX6_statementsCome_28, eX6_statementsCome_31, eX6_statementsCome_34, eX6_statementsCome_37, eX6_statementsCome_38, eX6_statementsCome_39, eX6_statementsCome_40, eX6_statementsCome_41, eX6_statementsCome_42, eX6_statementsCome_45, eX6_statementsCome_48, eX6_statementsCome_49, eX6_statementsCome_50, eX6_statementsCome_51, eX6_statementsCome_54, eX6_statementsCome_55, eX6_statementsCome_58, eX6_statementsCome_59, eX6_statementsCome_60, eX6_statementsCome_61, eX6_statementsCome_65, eX6_statementsCome_68, eX6_statementsCome_69, eX6_statementsCome_72, eX6_statementsCome_75, eX6_statementsCome_76, a1, show lyC 1 = 0 from rfl, show rcv 1 = 0 from rfl, show rcv 4 = 0 from rfl, show lyC 4 = 0 from rfl]
          simp [eX6_hem_0, eX6_hem_1, eX6_hem_4, eX6_hem_7, eX6_hem_8, eX6_hem_9, eX6_hem_11, eX6_hem_14, eX6_hem_15, eX6_hem_18, eX6_hem_21, eX6_hem_24, eX6_hem_25, eX6_hem_26, eX6_hem_27, eX6_hem_28, eX6_hem_31, eX6_hem_34, eX6_hem_35, fu, sc0, cl]
        · refine Eq.trans u2 ?_
          rw [eX7_hem_128]
          simp [eX7_hem_0, eX7_hem_1, eX7_hem_2, eX7_hem_5, eX7_hem_6, eX7_hem_7, eX7_hem_9, eX7_hem_11, eX7_hem_14, eX7_hem_17, eX7_hem_20, eX7_hem_21, eX7_hem_24, eX7_hem_25, eX7_hem_26, eX7_hem_29, eX7_hem_30, eX7_hem_32, eX7_hem_35, eX7_hem_36, eX7_hem_39, eX7_hem_40, eX7_hem_43, eX7_hem_47, eX7_hem_50, eX7_hem_51, eX7_hem_54, eX7_hem_57, eX7_hem_58, eX7_hem_59, eX7_hem_63, eX7_hem_65, eX7_hem_68, eX7_hem_69, eX7_hem_72, eX7_hem_73, eX7_hem_76, eX7_hem_79, eX7_hem_80, eX7_hem_83, eX7_hem_84, eX7_hem_85, eX7_hem_88, eX7_hem_90, eX7_hem_91, eX7_hem_94, eX7_hem_96, eX7_hem_97, eX7_hem_99, eX7_hem_102, eX7_hem_105, eX7_hem_108, eX7_hem_111, eX7_hem_112, eX7_hem_113, eX7_hem_114, eX7_hem_115, eX7_hem_118, eX7_hem_119, eX7_hem_122, eX7_hem_125, eX7_hem_129, eX7_hem_130, eX7_hem_133, eX7_hem_134, eX7_hem_136, eX7_hem_139, eX7_hem_140, eX7_hem_143, eX7_hem_144, ne]
        · have fr : ∀ a x, a ≠ 12 → a ≠ 18 → ¬ (a = 17 ∧ x = 8) → ¬ Scr a x → st y1 17 8 0 a x = h a x := by
            intro a x z1 z2 z3 z4
            unfold Scr Scc Scm at z4
            rw [st_at, if_neg z3, u1 a x z2 (by omega) (by omega) (by omega), fx a (by omega) (by omega) (by omega) z1]
          have c18 : mr (st y1 17 8 0) 18 = mr h 18 := by rw [mr_oth (by omega)]; exact u4
          have c1 : hm (st y1 17 8 0) 1 = hm h 1 := hm_o (funext fun x => fr 1 x (by omega) (by omega) (by omega) (by unfold Scr Scc Scm; omega)) (funext fun x => fr 2 x (by omega) (by omega) (by omega) (by unfold Scr Scc Scm; omega)) (funext fun x => fr 3 x (by omega) (by omega) (by omega) (by unfold Scr Scc Scm; omega))
          refine R.hem ?_ ?_ ?_ ?_ ?_
          · rw [c1, c18]; exact R.1
          · rw [c18]; exact R.2.1
          · rw [st_cell (by omega), u1 12 1 (by omega) (by omega) (by omega) (by omega), st_at, if_pos ⟨rfl, rfl⟩]
          · rw [st_at, if_pos ⟨rfl, rfl⟩]
          · intro a x z1 z2 z3 z4 z5 z6 z7
            exact fr a x z5 z4 z6 z7
      | none =>
        obtain ⟨x2, xx, s1, s2, s3, s4⟩ := sc.2 rr hf2
        rw [Int32.zero_add] at s1
        obtain ⟨x3, t1, t2, t3⟩ := f_copyFrom (h := x2) HC1 HC4 (by unfold Apt; omega) (by rw [s2]; exact s3)
        rw [s2] at t2
        have fx : ∀ a, a ≠ 1 → a ≠ 2 → a ≠ 3 → a ≠ 4 → a ≠ 5 → a ≠ 6 → a ≠ 12 → st x3 12 1 0 a = h a := fun a z1 z2 z3 z4 z5 z6 z7 => by rw [st_cell z7, t3 a z1 z2 z3, s4 a z4 z5 z6, a3 a z4 z5 z6]
        obtain ⟨y1, b3, b4, b5, u1, u2, u3⟩ := mod (st x3 12 1 0) (fun a z1 z2 z3 z4 z5 z6 z7 => fx a z1 z2 z3 z4 z5 z6 z7)
        obtain ⟨u3, u4⟩ := u3 rr hf2
        refine ⟨nI (cnN w n (n + 1) 0), st x3 12 1 0, st y1 17 8 0, ?_, ?_, ?_⟩
        · have sc0 : ev mX6_statementsCome 0 [.ref 0, .null, .null] [] h = some (some (.int (nI (cnN w n (n + 1) 0))), x3) := by
            have e1 : ev mX6_statementsCome 0 [.ref 0, .null, .null] [] h = ev mX6_statementsCome 15 [.ref 0, .int 0, .int 0] [] x1 := by
              simp [eX6_statementsCome_0, eX6_statementsCome_1, eX6_statementsCome_4, eX6_statementsCome_5, eX6_statementsCome_8, eX6_statementsCome_11, eX6_statementsCome_12, eX6_statementsCome_13, eX6_statementsCome_14, eX6_statementsCome_16, eX6_statementsCome_17, eX6_statementsCome_20, eX6_statementsCome_23, eX6_statementsCome_26, eX6_statementsCome_27, eX6_statementsCome_28, eX6_statementsCome_31, eX6_statementsCome_34, eX6_statementsCome_37, eX6_statementsCome_38, eX6_statementsCome_39, eX6_statementsCome_40, eX6_statementsCome_41, eX6_statementsCome_42, eX6_statementsCome_45, eX6_statementsCome_48, eX6_statementsCome_49, eX6_statementsCome_50, eX6_statementsCome_51, eX6_statementsCome_54, eX6_statementsCome_55, eX6_statementsCome_58, eX6_statementsCome_59, eX6_statementsCome_60, eX6_statementsCome_61, eX6_statementsCome_65, eX6_statementsCome_68, eX6_statementsCome_69, eX6_statementsCome_72, eX6_statementsCome_75, eX6_statementsCome_76, a1, show lyC 1 = 0 from rfl, show rcv 1 = 0 from rfl, show rcv 4 = 0 from rfl, show lyC 4 = 0 from rfl]
            rw [e1, s1, eX6_statementsCome_64]
            simp [eX6_statementsCome_0, eX6_statementsCome_1, eX6_statementsCome_4, eX6_statementsCome_5, eX6_statementsCome_8, eX6_statementsCome_11, eX6_statementsCome_12, eX6_statementsCome_13, eX6_statementsCome_14, eX6_statementsCome_16, eX6_statementsCome_17, eX6_statementsCome_20, eX6_statementsCome_23, eX6_statementsCome_26, eX6_statementsCome_27, eX6_statementsCome_28, eX6_statementsCome_31, eX6_statementsCome_34, eX6_statementsCome_37, eX6_statementsCome_38, eX6_statementsCome_39, eX6_statementsCome_40, eX6_statementsCome_41, eX6_statementsCome_42, eX6_statementsCome_45, eX6_statementsCome_48, eX6_statementsCome_49, eX6_statementsCome_50, eX6_statementsCome_51, eX6_statementsCome_54, eX6_statementsCome_55, eX6_statementsCome_58, eX6_statementsCome_59, eX6_statementsCome_60, eX6_statementsCome_61, eX6_statementsCome_65, eX6_statementsCome_68, eX6_statementsCome_69, eX6_statementsCome_72, eX6_statementsCome_75, eX6_statementsCome_76, t1, show lyC 1 = 0 from rfl, show rcv 1 = 0 from rfl, show rcv 4 = 0 from rfl, show lyC 4 = 0 from rfl]
          simp [eX6_hem_0, eX6_hem_1, eX6_hem_4, eX6_hem_7, eX6_hem_8, eX6_hem_9, eX6_hem_11, eX6_hem_14, eX6_hem_15, eX6_hem_18, eX6_hem_21, eX6_hem_24, eX6_hem_25, eX6_hem_26, eX6_hem_27, eX6_hem_28, eX6_hem_31, eX6_hem_34, eX6_hem_35, fu, sc0, cl]
        · refine Eq.trans u3 ?_
          rw [eX7_hem_128]
          simp [eX7_hem_0, eX7_hem_1, eX7_hem_2, eX7_hem_5, eX7_hem_6, eX7_hem_7, eX7_hem_9, eX7_hem_11, eX7_hem_14, eX7_hem_17, eX7_hem_20, eX7_hem_21, eX7_hem_24, eX7_hem_25, eX7_hem_26, eX7_hem_29, eX7_hem_30, eX7_hem_32, eX7_hem_35, eX7_hem_36, eX7_hem_39, eX7_hem_40, eX7_hem_43, eX7_hem_47, eX7_hem_50, eX7_hem_51, eX7_hem_54, eX7_hem_57, eX7_hem_58, eX7_hem_59, eX7_hem_63, eX7_hem_65, eX7_hem_68, eX7_hem_69, eX7_hem_72, eX7_hem_73, eX7_hem_76, eX7_hem_79, eX7_hem_80, eX7_hem_83, eX7_hem_84, eX7_hem_85, eX7_hem_88, eX7_hem_90, eX7_hem_91, eX7_hem_94, eX7_hem_96, eX7_hem_97, eX7_hem_99, eX7_hem_102, eX7_hem_105, eX7_hem_108, eX7_hem_111, eX7_hem_112, eX7_hem_113, eX7_hem_114, eX7_hem_115, eX7_hem_118, eX7_hem_119, eX7_hem_122, eX7_hem_125, eX7_hem_129, eX7_hem_130, eX7_hem_133, eX7_hem_134, eX7_hem_136, eX7_hem_139, eX7_hem_140, eX7_hem_143, eX7_hem_144]
        · have fr : ∀ a x, a ≠ 1 → a ≠ 2 → a ≠ 3 → a ≠ 12 → a ≠ 18 → ¬ (a = 17 ∧ x = 8) → ¬ Scr a x → st y1 17 8 0 a x = h a x := by
            intro a x y1 y2 y3 z1 z2 z3 z4
            unfold Scr Scc Scm at z4
            rw [st_at, if_neg z3, u1 a x z2 (by omega) (by omega) (by omega), fx a y1 y2 y3 (by omega) (by omega) (by omega) z1]
          have c18 : mr (st y1 17 8 0) 18 = rr := by rw [mr_oth (by omega)]; exact u4
          have f123 : ∀ a, a = 1 ∨ a = 2 ∨ a = 3 → st y1 17 8 0 a = x3 a := by
            intro a ha
            funext x
            rw [st_cell (by omega), u1 a x (by omega) (by omega) (by omega) (by omega), st_cell (by omega)]
          have c1 : hm (st y1 17 8 0) 1 = rr := by rw [hm_o (f123 1 (by omega)) (f123 2 (by omega)) (f123 3 (by omega)), t2]
          refine R.hem ?_ ?_ ?_ ?_ ?_
          · rw [c1, c18]
          · rw [c18]; exact s3
          · rw [st_cell (by omega), u1 12 1 (by omega) (by omega) (by omega) (by omega), st_at, if_pos ⟨rfl, rfl⟩]
          · rw [st_at, if_pos ⟨rfl, rfl⟩]
          · intro a x z1 z2 z3 z4 z5 z6 z7
            exact fr a x z1 z2 z3 z5 z4 z6 z7
end CALLHEM

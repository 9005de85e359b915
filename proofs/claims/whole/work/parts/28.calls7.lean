section CALLS7
variable {h h' : Sto} {e n : Int32}
theorem Rel.f10 (R : Rel h) (hf : ∀ a, a ≠ 10 → h' a = h a) : Rel h' := R.fr (fun a x z => by rw [hf a (by unfold Scr Scc Scm at z; omega)])
theorem Rel.fm (R : Rel h) (hf : ∀ a x, a ≠ 25 → ¬ (a = 17 ∧ x = 11) → h' a x = h a x) : Rel h' := R.fr (fun a x z => hf a x (by unfold Scr Scc Scm at z; omega) (by unfold Scr Scc Scm at z; omega))
theorem Rel.mo (R : Rel h) (hc : h' 18 = h 18) (he : e = 0 ∨ e = 1) : ∃ h'' : Sto, ev mX7_outSeconds 0 [.ref 17, .ref 18, .int e, .null, .null, .null] [] h' = some (some (.int (sec (mr h 18) e (INr (mr h 18) e))), h'') ∧ (∀ q, wk (mr h 18) e (INr (mr h 18) e) = some q → h'' 17 11 = nI q.1 ∧ ∀ i, i < 12 → h'' 25 i = nI (q.2.2 i)) ∧ ∀ a x, a ≠ 25 → ¬ (a = 17 ∧ x = 11) → h'' a x = h' a x := by
  have m : mr h' 18 = mr h 18 := mr_cell hc
  have k := m_outS (r := 18) (h := h') rfl (by rw [m]; exact R.2.1) he
  rw [m] at k
  exact k
theorem Rel.co (R : Rel h) : ∃ h' : Sto, ev mX5_measure 0 [.ref 10, .ref 1, .int e, .int (INr (mr h 18) e), .null, .null, .null, .null, .null, .null, .null] [] h = some (none, h') ∧ h' 10 0 = resB (wk (mr h 18) e (INr (mr h 18) e)) ∧ h' 10 1 = sec (mr h 18) e (INr (mr h 18) e) ∧ (∀ q, wk (mr h 18) e (INr (mr h 18) e) = some q → Dear (lenN (mr h 18)) e q.2.2 (h' 10 2)) ∧ (wk (mr h 18) e (INr (mr h 18) e) = none → h' 10 2 = -9) ∧ ∀ a, a ≠ 10 → h' a = h a := by
  have k := c_meas (h := h) (e := e) (d := INr (mr h 18) e) HC1 R.ok1 R.inn.2
  rw [R.1] at k
  exact k
theorem Dear.uniq {len : Nat} {g : Nat → Nat} {z z' : Int32} (a : Dear len e g z) (b : Dear len e g z') : z = z' := by
  rcases a with ⟨a1, a2⟩ | ⟨D, a1, a2, a3, a4, a5⟩
  · rcases b with ⟨b1, b2⟩ | ⟨D', b1, b2, b3, b4, b5⟩
    · rw [a2, b2]
    · have := a1 D' b1; omega
  · rcases b with ⟨b1, b2⟩ | ⟨D', b1, b2, b3, b4, b5⟩
    · have := b1 D a1; omega
    · have h1 := a4 D' b1
      have h2 := b4 D a1
      have h3 : ¬ ownI len e D < ownI len e D' := fun z => by have := b5 D a1 z; omega
      have h4 : ¬ ownI len e D' < ownI len e D := fun z => by have := a5 D' b1 z; omega
      have h5 : D = D' := own_inj (e := e) a1 b1 (by omega)
      rw [a2, b2, h5]
def Pk (len : Nat) (e : Int32) (g : Nat → Nat) (k : Nat) (F : Int32) : Prop := ((∀ i, i < len → ownI len e i < k → g i = 0) ∧ F = -9) ∨ ∃ D, D < len ∧ ownI len e D < k ∧ F = nI D ∧ 0 < g D ∧ (∀ i, i < len → ownI len e i < k → g i ≤ g D) ∧ ∀ i, i < len → ownI len e i < ownI len e D → g i < g D
theorem own_lt {len i : Nat} (hi : i < len) : ownI len e i < len := by
  unfold ownI
  split <;> omega
theorem own_own {len i : Nat} (hi : i < len) : ownI len e (ownI len e i) = i := by
  unfold ownI
  split <;> omega
theorem Pk.dear {len : Nat} {g : Nat → Nat} {F : Int32} (P : Pk len e g len F) : Dear len e g F := by
  rcases P with ⟨p1, p2⟩ | ⟨D, d1, d2, d3, d4, d5, d6⟩
  · exact Or.inl ⟨fun i hi => p1 i hi (own_lt hi), p2⟩
  · exact Or.inr ⟨D, d1, d3, d4, fun i hi => d5 i hi (own_lt hi), d6⟩
theorem cs_loop {len : Nat} {g : Nat → Nat} (hl : h 18 0 = nI len) (hl2 : 2 ≤ len ∧ len ≤ 12) (he : e = 0 ∨ e = 1) (hg : ∀ i, i < 12 → h 25 i = nI (g i)) (hb : ∀ i, i < 12 → g i < 1000000) : ∀ (m k : Nat) (F : Int32) (a5 : Value), k + m = len → Pk len e g k F → ∃ Z, ev mX7_costliest 5 [.ref 17, .int e, .int F, .int (nI k), a5] [] h = some (some (.int Z), h) ∧ Pk len e g len Z := by
  intro m
  induction m with
  | zero =>
    intro k F a5 hk P
    have e1 : nI len ≤ nI k := by rw [show k = len by omega]; exact Int32.le_refl _
    refine ⟨F, by simp [eX7_costliest_0, eX7_costliest_2, eX7_costliest_3, eX7_costliest_4, eX7_costliest_5, eX7_costliest_6, eX7_costliest_7, eX7_costliest_10, eX7_costliest_11, eX7_costliest_12, eX7_costliest_15, eX7_costliest_16, eX7_costliest_19, eX7_costliest_20, eX7_costliest_23, eX7_costliest_24, eX7_costliest_27, eX7_costliest_28, eX7_costliest_29, eX7_costliest_30, eX7_costliest_31, eX7_costliest_32, eX7_costliest_33, eX7_costliest_35, eX7_costliest_36, eX7_costliest_39, eX7_costliest_41, eX7_costliest_42, eX7_costliest_45, eX7_costliest_46, eX7_costliest_49, eX7_costliest_50, eX7_costliest_53, eX7_costliest_55, eX7_costliest_56, eX7_costliest_57, eX7_costliest_60, eX7_costliest_61, eX7_costliest_62, eX7_costliest_65, eX7_costliest_67, eX7_costliest_68, eX7_costliest_71, eX7_costliest_74, eX7_costliest_75, hl, e1, show lyA 18 = some 32 from rfl], ?_⟩
    rw [show k = len by omega] at P
    exact P
  | succ m ih =>
    intro k F a5 hk P
    have e1 : ¬ nI len ≤ nI k := nI_ge (by omega) (by omega)
    obtain ⟨i, hi⟩ : ∃ i, ownI len e k = i := ⟨_, rfl⟩
    have i1 : i < len := by rw [← hi]; exact own_lt (by omega)
    have io : ownI len e i = k := by rw [← hi]; exact own_own (by omega)
    obtain ⟨k1, k2, k3, k4⟩ := n12 (show i < 12 by omega)
    have gi := hg i (by omega)
    have gb := hb i (by omega)
    have pre : ev mX7_costliest 5 [.ref 17, .int e, .int F, .int (nI k), a5] [] h = ev mX7_costliest 42 [.ref 17, .int e, .int F, .int (nI k), .int (nI i)] [.int (nI (g i))] h := by
      rw [eX7_costliest_5]
      rcases he with rfl | rfl
      · have hik : k = i := by
          unfold ownI at hi
          rw [if_pos rfl] at hi
          exact hi
        subst hik
        simp [eX7_costliest_0, eX7_costliest_2, eX7_costliest_3, eX7_costliest_4, eX7_costliest_6, eX7_costliest_7, eX7_costliest_10, eX7_costliest_11, eX7_costliest_12, eX7_costliest_15, eX7_costliest_16, eX7_costliest_19, eX7_costliest_20, eX7_costliest_23, eX7_costliest_24, eX7_costliest_27, eX7_costliest_28, eX7_costliest_29, eX7_costliest_30, eX7_costliest_31, eX7_costliest_32, eX7_costliest_33, eX7_costliest_35, eX7_costliest_36, eX7_costliest_39, eX7_costliest_41, eX7_costliest_45, eX7_costliest_46, eX7_costliest_49, eX7_costliest_50, eX7_costliest_53, eX7_costliest_55, eX7_costliest_56, eX7_costliest_57, eX7_costliest_60, eX7_costliest_61, eX7_costliest_62, eX7_costliest_65, eX7_costliest_67, eX7_costliest_68, eX7_costliest_71, eX7_costliest_74, eX7_costliest_75, hl, e1, k1, k3, k4, gi, show lyA 18 = some 32 from rfl, show lyA 25 = some 12 from rfl]
      · have hik : len - 1 - k = i := by
          unfold ownI at hi
          rw [if_neg (by decide)] at hi
          exact hi
        have ek : nI len - 1 - nI k = nI i := by
          rw [show (1 : Int32) = nI 1 from rfl, pk_sub (by omega), pk_sub (by omega), hik]
        simp [eX7_costliest_0, eX7_costliest_2, eX7_costliest_3, eX7_costliest_4, eX7_costliest_6, eX7_costliest_7, eX7_costliest_10, eX7_costliest_11, eX7_costliest_12, eX7_costliest_15, eX7_costliest_16, eX7_costliest_19, eX7_costliest_20, eX7_costliest_23, eX7_costliest_24, eX7_costliest_27, eX7_costliest_28, eX7_costliest_29, eX7_costliest_30, eX7_costliest_31, eX7_costliest_32, eX7_costliest_33, eX7_costliest_35, eX7_costliest_36, eX7_costliest_39, eX7_costliest_41, eX7_costliest_45, eX7_costliest_46, eX7_costliest_49, eX7_costliest_50, eX7_costliest_53, eX7_costliest_55, eX7_costliest_56, eX7_costliest_57, eX7_costliest_60, eX7_costliest_61, eX7_costliest_62, eX7_costliest_65, eX7_costliest_67, eX7_costliest_68, eX7_costliest_71, eX7_costliest_74, eX7_costliest_75, hl, e1, ek, k1, k3, k4, gi, show lyA 18 = some 32 from rfl, show lyA 25 = some 12 from rfl]
    have post : ∀ F' : Int32, ev mX7_costliest 68 [.ref 17, .int e, .int F', .int (nI k), .int (nI i)] [] h = ev mX7_costliest 5 [.ref 17, .int e, .int F', .int (nI (k + 1)), .int (nI i)] [] h := by
      intro F'
      simp [eX7_costliest_68, eX7_costliest_71, nI_1]
    have sp : ∀ x, x < len → ownI len e x < k + 1 → ownI len e x < k ∨ x = i := fun x hx hx2 => by
      rcases Nat.lt_or_ge (ownI len e x) k with y | y
      · exact Or.inl y
      · exact Or.inr (own_inj (e := e) hx i1 (by omega))
    by_cases hz : g i = 0
    · have z0 : nI (g i) ≤ 0 := by rw [hz]; decide
      rw [pre, eX7_costliest_42, if_pos z0, post]
      refine ih (k + 1) F _ (by omega) ?_
      rcases P with ⟨p1, p2⟩ | ⟨D, d1, d2, d3, d4, d5, d6⟩
      · exact Or.inl ⟨fun x hx hx2 => (sp x hx hx2).elim (p1 x hx) (fun y => by rw [y]; exact hz), p2⟩
      · exact Or.inr ⟨D, d1, by omega, d3, d4, fun x hx hx2 => (sp x hx hx2).elim (d5 x hx) (fun y => by rw [y, hz]; omega), d6⟩
    · have z0 : ¬ nI (g i) ≤ 0 := nI_nle (by omega) (by omega)
      rw [pre, eX7_costliest_42, if_neg z0]
      rcases P with ⟨p1, p2⟩ | ⟨D, d1, d2, d3, d4, d5, d6⟩
      · subst p2
        have n9 : (-9 : Int32) < 0 := by decide
        have go : ev mX7_costliest 45 [.ref 17, .int e, .int (-9), .int (nI k), .int (nI i)] [] h = ev mX7_costliest 68 [.ref 17, .int e, .int (nI i), .int (nI k), .int (nI i)] [] h := by
          simp [eX7_costliest_45, eX7_costliest_46, eX7_costliest_65, eX7_costliest_67, n9]
        rw [go, post]
        exact ih (k + 1) (nI i) _ (by omega) (Or.inr ⟨i, i1, by omega, rfl, by omega, fun x hx hx2 => (sp x hx hx2).elim (fun y => by rw [p1 x hx y]; omega) (fun y => by rw [y]; exact Nat.le_refl _), fun x hx hx2 => by rw [io] at hx2; rw [p1 x hx hx2]; omega⟩)
      · subst d3
        obtain ⟨q1, q2, q3, q4⟩ := n12 (show D < 12 by omega)
        have gD := hg D (by omega)
        have gDb := hb D (by omega)
        by_cases hle : g i ≤ g D
        · have hle' : nI (g i) ≤ nI (g D) := nI_le hle (by omega)
          have go : ev mX7_costliest 45 [.ref 17, .int e, .int (nI D), .int (nI k), .int (nI i)] [] h = ev mX7_costliest 68 [.ref 17, .int e, .int (nI D), .int (nI k), .int (nI i)] [] h := by
            simp [eX7_costliest_45, eX7_costliest_46, eX7_costliest_49, eX7_costliest_50, eX7_costliest_53, eX7_costliest_55, eX7_costliest_56, eX7_costliest_57, eX7_costliest_60, eX7_costliest_61, eX7_costliest_62, q1, q3, q4, k1, k3, k4, gi, gD, hle', show lyA 25 = some 12 from rfl]
          rw [go, post]
          exact ih (k + 1) (nI D) _ (by omega) (Or.inr ⟨D, d1, by omega, rfl, d4, fun x hx hx2 => (sp x hx hx2).elim (d5 x hx) (fun y => by rw [y]; exact hle), d6⟩)
        · have hle' : ¬ nI (g i) ≤ nI (g D) := nI_ge (by omega) (by omega)
          have go : ev mX7_costliest 45 [.ref 17, .int e, .int (nI D), .int (nI k), .int (nI i)] [] h = ev mX7_costliest 68 [.ref 17, .int e, .int (nI i), .int (nI k), .int (nI i)] [] h := by
            simp [eX7_costliest_45, eX7_costliest_46, eX7_costliest_49, eX7_costliest_50, eX7_costliest_53, eX7_costliest_55, eX7_costliest_56, eX7_costliest_57, eX7_costliest_60, eX7_costliest_61, eX7_costliest_62, eX7_costliest_65, eX7_costliest_67, q1, q3, q4, k1, k3, k4, gi, gD, hle', show lyA 25 = some 12 from rfl]
          rw [go, post]
          exact ih (k + 1) (nI i) _ (by omega) (Or.inr ⟨i, i1, by omega, rfl, by omega, fun x hx hx2 => (sp x hx hx2).elim (fun y => by have := d5 x hx y; omega) (fun y => by rw [y]; exact Nat.le_refl _), fun x hx hx2 => by rw [io] at hx2; have := d5 x hx hx2; omega⟩)
theorem wkc_g {r : Nat → Int32} (ok : Ok r) : ∀ (f d b s : Nat) (g : Nat → Nat) (q : Nat × Nat × (Nat → Nat)), d ≤ 24 → wkc r e f d b s g = some q → ∀ x, q.2.2 x ≤ g x + 12 * f := by
  intro f
  induction f with
  | zero => intro d b s g q hd h x; cases h; simp
  | succ f ih =>
    intro d b s g q hd h x
    rw [wkc] at h
    split at h
    · cases h; simp
    · split at h
      · cases h
      · have i := ixd_in (e := e) ok hd
        have t := bsN_eq ok i.2.1
        have k := ih _ _ _ _ q (by omega) h x
        unfold bump at k
        split at k <;> omega
theorem rf_both2 {LX LM : List Value} {mx mm : MD} {h1 : Sto} {w : Int32} {k : Nat} (R : Rel h1) (hk : k < 7) (a : ev mx 0 (.ref 0 :: LX) [] h = some (some (.int w), st h1 16 k (h1 16 k + 1))) (b : ev mm 0 (.ref 17 :: LM) [] (st h1 16 k (h1 16 k + 1)) = some (some (.int w), st (st h1 16 k (h1 16 k + 1)) 24 k (st h1 16 k (h1 16 k + 1) 24 k + 1))) : ∃ (v : Int32) (h1 h2 : Sto), ev mx 0 (.ref 0 :: LX) [] h = some (some (.int v), h1) ∧ ev mm 0 (.ref 17 :: LM) [] h1 = some (some (.int v), h2) ∧ Rel h2 := by
  refine ⟨w, _, _, a, b, ?_⟩
  rw [show st h1 16 k (h1 16 k + 1) 24 k = h1 24 k by rw [st_at, if_neg (by omega)]]
  exact R.rf hk
theorem s_out {e q : Int32} : Sim [.int e, .int q] [.int e, .int q, .null] mX6_out mX7_out := by
  intro h R
  by_cases he : e = 0 ∨ e = 1
  · have fd := R.fd (e := e)
    obtain ⟨h1, a1, a2, a3, a4, a5, a6⟩ := R.co (e := e)
    have R1 := R.f10 a6
    have c18 : h1 18 = h 18 := a6 18 (by omega)
    obtain ⟨h2, b1, b2, b3⟩ := R.mo c18 he
    have R2 := R1.fm b3
    have si := sec_in (e := e) (d := INr (mr h 18) e) R.2.1 R.inn.2
    by_cases q0 : q = 0
    · cases hw : wk (mr h 18) e (INr (mr h 18) e) with
      | none =>
        have hs : sec (mr h 18) e (INr (mr h 18) e) = -9 := by unfold sec; rw [hw]; rfl
        rw [hw] at a2
        rw [hs] at b1
        exact ⟨-9, h1, h2, by simp [le_nl, -Int32.not_lt, eX6_out_0, eX6_out_1, eX6_out_4, eX6_out_7, eX6_out_8, eX6_out_9, eX6_out_12, eX6_out_13, eX6_out_14, eX6_out_17, eX6_out_18, eX6_out_21, eX6_out_22, eX6_out_23, eX6_out_26, eX6_out_27, eX6_out_30, eX6_out_33, eX6_out_34, eX6_out_60, eX6_out_61, eX6_out_64, eX6_out_67, eX6_out_68, eX6_out_69, eX6_out_72, eX6_out_75, eX6_out_76, eX6_out_77, eX6_out_80, eX6_out_83, eX6_out_84, eX6_out_85, eX6_out_87, eX6_out_90, f_isEnd, he, fd, a1, a2, q0, resB, show lyC 1 = 0 from rfl, show rcv 1 = 0 from rfl], by simp [le_nl, -Int32.not_lt, eX7_out_0, eX7_out_1, eX7_out_4, eX7_out_7, eX7_out_8, eX7_out_9, eX7_out_12, eX7_out_13, eX7_out_14, eX7_out_15, eX7_out_16, eX7_out_19, eX7_out_22, eX7_out_23, eX7_out_25, eX7_out_28, eX7_out_29, eX7_out_30, eX7_out_31, eX7_out_34, eX7_out_35, eX7_out_38, eX7_out_39, eX7_out_40, eX7_out_43, eX7_out_45, eX7_out_46, eX7_out_47, eX7_out_50, eX7_out_51, eX7_out_54, eX7_out_57, eX7_out_58, eX7_out_59, eX7_out_62, eX7_out_63, eX7_out_66, eX7_out_67, eX7_out_68, eX7_out_71, m_isEnd2, he, m_isIn, b1, q0], R2⟩
      | some w =>
        have hs : sec (mr h 18) e (INr (mr h 18) e) = nI w.2.1 := by unfold sec; rw [hw]; rfl
        have wi := wkc_in R.2.1 24 _ 0 0 _ w (by have := R.inn (e := e); omega) hw
        have np : ¬ nI w.2.1 < 0 := nI_pos (by omega)
        rw [hw] at a2
        rw [hs] at b1
        have b4 := (b2 w hw).1
        exact ⟨nI w.1, h1, h2, by simp [le_nl, -Int32.not_lt, eX6_out_0, eX6_out_1, eX6_out_4, eX6_out_7, eX6_out_8, eX6_out_9, eX6_out_12, eX6_out_13, eX6_out_14, eX6_out_17, eX6_out_18, eX6_out_21, eX6_out_22, eX6_out_23, eX6_out_26, eX6_out_27, eX6_out_30, eX6_out_33, eX6_out_34, eX6_out_60, eX6_out_61, eX6_out_64, eX6_out_67, eX6_out_68, eX6_out_69, eX6_out_72, eX6_out_75, eX6_out_76, eX6_out_77, eX6_out_80, eX6_out_83, eX6_out_84, eX6_out_85, eX6_out_87, eX6_out_90, f_isEnd, he, fd, a1, a2, q0, resB, show lyC 1 = 0 from rfl, show rcv 1 = 0 from rfl], by simp [le_nl, -Int32.not_lt, eX7_out_0, eX7_out_1, eX7_out_4, eX7_out_7, eX7_out_8, eX7_out_9, eX7_out_12, eX7_out_13, eX7_out_14, eX7_out_15, eX7_out_16, eX7_out_19, eX7_out_22, eX7_out_23, eX7_out_25, eX7_out_28, eX7_out_29, eX7_out_30, eX7_out_31, eX7_out_34, eX7_out_35, eX7_out_38, eX7_out_39, eX7_out_40, eX7_out_43, eX7_out_45, eX7_out_46, eX7_out_47, eX7_out_50, eX7_out_51, eX7_out_54, eX7_out_57, eX7_out_58, eX7_out_59, eX7_out_62, eX7_out_63, eX7_out_66, eX7_out_67, eX7_out_68, eX7_out_71, m_isEnd2, he, m_isIn, b1, q0, np, b4], R2⟩
    · by_cases q1 : q = 1
      · refine ⟨sec (mr h 18) e (INr (mr h 18) e), h1, h2, by simp [le_nl, -Int32.not_lt, eX6_out_0, eX6_out_1, eX6_out_4, eX6_out_7, eX6_out_8, eX6_out_9, eX6_out_12, eX6_out_13, eX6_out_14, eX6_out_17, eX6_out_18, eX6_out_21, eX6_out_22, eX6_out_23, eX6_out_26, eX6_out_27, eX6_out_30, eX6_out_33, eX6_out_34, eX6_out_60, eX6_out_61, eX6_out_64, eX6_out_67, eX6_out_68, eX6_out_69, eX6_out_72, eX6_out_75, eX6_out_76, eX6_out_77, eX6_out_80, eX6_out_83, eX6_out_84, eX6_out_85, eX6_out_87, eX6_out_90, f_isEnd, he, fd, a1, a3, q1, show lyC 1 = 0 from rfl, show rcv 1 = 0 from rfl], ?_, R2⟩
        rcases si with z | z
        · rw [z] at b1 ⊢
          simp [le_nl, -Int32.not_lt, eX7_out_0, eX7_out_1, eX7_out_4, eX7_out_7, eX7_out_8, eX7_out_9, eX7_out_12, eX7_out_13, eX7_out_14, eX7_out_15, eX7_out_16, eX7_out_19, eX7_out_22, eX7_out_23, eX7_out_25, eX7_out_28, eX7_out_29, eX7_out_30, eX7_out_31, eX7_out_34, eX7_out_35, eX7_out_38, eX7_out_39, eX7_out_40, eX7_out_43, eX7_out_45, eX7_out_46, eX7_out_47, eX7_out_50, eX7_out_51, eX7_out_54, eX7_out_57, eX7_out_58, eX7_out_59, eX7_out_62, eX7_out_63, eX7_out_66, eX7_out_67, eX7_out_68, eX7_out_71, m_isEnd2, he, m_isIn, b1, q1]
        · have np : ¬ sec (mr h 18) e (INr (mr h 18) e) < 0 := by rw [t_lt]; show ¬ _ < (0 : Int); omega
          simp [le_nl, -Int32.not_lt, eX7_out_0, eX7_out_1, eX7_out_4, eX7_out_7, eX7_out_8, eX7_out_9, eX7_out_12, eX7_out_13, eX7_out_14, eX7_out_15, eX7_out_16, eX7_out_19, eX7_out_22, eX7_out_23, eX7_out_25, eX7_out_28, eX7_out_29, eX7_out_30, eX7_out_31, eX7_out_34, eX7_out_35, eX7_out_38, eX7_out_39, eX7_out_40, eX7_out_43, eX7_out_45, eX7_out_46, eX7_out_47, eX7_out_50, eX7_out_51, eX7_out_54, eX7_out_57, eX7_out_58, eX7_out_59, eX7_out_62, eX7_out_63, eX7_out_66, eX7_out_67, eX7_out_68, eX7_out_71, m_isEnd2, he, m_isIn, b1, q1, np]
      · by_cases q2 : q = 2
        · cases hw : wk (mr h 18) e (INr (mr h 18) e) with
          | none =>
            have hs : sec (mr h 18) e (INr (mr h 18) e) = -9 := by unfold sec; rw [hw]; rfl
            have a7 := a5 hw
            rw [hs] at b1
            exact ⟨-9, h1, h2, by simp [le_nl, -Int32.not_lt, eX6_out_0, eX6_out_1, eX6_out_4, eX6_out_7, eX6_out_8, eX6_out_9, eX6_out_12, eX6_out_13, eX6_out_14, eX6_out_17, eX6_out_18, eX6_out_21, eX6_out_22, eX6_out_23, eX6_out_26, eX6_out_27, eX6_out_30, eX6_out_33, eX6_out_34, eX6_out_60, eX6_out_61, eX6_out_64, eX6_out_67, eX6_out_68, eX6_out_69, eX6_out_72, eX6_out_75, eX6_out_76, eX6_out_77, eX6_out_80, eX6_out_83, eX6_out_84, eX6_out_85, eX6_out_87, eX6_out_90, f_isEnd, he, fd, a1, a7, q2, show lyC 1 = 0 from rfl, show rcv 1 = 0 from rfl], by simp [le_nl, -Int32.not_lt, eX7_out_0, eX7_out_1, eX7_out_4, eX7_out_7, eX7_out_8, eX7_out_9, eX7_out_12, eX7_out_13, eX7_out_14, eX7_out_15, eX7_out_16, eX7_out_19, eX7_out_22, eX7_out_23, eX7_out_25, eX7_out_28, eX7_out_29, eX7_out_30, eX7_out_31, eX7_out_34, eX7_out_35, eX7_out_38, eX7_out_39, eX7_out_40, eX7_out_43, eX7_out_45, eX7_out_46, eX7_out_47, eX7_out_50, eX7_out_51, eX7_out_54, eX7_out_57, eX7_out_58, eX7_out_59, eX7_out_62, eX7_out_63, eX7_out_66, eX7_out_67, eX7_out_68, eX7_out_71, m_isEnd2, he, m_isIn, b1, q2], R2⟩
          | some w =>
            have hs : sec (mr h 18) e (INr (mr h 18) e) = nI w.2.1 := by unfold sec; rw [hw]; rfl
            have wi := wkc_in R.2.1 24 _ 0 0 _ w (by have := R.inn (e := e); omega) hw
            have wg := wkc_g R.2.1 24 _ 0 0 _ w (by have := R.inn (e := e); omega) hw
            have np : ¬ nI w.2.1 < 0 := nI_pos (by omega)
            rw [hs] at b1
            have b5 := (b2 w hw).2
            have ll := len_in R.2.1
            have hl : h2 18 0 = nI (lenN (mr h 18)) := by
              rw [b3 18 0 (by omega) (by omega), c18]
              exact ll.2.2.2
            obtain ⟨Z, g1, g2⟩ := cs_loop (h := h2) (g := w.2.2) hl ⟨ll.1, ll.2.1⟩ he b5 (fun i _ => by have := wg i; omega) (lenN (mr h 18)) 0 (-9) .null (by omega) (Or.inl ⟨fun i _ z => absurd z (Nat.not_lt_zero _), rfl⟩)
            have hz : h1 10 2 = Z := (a4 w hw).uniq g2.dear
            rw [nI_0] at g1
            have g3 : ev mX7_costliest 0 [.ref 17, .int e, .null, .null, .null] [] h2 = some (some (.int Z), h2) := by
              rw [← g1]
              simp [eX7_costliest_0, eX7_costliest_2, eX7_costliest_3, eX7_costliest_4, eX7_costliest_6, eX7_costliest_7, eX7_costliest_10, eX7_costliest_11, eX7_costliest_12, eX7_costliest_15, eX7_costliest_16, eX7_costliest_19, eX7_costliest_20, eX7_costliest_23, eX7_costliest_24, eX7_costliest_27, eX7_costliest_28, eX7_costliest_29, eX7_costliest_30, eX7_costliest_31, eX7_costliest_32, eX7_costliest_33, eX7_costliest_35, eX7_costliest_36, eX7_costliest_39, eX7_costliest_41, eX7_costliest_42, eX7_costliest_45, eX7_costliest_46, eX7_costliest_49, eX7_costliest_50, eX7_costliest_53, eX7_costliest_55, eX7_costliest_56, eX7_costliest_57, eX7_costliest_60, eX7_costliest_61, eX7_costliest_62, eX7_costliest_65, eX7_costliest_67, eX7_costliest_68, eX7_costliest_71, eX7_costliest_74, eX7_costliest_75]
            exact ⟨Z, h1, h2, by simp [le_nl, -Int32.not_lt, eX6_out_0, eX6_out_1, eX6_out_4, eX6_out_7, eX6_out_8, eX6_out_9, eX6_out_12, eX6_out_13, eX6_out_14, eX6_out_17, eX6_out_18, eX6_out_21, eX6_out_22, eX6_out_23, eX6_out_26, eX6_out_27, eX6_out_30, eX6_out_33, eX6_out_34, eX6_out_60, eX6_out_61, eX6_out_64, eX6_out_67, eX6_out_68, eX6_out_69, eX6_out_72, eX6_out_75, eX6_out_76, eX6_out_77, eX6_out_80, eX6_out_83, eX6_out_84, eX6_out_85, eX6_out_87, eX6_out_90, f_isEnd, he, fd, a1, hz, q2, show lyC 1 = 0 from rfl, show rcv 1 = 0 from rfl], by simp [le_nl, -Int32.not_lt, eX7_out_0, eX7_out_1, eX7_out_4, eX7_out_7, eX7_out_8, eX7_out_9, eX7_out_12, eX7_out_13, eX7_out_14, eX7_out_15, eX7_out_16, eX7_out_19, eX7_out_22, eX7_out_23, eX7_out_25, eX7_out_28, eX7_out_29, eX7_out_30, eX7_out_31, eX7_out_34, eX7_out_35, eX7_out_38, eX7_out_39, eX7_out_40, eX7_out_43, eX7_out_45, eX7_out_46, eX7_out_47, eX7_out_50, eX7_out_51, eX7_out_54, eX7_out_57, eX7_out_58, eX7_out_59, eX7_out_62, eX7_out_63, eX7_out_66, eX7_out_67, eX7_out_68, eX7_out_71, m_isEnd2, he, m_isIn, b1, q2, np, g3], R2⟩
        · have mi : ev mX7_isIn 0 [.int q, .int 0, .int 2] [] (st h1 16 2 (h1 16 2 + 1)) = some (some (.int 0), st h1 16 2 (h1 16 2 + 1)) := by
            rw [m_isIn]
            by_cases y : q < 0
            · rw [if_pos y]
            · rw [if_neg y, if_pos]
              rw [t_lt] at y ⊢
              rw [t_eq] at q0 q1 q2
              have y : ¬ q.toInt < 0 := y
              have q0 : ¬ q.toInt = 0 := q0
              have q1 : ¬ q.toInt = 1 := q1
              have q2 : ¬ q.toInt = 2 := q2
              show (2 : Int) < q.toInt
              omega
          exact rf_both2 R1 (k := 2) (w := -2) (by omega) (by simp [le_nl, -Int32.not_lt, eX6_out_0, eX6_out_1, eX6_out_4, eX6_out_7, eX6_out_8, eX6_out_9, eX6_out_12, eX6_out_13, eX6_out_14, eX6_out_17, eX6_out_18, eX6_out_21, eX6_out_22, eX6_out_23, eX6_out_26, eX6_out_27, eX6_out_30, eX6_out_33, eX6_out_34, eX6_out_60, eX6_out_61, eX6_out_64, eX6_out_67, eX6_out_68, eX6_out_69, eX6_out_72, eX6_out_75, eX6_out_76, eX6_out_77, eX6_out_80, eX6_out_83, eX6_out_84, eX6_out_85, eX6_out_87, eX6_out_90, f_isEnd, he, fd, a1, q0, q1, q2, f_refuse, show lyC 1 = 0 from rfl, show rcv 1 = 0 from rfl]) (by simp [le_nl, -Int32.not_lt, eX7_out_0, eX7_out_1, eX7_out_4, eX7_out_7, eX7_out_8, eX7_out_9, eX7_out_12, eX7_out_13, eX7_out_14, eX7_out_15, eX7_out_16, eX7_out_19, eX7_out_22, eX7_out_23, eX7_out_25, eX7_out_28, eX7_out_29, eX7_out_30, eX7_out_31, eX7_out_34, eX7_out_35, eX7_out_38, eX7_out_39, eX7_out_40, eX7_out_43, eX7_out_45, eX7_out_46, eX7_out_47, eX7_out_50, eX7_out_51, eX7_out_54, eX7_out_57, eX7_out_58, eX7_out_59, eX7_out_62, eX7_out_63, eX7_out_66, eX7_out_67, eX7_out_68, eX7_out_71, m_isEnd2, he, mi, m_no])
  · exact rf_both R (k := 1) (w := -1) (by omega) (by simp [le_nl, -Int32.not_lt, eX6_out_0, eX6_out_1, eX6_out_4, eX6_out_7, eX6_out_8, eX6_out_9, eX6_out_12, eX6_out_13, eX6_out_14, eX6_out_17, eX6_out_18, eX6_out_21, eX6_out_22, eX6_out_23, eX6_out_26, eX6_out_27, eX6_out_30, eX6_out_33, eX6_out_34, eX6_out_60, eX6_out_61, eX6_out_64, eX6_out_67, eX6_out_68, eX6_out_69, eX6_out_72, eX6_out_75, eX6_out_76, eX6_out_77, eX6_out_80, eX6_out_83, eX6_out_84, eX6_out_85, eX6_out_87, eX6_out_90, f_isEnd, he, f_refuse]) (by simp [le_nl, -Int32.not_lt, eX7_out_0, eX7_out_1, eX7_out_4, eX7_out_7, eX7_out_8, eX7_out_9, eX7_out_12, eX7_out_13, eX7_out_14, eX7_out_15, eX7_out_16, eX7_out_19, eX7_out_22, eX7_out_23, eX7_out_25, eX7_out_28, eX7_out_29, eX7_out_30, eX7_out_31, eX7_out_34, eX7_out_35, eX7_out_38, eX7_out_39, eX7_out_40, eX7_out_43, eX7_out_45, eX7_out_46, eX7_out_47, eX7_out_50, eX7_out_51, eX7_out_54, eX7_out_57, eX7_out_58, eX7_out_59, eX7_out_62, eX7_out_63, eX7_out_66, eX7_out_67, eX7_out_68, eX7_out_71, m_isEnd2, he, m_no])
def secL (r : Nat → Int32) (e : Int32) : Int32 := if INr r e < 1 then -9 else sec r e (INr r e)
theorem secL_in {r : Nat → Int32} (ok : Ok r) : secL r e = -9 ∨ (0 ≤ (secL r e).toInt ∧ (secL r e).toInt ≤ 288) := by
  unfold secL
  split
  · exact Or.inl rfl
  · refine sec_in ok ?_
    obtain ⟨-, o1, o2, -⟩ := ok
    unfold INr
    split
    · exact o1.2
    · exact o2.2
theorem Rel.cl (R : Rel h) : ∃ h' : Sto, ev mX6_secondsIfLost 0 [.ref 0, .int e] [] h = some (some (.int (secL (mr h 18) e)), h') ∧ ∀ a, a ≠ 10 → h' a = h a := by
  have fd := R.fd (e := e)
  have fl := R.fl (e := e)
  unfold secL
  by_cases z : INr (mr h 18) e < 1
  · rw [if_pos z] at fl ⊢
    exact ⟨h, by simp [eX6_secondsIfLost_0, eX6_secondsIfLost_1, eX6_secondsIfLost_4, eX6_secondsIfLost_5, eX6_secondsIfLost_8, eX6_secondsIfLost_11, eX6_secondsIfLost_13, eX6_secondsIfLost_14, eX6_secondsIfLost_15, eX6_secondsIfLost_18, eX6_secondsIfLost_19, eX6_secondsIfLost_22, eX6_secondsIfLost_23, eX6_secondsIfLost_24, eX6_secondsIfLost_27, eX6_secondsIfLost_28, eX6_secondsIfLost_31, eX6_secondsIfLost_34, eX6_secondsIfLost_35, eX6_secondsIfLost_38, eX6_secondsIfLost_41, fl, show lyC 1 = 0 from rfl, show rcv 1 = 0 from rfl], fun _ _ => rfl⟩
  · rw [if_neg z] at fl ⊢
    obtain ⟨h1, a1, a2, a3, a4, a5, a6⟩ := R.co (e := e)
    exact ⟨h1, by simp [eX6_secondsIfLost_0, eX6_secondsIfLost_1, eX6_secondsIfLost_4, eX6_secondsIfLost_5, eX6_secondsIfLost_8, eX6_secondsIfLost_11, eX6_secondsIfLost_13, eX6_secondsIfLost_14, eX6_secondsIfLost_15, eX6_secondsIfLost_18, eX6_secondsIfLost_19, eX6_secondsIfLost_22, eX6_secondsIfLost_23, eX6_secondsIfLost_24, eX6_secondsIfLost_27, eX6_secondsIfLost_28, eX6_secondsIfLost_31, eX6_secondsIfLost_34, eX6_secondsIfLost_35, eX6_secondsIfLost_38, eX6_secondsIfLost_41, fl, fd, a1, a3, show lyC 1 = 0 from rfl, show rcv 1 = 0 from rfl], a6⟩
theorem neg_or {x : Int32} (hx : x = -9 ∨ (0 ≤ x.toInt ∧ x.toInt ≤ 288)) : x < 0 ↔ x = -9 := by
  rcases hx with h | h
  · rw [h]; decide
  · constructor
    · intro z
      rw [t_lt] at z
      have : x.toInt < 0 := z
      omega
    · intro z
      rw [z] at h
      have : (0 : Int) ≤ -9 := h.1
      omega
theorem s_soonest : Sim [.null, .null] [.null, .null] mX6_soonest mX7_soonest := by
  intro h R
  have f0 := f_lostEnds (h := h) HC1
  rw [R.s1, R.s2] at f0
  have m0 := m_lostMany (r := 18) (h := h) rfl
  rw [lost_ite, lost_ite] at m0
  obtain ⟨h1, a1, a2⟩ := R.cl (e := 0)
  have R1 := R.f10 a2
  have e18 : mr h1 18 = mr h 18 := mr_cell (a2 18 (by omega))
  obtain ⟨h2, b1, b2⟩ := R1.cl (e := 1)
  rw [e18] at b1
  have R2 := R1.f10 b2
  have f18 : h2 18 = h 18 := by rw [b2 18 (by omega), a2 18 (by omega)]
  have g18 : mr h2 18 = mr h 18 := mr_cell f18
  have s0 := neg_or (secL_in (e := 0) R.2.1)
  have s1 := neg_or (secL_in (e := 1) R.2.1)
  have sm : ∀ (hh : Sto), Rel hh → mr hh 18 = mr h 18 → ∀ e, (e = 0 ∨ e = 1) → (INr (mr h 18) e < 1 → secL (mr h 18) e = -9 ∧ ev mX7_isLost 0 [.ref 18, .int e] [] hh = some (some (.int 0), hh)) ∧ (¬ INr (mr h 18) e < 1 → ev mX7_isLost 0 [.ref 18, .int e] [] hh = some (some (.int 1), hh) ∧ ∃ h' : Sto, ev mX7_outSeconds 0 [.ref 17, .ref 18, .int e, .null, .null, .null] [] hh = some (some (.int (secL (mr h 18) e)), h') ∧ Rel h' ∧ mr h' 18 = mr h 18 ∧ h' 18 = hh 18) := by
    intro hh RR hm18 e he
    have ml := RR.ml (h' := hh) rfl he
    rw [hm18] at ml
    refine ⟨fun z => ⟨by unfold secL; rw [if_pos z], by rw [if_pos z] at ml; exact ml⟩, fun z => ⟨by rw [if_neg z] at ml; exact ml, ?_⟩⟩
    obtain ⟨h', c1, c2, c3⟩ := RR.mo (h' := hh) rfl he
    rw [hm18] at c1
    have c18 : h' 18 = hh 18 := funext fun x => c3 18 x (by omega) (by omega)
    exact ⟨h', by unfold secL; rw [if_neg z]; exact c1, RR.fm c3, by rw [mr_cell c18]; exact hm18, c18⟩
  have d0 : INr (mr h 18) 0 = h 18 1 := rfl
  have d1 : INr (mr h 18) 1 = h 18 2 := rfl
  by_cases z0 : h 18 1 < 1
  · by_cases z1 : h 18 2 < 1
    · rw [if_pos z0, if_pos z1] at f0 m0
      exact qs_both R (v := -9) (by simp [le_nl, -Int32.not_lt, eX6_soonest_0, eX6_soonest_1, eX6_soonest_4, eX6_soonest_7, eX6_soonest_10, eX6_soonest_12, eX6_soonest_13, eX6_soonest_14, eX6_soonest_15, eX6_soonest_18, eX6_soonest_19, eX6_soonest_20, eX6_soonest_21, eX6_soonest_24, eX6_soonest_25, eX6_soonest_26, eX6_soonest_28, eX6_soonest_31, eX6_soonest_32, eX6_soonest_34, eX6_soonest_37, eX6_soonest_39, eX6_soonest_40, eX6_soonest_41, eX6_soonest_43, eX6_soonest_46, eX6_soonest_47, eX6_soonest_48, eX6_soonest_49, eX6_soonest_51, eX6_soonest_54, eX6_soonest_55, eX6_soonest_56, eX6_soonest_59, eX6_soonest_60, eX6_soonest_63, eX6_soonest_64, f0, show lyC 1 = 0 from rfl, show rcv 1 = 0 from rfl]) (by simp [le_nl, -Int32.not_lt, eX7_soonest_0, eX7_soonest_1, eX7_soonest_4, eX7_soonest_7, eX7_soonest_10, eX7_soonest_12, eX7_soonest_13, eX7_soonest_14, eX7_soonest_17, eX7_soonest_18, eX7_soonest_21, eX7_soonest_24, eX7_soonest_25, eX7_soonest_26, eX7_soonest_29, eX7_soonest_30, eX7_soonest_33, eX7_soonest_36, eX7_soonest_38, eX7_soonest_39, eX7_soonest_40, eX7_soonest_43, eX7_soonest_44, eX7_soonest_47, eX7_soonest_50, eX7_soonest_51, eX7_soonest_52, eX7_soonest_55, eX7_soonest_56, eX7_soonest_59, eX7_soonest_62, eX7_soonest_64, eX7_soonest_65, eX7_soonest_66, eX7_soonest_69, eX7_soonest_70, eX7_soonest_73, eX7_soonest_75, eX7_soonest_76, eX7_soonest_77, eX7_soonest_80, eX7_soonest_81, eX7_soonest_84, eX7_soonest_85, eX7_soonest_86, eX7_soonest_89, eX7_soonest_90, eX7_soonest_93, eX7_soonest_94, m0])
    · rw [if_pos z0, if_neg z1] at f0 m0
      obtain ⟨p1, p2⟩ := (sm h2 R2 g18 0 (Or.inl rfl)).1 z0
      obtain ⟨q1, h3, q2, q3, q4, q5⟩ := (sm h2 R2 g18 1 (Or.inr rfl)).2 z1
      have m2 := m_lostMany (r := 18) (h := h2) rfl
      rw [lost_ite, lost_ite, f18, if_pos z0, if_neg z1] at m2
      rw [p1] at a1
      by_cases y1 : secL (mr h 18) 1 = -9
      · rw [y1] at b1 q2
        exact ⟨9, h2, h3, by simp [le_nl, -Int32.not_lt, eX6_soonest_0, eX6_soonest_1, eX6_soonest_4, eX6_soonest_7, eX6_soonest_10, eX6_soonest_12, eX6_soonest_13, eX6_soonest_14, eX6_soonest_15, eX6_soonest_18, eX6_soonest_19, eX6_soonest_20, eX6_soonest_21, eX6_soonest_24, eX6_soonest_25, eX6_soonest_26, eX6_soonest_28, eX6_soonest_31, eX6_soonest_32, eX6_soonest_34, eX6_soonest_37, eX6_soonest_39, eX6_soonest_40, eX6_soonest_41, eX6_soonest_43, eX6_soonest_46, eX6_soonest_47, eX6_soonest_48, eX6_soonest_49, eX6_soonest_51, eX6_soonest_54, eX6_soonest_55, eX6_soonest_56, eX6_soonest_59, eX6_soonest_60, eX6_soonest_63, eX6_soonest_64, f0, a1, b1, show lyC 1 = 0 from rfl, show rcv 1 = 0 from rfl], by simp [le_nl, -Int32.not_lt, eX7_soonest_0, eX7_soonest_1, eX7_soonest_4, eX7_soonest_7, eX7_soonest_10, eX7_soonest_12, eX7_soonest_13, eX7_soonest_14, eX7_soonest_17, eX7_soonest_18, eX7_soonest_21, eX7_soonest_24, eX7_soonest_25, eX7_soonest_26, eX7_soonest_29, eX7_soonest_30, eX7_soonest_33, eX7_soonest_36, eX7_soonest_38, eX7_soonest_39, eX7_soonest_40, eX7_soonest_43, eX7_soonest_44, eX7_soonest_47, eX7_soonest_50, eX7_soonest_51, eX7_soonest_52, eX7_soonest_55, eX7_soonest_56, eX7_soonest_59, eX7_soonest_62, eX7_soonest_64, eX7_soonest_65, eX7_soonest_66, eX7_soonest_69, eX7_soonest_70, eX7_soonest_73, eX7_soonest_75, eX7_soonest_76, eX7_soonest_77, eX7_soonest_80, eX7_soonest_81, eX7_soonest_84, eX7_soonest_85, eX7_soonest_86, eX7_soonest_89, eX7_soonest_90, eX7_soonest_93, eX7_soonest_94, m2, p2, q1, q2], q3⟩
      · have n1 : ¬ secL (mr h 18) 1 < 0 := fun y => y1 (s1.mp y)
        exact ⟨1, h2, h3, by simp [le_nl, -Int32.not_lt, eX6_soonest_0, eX6_soonest_1, eX6_soonest_4, eX6_soonest_7, eX6_soonest_10, eX6_soonest_12, eX6_soonest_13, eX6_soonest_14, eX6_soonest_15, eX6_soonest_18, eX6_soonest_19, eX6_soonest_20, eX6_soonest_21, eX6_soonest_24, eX6_soonest_25, eX6_soonest_26, eX6_soonest_28, eX6_soonest_31, eX6_soonest_32, eX6_soonest_34, eX6_soonest_37, eX6_soonest_39, eX6_soonest_40, eX6_soonest_41, eX6_soonest_43, eX6_soonest_46, eX6_soonest_47, eX6_soonest_48, eX6_soonest_49, eX6_soonest_51, eX6_soonest_54, eX6_soonest_55, eX6_soonest_56, eX6_soonest_59, eX6_soonest_60, eX6_soonest_63, eX6_soonest_64, f0, a1, b1, y1, show lyC 1 = 0 from rfl, show rcv 1 = 0 from rfl], by simp [le_nl, -Int32.not_lt, eX7_soonest_0, eX7_soonest_1, eX7_soonest_4, eX7_soonest_7, eX7_soonest_10, eX7_soonest_12, eX7_soonest_13, eX7_soonest_14, eX7_soonest_17, eX7_soonest_18, eX7_soonest_21, eX7_soonest_24, eX7_soonest_25, eX7_soonest_26, eX7_soonest_29, eX7_soonest_30, eX7_soonest_33, eX7_soonest_36, eX7_soonest_38, eX7_soonest_39, eX7_soonest_40, eX7_soonest_43, eX7_soonest_44, eX7_soonest_47, eX7_soonest_50, eX7_soonest_51, eX7_soonest_52, eX7_soonest_55, eX7_soonest_56, eX7_soonest_59, eX7_soonest_62, eX7_soonest_64, eX7_soonest_65, eX7_soonest_66, eX7_soonest_69, eX7_soonest_70, eX7_soonest_73, eX7_soonest_75, eX7_soonest_76, eX7_soonest_77, eX7_soonest_80, eX7_soonest_81, eX7_soonest_84, eX7_soonest_85, eX7_soonest_86, eX7_soonest_89, eX7_soonest_90, eX7_soonest_93, eX7_soonest_94, m2, p2, q1, q2, n1], q3⟩
  · obtain ⟨q1, h3, q2, q3, q4, q5⟩ := (sm h2 R2 g18 0 (Or.inl rfl)).2 z0
    have n01 : ¬ (1 : Int32) + (if h 18 2 < 1 then 0 else 1) = 0 := by split <;> decide
    rw [if_neg z0] at f0 m0
    have m2 := m_lostMany (r := 18) (h := h2) rfl
    rw [lost_ite, lost_ite, f18, if_neg z0] at m2
    by_cases z1 : h 18 2 < 1
    · obtain ⟨p1, p2⟩ := (sm h3 q3 q4 1 (Or.inr rfl)).1 z1
      rw [if_pos z1] at f0 m2
      rw [p1] at b1
      by_cases y0 : secL (mr h 18) 0 = -9
      · rw [y0] at a1 q2
        exact ⟨9, h2, h3, by simp [le_nl, -Int32.not_lt, eX6_soonest_0, eX6_soonest_1, eX6_soonest_4, eX6_soonest_7, eX6_soonest_10, eX6_soonest_12, eX6_soonest_13, eX6_soonest_14, eX6_soonest_15, eX6_soonest_18, eX6_soonest_19, eX6_soonest_20, eX6_soonest_21, eX6_soonest_24, eX6_soonest_25, eX6_soonest_26, eX6_soonest_28, eX6_soonest_31, eX6_soonest_32, eX6_soonest_34, eX6_soonest_37, eX6_soonest_39, eX6_soonest_40, eX6_soonest_41, eX6_soonest_43, eX6_soonest_46, eX6_soonest_47, eX6_soonest_48, eX6_soonest_49, eX6_soonest_51, eX6_soonest_54, eX6_soonest_55, eX6_soonest_56, eX6_soonest_59, eX6_soonest_60, eX6_soonest_63, eX6_soonest_64, f0, a1, b1, show lyC 1 = 0 from rfl, show rcv 1 = 0 from rfl], by simp [le_nl, -Int32.not_lt, eX7_soonest_0, eX7_soonest_1, eX7_soonest_4, eX7_soonest_7, eX7_soonest_10, eX7_soonest_12, eX7_soonest_13, eX7_soonest_14, eX7_soonest_17, eX7_soonest_18, eX7_soonest_21, eX7_soonest_24, eX7_soonest_25, eX7_soonest_26, eX7_soonest_29, eX7_soonest_30, eX7_soonest_33, eX7_soonest_36, eX7_soonest_38, eX7_soonest_39, eX7_soonest_40, eX7_soonest_43, eX7_soonest_44, eX7_soonest_47, eX7_soonest_50, eX7_soonest_51, eX7_soonest_52, eX7_soonest_55, eX7_soonest_56, eX7_soonest_59, eX7_soonest_62, eX7_soonest_64, eX7_soonest_65, eX7_soonest_66, eX7_soonest_69, eX7_soonest_70, eX7_soonest_73, eX7_soonest_75, eX7_soonest_76, eX7_soonest_77, eX7_soonest_80, eX7_soonest_81, eX7_soonest_84, eX7_soonest_85, eX7_soonest_86, eX7_soonest_89, eX7_soonest_90, eX7_soonest_93, eX7_soonest_94, m2, q1, q2, p2], q3⟩
      · have n0 : ¬ secL (mr h 18) 0 < 0 := fun y => y0 (s0.mp y)
        exact ⟨0, h2, h3, by simp [le_nl, -Int32.not_lt, eX6_soonest_0, eX6_soonest_1, eX6_soonest_4, eX6_soonest_7, eX6_soonest_10, eX6_soonest_12, eX6_soonest_13, eX6_soonest_14, eX6_soonest_15, eX6_soonest_18, eX6_soonest_19, eX6_soonest_20, eX6_soonest_21, eX6_soonest_24, eX6_soonest_25, eX6_soonest_26, eX6_soonest_28, eX6_soonest_31, eX6_soonest_32, eX6_soonest_34, eX6_soonest_37, eX6_soonest_39, eX6_soonest_40, eX6_soonest_41, eX6_soonest_43, eX6_soonest_46, eX6_soonest_47, eX6_soonest_48, eX6_soonest_49, eX6_soonest_51, eX6_soonest_54, eX6_soonest_55, eX6_soonest_56, eX6_soonest_59, eX6_soonest_60, eX6_soonest_63, eX6_soonest_64, f0, a1, b1, y0, show lyC 1 = 0 from rfl, show rcv 1 = 0 from rfl], by simp [le_nl, -Int32.not_lt, eX7_soonest_0, eX7_soonest_1, eX7_soonest_4, eX7_soonest_7, eX7_soonest_10, eX7_soonest_12, eX7_soonest_13, eX7_soonest_14, eX7_soonest_17, eX7_soonest_18, eX7_soonest_21, eX7_soonest_24, eX7_soonest_25, eX7_soonest_26, eX7_soonest_29, eX7_soonest_30, eX7_soonest_33, eX7_soonest_36, eX7_soonest_38, eX7_soonest_39, eX7_soonest_40, eX7_soonest_43, eX7_soonest_44, eX7_soonest_47, eX7_soonest_50, eX7_soonest_51, eX7_soonest_52, eX7_soonest_55, eX7_soonest_56, eX7_soonest_59, eX7_soonest_62, eX7_soonest_64, eX7_soonest_65, eX7_soonest_66, eX7_soonest_69, eX7_soonest_70, eX7_soonest_73, eX7_soonest_75, eX7_soonest_76, eX7_soonest_77, eX7_soonest_80, eX7_soonest_81, eX7_soonest_84, eX7_soonest_85, eX7_soonest_86, eX7_soonest_89, eX7_soonest_90, eX7_soonest_93, eX7_soonest_94, m2, q1, q2, p2, n0], q3⟩
    · obtain ⟨r1, h4, r2, r3, r4, r5⟩ := (sm h3 q3 q4 1 (Or.inr rfl)).2 z1
      rw [if_neg z1] at f0 m2
      by_cases y0 : secL (mr h 18) 0 = -9
      · by_cases y1 : secL (mr h 18) 1 = -9
        · rw [y0] at a1 q2
          rw [y1] at b1 r2
          exact ⟨9, h2, h4, by simp [le_nl, -Int32.not_lt, eX6_soonest_0, eX6_soonest_1, eX6_soonest_4, eX6_soonest_7, eX6_soonest_10, eX6_soonest_12, eX6_soonest_13, eX6_soonest_14, eX6_soonest_15, eX6_soonest_18, eX6_soonest_19, eX6_soonest_20, eX6_soonest_21, eX6_soonest_24, eX6_soonest_25, eX6_soonest_26, eX6_soonest_28, eX6_soonest_31, eX6_soonest_32, eX6_soonest_34, eX6_soonest_37, eX6_soonest_39, eX6_soonest_40, eX6_soonest_41, eX6_soonest_43, eX6_soonest_46, eX6_soonest_47, eX6_soonest_48, eX6_soonest_49, eX6_soonest_51, eX6_soonest_54, eX6_soonest_55, eX6_soonest_56, eX6_soonest_59, eX6_soonest_60, eX6_soonest_63, eX6_soonest_64, f0, a1, b1, show lyC 1 = 0 from rfl, show rcv 1 = 0 from rfl], by simp [le_nl, -Int32.not_lt, eX7_soonest_0, eX7_soonest_1, eX7_soonest_4, eX7_soonest_7, eX7_soonest_10, eX7_soonest_12, eX7_soonest_13, eX7_soonest_14, eX7_soonest_17, eX7_soonest_18, eX7_soonest_21, eX7_soonest_24, eX7_soonest_25, eX7_soonest_26, eX7_soonest_29, eX7_soonest_30, eX7_soonest_33, eX7_soonest_36, eX7_soonest_38, eX7_soonest_39, eX7_soonest_40, eX7_soonest_43, eX7_soonest_44, eX7_soonest_47, eX7_soonest_50, eX7_soonest_51, eX7_soonest_52, eX7_soonest_55, eX7_soonest_56, eX7_soonest_59, eX7_soonest_62, eX7_soonest_64, eX7_soonest_65, eX7_soonest_66, eX7_soonest_69, eX7_soonest_70, eX7_soonest_73, eX7_soonest_75, eX7_soonest_76, eX7_soonest_77, eX7_soonest_80, eX7_soonest_81, eX7_soonest_84, eX7_soonest_85, eX7_soonest_86, eX7_soonest_89, eX7_soonest_90, eX7_soonest_93, eX7_soonest_94, m2, q1, q2, r1, r2], r3⟩
        · have n1 : ¬ secL (mr h 18) 1 < 0 := fun y => y1 (s1.mp y)
          rw [y0] at a1 q2
          exact ⟨1, h2, h4, by simp [le_nl, -Int32.not_lt, eX6_soonest_0, eX6_soonest_1, eX6_soonest_4, eX6_soonest_7, eX6_soonest_10, eX6_soonest_12, eX6_soonest_13, eX6_soonest_14, eX6_soonest_15, eX6_soonest_18, eX6_soonest_19, eX6_soonest_20, eX6_soonest_21, eX6_soonest_24, eX6_soonest_25, eX6_soonest_26, eX6_soonest_28, eX6_soonest_31, eX6_soonest_32, eX6_soonest_34, eX6_soonest_37, eX6_soonest_39, eX6_soonest_40, eX6_soonest_41, eX6_soonest_43, eX6_soonest_46, eX6_soonest_47, eX6_soonest_48, eX6_soonest_49, eX6_soonest_51, eX6_soonest_54, eX6_soonest_55, eX6_soonest_56, eX6_soonest_59, eX6_soonest_60, eX6_soonest_63, eX6_soonest_64, f0, a1, b1, y1, show lyC 1 = 0 from rfl, show rcv 1 = 0 from rfl], by simp [le_nl, -Int32.not_lt, eX7_soonest_0, eX7_soonest_1, eX7_soonest_4, eX7_soonest_7, eX7_soonest_10, eX7_soonest_12, eX7_soonest_13, eX7_soonest_14, eX7_soonest_17, eX7_soonest_18, eX7_soonest_21, eX7_soonest_24, eX7_soonest_25, eX7_soonest_26, eX7_soonest_29, eX7_soonest_30, eX7_soonest_33, eX7_soonest_36, eX7_soonest_38, eX7_soonest_39, eX7_soonest_40, eX7_soonest_43, eX7_soonest_44, eX7_soonest_47, eX7_soonest_50, eX7_soonest_51, eX7_soonest_52, eX7_soonest_55, eX7_soonest_56, eX7_soonest_59, eX7_soonest_62, eX7_soonest_64, eX7_soonest_65, eX7_soonest_66, eX7_soonest_69, eX7_soonest_70, eX7_soonest_73, eX7_soonest_75, eX7_soonest_76, eX7_soonest_77, eX7_soonest_80, eX7_soonest_81, eX7_soonest_84, eX7_soonest_85, eX7_soonest_86, eX7_soonest_89, eX7_soonest_90, eX7_soonest_93, eX7_soonest_94, m2, q1, q2, r1, r2, n1], r3⟩
      · have n0 : ¬ secL (mr h 18) 0 < 0 := fun y => y0 (s0.mp y)
        by_cases y1 : secL (mr h 18) 1 = -9
        · rw [y1] at b1 r2
          exact ⟨0, h2, h4, by simp [le_nl, -Int32.not_lt, eX6_soonest_0, eX6_soonest_1, eX6_soonest_4, eX6_soonest_7, eX6_soonest_10, eX6_soonest_12, eX6_soonest_13, eX6_soonest_14, eX6_soonest_15, eX6_soonest_18, eX6_soonest_19, eX6_soonest_20, eX6_soonest_21, eX6_soonest_24, eX6_soonest_25, eX6_soonest_26, eX6_soonest_28, eX6_soonest_31, eX6_soonest_32, eX6_soonest_34, eX6_soonest_37, eX6_soonest_39, eX6_soonest_40, eX6_soonest_41, eX6_soonest_43, eX6_soonest_46, eX6_soonest_47, eX6_soonest_48, eX6_soonest_49, eX6_soonest_51, eX6_soonest_54, eX6_soonest_55, eX6_soonest_56, eX6_soonest_59, eX6_soonest_60, eX6_soonest_63, eX6_soonest_64, f0, a1, b1, y0, show lyC 1 = 0 from rfl, show rcv 1 = 0 from rfl], by simp [le_nl, -Int32.not_lt, eX7_soonest_0, eX7_soonest_1, eX7_soonest_4, eX7_soonest_7, eX7_soonest_10, eX7_soonest_12, eX7_soonest_13, eX7_soonest_14, eX7_soonest_17, eX7_soonest_18, eX7_soonest_21, eX7_soonest_24, eX7_soonest_25, eX7_soonest_26, eX7_soonest_29, eX7_soonest_30, eX7_soonest_33, eX7_soonest_36, eX7_soonest_38, eX7_soonest_39, eX7_soonest_40, eX7_soonest_43, eX7_soonest_44, eX7_soonest_47, eX7_soonest_50, eX7_soonest_51, eX7_soonest_52, eX7_soonest_55, eX7_soonest_56, eX7_soonest_59, eX7_soonest_62, eX7_soonest_64, eX7_soonest_65, eX7_soonest_66, eX7_soonest_69, eX7_soonest_70, eX7_soonest_73, eX7_soonest_75, eX7_soonest_76, eX7_soonest_77, eX7_soonest_80, eX7_soonest_81, eX7_soonest_84, eX7_soonest_85, eX7_soonest_86, eX7_soonest_89, eX7_soonest_90, eX7_soonest_93, eX7_soonest_94, m2, q1, q2, r1, r2, n0], r3⟩
        · have n1 : ¬ secL (mr h 18) 1 < 0 := fun y => y1 (s1.mp y)
          by_cases c : secL (mr h 18) 1 < secL (mr h 18) 0
          · exact ⟨1, h2, h4, by simp [le_nl, -Int32.not_lt, eX6_soonest_0, eX6_soonest_1, eX6_soonest_4, eX6_soonest_7, eX6_soonest_10, eX6_soonest_12, eX6_soonest_13, eX6_soonest_14, eX6_soonest_15, eX6_soonest_18, eX6_soonest_19, eX6_soonest_20, eX6_soonest_21, eX6_soonest_24, eX6_soonest_25, eX6_soonest_26, eX6_soonest_28, eX6_soonest_31, eX6_soonest_32, eX6_soonest_34, eX6_soonest_37, eX6_soonest_39, eX6_soonest_40, eX6_soonest_41, eX6_soonest_43, eX6_soonest_46, eX6_soonest_47, eX6_soonest_48, eX6_soonest_49, eX6_soonest_51, eX6_soonest_54, eX6_soonest_55, eX6_soonest_56, eX6_soonest_59, eX6_soonest_60, eX6_soonest_63, eX6_soonest_64, f0, a1, b1, y0, y1, c, show lyC 1 = 0 from rfl, show rcv 1 = 0 from rfl], by simp [le_nl, -Int32.not_lt, eX7_soonest_0, eX7_soonest_1, eX7_soonest_4, eX7_soonest_7, eX7_soonest_10, eX7_soonest_12, eX7_soonest_13, eX7_soonest_14, eX7_soonest_17, eX7_soonest_18, eX7_soonest_21, eX7_soonest_24, eX7_soonest_25, eX7_soonest_26, eX7_soonest_29, eX7_soonest_30, eX7_soonest_33, eX7_soonest_36, eX7_soonest_38, eX7_soonest_39, eX7_soonest_40, eX7_soonest_43, eX7_soonest_44, eX7_soonest_47, eX7_soonest_50, eX7_soonest_51, eX7_soonest_52, eX7_soonest_55, eX7_soonest_56, eX7_soonest_59, eX7_soonest_62, eX7_soonest_64, eX7_soonest_65, eX7_soonest_66, eX7_soonest_69, eX7_soonest_70, eX7_soonest_73, eX7_soonest_75, eX7_soonest_76, eX7_soonest_77, eX7_soonest_80, eX7_soonest_81, eX7_soonest_84, eX7_soonest_85, eX7_soonest_86, eX7_soonest_89, eX7_soonest_90, eX7_soonest_93, eX7_soonest_94, m2, q1, q2, r1, r2, n0, n1, c], r3⟩
          · exact ⟨0, h2, h4, by simp [le_nl, -Int32.not_lt, eX6_soonest_0, eX6_soonest_1, eX6_soonest_4, eX6_soonest_7, eX6_soonest_10, eX6_soonest_12, eX6_soonest_13, eX6_soonest_14, eX6_soonest_15, eX6_soonest_18, eX6_soonest_19, eX6_soonest_20, eX6_soonest_21, eX6_soonest_24, eX6_soonest_25, eX6_soonest_26, eX6_soonest_28, eX6_soonest_31, eX6_soonest_32, eX6_soonest_34, eX6_soonest_37, eX6_soonest_39, eX6_soonest_40, eX6_soonest_41, eX6_soonest_43, eX6_soonest_46, eX6_soonest_47, eX6_soonest_48, eX6_soonest_49, eX6_soonest_51, eX6_soonest_54, eX6_soonest_55, eX6_soonest_56, eX6_soonest_59, eX6_soonest_60, eX6_soonest_63, eX6_soonest_64, f0, a1, b1, y0, y1, c, show lyC 1 = 0 from rfl, show rcv 1 = 0 from rfl], by simp [le_nl, -Int32.not_lt, eX7_soonest_0, eX7_soonest_1, eX7_soonest_4, eX7_soonest_7, eX7_soonest_10, eX7_soonest_12, eX7_soonest_13, eX7_soonest_14, eX7_soonest_17, eX7_soonest_18, eX7_soonest_21, eX7_soonest_24, eX7_soonest_25, eX7_soonest_26, eX7_soonest_29, eX7_soonest_30, eX7_soonest_33, eX7_soonest_36, eX7_soonest_38, eX7_soonest_39, eX7_soonest_40, eX7_soonest_43, eX7_soonest_44, eX7_soonest_47, eX7_soonest_50, eX7_soonest_51, eX7_soonest_52, eX7_soonest_55, eX7_soonest_56, eX7_soonest_59, eX7_soonest_62, eX7_soonest_64, eX7_soonest_65, eX7_soonest_66, eX7_soonest_69, eX7_soonest_70, eX7_soonest_73, eX7_soonest_75, eX7_soonest_76, eX7_soonest_77, eX7_soonest_80, eX7_soonest_81, eX7_soonest_84, eX7_soonest_85, eX7_soonest_86, eX7_soonest_89, eX7_soonest_90, eX7_soonest_93, eX7_soonest_94, m2, q1, q2, r1, r2, n0, n1, c], r3⟩
theorem asec_in {r : Nat → Int32} (ok : Ok r) : asec r = -9 ∨ (0 ≤ (asec r).toInt ∧ (asec r).toInt ≤ 576) := by
  have s1 := sec_in (e := 0) ok ok.2.1.2
  have s2 := sec_in (e := 1) ok ok.2.2.1.2
  unfold asec
  split
  · exact Or.inl rfl
  · rename_i n1
    split
    · exact Or.inl rfl
    · rename_i n2
      have s1 := s1.resolve_left n1
      have s2 := s2.resolve_left n2
      refine Or.inr ?_
      rw [t_add (by omega) (by omega)]
      omega
theorem asec_neg {r : Nat → Int32} (ok : Ok r) : asec r < 0 ↔ asec r = -9 := by
  rcases asec_in ok with h | h
  · rw [h]; decide
  · constructor
    · intro z
      rw [t_lt] at z
      have : (asec r).toInt < 0 := z
      omega
    · intro z
      rw [z] at h
      have : (0 : Int) ≤ -9 := h.1
      omega
theorem s_better {q : Int32} : Sim [.int q, .null, .null] [.int q, .null, .null] mX6_better mX7_better := by
  intro h R
  have f1 := f_secondsAnew (h := h) (x := h 18 6) HC1 R.ok1
  rw [R.1] at f1
  by_cases hq : q = 0 ∨ q = 1
  · have hq' := end_in.mpr hq
    obtain ⟨h1, a1, a2⟩ := f_secondsOfAll (h := h) HC1 R.ok1
    rw [R.1] at a1
    have m1 := m_anewSeconds (r := 18) (h := h) rfl R.2.1
    have m1' := m_anewSeconds (r := 18) (h := h1) rfl (by rw [mr_cell (a2 18 (by omega))]; exact R.2.1)
    rw [mr_cell (a2 18 (by omega))] at m1'
    have p6 : mr h 18 6 = h 18 6 := rfl
    rw [p6] at m1 m1'
    obtain ⟨h2, b1, b2⟩ := m_allSeconds (r := 18) (h := h1) rfl (by rw [mr_cell (a2 18 (by omega))]; exact R.2.1)
    rw [mr_cell (a2 18 (by omega))] at b1
    have R2 := (R.f10 a2).fm b2
    have an := asec_neg R.2.1
    rcases hq with rfl | rfl
    · exact qs_both R (v := anSec (mr h 18) (h 18 6)) (by simp [le_nl, -Int32.not_lt, eX6_better_0, eX6_better_1, eX6_better_4, eX6_better_5, eX6_better_6, eX6_better_9, eX6_better_10, eX6_better_12, eX6_better_15, eX6_better_16, eX6_better_17, eX6_better_20, eX6_better_21, eX6_better_24, eX6_better_27, eX6_better_30, eX6_better_31, eX6_better_32, eX6_better_35, eX6_better_36, eX6_better_37, eX6_better_38, eX6_better_41, eX6_better_42, eX6_better_45, eX6_better_48, eX6_better_49, eX6_better_50, eX6_better_52, eX6_better_55, eX6_better_56, eX6_better_57, eX6_better_60, eX6_better_61, eX6_better_64, eX6_better_65, R.s6, f1, show lyC 1 = 0 from rfl, show rcv 1 = 0 from rfl]) (by simp [le_nl, -Int32.not_lt, eX7_better_0, eX7_better_1, eX7_better_2, eX7_better_3, eX7_better_6, eX7_better_9, eX7_better_10, eX7_better_12, eX7_better_15, eX7_better_16, eX7_better_17, eX7_better_20, eX7_better_23, eX7_better_24, eX7_better_25, eX7_better_28, eX7_better_29, eX7_better_30, eX7_better_31, eX7_better_32, eX7_better_35, eX7_better_38, eX7_better_39, eX7_better_40, eX7_better_43, eX7_better_44, eX7_better_45, eX7_better_48, eX7_better_49, eX7_better_52, eX7_better_53, m_isIn, m1])
    · by_cases z : asec (mr h 18) = -9
      · rw [z] at a1 b1
        exact ⟨1, h1, h2, by simp [le_nl, -Int32.not_lt, eX6_better_0, eX6_better_1, eX6_better_4, eX6_better_5, eX6_better_6, eX6_better_9, eX6_better_10, eX6_better_12, eX6_better_15, eX6_better_16, eX6_better_17, eX6_better_20, eX6_better_21, eX6_better_24, eX6_better_27, eX6_better_30, eX6_better_31, eX6_better_32, eX6_better_35, eX6_better_36, eX6_better_37, eX6_better_38, eX6_better_41, eX6_better_42, eX6_better_45, eX6_better_48, eX6_better_49, eX6_better_50, eX6_better_52, eX6_better_55, eX6_better_56, eX6_better_57, eX6_better_60, eX6_better_61, eX6_better_64, eX6_better_65, R.s6, f1, a1, show lyC 1 = 0 from rfl, show rcv 1 = 0 from rfl], by simp [le_nl, -Int32.not_lt, eX7_better_0, eX7_better_1, eX7_better_2, eX7_better_3, eX7_better_6, eX7_better_9, eX7_better_10, eX7_better_12, eX7_better_15, eX7_better_16, eX7_better_17, eX7_better_20, eX7_better_23, eX7_better_24, eX7_better_25, eX7_better_28, eX7_better_29, eX7_better_30, eX7_better_31, eX7_better_32, eX7_better_35, eX7_better_38, eX7_better_39, eX7_better_40, eX7_better_43, eX7_better_44, eX7_better_45, eX7_better_48, eX7_better_49, eX7_better_52, eX7_better_53, m_isIn, m1', b1], R2⟩
      · have z' : ¬ asec (mr h 18) < 0 := fun y => z (an.mp y)
        by_cases c : anSec (mr h 18) (h 18 6) < asec (mr h 18)
        · exact ⟨1, h1, h2, by simp [le_nl, -Int32.not_lt, eX6_better_0, eX6_better_1, eX6_better_4, eX6_better_5, eX6_better_6, eX6_better_9, eX6_better_10, eX6_better_12, eX6_better_15, eX6_better_16, eX6_better_17, eX6_better_20, eX6_better_21, eX6_better_24, eX6_better_27, eX6_better_30, eX6_better_31, eX6_better_32, eX6_better_35, eX6_better_36, eX6_better_37, eX6_better_38, eX6_better_41, eX6_better_42, eX6_better_45, eX6_better_48, eX6_better_49, eX6_better_50, eX6_better_52, eX6_better_55, eX6_better_56, eX6_better_57, eX6_better_60, eX6_better_61, eX6_better_64, eX6_better_65, R.s6, f1, a1, z, c, show lyC 1 = 0 from rfl, show rcv 1 = 0 from rfl], by simp [le_nl, -Int32.not_lt, eX7_better_0, eX7_better_1, eX7_better_2, eX7_better_3, eX7_better_6, eX7_better_9, eX7_better_10, eX7_better_12, eX7_better_15, eX7_better_16, eX7_better_17, eX7_better_20, eX7_better_23, eX7_better_24, eX7_better_25, eX7_better_28, eX7_better_29, eX7_better_30, eX7_better_31, eX7_better_32, eX7_better_35, eX7_better_38, eX7_better_39, eX7_better_40, eX7_better_43, eX7_better_44, eX7_better_45, eX7_better_48, eX7_better_49, eX7_better_52, eX7_better_53, m_isIn, m1', b1, z', c], R2⟩
        · exact ⟨0, h1, h2, by simp [le_nl, -Int32.not_lt, eX6_better_0, eX6_better_1, eX6_better_4, eX6_better_5, eX6_better_6, eX6_better_9, eX6_better_10, eX6_better_12, eX6_better_15, eX6_better_16, eX6_better_17, eX6_better_20, eX6_better_21, eX6_better_24, eX6_better_27, eX6_better_30, eX6_better_31, eX6_better_32, eX6_better_35, eX6_better_36, eX6_better_37, eX6_better_38, eX6_better_41, eX6_better_42, eX6_better_45, eX6_better_48, eX6_better_49, eX6_better_50, eX6_better_52, eX6_better_55, eX6_better_56, eX6_better_57, eX6_better_60, eX6_better_61, eX6_better_64, eX6_better_65, R.s6, f1, a1, z, c, show lyC 1 = 0 from rfl, show rcv 1 = 0 from rfl], by simp [le_nl, -Int32.not_lt, eX7_better_0, eX7_better_1, eX7_better_2, eX7_better_3, eX7_better_6, eX7_better_9, eX7_better_10, eX7_better_12, eX7_better_15, eX7_better_16, eX7_better_17, eX7_better_20, eX7_better_23, eX7_better_24, eX7_better_25, eX7_better_28, eX7_better_29, eX7_better_30, eX7_better_31, eX7_better_32, eX7_better_35, eX7_better_38, eX7_better_39, eX7_better_40, eX7_better_43, eX7_better_44, eX7_better_45, eX7_better_48, eX7_better_49, eX7_better_52, eX7_better_53, m_isIn, m1', b1, z', c], R2⟩
  · have n0 : ¬ q = 0 := fun z => hq (Or.inl z)
    have n1 : ¬ q = 1 := fun z => hq (Or.inr z)
    have mi : ev mX7_isIn 0 [.int q, .int 0, .int 1] [] (st h 16 2 (h 16 2 + 1)) = some (some (.int 0), st h 16 2 (h 16 2 + 1)) := by
      rw [m_isIn]
      by_cases a : q < 0
      · rw [if_pos a]
      · rw [if_neg a]
        by_cases b : 1 < q
        · rw [if_pos b]
        · exact absurd (end_in.mp ⟨a, b⟩) hq
    exact rf_both R (k := 2) (w := -2) (by omega) (by simp [le_nl, -Int32.not_lt, eX6_better_0, eX6_better_1, eX6_better_4, eX6_better_5, eX6_better_6, eX6_better_9, eX6_better_10, eX6_better_12, eX6_better_15, eX6_better_16, eX6_better_17, eX6_better_20, eX6_better_21, eX6_better_24, eX6_better_27, eX6_better_30, eX6_better_31, eX6_better_32, eX6_better_35, eX6_better_36, eX6_better_37, eX6_better_38, eX6_better_41, eX6_better_42, eX6_better_45, eX6_better_48, eX6_better_49, eX6_better_50, eX6_better_52, eX6_better_55, eX6_better_56, eX6_better_57, eX6_better_60, eX6_better_61, eX6_better_64, eX6_better_65, n0, n1, f_refuse]) (by simp [le_nl, -Int32.not_lt, eX7_better_0, eX7_better_1, eX7_better_2, eX7_better_3, eX7_better_6, eX7_better_9, eX7_better_10, eX7_better_12, eX7_better_15, eX7_better_16, eX7_better_17, eX7_better_20, eX7_better_23, eX7_better_24, eX7_better_25, eX7_better_28, eX7_better_29, eX7_better_30, eX7_better_31, eX7_better_32, eX7_better_35, eX7_better_38, eX7_better_39, eX7_better_40, eX7_better_43, eX7_better_44, eX7_better_45, eX7_better_48, eX7_better_49, eX7_better_52, eX7_better_53, mi, m_no])
end CALLS7

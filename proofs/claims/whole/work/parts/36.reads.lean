section READS
variable {h h' : Sto} {w : Nat → Nat} {n p k : Nat}
/-- nothing but a number and the place -/
def Fk (k : Nat) (h h' : Sto) : Prop := ∀ a x, ¬ (a = 26 ∧ x = k) → ¬ (a = 17 ∧ x = 12) → h' a x = h a x
def Fr (h h' : Sto) : Prop := ∀ a x, a ≠ 26 → ¬ (a = 17 ∧ x = 12) → h' a x = h a x
theorem Fk.fr (f : Fk k h h') : Fr h h' := fun a x z1 z2 => f a x (fun y => z1 y.1) z2
theorem Fr.trans {h'' : Sto} (f : Fr h h') (g : Fr h' h'') : Fr h h'' := fun a x z1 z2 => by rw [g a x z1 z2, f a x z1 z2]
theorem Fk.trans {h'' : Sto} (f : Fk k h h') (g : Fk k h' h'') : Fk k h h'' := fun a x z1 z2 => by rw [g a x z1 z2, f a x z1 z2]
theorem Fr.refl : Fr h h := fun _ _ _ _ => rfl
theorem LM.fr (L : LM h n w) (f : Fr h h') : LM h' n w := by
  obtain ⟨l1, l2, l3⟩ := L
  exact ⟨l1, by rw [f 17 8 (by omega) (by omega)]; exact l2, fun i hi => by rw [f 22 i (by omega) (by omega)]; exact l3 i hi⟩
theorem Fr.pl {v : Int32} : Fr h (st h 17 12 v) := fun a x z1 z2 => by rw [st_at, if_neg z2]
theorem Fk.pl {v : Int32} : Fk k h (st h 17 12 v) := fun a x z1 z2 => by rw [st_at, if_neg z2]
theorem Fk.nb {v : Int32} : Fk k h (st h 26 k v) := fun a x z1 z2 => by rw [st_at, if_neg z1]
theorem m_here (L : LM h n w) (hp : h 17 12 = nI p) (hp2 : p < 1000) : ev mX7_here 0 [.ref 17] [] h = some (some (.int (if p < n then nI (w p) else -1)), h) := by
  obtain ⟨l1, l2, l3⟩ := L
  by_cases c : p < n
  · have e1 : ¬ nI p < 0 := nI_pos (by omega)
    have e2 : ¬ nI n ≤ nI p := nI_ge c (by omega)
    have e4 : (nI p).toNatClampNeg = p := nI_clamp (by omega)
    have e5 : ¬ 96 ≤ p := by omega
    simp [eX7_here_0, eX7_here_1, eX7_here_4, eX7_here_5, eX7_here_8, eX7_here_11, eX7_here_12, eX7_here_15, eX7_here_16, eX7_here_19, eX7_here_20, eX7_here_23, eX7_here_24, hp, l2, e1, e2, e4, e5, c, (l3 p c).1, show lyA 22 = some 96 from rfl]
  · have e2 : nI n ≤ nI p := nI_le (by omega) (by omega)
    simp [eX7_here_0, eX7_here_1, eX7_here_4, eX7_here_5, eX7_here_8, eX7_here_11, eX7_here_12, eX7_here_15, eX7_here_16, eX7_here_19, eX7_here_20, eX7_here_23, eX7_here_24, hp, l2, e2, c]
theorem tk_dig {q : Nat} (t : Tk w n 35 q) (hw : w q < 256) : 48 ≤ w q ∧ w q ≤ 57 ∧ ¬ nI (w q) < 48 ∧ ¬ 57 < nI (w q) := by
  have t2 := t.2
  unfold tsB at t2
  rw [if_pos rfl] at t2
  have t2 := of_decide_eq_true t2
  have a := t2.1
  have b := t2.2
  rw [t_lt, t_nI (by omega)] at a b
  have a : ¬ (w q : Int) < 48 := a
  have b : ¬ (57 : Int) < w q := b
  exact ⟨by omega, by omega, t2.1, t2.2⟩
theorem tk_nodig {q : Nat} (t : ¬ Tk w n 35 q) (hq : q < n) : nI (w q) < 48 ∨ 57 < nI (w q) := by
  by_cases a : nI (w q) < 48
  · exact Or.inl a
  · by_cases b : 57 < nI (w q)
    · exact Or.inr b
    · exact absurd ⟨hq, by unfold tsB; rw [if_pos rfl]; exact decide_eq_true ⟨a, b⟩⟩ t
def num1 (w : Nat → Nat) (p : Nat) : Nat := w p - 48
def num2 (w : Nat → Nat) (p : Nat) : Nat := 10 * (w p - 48) + (w (p + 1) - 48)
theorem num_step {x c : Nat} (hc : 48 ≤ c) : (10 : Int32) * nI x + nI c - 48 = nI (10 * x + (c - 48)) := by
  rw [show (10 : Int32) = nI 10 from rfl, pk_mul, nI_add, show (48 : Int32) = nI 48 from rfl, pk_sub (by omega)]
  congr 1
  omega
/-- one digit more, or none -/
theorem rn_ok (hk : k < 3) (L : LM h n w) (hp : h 17 12 = nI p) (t : Tk w n 35 p) {D j x : Nat} (hj : j < D) (hD : D < 10) (hx : h 26 k = nI x) : ev mX7_readsNumber 9 [.ref 17, .int (nI k), .int (nI D), .int (nI j)] [] h = ev mX7_readsNumber 9 [.ref 17, .int (nI k), .int (nI D), .int (nI (j + 1))] [] (st (st h 26 k (nI (10 * x + (w p - 48)))) 17 12 (nI (p + 1))) := by
  have hw := (L.2.2 p t.1).2
  obtain ⟨d1, d2, d3, d4⟩ := tk_dig t hw
  have e0 : ¬ nI D ≤ nI j := nI_ge hj (by omega)
  have l1 := L.1
  have tl := t.1
  have e1 : ¬ nI k < 0 := nI_pos (by omega)
  have e2 : (nI k).toNatClampNeg = k := nI_clamp (by omega)
  have e3 : ¬ 3 ≤ k := by omega
  have mh := m_here L hp (by omega)
  rw [if_pos t.1] at mh
  have ns := num_step (x := x) d1
  rw [eX7_readsNumber_9]
  simp [eX7_readsNumber_0, eX7_readsNumber_1, eX7_readsNumber_4, eX7_readsNumber_5, eX7_readsNumber_6, eX7_readsNumber_7, eX7_readsNumber_8, eX7_readsNumber_10, eX7_readsNumber_11, eX7_readsNumber_14, eX7_readsNumber_15, eX7_readsNumber_18, eX7_readsNumber_20, eX7_readsNumber_22, eX7_readsNumber_25, eX7_readsNumber_28, eX7_readsNumber_29, eX7_readsNumber_30, eX7_readsNumber_31, eX7_readsNumber_34, eX7_readsNumber_35, eX7_readsNumber_37, eX7_readsNumber_38, eX7_readsNumber_41, eX7_readsNumber_42, eX7_readsNumber_43, eX7_readsNumber_44, eX7_readsNumber_45, eX7_readsNumber_48, eX7_readsNumber_49, eX7_readsNumber_51, eX7_readsNumber_52, eX7_readsNumber_53, eX7_readsNumber_54, eX7_readsNumber_55, eX7_readsNumber_58, eX7_readsNumber_59, eX7_readsNumber_60, eX7_readsNumber_63, eX7_readsNumber_66, eX7_readsNumber_69, eX7_readsNumber_70, e0, mh, m_isIn, d3, d4, e1, e2, e3, hx, ns, st_at, hp, nI_1, show lyA 26 = some 3 from rfl]
theorem rn_no (L : LM h n w) (hp : h 17 12 = nI p) (hp2 : p ≤ n) (t : ¬ Tk w n 35 p) {D j : Nat} (hj : j < D) (hD : D < 10) : ev mX7_readsNumber 9 [.ref 17, .int (nI k), .int (nI D), .int (nI j)] [] h = some (some (.int 0), h) := by
  have e0 : ¬ nI D ≤ nI j := nI_ge hj (by omega)
  have l1 := L.1
  have mh := m_here L hp (by omega)
  rw [eX7_readsNumber_9]
  by_cases c : p < n
  · rw [if_pos c] at mh
    have tn := tk_nodig t c
    by_cases a : nI (w p) < 48
    · simp [eX7_readsNumber_0, eX7_readsNumber_1, eX7_readsNumber_4, eX7_readsNumber_5, eX7_readsNumber_6, eX7_readsNumber_7, eX7_readsNumber_8, eX7_readsNumber_10, eX7_readsNumber_11, eX7_readsNumber_14, eX7_readsNumber_15, eX7_readsNumber_18, eX7_readsNumber_20, eX7_readsNumber_22, eX7_readsNumber_25, eX7_readsNumber_28, eX7_readsNumber_29, eX7_readsNumber_30, eX7_readsNumber_31, eX7_readsNumber_34, eX7_readsNumber_35, eX7_readsNumber_37, eX7_readsNumber_38, eX7_readsNumber_41, eX7_readsNumber_42, eX7_readsNumber_43, eX7_readsNumber_44, eX7_readsNumber_45, eX7_readsNumber_48, eX7_readsNumber_49, eX7_readsNumber_51, eX7_readsNumber_52, eX7_readsNumber_53, eX7_readsNumber_54, eX7_readsNumber_55, eX7_readsNumber_58, eX7_readsNumber_59, eX7_readsNumber_60, eX7_readsNumber_63, eX7_readsNumber_66, eX7_readsNumber_69, eX7_readsNumber_70, e0, mh, m_isIn, a]
    · have b := tn.resolve_left a
      simp [eX7_readsNumber_0, eX7_readsNumber_1, eX7_readsNumber_4, eX7_readsNumber_5, eX7_readsNumber_6, eX7_readsNumber_7, eX7_readsNumber_8, eX7_readsNumber_10, eX7_readsNumber_11, eX7_readsNumber_14, eX7_readsNumber_15, eX7_readsNumber_18, eX7_readsNumber_20, eX7_readsNumber_22, eX7_readsNumber_25, eX7_readsNumber_28, eX7_readsNumber_29, eX7_readsNumber_30, eX7_readsNumber_31, eX7_readsNumber_34, eX7_readsNumber_35, eX7_readsNumber_37, eX7_readsNumber_38, eX7_readsNumber_41, eX7_readsNumber_42, eX7_readsNumber_43, eX7_readsNumber_44, eX7_readsNumber_45, eX7_readsNumber_48, eX7_readsNumber_49, eX7_readsNumber_51, eX7_readsNumber_52, eX7_readsNumber_53, eX7_readsNumber_54, eX7_readsNumber_55, eX7_readsNumber_58, eX7_readsNumber_59, eX7_readsNumber_60, eX7_readsNumber_63, eX7_readsNumber_66, eX7_readsNumber_69, eX7_readsNumber_70, e0, mh, m_isIn, a, b]
  · rw [if_neg c] at mh
    have m1 : (-1 : Int32) < 48 := by decide
    simp [eX7_readsNumber_0, eX7_readsNumber_1, eX7_readsNumber_4, eX7_readsNumber_5, eX7_readsNumber_6, eX7_readsNumber_7, eX7_readsNumber_8, eX7_readsNumber_10, eX7_readsNumber_11, eX7_readsNumber_14, eX7_readsNumber_15, eX7_readsNumber_18, eX7_readsNumber_20, eX7_readsNumber_22, eX7_readsNumber_25, eX7_readsNumber_28, eX7_readsNumber_29, eX7_readsNumber_30, eX7_readsNumber_31, eX7_readsNumber_34, eX7_readsNumber_35, eX7_readsNumber_37, eX7_readsNumber_38, eX7_readsNumber_41, eX7_readsNumber_42, eX7_readsNumber_43, eX7_readsNumber_44, eX7_readsNumber_45, eX7_readsNumber_48, eX7_readsNumber_49, eX7_readsNumber_51, eX7_readsNumber_52, eX7_readsNumber_53, eX7_readsNumber_54, eX7_readsNumber_55, eX7_readsNumber_58, eX7_readsNumber_59, eX7_readsNumber_60, eX7_readsNumber_63, eX7_readsNumber_66, eX7_readsNumber_69, eX7_readsNumber_70, e0, mh, m_isIn, m1]
theorem rn_end {D : Nat} : ev mX7_readsNumber 9 [.ref 17, .int (nI k), .int (nI D), .int (nI D)] [] h = some (some (.int 1), h) := by
  rw [eX7_readsNumber_9]
  simp [eX7_readsNumber_0, eX7_readsNumber_1, eX7_readsNumber_4, eX7_readsNumber_5, eX7_readsNumber_6, eX7_readsNumber_7, eX7_readsNumber_8, eX7_readsNumber_10, eX7_readsNumber_11, eX7_readsNumber_14, eX7_readsNumber_15, eX7_readsNumber_18, eX7_readsNumber_20, eX7_readsNumber_22, eX7_readsNumber_25, eX7_readsNumber_28, eX7_readsNumber_29, eX7_readsNumber_30, eX7_readsNumber_31, eX7_readsNumber_34, eX7_readsNumber_35, eX7_readsNumber_37, eX7_readsNumber_38, eX7_readsNumber_41, eX7_readsNumber_42, eX7_readsNumber_43, eX7_readsNumber_44, eX7_readsNumber_45, eX7_readsNumber_48, eX7_readsNumber_49, eX7_readsNumber_51, eX7_readsNumber_52, eX7_readsNumber_53, eX7_readsNumber_54, eX7_readsNumber_55, eX7_readsNumber_58, eX7_readsNumber_59, eX7_readsNumber_60, eX7_readsNumber_63, eX7_readsNumber_66, eX7_readsNumber_69, eX7_readsNumber_70, Int32.le_refl]
theorem rn_start (hk : k < 3) {D : Int32} : ev mX7_readsNumber 0 [.ref 17, .int (nI k), .int D, .null] [] h = ev mX7_readsNumber 9 [.ref 17, .int (nI k), .int D, .int (nI 0)] [] (st h 26 k 0) := by
  have e1 : ¬ nI k < 0 := nI_pos (by omega)
  have e2 : (nI k).toNatClampNeg = k := nI_clamp (by omega)
  have e3 : ¬ 3 ≤ k := by omega
  simp [eX7_readsNumber_0, eX7_readsNumber_1, eX7_readsNumber_4, eX7_readsNumber_5, eX7_readsNumber_6, eX7_readsNumber_7, eX7_readsNumber_8, eX7_readsNumber_10, eX7_readsNumber_11, eX7_readsNumber_14, eX7_readsNumber_15, eX7_readsNumber_18, eX7_readsNumber_20, eX7_readsNumber_22, eX7_readsNumber_25, eX7_readsNumber_28, eX7_readsNumber_29, eX7_readsNumber_30, eX7_readsNumber_31, eX7_readsNumber_34, eX7_readsNumber_35, eX7_readsNumber_37, eX7_readsNumber_38, eX7_readsNumber_41, eX7_readsNumber_42, eX7_readsNumber_43, eX7_readsNumber_44, eX7_readsNumber_45, eX7_readsNumber_48, eX7_readsNumber_49, eX7_readsNumber_51, eX7_readsNumber_52, eX7_readsNumber_53, eX7_readsNumber_54, eX7_readsNumber_55, eX7_readsNumber_58, eX7_readsNumber_59, eX7_readsNumber_60, eX7_readsNumber_63, eX7_readsNumber_66, eX7_readsNumber_69, eX7_readsNumber_70, e1, e2, e3, nI_0, show lyA 26 = some 3 from rfl]
/-- a number of one digit -/
theorem m_rn1 (hk : k < 3) (L : LM h n w) (hp : h 17 12 = nI p) (hp2 : p ≤ n) : ∃ h' : Sto, ev mX7_readsNumber 0 [.ref 17, .int (nI k), .int 1, .null] [] h = some (some (.int (if Tk w n 35 p then 1 else 0)), h') ∧ h' 17 12 = nI (if Tk w n 35 p then p + 1 else p) ∧ (Tk w n 35 p → h' 26 k = nI (num1 w p)) ∧ Fk k h h' := by
  have L1 : LM (st h 26 k 0) n w := L.fr Fk.nb.fr
  have hp1 : st h 26 k 0 17 12 = nI p := by rw [st_cell (by omega)]; exact hp
  have h0 : st h 26 k 0 26 k = nI 0 := by rw [st_at, if_pos ⟨rfl, rfl⟩]; rfl
  by_cases t : Tk w n 35 p
  · rw [if_pos t, if_pos t]
    refine ⟨st (st (st h 26 k 0) 26 k (nI (10 * 0 + (w p - 48)))) 17 12 (nI (p + 1)), ?_, ?_, fun _ => ?_, Fk.nb.trans (Fk.nb.trans Fk.pl)⟩
    · rw [rn_start hk, show (1 : Int32) = nI 1 from rfl, rn_ok hk L1 hp1 t (by omega) (by omega) h0, rn_end]
      rfl
    · rw [st_at, if_pos ⟨rfl, rfl⟩]
    · rw [st_cell (by omega), st_at, if_pos ⟨rfl, rfl⟩]
      unfold num1
      rw [Nat.mul_zero, Nat.zero_add]
  · rw [if_neg t, if_neg t]
    exact ⟨st h 26 k 0, by rw [rn_start hk, show (1 : Int32) = nI 1 from rfl, rn_no L1 hp1 hp2 t (by omega) (by omega)], hp1, fun z => absurd z t, Fk.nb⟩
/-- of two -/
theorem m_rn2 (hk : k < 3) (L : LM h n w) (hp : h 17 12 = nI p) (hp2 : p ≤ n) : ∃ h' : Sto, ev mX7_readsNumber 0 [.ref 17, .int (nI k), .int 2, .null] [] h = some (some (.int (if Tk w n 35 p then (if Tk w n 35 (p + 1) then 1 else 0) else 0)), h') ∧ h' 17 12 = nI (if Tk w n 35 p then (if Tk w n 35 (p + 1) then p + 1 + 1 else p + 1) else p) ∧ (Tk w n 35 p → Tk w n 35 (p + 1) → h' 26 k = nI (num2 w p)) ∧ Fk k h h' := by
  have L1 : LM (st h 26 k 0) n w := L.fr Fk.nb.fr
  have hp1 : st h 26 k 0 17 12 = nI p := by rw [st_cell (by omega)]; exact hp
  have h0 : st h 26 k 0 26 k = nI 0 := by rw [st_at, if_pos ⟨rfl, rfl⟩]; rfl
  by_cases t : Tk w n 35 p
  · rw [if_pos t, if_pos t]
    obtain ⟨g, hg⟩ : ∃ g, st (st (st h 26 k 0) 26 k (nI (10 * 0 + (w p - 48)))) 17 12 (nI (p + 1)) = g := ⟨_, rfl⟩
    have fg : Fk k h g := by rw [← hg]; exact Fk.nb.trans (Fk.nb.trans Fk.pl)
    have L2 : LM g n w := L.fr fg.fr
    have hp3 : g 17 12 = nI (p + 1) := by rw [← hg, st_at, if_pos ⟨rfl, rfl⟩]
    have h2 : g 26 k = nI (w p - 48) := by
      rw [← hg, st_cell (by omega), st_at, if_pos ⟨rfl, rfl⟩, Nat.mul_zero, Nat.zero_add]
    have go : ev mX7_readsNumber 0 [.ref 17, .int (nI k), .int 2, .null] [] h = ev mX7_readsNumber 9 [.ref 17, .int (nI k), .int (nI 2), .int (nI 1)] [] g := by
      rw [rn_start hk, show (2 : Int32) = nI 2 from rfl, rn_ok hk L1 hp1 t (by omega) (by omega) h0, hg]
    rw [go]
    by_cases t2 : Tk w n 35 (p + 1)
    · rw [if_pos t2, if_pos t2]
      refine ⟨st (st g 26 k (nI (10 * (w p - 48) + (w (p + 1) - 48)))) 17 12 (nI (p + 1 + 1)), ?_, ?_, fun _ _ => ?_, fg.trans (Fk.nb.trans Fk.pl)⟩
      · rw [rn_ok hk L2 hp3 t2 (by omega) (by omega) h2, rn_end]
      · rw [st_at, if_pos ⟨rfl, rfl⟩]
      · rw [st_cell (by omega), st_at, if_pos ⟨rfl, rfl⟩]
        rfl
    · rw [if_neg t2, if_neg t2]
      have tl := t.1
      exact ⟨g, rn_no L2 hp3 (by omega) t2 (by omega) (by omega), hp3, fun _ z => absurd z t2, fg⟩
  · rw [if_neg t, if_neg t]
    exact ⟨st h 26 k 0, by rw [rn_start hk, show (2 : Int32) = nI 2 from rfl, rn_no L1 hp1 hp2 t (by omega) (by omega)], hp1, fun z => absurd z t, Fk.nb⟩
theorem m_kindBy {x : Int32} : ev mX7_kindBy 0 [.int x] [] h = some (some (.int (kdN x)), h) := by
  unfold kdN
  rw [eX7_kindBy_0, eX7_kindBy_1]
  repeat' split
  all_goals simp_all [eX7_kindBy_60, eX7_kindBy_61, eX7_kindBy_62, eX7_kindBy_63, eX7_kindBy_64, eX7_kindBy_65, eX7_kindBy_66, eX7_kindBy_67, eX7_kindBy_68, eX7_kindBy_69, eX7_kindBy_70, eX7_kindBy_71, eX7_kindBy_72, eX7_kindBy_74]
theorem kd_in (x : Int32) : kdN x = -9 ∨ (0 ≤ (kdN x).toInt ∧ (kdN x).toInt ≤ 5) := by
  unfold kdN
  repeat' split
  all_goals first | exact Or.inl rfl | exact Or.inr (by decide)
theorem tk_kind {q : Nat} : Tk w n 107 q ↔ q < n ∧ ¬ kdN (nI (w q)) = -9 := by
  unfold Tk tsB
  rw [if_neg (by decide), if_pos rfl, decide_eq_true_iff]
theorem m_rk (L : LM h n w) (hp : h 17 12 = nI p) (hp2 : p ≤ n) : ∃ h' : Sto, ev mX7_readsKind 0 [.ref 17] [] h = some (some (.int (if Tk w n 107 p then 1 else 0)), h') ∧ h' 17 12 = nI (if Tk w n 107 p then p + 1 else p) ∧ (Tk w n 107 p → h' 26 0 = kdN (nI (w p))) ∧ Fk 0 h h' := by
  have l1 := L.1
  have mh := m_here L hp (by omega)
  by_cases c : p < n
  · rw [if_pos c] at mh
    have ki := kd_in (nI (w p))
    by_cases kd : kdN (nI (w p)) = -9
    · have t : ¬ Tk w n 107 p := fun z => (tk_kind.mp z).2 kd
      rw [if_neg t, if_neg t]
      refine ⟨st (st h 26 0 (-9)) 17 12 (nI p), ?_, ?_, fun z => absurd z t, Fk.nb.trans Fk.pl⟩
      · simp [eX7_readsKind_0, eX7_readsKind_1, eX7_readsKind_4, eX7_readsKind_5, eX7_readsKind_6, eX7_readsKind_9, eX7_readsKind_12, eX7_readsKind_13, eX7_readsKind_14, eX7_readsKind_15, eX7_readsKind_18, eX7_readsKind_19, eX7_readsKind_22, eX7_readsKind_23, eX7_readsKind_24, eX7_readsKind_27, eX7_readsKind_28, eX7_readsKind_31, eX7_readsKind_32, eX7_readsKind_33, eX7_readsKind_36, eX7_readsKind_37, eX7_readsKind_40, eX7_readsKind_41, eX7_readsKind_42, eX7_readsKind_45, eX7_readsKind_46, eX7_readsKind_49, eX7_readsKind_50, mh, m_kindBy, kd, st_at, hp, show lyA 26 = some 3 from rfl]
      · rw [st_at, if_pos ⟨rfl, rfl⟩]
    · have t : Tk w n 107 p := tk_kind.mpr ⟨c, kd⟩
      have k0 : ¬ kdN (nI (w p)) < 0 := by
        have := ki.resolve_left kd
        rw [t_lt]
        show ¬ _ < (0 : Int)
        omega
      have k1 : 0 ≤ kdN (nI (w p)) := Int32.not_lt.mp k0
      rw [if_pos t, if_pos t]
      refine ⟨st (st h 26 0 (kdN (nI (w p)))) 17 12 (nI (p + 1)), ?_, ?_, fun _ => ?_, Fk.nb.trans Fk.pl⟩
      · simp [eX7_readsKind_0, eX7_readsKind_1, eX7_readsKind_4, eX7_readsKind_5, eX7_readsKind_6, eX7_readsKind_9, eX7_readsKind_12, eX7_readsKind_13, eX7_readsKind_14, eX7_readsKind_15, eX7_readsKind_18, eX7_readsKind_19, eX7_readsKind_22, eX7_readsKind_23, eX7_readsKind_24, eX7_readsKind_27, eX7_readsKind_28, eX7_readsKind_31, eX7_readsKind_32, eX7_readsKind_33, eX7_readsKind_36, eX7_readsKind_37, eX7_readsKind_40, eX7_readsKind_41, eX7_readsKind_42, eX7_readsKind_45, eX7_readsKind_46, eX7_readsKind_49, eX7_readsKind_50, mh, m_kindBy, k0, k1, st_at, hp, nI_1, show lyA 26 = some 3 from rfl]
      · rw [st_at, if_pos ⟨rfl, rfl⟩]
      · rw [st_cell (by omega), st_at, if_pos ⟨rfl, rfl⟩]
  · rw [if_neg c] at mh
    have t : ¬ Tk w n 107 p := fun z => c z.1
    have kd : kdN (-1) = -9 := by decide
    rw [if_neg t, if_neg t]
    refine ⟨st (st h 26 0 (-9)) 17 12 (nI p), ?_, ?_, fun z => absurd z t, Fk.nb.trans Fk.pl⟩
    · simp [eX7_readsKind_0, eX7_readsKind_1, eX7_readsKind_4, eX7_readsKind_5, eX7_readsKind_6, eX7_readsKind_9, eX7_readsKind_12, eX7_readsKind_13, eX7_readsKind_14, eX7_readsKind_15, eX7_readsKind_18, eX7_readsKind_19, eX7_readsKind_22, eX7_readsKind_23, eX7_readsKind_24, eX7_readsKind_27, eX7_readsKind_28, eX7_readsKind_31, eX7_readsKind_32, eX7_readsKind_33, eX7_readsKind_36, eX7_readsKind_37, eX7_readsKind_40, eX7_readsKind_41, eX7_readsKind_42, eX7_readsKind_45, eX7_readsKind_46, eX7_readsKind_49, eX7_readsKind_50, mh, m_kindBy, kd, st_at, hp, show lyA 26 = some 3 from rfl]
    · rw [st_at, if_pos ⟨rfl, rfl⟩]
theorem tk_sign {q : Nat} : Tk w n 43 q ↔ q < n ∧ (nI (w q) = 43 ∨ nI (w q) = 45) := by
  unfold Tk tsB
  rw [if_neg (by decide), if_neg (by decide), if_pos rfl, decide_eq_true_iff]
theorem tk_semi {q : Nat} : Tk w n 59 q ↔ q < n ∧ nI (w q) = 59 := by
  unfold Tk tsB
  rw [if_neg (by decide), if_neg (by decide), if_neg (by decide), decide_eq_true_iff]
/-- with its sign -/
def sgv (w : Nat → Nat) (p : Nat) : Int32 := if nI (w p) = 45 then -nI (num2 w (p + 1)) else nI (num2 w (p + 1))
theorem m_rs (L : LM h n w) (hp : h 17 12 = nI p) (hp2 : p ≤ n) : ∃ h' : Sto, ev mX7_readsSigned 0 [.ref 17, .null, .null] [] h = some (some (.int (if Tk w n 43 p then (if Tk w n 35 (p + 1) then (if Tk w n 35 (p + 1 + 1) then 1 else 0) else 0) else 0)), h') ∧ h' 17 12 = nI (if Tk w n 43 p then (if Tk w n 35 (p + 1) then (if Tk w n 35 (p + 1 + 1) then p + 1 + 1 + 1 else p + 1 + 1) else p + 1) else p) ∧ (Tk w n 43 p → Tk w n 35 (p + 1) → Tk w n 35 (p + 1 + 1) → h' 26 1 = sgv w p) ∧ Fk 1 h h' := by
  have l1 := L.1
  have mh := m_here L hp (by omega)
  by_cases c : p < n
  · rw [if_pos c] at mh
    by_cases s : nI (w p) = 43 ∨ nI (w p) = 45
    · have t : Tk w n 43 p := tk_sign.mpr ⟨c, s⟩
      rw [if_pos t, if_pos t]
      have L1 : LM (st h 17 12 (nI (p + 1))) n w := L.fr Fr.pl
      obtain ⟨g, r1, r2, r3, r4⟩ := m_rn2 (k := 1) (by omega) L1 (p := p + 1) (by rw [st_at, if_pos ⟨rfl, rfl⟩]) (by omega)
      rw [show nI 1 = 1 from rfl] at r1
      have fg : Fk 1 h g := Fk.pl.trans r4
      generalize hb : (if Tk w n 35 (p + 1) then (if Tk w n 35 (p + 1 + 1) then (1 : Int32) else 0) else 0) = b at *
      have b01 : b = 0 ∨ b = 1 := by
        rw [← hb]
        repeat' split
        all_goals decide
      by_cases m : nI (w p) = 45
      · refine ⟨st g 26 1 (-g 26 1), ?_, ?_, fun _ y1 y2 => ?_, fg.trans Fk.nb⟩
        · simp [eX7_readsSigned_0, eX7_readsSigned_1, eX7_readsSigned_4, eX7_readsSigned_5, eX7_readsSigned_6, eX7_readsSigned_8, eX7_readsSigned_11, eX7_readsSigned_12, eX7_readsSigned_14, eX7_readsSigned_17, eX7_readsSigned_18, eX7_readsSigned_19, eX7_readsSigned_20, eX7_readsSigned_21, eX7_readsSigned_24, eX7_readsSigned_25, eX7_readsSigned_26, eX7_readsSigned_29, eX7_readsSigned_30, eX7_readsSigned_31, eX7_readsSigned_32, eX7_readsSigned_35, eX7_readsSigned_36, eX7_readsSigned_37, eX7_readsSigned_40, eX7_readsSigned_41, eX7_readsSigned_42, eX7_readsSigned_44, eX7_readsSigned_47, eX7_readsSigned_48, eX7_readsSigned_51, eX7_readsSigned_52, eX7_readsSigned_53, eX7_readsSigned_54, eX7_readsSigned_57, eX7_readsSigned_58, eX7_readsSigned_61, eX7_readsSigned_62, eX7_readsSigned_63, eX7_readsSigned_64, eX7_readsSigned_65, mh, m, hp, nI_1, r1, b01, show lyA 26 = some 3 from rfl]
        · rw [st_cell (by omega)]; exact r2
        · rw [st_at, if_pos ⟨rfl, rfl⟩, r3 y1 y2]
          unfold sgv
          rw [if_pos m]
      · have m2 : nI (w p) = 43 := s.resolve_right m
        refine ⟨st g 26 1 (g 26 1), ?_, ?_, fun _ y1 y2 => ?_, fg.trans Fk.nb⟩
        · simp [eX7_readsSigned_0, eX7_readsSigned_1, eX7_readsSigned_4, eX7_readsSigned_5, eX7_readsSigned_6, eX7_readsSigned_8, eX7_readsSigned_11, eX7_readsSigned_12, eX7_readsSigned_14, eX7_readsSigned_17, eX7_readsSigned_18, eX7_readsSigned_19, eX7_readsSigned_20, eX7_readsSigned_21, eX7_readsSigned_24, eX7_readsSigned_25, eX7_readsSigned_26, eX7_readsSigned_29, eX7_readsSigned_30, eX7_readsSigned_31, eX7_readsSigned_32, eX7_readsSigned_35, eX7_readsSigned_36, eX7_readsSigned_37, eX7_readsSigned_40, eX7_readsSigned_41, eX7_readsSigned_42, eX7_readsSigned_44, eX7_readsSigned_47, eX7_readsSigned_48, eX7_readsSigned_51, eX7_readsSigned_52, eX7_readsSigned_53, eX7_readsSigned_54, eX7_readsSigned_57, eX7_readsSigned_58, eX7_readsSigned_61, eX7_readsSigned_62, eX7_readsSigned_63, eX7_readsSigned_64, eX7_readsSigned_65, mh, m2, hp, nI_1, r1, b01, show lyA 26 = some 3 from rfl]
        · rw [st_cell (by omega)]; exact r2
        · rw [st_at, if_pos ⟨rfl, rfl⟩, r3 y1 y2]
          unfold sgv
          rw [if_neg m]
    · have t : ¬ Tk w n 43 p := fun z => s (tk_sign.mp z).2
      rw [if_neg t, if_neg t]
      have s1 : ¬ nI (w p) = 43 := fun z => s (Or.inl z)
      have s2 : ¬ nI (w p) = 45 := fun z => s (Or.inr z)
      exact ⟨h, by simp [eX7_readsSigned_0, eX7_readsSigned_1, eX7_readsSigned_4, eX7_readsSigned_5, eX7_readsSigned_6, eX7_readsSigned_8, eX7_readsSigned_11, eX7_readsSigned_12, eX7_readsSigned_14, eX7_readsSigned_17, eX7_readsSigned_18, eX7_readsSigned_19, eX7_readsSigned_20, eX7_readsSigned_21, eX7_readsSigned_24, eX7_readsSigned_25, eX7_readsSigned_26, eX7_readsSigned_29, eX7_readsSigned_30, eX7_readsSigned_31, eX7_readsSigned_32, eX7_readsSigned_35, eX7_readsSigned_36, eX7_readsSigned_37, eX7_readsSigned_40, eX7_readsSigned_41, eX7_readsSigned_42, eX7_readsSigned_44, eX7_readsSigned_47, eX7_readsSigned_48, eX7_readsSigned_51, eX7_readsSigned_52, eX7_readsSigned_53, eX7_readsSigned_54, eX7_readsSigned_57, eX7_readsSigned_58, eX7_readsSigned_61, eX7_readsSigned_62, eX7_readsSigned_63, eX7_readsSigned_64, eX7_readsSigned_65, mh, s1, s2], hp, fun z => absurd z t, fun _ _ _ _ => rfl⟩
  · rw [if_neg c] at mh
    have t : ¬ Tk w n 43 p := fun z => c z.1
    rw [if_neg t, if_neg t]
    have s1 : ¬ (-1 : Int32) = 43 := by decide
    have s2 : ¬ (-1 : Int32) = 45 := by decide
    exact ⟨h, by simp [eX7_readsSigned_0, eX7_readsSigned_1, eX7_readsSigned_4, eX7_readsSigned_5, eX7_readsSigned_6, eX7_readsSigned_8, eX7_readsSigned_11, eX7_readsSigned_12, eX7_readsSigned_14, eX7_readsSigned_17, eX7_readsSigned_18, eX7_readsSigned_19, eX7_readsSigned_20, eX7_readsSigned_21, eX7_readsSigned_24, eX7_readsSigned_25, eX7_readsSigned_26, eX7_readsSigned_29, eX7_readsSigned_30, eX7_readsSigned_31, eX7_readsSigned_32, eX7_readsSigned_35, eX7_readsSigned_36, eX7_readsSigned_37, eX7_readsSigned_40, eX7_readsSigned_41, eX7_readsSigned_42, eX7_readsSigned_44, eX7_readsSigned_47, eX7_readsSigned_48, eX7_readsSigned_51, eX7_readsSigned_52, eX7_readsSigned_53, eX7_readsSigned_54, eX7_readsSigned_57, eX7_readsSigned_58, eX7_readsSigned_61, eX7_readsSigned_62, eX7_readsSigned_63, eX7_readsSigned_64, eX7_readsSigned_65, mh, s1, s2], hp, fun z => absurd z t, fun _ _ _ _ => rfl⟩
/-- the ';' -/
theorem m_tail (L : LM h n w) (hp : h 17 12 = nI p) (hp2 : p ≤ n) {c : Value} : ∃ h' : Sto, ev mX7_readsStatement 229 [.ref 17, c, .int 1] [] h = some (some (.int (if Tk w n 59 p then 1 else 0)), h') ∧ h' 17 12 = nI (if Tk w n 59 p then p + 1 else p) ∧ (∀ x, h' 26 x = h 26 x) ∧ Fr h h' := by
  have l1 := L.1
  have mh := m_here L hp (by omega)
  by_cases t : Tk w n 59 p
  · have s := tk_semi.mp t
    rw [if_pos s.1, s.2] at mh
    rw [if_pos t, if_pos t]
    exact ⟨st h 17 12 (nI (p + 1)), by simp [eX7_readsStatement_1, eX7_readsStatement_4, eX7_readsStatement_5, eX7_readsStatement_6, eX7_readsStatement_7, eX7_readsStatement_8, eX7_readsStatement_9, eX7_readsStatement_12, eX7_readsStatement_13, eX7_readsStatement_14, eX7_readsStatement_108, eX7_readsStatement_109, eX7_readsStatement_110, eX7_readsStatement_111, eX7_readsStatement_114, eX7_readsStatement_115, eX7_readsStatement_118, eX7_readsStatement_119, eX7_readsStatement_122, eX7_readsStatement_125, eX7_readsStatement_126, eX7_readsStatement_127, eX7_readsStatement_128, eX7_readsStatement_131, eX7_readsStatement_134, eX7_readsStatement_135, eX7_readsStatement_136, eX7_readsStatement_137, eX7_readsStatement_140, eX7_readsStatement_143, eX7_readsStatement_144, eX7_readsStatement_147, eX7_readsStatement_148, eX7_readsStatement_149, eX7_readsStatement_152, eX7_readsStatement_153, eX7_readsStatement_154, eX7_readsStatement_155, eX7_readsStatement_158, eX7_readsStatement_161, eX7_readsStatement_162, eX7_readsStatement_165, eX7_readsStatement_168, eX7_readsStatement_169, eX7_readsStatement_172, eX7_readsStatement_173, eX7_readsStatement_174, eX7_readsStatement_177, eX7_readsStatement_178, eX7_readsStatement_179, eX7_readsStatement_180, eX7_readsStatement_183, eX7_readsStatement_184, eX7_readsStatement_187, eX7_readsStatement_190, eX7_readsStatement_191, eX7_readsStatement_192, eX7_readsStatement_193, eX7_readsStatement_196, eX7_readsStatement_199, eX7_readsStatement_200, eX7_readsStatement_201, eX7_readsStatement_202, eX7_readsStatement_205, eX7_readsStatement_208, eX7_readsStatement_209, eX7_readsStatement_212, eX7_readsStatement_213, eX7_readsStatement_214, eX7_readsStatement_217, eX7_readsStatement_218, eX7_readsStatement_219, eX7_readsStatement_222, eX7_readsStatement_223, eX7_readsStatement_224, eX7_readsStatement_227, eX7_readsStatement_228, eX7_readsStatement_229, eX7_readsStatement_230, eX7_readsStatement_233, eX7_readsStatement_234, eX7_readsStatement_237, eX7_readsStatement_239, eX7_readsStatement_242, eX7_readsStatement_243, eX7_readsStatement_244, eX7_readsStatement_245, eX7_readsStatement_246, eX7_readsStatement_249, eX7_readsStatement_250, eX7_readsStatement_251, eX7_readsStatement_254, eX7_readsStatement_255, mh, hp, nI_1], by rw [st_at, if_pos ⟨rfl, rfl⟩], fun x => by rw [st_cell (by omega)], Fr.pl⟩
  · rw [if_neg t, if_neg t]
    refine ⟨h, ?_, hp, fun _ => rfl, Fr.refl⟩
    by_cases c : p < n
    · rw [if_pos c] at mh
      have s : ¬ nI (w p) = 59 := fun z => t (tk_semi.mpr ⟨c, z⟩)
      simp [eX7_readsStatement_1, eX7_readsStatement_4, eX7_readsStatement_5, eX7_readsStatement_6, eX7_readsStatement_7, eX7_readsStatement_8, eX7_readsStatement_9, eX7_readsStatement_12, eX7_readsStatement_13, eX7_readsStatement_14, eX7_readsStatement_108, eX7_readsStatement_109, eX7_readsStatement_110, eX7_readsStatement_111, eX7_readsStatement_114, eX7_readsStatement_115, eX7_readsStatement_118, eX7_readsStatement_119, eX7_readsStatement_122, eX7_readsStatement_125, eX7_readsStatement_126, eX7_readsStatement_127, eX7_readsStatement_128, eX7_readsStatement_131, eX7_readsStatement_134, eX7_readsStatement_135, eX7_readsStatement_136, eX7_readsStatement_137, eX7_readsStatement_140, eX7_readsStatement_143, eX7_readsStatement_144, eX7_readsStatement_147, eX7_readsStatement_148, eX7_readsStatement_149, eX7_readsStatement_152, eX7_readsStatement_153, eX7_readsStatement_154, eX7_readsStatement_155, eX7_readsStatement_158, eX7_readsStatement_161, eX7_readsStatement_162, eX7_readsStatement_165, eX7_readsStatement_168, eX7_readsStatement_169, eX7_readsStatement_172, eX7_readsStatement_173, eX7_readsStatement_174, eX7_readsStatement_177, eX7_readsStatement_178, eX7_readsStatement_179, eX7_readsStatement_180, eX7_readsStatement_183, eX7_readsStatement_184, eX7_readsStatement_187, eX7_readsStatement_190, eX7_readsStatement_191, eX7_readsStatement_192, eX7_readsStatement_193, eX7_readsStatement_196, eX7_readsStatement_199, eX7_readsStatement_200, eX7_readsStatement_201, eX7_readsStatement_202, eX7_readsStatement_205, eX7_readsStatement_208, eX7_readsStatement_209, eX7_readsStatement_212, eX7_readsStatement_213, eX7_readsStatement_214, eX7_readsStatement_217, eX7_readsStatement_218, eX7_readsStatement_219, eX7_readsStatement_222, eX7_readsStatement_223, eX7_readsStatement_224, eX7_readsStatement_227, eX7_readsStatement_228, eX7_readsStatement_229, eX7_readsStatement_230, eX7_readsStatement_233, eX7_readsStatement_234, eX7_readsStatement_237, eX7_readsStatement_239, eX7_readsStatement_242, eX7_readsStatement_243, eX7_readsStatement_244, eX7_readsStatement_245, eX7_readsStatement_246, eX7_readsStatement_249, eX7_readsStatement_250, eX7_readsStatement_251, eX7_readsStatement_254, eX7_readsStatement_255, mh, s]
    · rw [if_neg c] at mh
      have s : ¬ (-1 : Int32) = 59 := by decide
      simp [eX7_readsStatement_1, eX7_readsStatement_4, eX7_readsStatement_5, eX7_readsStatement_6, eX7_readsStatement_7, eX7_readsStatement_8, eX7_readsStatement_9, eX7_readsStatement_12, eX7_readsStatement_13, eX7_readsStatement_14, eX7_readsStatement_108, eX7_readsStatement_109, eX7_readsStatement_110, eX7_readsStatement_111, eX7_readsStatement_114, eX7_readsStatement_115, eX7_readsStatement_118, eX7_readsStatement_119, eX7_readsStatement_122, eX7_readsStatement_125, eX7_readsStatement_126, eX7_readsStatement_127, eX7_readsStatement_128, eX7_readsStatement_131, eX7_readsStatement_134, eX7_readsStatement_135, eX7_readsStatement_136, eX7_readsStatement_137, eX7_readsStatement_140, eX7_readsStatement_143, eX7_readsStatement_144, eX7_readsStatement_147, eX7_readsStatement_148, eX7_readsStatement_149, eX7_readsStatement_152, eX7_readsStatement_153, eX7_readsStatement_154, eX7_readsStatement_155, eX7_readsStatement_158, eX7_readsStatement_161, eX7_readsStatement_162, eX7_readsStatement_165, eX7_readsStatement_168, eX7_readsStatement_169, eX7_readsStatement_172, eX7_readsStatement_173, eX7_readsStatement_174, eX7_readsStatement_177, eX7_readsStatement_178, eX7_readsStatement_179, eX7_readsStatement_180, eX7_readsStatement_183, eX7_readsStatement_184, eX7_readsStatement_187, eX7_readsStatement_190, eX7_readsStatement_191, eX7_readsStatement_192, eX7_readsStatement_193, eX7_readsStatement_196, eX7_readsStatement_199, eX7_readsStatement_200, eX7_readsStatement_201, eX7_readsStatement_202, eX7_readsStatement_205, eX7_readsStatement_208, eX7_readsStatement_209, eX7_readsStatement_212, eX7_readsStatement_213, eX7_readsStatement_214, eX7_readsStatement_217, eX7_readsStatement_218, eX7_readsStatement_219, eX7_readsStatement_222, eX7_readsStatement_223, eX7_readsStatement_224, eX7_readsStatement_227, eX7_readsStatement_228, eX7_readsStatement_229, eX7_readsStatement_230, eX7_readsStatement_233, eX7_readsStatement_234, eX7_readsStatement_237, eX7_readsStatement_239, eX7_readsStatement_242, eX7_readsStatement_243, eX7_readsStatement_244, eX7_readsStatement_245, eX7_readsStatement_246, eX7_readsStatement_249, eX7_readsStatement_250, eX7_readsStatement_251, eX7_readsStatement_254, eX7_readsStatement_255, mh, s]
theorem m_tail0 {c : Value} : ev mX7_readsStatement 229 [.ref 17, c, .int 0] [] h = some (some (.int 0), h) := by
  simp [eX7_readsStatement_1, eX7_readsStatement_4, eX7_readsStatement_5, eX7_readsStatement_6, eX7_readsStatement_7, eX7_readsStatement_8, eX7_readsStatement_9, eX7_readsStatement_12, eX7_readsStatement_13, eX7_readsStatement_14, eX7_readsStatement_108, eX7_readsStatement_109, eX7_readsStatement_110, eX7_readsStatement_111, eX7_readsStatement_114, eX7_readsStatement_115, eX7_readsStatement_118, eX7_readsStatement_119, eX7_readsStatement_122, eX7_readsStatement_125, eX7_readsStatement_126, eX7_readsStatement_127, eX7_readsStatement_128, eX7_readsStatement_131, eX7_readsStatement_134, eX7_readsStatement_135, eX7_readsStatement_136, eX7_readsStatement_137, eX7_readsStatement_140, eX7_readsStatement_143, eX7_readsStatement_144, eX7_readsStatement_147, eX7_readsStatement_148, eX7_readsStatement_149, eX7_readsStatement_152, eX7_readsStatement_153, eX7_readsStatement_154, eX7_readsStatement_155, eX7_readsStatement_158, eX7_readsStatement_161, eX7_readsStatement_162, eX7_readsStatement_165, eX7_readsStatement_168, eX7_readsStatement_169, eX7_readsStatement_172, eX7_readsStatement_173, eX7_readsStatement_174, eX7_readsStatement_177, eX7_readsStatement_178, eX7_readsStatement_179, eX7_readsStatement_180, eX7_readsStatement_183, eX7_readsStatement_184, eX7_readsStatement_187, eX7_readsStatement_190, eX7_readsStatement_191, eX7_readsStatement_192, eX7_readsStatement_193, eX7_readsStatement_196, eX7_readsStatement_199, eX7_readsStatement_200, eX7_readsStatement_201, eX7_readsStatement_202, eX7_readsStatement_205, eX7_readsStatement_208, eX7_readsStatement_209, eX7_readsStatement_212, eX7_readsStatement_213, eX7_readsStatement_214, eX7_readsStatement_217, eX7_readsStatement_218, eX7_readsStatement_219, eX7_readsStatement_222, eX7_readsStatement_223, eX7_readsStatement_224, eX7_readsStatement_227, eX7_readsStatement_228, eX7_readsStatement_229, eX7_readsStatement_230, eX7_readsStatement_233, eX7_readsStatement_234, eX7_readsStatement_237, eX7_readsStatement_239, eX7_readsStatement_242, eX7_readsStatement_243, eX7_readsStatement_244, eX7_readsStatement_245, eX7_readsStatement_246, eX7_readsStatement_249, eX7_readsStatement_250, eX7_readsStatement_251, eX7_readsStatement_254, eX7_readsStatement_255]
end READS

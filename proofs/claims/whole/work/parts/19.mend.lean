/-! MENDING: behind each WASH, END 0, then END 1 -/
def INr (r : Nat → Int32) (e : Int32) : Int32 := if e = 0 then r 1 else r 2
def mdR (r : Nat → Int32) (e A : Int32) : Nat → Int32 := if INr r e < 1 then r else if sec r e (INr r e) = -9 ∨ A < sec r e (INr r e) then setD r (-8) (-8) else if e = 0 then setD r 0 (r 2) else setD r (r 1) 0
def mdT (r : Nat → Int32) (e : Int32) : Int32 := if INr r e < 1 then 0 else 1
def mdS (r : Nat → Int32) (e A : Int32) : Int32 := if INr r e < 1 then 0 else if sec r e (INr r e) = -9 ∨ A < sec r e (INr r e) then A else sec r e (INr r e)
def mdN (A : Int32) : Nat → (Nat → Int32) → Int32 → Int32 → (Nat → Int32) × Int32 × Int32
  | 0, r, t, s => (r, t, s)
  | n + 1, r, t, s => mdN A n (mdR (mdR (wst r) 0 A) 1 A) (t + mdT (wst r) 0 + mdT (mdR (wst r) 0 A) 1) (s + mdS (wst r) 0 A + mdS (mdR (wst r) 0 A) 1 A)
theorem mdR_form (r : Nat → Int32) (e A : Int32) : mdR r e A = setD r (mdR r e A 1) (mdR r e A 2) := by
  unfold mdR
  by_cases h1 : INr r e < 1
  · rw [if_pos h1]; exact setD_self.symm
  · rw [if_neg h1]
    by_cases h2 : sec r e (INr r e) = -9 ∨ A < sec r e (INr r e)
    · rw [if_pos h2]; rfl
    · rw [if_neg h2]
      by_cases h3 : e = 0
      · rw [if_pos h3]; rfl
      · rw [if_neg h3]; rfl
theorem mdR_ok {r : Nat → Int32} {e A : Int32} (ok : Ok r) : Ok (mdR r e A) := by
  have o := id ok
  obtain ⟨o0, o1, o2, -⟩ := o
  unfold mdR
  split
  · exact ok
  · split
    · exact ok_setD ok (by decide) (by decide)
    · split
      · exact ok_setD ok (by decide) o2
      · exact ok_setD ok o1 (by decide)
theorem anSum_setD {r : Nat → Int32} {a b x : Int32} : ∀ (m j : Nat) (v : Int32), anSum (setD r a b) x m j v = anSum r x m j v := by
  intro m
  induction m with
  | zero => intro j v; rfl
  | succ m ih =>
    intro j v
    show anSum (setD r a b) x m (j + 1) (v + thB (setD r a b) x j) = anSum r x m (j + 1) (v + thB r x j)
    rw [ih]
    unfold thB
    rw [setD_k, setD_f]
theorem anSec_setD {r : Nat → Int32} {a b x : Int32} : anSec (setD r a b) x = anSec r x := anSum_setD _ _ _
theorem i_ne1 (t : Int32) : ¬ t + 1 = t := by
  intro h
  rw [t_eq, Int32.toInt_add] at h
  have h1 := t.toInt_lt
  have h2 := t.le_toInt
  have e : (1 : Int32).toInt = 1 := rfl
  rw [e] at h
  simp only [Int.bmod] at h
  split at h <;> omega
theorem i_ne2 (t : Int32) : ¬ t + 1 + 1 = t := by
  intro h
  have e : t + 1 + 1 = t + 2 := by rw [Int32.add_assoc]; rfl
  rw [e, t_eq, Int32.toInt_add] at h
  have h1 := t.toInt_lt
  have h2 := t.le_toInt
  have e : (2 : Int32).toInt = 2 := rfl
  rw [e] at h
  simp only [Int.bmod] at h
  split at h <;> omega
theorem mdT_still {r : Nat → Int32} {e A : Int32} (h : mdT r e = 0) : mdR r e A = r ∧ mdS r e A = 0 := by
  unfold mdT at h
  unfold mdR mdS
  by_cases h1 : INr r e < 1
  · rw [if_pos h1, if_pos h1]; exact ⟨rfl, rfl⟩
  · rw [if_neg h1] at h; exact absurd h (by decide)
theorem mdT_01 (r : Nat → Int32) (e : Int32) : mdT r e = 0 ∨ mdT r e = 1 := by
  unfold mdT
  split
  · exact Or.inl rfl
  · exact Or.inr rfl
theorem mdT_two {r r' : Nat → Int32} {t : Int32} (h : t + mdT r 0 + mdT r' 1 = t) : mdT r 0 = 0 ∧ mdT r' 1 = 0 := by
  rcases mdT_01 r 0 with a | a <;> rcases mdT_01 r' 1 with b | b
  · exact ⟨a, b⟩
  · rw [a, b, Int32.add_zero] at h; exact absurd h (i_ne1 t)
  · rw [a, b, Int32.add_zero] at h; exact absurd h (i_ne1 t)
  · rw [a, b] at h; exact absurd h (i_ne2 t)
theorem mdN_still {A : Int32} {r : Nat → Int32} (h1 : wfar r = 0) (h2 : mdT (wst r) 0 = 0) (h3 : mdT (mdR (wst r) 0 A) 1 = 0) : ∀ (n : Nat) (t s : Int32), mdN A n r t s = (r, t, s) := by
  have a := mdT_still (A := A) h2
  have b := mdT_still (A := A) h3
  have e : mdR (mdR (wst r) 0 A) 1 A = r := by rw [b.1, a.1, wst_still h1]
  intro n
  induction n with
  | zero => intro t s; rfl
  | succ n ih =>
    intro t s
    show mdN A n (mdR (mdR (wst r) 0 A) 1 A) (t + mdT (wst r) 0 + mdT (mdR (wst r) 0 A) 1) (s + mdS (wst r) 0 A + mdS (mdR (wst r) 0 A) 1 A) = _
    rw [e, h2, h3, a.2, b.2, Int32.add_zero, Int32.add_zero, Int32.add_zero, Int32.add_zero]
    exact ih t s
theorem mdN_ok {A : Int32} : ∀ (n : Nat) (r : Nat → Int32) (t s : Int32), Ok r → Ok (mdN A n r t s).1 := by
  intro n
  induction n with
  | zero => intro r t s ok; exact ok
  | succ n ih => intro r t s ok; exact ih _ _ _ (mdR_ok (mdR_ok (wst_ok ok)))
section MEND
variable {c r : Nat} {h : Sto} {e d x A : Int32}
theorem hm_c11 {h : Sto} {c : Nat} {j : Nat} {v : Int32} (hc : c + 2 < 10) : hm (st h 11 j v) c = hm h c := hm_o (st_cell (by omega)) (st_cell (by omega)) (st_cell (by omega))
theorem c_mend (hc : HC c) (ok : Ok (hm h c)) (he : e = 0 ∨ e = 1) : ∃ h' : Sto, ev mX3_mend 0 [.ref 11, .ref c, .ref 10, .int e, .int A] [] h = some (none, h') ∧ hm h' c = mdR (hm h c) e A ∧ h' 11 0 = h 11 0 + mdT (hm h c) e ∧ h' 11 1 = h 11 1 + mdS (hm h c) e A ∧ ∀ a, a ≠ c → a ≠ 10 → a ≠ 11 → h' a = h a := by
  have hlt := hc.lt
  have o := id ok
  obtain ⟨o0, o1, o2, -⟩ := o
  have dIN : (if e = 0 then h c 3 else h c 4) = INr (hm h c) e := rfl
  have hdl : (INr (hm h c) e).toInt ≤ 24 := by
    unfold INr
    split
    · exact o1.2
    · exact o2.2
  by_cases h1 : INr (hm h c) e < 1
  · refine ⟨h, ?_, ?_, ?_, ?_, fun a _ _ _ => rfl⟩
    · simp [eX3_mend_0, eX3_mend_1, eX3_mend_2, eX3_mend_5, eX3_mend_8, eX3_mend_9, eX3_mend_10, eX3_mend_11, eX3_mend_14, eX3_mend_15, eX3_mend_16, eX3_mend_19, eX3_mend_20, eX3_mend_21, eX3_mend_22, eX3_mend_23, eX3_mend_24, eX3_mend_27, eX3_mend_30, eX3_mend_31, eX3_mend_34, eX3_mend_37, eX3_mend_39, eX3_mend_40, eX3_mend_43, eX3_mend_46, eX3_mend_47, eX3_mend_50, eX3_mend_51, eX3_mend_52, eX3_mend_55, eX3_mend_57, eX3_mend_58, eX3_mend_61, eX3_mend_64, eX3_mend_65, eX3_mend_66, eX3_mend_67, eX3_mend_70, eX3_mend_71, eX3_mend_72, eX3_mend_75, eX3_mend_76, eX3_mend_79, eX3_mend_80, eX3_mend_83, hc.2.1, f_isLost hc, dIN, h1]
    · unfold mdR; rw [if_pos h1]
    · unfold mdT; rw [if_pos h1, Int32.add_zero]
    · unfold mdS; rw [if_pos h1, Int32.add_zero]
  · have e1 : hm (st h 11 0 (h 11 0 + 1)) c = hm h c := hm_c11 (by omega)
    have dIN1 : (if e = 0 then st h 11 0 (h 11 0 + 1) c 3 else st h 11 0 (h 11 0 + 1) c 4) = INr (hm h c) e := by
      rw [st_cell (by omega)]
      rfl
    obtain ⟨h1', a1, a2, a3, a4, a4', a5⟩ := c_meas (h := st h 11 0 (h 11 0 + 1)) (e := e) (d := INr (hm h c) e) hc (by rw [e1]; exact ok) hdl
    rw [e1] at a3
    have hc1 : h1' c = h c := by rw [a5 c (by omega), st_cell (by omega)]
    have h11 : h1' 11 = (st h 11 0 (h 11 0 + 1)) 11 := a5 11 (by omega)
    have m1 : hm h1' c = hm h c := by rw [hm_o (h := st h 11 0 (h 11 0 + 1)) (a5 _ (by omega)) (a5 _ (by omega)) (a5 _ (by omega)), e1]
    have t0 : h1' 11 0 = h 11 0 + 1 := by rw [h11]; simp [st_at]
    have t1 : h1' 11 1 = h 11 1 := by rw [h11]; simp [st_at]
    have oth : ∀ a, a ≠ 10 → a ≠ 11 → h1' a = h a := fun a z1 z2 => by rw [a5 a z1, st_cell z2]
    by_cases h2 : sec (hm h c) e (INr (hm h c) e) = -9 ∨ A < sec (hm h c) e (INr (hm h c) e)
    · refine ⟨st (dep h1' c (-8) (-8)) 11 1 (h1' 11 1 + A), ?_, ?_, ?_, ?_, ?_⟩
      · have dd : dep h1' c (-8) (-8) 11 1 = h1' 11 1 := dep_o (by omega)
        by_cases h3 : sec (hm h c) e (INr (hm h c) e) = -9
        · simp [eX3_mend_0, eX3_mend_1, eX3_mend_2, eX3_mend_5, eX3_mend_8, eX3_mend_9, eX3_mend_10, eX3_mend_11, eX3_mend_14, eX3_mend_15, eX3_mend_16, eX3_mend_19, eX3_mend_20, eX3_mend_21, eX3_mend_22, eX3_mend_23, eX3_mend_24, eX3_mend_27, eX3_mend_30, eX3_mend_31, eX3_mend_34, eX3_mend_37, eX3_mend_39, eX3_mend_40, eX3_mend_43, eX3_mend_46, eX3_mend_47, eX3_mend_50, eX3_mend_51, eX3_mend_52, eX3_mend_55, eX3_mend_57, eX3_mend_58, eX3_mend_61, eX3_mend_64, eX3_mend_65, eX3_mend_66, eX3_mend_67, eX3_mend_70, eX3_mend_71, eX3_mend_72, eX3_mend_75, eX3_mend_76, eX3_mend_79, eX3_mend_80, eX3_mend_83, hc.2.1, f_isLost hc, dIN, h1, f_depth hc, dIN1, a1, f_isAWay, a3, h3, f_threadAnew hc]
          rw [show st (st h1' c 3 (-8)) c 4 (-8) = dep h1' c (-8) (-8) from rfl, dd]
        · have h4 : A < sec (hm h c) e (INr (hm h c) e) := h2.resolve_left h3
          have h4' : ¬ sec (hm h c) e (INr (hm h c) e) ≤ A := Int32.not_le.mpr h4
          simp [eX3_mend_0, eX3_mend_1, eX3_mend_2, eX3_mend_5, eX3_mend_8, eX3_mend_9, eX3_mend_10, eX3_mend_11, eX3_mend_14, eX3_mend_15, eX3_mend_16, eX3_mend_19, eX3_mend_20, eX3_mend_21, eX3_mend_22, eX3_mend_23, eX3_mend_24, eX3_mend_27, eX3_mend_30, eX3_mend_31, eX3_mend_34, eX3_mend_37, eX3_mend_39, eX3_mend_40, eX3_mend_43, eX3_mend_46, eX3_mend_47, eX3_mend_50, eX3_mend_51, eX3_mend_52, eX3_mend_55, eX3_mend_57, eX3_mend_58, eX3_mend_61, eX3_mend_64, eX3_mend_65, eX3_mend_66, eX3_mend_67, eX3_mend_70, eX3_mend_71, eX3_mend_72, eX3_mend_75, eX3_mend_76, eX3_mend_79, eX3_mend_80, eX3_mend_83, hc.2.1, f_isLost hc, dIN, h1, f_depth hc, dIN1, a1, f_isAWay, a3, h3, h4, h4', f_threadAnew hc]
          rw [show st (st h1' c 3 (-8)) c 4 (-8) = dep h1' c (-8) (-8) from rfl, dd]
      · rw [hm_c11 (by omega), hm_dep, m1]
        unfold mdR
        rw [if_neg h1, if_pos h2]
      · unfold mdT
        rw [if_neg h1, st_at, if_neg (by omega), dep_o (by omega), t0]
      · unfold mdS
        rw [if_neg h1, if_pos h2, st_at, if_pos ⟨rfl, rfl⟩, t1]
      · intro a z1 z2 z3
        rw [st_cell z3]
        rw [show dep h1' c (-8) (-8) a = h1' a from funext fun _ => dep_o z1, oth a z2 z3]
    · have h3 : ¬ sec (hm h c) e (INr (hm h c) e) = -9 := fun z => h2 (Or.inl z)
      have h4 : ¬ A < sec (hm h c) e (INr (hm h c) e) := fun z => h2 (Or.inr z)
      have h4' : sec (hm h c) e (INr (hm h c) e) ≤ A := Int32.not_lt.mp h4
      have s10 : ∀ j v, st h1' c j v 10 1 = sec (hm h c) e (INr (hm h c) e) := fun j v => by rw [st_at, if_neg (by omega), a3]
      have s11 : ∀ j v, st h1' c j v 11 1 = h 11 1 := fun j v => by rw [st_at, if_neg (by omega), t1]
      refine ⟨st (st h1' c (if e = 0 then 3 else 4) 0) 11 1 (h 11 1 + sec (hm h c) e (INr (hm h c) e)), ?_, ?_, ?_, ?_, ?_⟩
      · simp [eX3_mend_0, eX3_mend_1, eX3_mend_2, eX3_mend_5, eX3_mend_8, eX3_mend_9, eX3_mend_10, eX3_mend_11, eX3_mend_14, eX3_mend_15, eX3_mend_16, eX3_mend_19, eX3_mend_20, eX3_mend_21, eX3_mend_22, eX3_mend_23, eX3_mend_24, eX3_mend_27, eX3_mend_30, eX3_mend_31, eX3_mend_34, eX3_mend_37, eX3_mend_39, eX3_mend_40, eX3_mend_43, eX3_mend_46, eX3_mend_47, eX3_mend_50, eX3_mend_51, eX3_mend_52, eX3_mend_55, eX3_mend_57, eX3_mend_58, eX3_mend_61, eX3_mend_64, eX3_mend_65, eX3_mend_66, eX3_mend_67, eX3_mend_70, eX3_mend_71, eX3_mend_72, eX3_mend_75, eX3_mend_76, eX3_mend_79, eX3_mend_80, eX3_mend_83, hc.2.1, f_isLost hc, dIN, h1, f_depth hc, dIN1, a1, f_isAWay, a3, h3, h4, h4', f_place hc, s10, s11]
      · rw [hm_c11 (by omega)]
        unfold mdR
        rw [if_neg h1, if_neg h2]
        rcases he with rfl | rfl
        · rw [if_pos rfl, if_pos rfl, ← m1, ← hm_dep]
          congr 1
          unfold dep
          rw [show hm h1' c 2 = st h1' c 3 0 c 4 by rw [hm2, st_at, if_neg (by omega)], st_id]
        · rw [if_neg (by decide), if_neg (by decide), ← m1, ← hm_dep]
          congr 1
          unfold dep
          rw [show hm h1' c 1 = h1' c 3 from rfl, st_id]
      · unfold mdT
        rw [if_neg h1, st_at, if_neg (by omega), st_at, if_neg (by omega), t0]
      · unfold mdS
        rw [if_neg h1, if_neg h2, st_at, if_pos ⟨rfl, rfl⟩]
      · intro a z1 z2 z3
        rw [st_cell z3, st_cell z1, oth a z2 z3]
theorem go_loop (hc : HC c) {N : Nat} (hN : N < 2147483648) : ∀ (m j : Nat) (h : Sto) (a6 a7 : Value), j + m = N → Ok (hm h c) → ∃ h' : Sto, ev mX3_goOn 23 [.ref 11, .ref c, .ref 10, .int (nI N), .int A, .int (nI j), a6, a7] [] h = some (none, h') ∧ h' 11 0 = (mdN A m (hm h c) (h 11 0) (h 11 1)).2.1 ∧ h' 11 1 = (mdN A m (hm h c) (h 11 0) (h 11 1)).2.2 ∧ ∀ a, a ≠ c → a ≠ 10 → a ≠ 11 → h' a = h a := by
  have hlt := hc.lt
  intro m
  induction m with
  | zero =>
    intro j h a6 a7 hj ok
    have e1 : nI N ≤ nI j := by rw [show j = N by omega]; exact Int32.le_refl _
    exact ⟨h, by simp [eX3_goOn_0, eX3_goOn_1, eX3_goOn_2, eX3_goOn_5, eX3_goOn_6, eX3_goOn_7, eX3_goOn_10, eX3_goOn_11, eX3_goOn_12, eX3_goOn_15, eX3_goOn_18, eX3_goOn_20, eX3_goOn_21, eX3_goOn_23, eX3_goOn_25, eX3_goOn_26, eX3_goOn_29, eX3_goOn_30, eX3_goOn_33, eX3_goOn_35, eX3_goOn_36, eX3_goOn_39, eX3_goOn_41, eX3_goOn_42, eX3_goOn_43, eX3_goOn_44, eX3_goOn_45, eX3_goOn_47, eX3_goOn_50, eX3_goOn_51, eX3_goOn_52, eX3_goOn_53, eX3_goOn_54, eX3_goOn_56, eX3_goOn_59, eX3_goOn_61, eX3_goOn_64, eX3_goOn_65, eX3_goOn_68, eX3_goOn_70, eX3_goOn_73, eX3_goOn_74, eX3_goOn_77, eX3_goOn_80, e1], rfl, rfl, fun a _ _ _ => rfl⟩
  | succ m ih =>
    intro j h a6 a7 hj ok
    have e1 : ¬ nI N ≤ nI j := nI_ge (by omega) (by omega)
    have w1 := f_washOnce hc ok
    have hw : hm (dep h c (wst (hm h c) 1) (wst (hm h c) 2)) c = wst (hm h c) := by rw [hm_dep, ← wst_form]
    have dw : ∀ j, dep h c (wst (hm h c) 1) (wst (hm h c) 2) 11 j = h 11 j := fun j => dep_o (by omega)
    obtain ⟨h1, b1, b2, b3, b4, b5⟩ := c_mend (h := dep h c (wst (hm h c) 1) (wst (hm h c) 2)) (A := A) hc (by rw [hw]; exact wst_ok ok) (Or.inl rfl)
    rw [hw] at b2 b3 b4
    rw [dw] at b3 b4
    obtain ⟨h2, c1, c2, c3, c4, c5⟩ := c_mend (h := h1) (A := A) hc (by rw [b2]; exact mdR_ok (wst_ok ok)) (Or.inr rfl)
    rw [b2] at c2 c3 c4
    rw [b3] at c3
    rw [b4] at c4
    have oth : ∀ a, a ≠ c → a ≠ 10 → a ≠ 11 → h2 a = h a := fun a z1 z2 z3 => by rw [c5 a z1 z2 z3, b5 a z1 z2 z3]; exact funext fun _ => dep_o z1
    by_cases hs : wfar (hm h c) = 0 ∧ h2 11 0 = h 11 0
    · obtain ⟨s1, s2⟩ := hs
      rw [c3] at s2
      obtain ⟨t1, t2⟩ := mdT_two s2
      have st := mdN_still (A := A) s1 t1 t2 (m + 1) (h 11 0) (h 11 1)
      rw [st]
      refine ⟨h2, ?_, ?_, ?_, oth⟩
      · rw [eX3_goOn_23]
        simp [eX3_goOn_0, eX3_goOn_1, eX3_goOn_2, eX3_goOn_5, eX3_goOn_6, eX3_goOn_7, eX3_goOn_10, eX3_goOn_11, eX3_goOn_12, eX3_goOn_15, eX3_goOn_18, eX3_goOn_20, eX3_goOn_21, eX3_goOn_25, eX3_goOn_26, eX3_goOn_29, eX3_goOn_30, eX3_goOn_33, eX3_goOn_35, eX3_goOn_36, eX3_goOn_39, eX3_goOn_41, eX3_goOn_42, eX3_goOn_43, eX3_goOn_44, eX3_goOn_45, eX3_goOn_47, eX3_goOn_50, eX3_goOn_51, eX3_goOn_52, eX3_goOn_53, eX3_goOn_54, eX3_goOn_56, eX3_goOn_59, eX3_goOn_61, eX3_goOn_64, eX3_goOn_65, eX3_goOn_68, eX3_goOn_70, eX3_goOn_73, eX3_goOn_74, eX3_goOn_77, eX3_goOn_80, e1, hc.2.1, w1, b1, c1, s1, c3, s2]
      · rw [c3]; exact s2
      · rw [c4, (mdT_still (A := A) t1).2, (mdT_still (A := A) t2).2, Int32.add_zero, Int32.add_zero]
    · obtain ⟨h', g1, g2, g3, g4⟩ := ih (j + 1) h2 (.int (h 11 0)) (.int (wfar (hm h c))) (by omega) (by rw [c2]; exact mdR_ok (mdR_ok (wst_ok ok)))
      rw [c2, c3, c4] at g2 g3
      refine ⟨h', ?_, g2, g3, fun a z1 z2 z3 => by rw [g4 a z1 z2 z3, oth a z1 z2 z3]⟩
      rw [← g1, eX3_goOn_23]
      by_cases s1 : wfar (hm h c) = 0
      · have s2 : ¬ h2 11 0 = h 11 0 := fun z => hs ⟨s1, z⟩
        simp [eX3_goOn_0, eX3_goOn_1, eX3_goOn_2, eX3_goOn_5, eX3_goOn_6, eX3_goOn_7, eX3_goOn_10, eX3_goOn_11, eX3_goOn_12, eX3_goOn_15, eX3_goOn_18, eX3_goOn_20, eX3_goOn_21, eX3_goOn_25, eX3_goOn_26, eX3_goOn_29, eX3_goOn_30, eX3_goOn_33, eX3_goOn_35, eX3_goOn_36, eX3_goOn_39, eX3_goOn_41, eX3_goOn_42, eX3_goOn_43, eX3_goOn_44, eX3_goOn_45, eX3_goOn_47, eX3_goOn_50, eX3_goOn_51, eX3_goOn_52, eX3_goOn_53, eX3_goOn_54, eX3_goOn_56, eX3_goOn_59, eX3_goOn_61, eX3_goOn_64, eX3_goOn_65, eX3_goOn_68, eX3_goOn_70, eX3_goOn_73, eX3_goOn_74, eX3_goOn_77, eX3_goOn_80, e1, hc.2.1, w1, b1, c1, s1, s2, nI_1]
      · simp [eX3_goOn_0, eX3_goOn_1, eX3_goOn_2, eX3_goOn_5, eX3_goOn_6, eX3_goOn_7, eX3_goOn_10, eX3_goOn_11, eX3_goOn_12, eX3_goOn_15, eX3_goOn_18, eX3_goOn_20, eX3_goOn_21, eX3_goOn_25, eX3_goOn_26, eX3_goOn_29, eX3_goOn_30, eX3_goOn_33, eX3_goOn_35, eX3_goOn_36, eX3_goOn_39, eX3_goOn_41, eX3_goOn_42, eX3_goOn_43, eX3_goOn_44, eX3_goOn_45, eX3_goOn_47, eX3_goOn_50, eX3_goOn_51, eX3_goOn_52, eX3_goOn_53, eX3_goOn_54, eX3_goOn_56, eX3_goOn_59, eX3_goOn_61, eX3_goOn_64, eX3_goOn_65, eX3_goOn_68, eX3_goOn_70, eX3_goOn_73, eX3_goOn_74, eX3_goOn_77, eX3_goOn_80, e1, hc.2.1, w1, b1, c1, s1, nI_1]
/-- goOn: how many times, how many SECONDS, in n WASHES -/
theorem f_goOn (hc : HC c) {N : Nat} (hN : N < 2147483648) (ok : Ok (hm h c)) : ∃ h' : Sto, ev mX3_goOn 0 [.ref 11, .ref c, .ref 10, .int (nI N), .null, .null, .null, .null] [] h = some (none, h') ∧ h' 11 0 = (mdN (anSec (hm h c) (hm h c 6)) N (hm h c) 0 0).2.1 ∧ h' 11 1 = (mdN (anSec (hm h c) (hm h c 6)) N (hm h c) 0 0).2.2 ∧ ∀ a, a ≠ c → a ≠ 10 → a ≠ 11 → h' a = h a := by
  have hlt := hc.lt
  have e1 : hm (st (st h 11 0 0) 11 1 0) c = hm h c := by rw [hm_c11 (by omega), hm_c11 (by omega)]
  obtain ⟨h', g1, g2, g3, g4⟩ := go_loop (A := anSec (hm h c) (hm h c 6)) hc hN N 0 (st (st h 11 0 0) 11 1 0) .null .null (by omega) (by rw [e1]; exact ok)
  have t0 : st (st h 11 0 0) 11 1 0 11 0 = 0 := by simp [st_at]
  have t1 : st (st h 11 0 0) 11 1 0 11 1 = 0 := by simp [st_at]
  rw [e1, t0, t1] at g2 g3
  have cp : st (st h 11 0 0) 11 1 0 c 8 = h c 8 := by rw [st_cell (by omega), st_cell (by omega)]
  have an := f_secondsAnew (x := h c 8) (h := st (st h 11 0 0) 11 1 0) hc (by rw [e1]; exact ok)
  rw [e1] at an
  refine ⟨h', ?_, g2, g3, fun a z1 z2 z3 => by rw [g4 a z1 z2 z3, st_cell z3, st_cell z3]⟩
  rw [← g1]
  simp [eX3_goOn_0, eX3_goOn_1, eX3_goOn_2, eX3_goOn_5, eX3_goOn_6, eX3_goOn_7, eX3_goOn_10, eX3_goOn_11, eX3_goOn_12, eX3_goOn_15, eX3_goOn_18, eX3_goOn_20, eX3_goOn_21, eX3_goOn_25, eX3_goOn_26, eX3_goOn_29, eX3_goOn_30, eX3_goOn_33, eX3_goOn_35, eX3_goOn_36, eX3_goOn_39, eX3_goOn_41, eX3_goOn_42, eX3_goOn_43, eX3_goOn_44, eX3_goOn_45, eX3_goOn_47, eX3_goOn_50, eX3_goOn_51, eX3_goOn_52, eX3_goOn_53, eX3_goOn_54, eX3_goOn_56, eX3_goOn_59, eX3_goOn_61, eX3_goOn_64, eX3_goOn_65, eX3_goOn_68, eX3_goOn_70, eX3_goOn_73, eX3_goOn_74, eX3_goOn_77, eX3_goOn_80, hc.1, hc.2.1, cp, an]
  rfl
end MEND

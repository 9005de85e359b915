/-! SECONDS to BUNCH an END out: one function of the row for both -/
abbrev wk (r : Nat → Int32) (e d : Int32) : Option (Nat × Nat × (Nat → Nat)) := wkc r e 24 d.toInt.toNat 0 0 (fun _ => 0)
def sec (r : Nat → Int32) (e d : Int32) : Int32 := resI (wk r e d)
def resB (o : Option (Nat × Nat × (Nat → Nat))) : Int32 := match o with
  | none => -9
  | some q => nI q.1
theorem wkc_in {r : Nat → Int32} {e : Int32} (ok : Ok r) : ∀ (f d b s : Nat) (g : Nat → Nat) (q : Nat × Nat × (Nat → Nat)), d ≤ 24 → wkc r e f d b s g = some q → q.1 ≤ b + f ∧ q.2.1 ≤ s + 12 * f := by
  intro f
  induction f with
  | zero => intro d b s g q hd h; cases h; exact ⟨by simp, by simp⟩
  | succ f ih =>
    intro d b s g q hd h
    rw [wkc] at h
    split at h
    · cases h; exact ⟨by simp, by simp⟩
    · split at h
      · cases h
      · have i := ixd_in (e := e) ok hd
        have t := bsN_eq ok i.2.1
        have k := ih _ _ _ _ q (by omega) h
        exact ⟨by omega, by omega⟩
theorem sec_in {r : Nat → Int32} {e d : Int32} (ok : Ok r) (hd : d.toInt ≤ 24) : sec r e d = -9 ∨ (0 ≤ (sec r e d).toInt ∧ (sec r e d).toInt ≤ 288) := by
  unfold sec
  cases hw : wk r e d with
  | none => exact Or.inl rfl
  | some q =>
    have k := wkc_in ok 24 _ 0 0 _ q (by omega) hw
    refine Or.inr ?_
    show 0 ≤ (nI q.2.1).toInt ∧ (nI q.2.1).toInt ≤ 288
    rw [t_nI (by omega)]
    omega
theorem sec_neg {r : Nat → Int32} {e d : Int32} (ok : Ok r) (hd : d.toInt ≤ 24) : sec r e d < 0 ↔ sec r e d = -9 := by
  rcases sec_in (e := e) ok hd with h | h
  · rw [h]; decide
  · constructor
    · intro z
      rw [t_lt] at z
      have : (sec r e d).toInt < 0 := z
      omega
    · intro z
      rw [z] at h
      have : (0 : Int) ≤ -9 := h.1
      omega
section SEC
variable {c r : Nat} {h : Sto} {e d x : Int32}
theorem c_meas (hc : HC c) (ok : Ok (hm h c)) (hd : d.toInt ≤ 24) : ∃ h' : Sto, ev mX5_measure 0 [.ref 10, .ref c, .int e, .int d, .null, .null, .null, .null, .null, .null, .null] [] h = some (none, h') ∧ h' 10 0 = resB (wk (hm h c) e d) ∧ h' 10 1 = sec (hm h c) e d ∧ (∀ q, wk (hm h c) e d = some q → Dear (lenN (hm h c)) e q.2.2 (h' 10 2)) ∧ (wk (hm h c) e d = none → h' 10 2 = -9) ∧ ∀ a, a ≠ 10 → h' a = h a := by
  obtain ⟨z, g1, g2⟩ := f_measure (h := h) (e := e) hc ok hd
  refine ⟨_, g1, ?_⟩
  unfold sec wk at *
  cases hw : wkc (hm h c) e 24 d.toInt.toNat 0 0 (fun _ => 0) with
  | none => exact ⟨way0', way1', fun q hq => (by cases hq), fun _ => way2', fun a ha => way_o' ha⟩
  | some q => exact ⟨way0', way1', fun q' hq => (by cases hq; show Dear _ _ _ (wayS h _ _ z 10 2); rw [way2']; exact g2 q hw), fun hq => (by cases hq), fun a ha => way_o' ha⟩
theorem m_outS (hr : lyA r = some 32) (ok : Ok (mr h r)) (he : e = 0 ∨ e = 1) : ∃ h' : Sto, ev mX7_outSeconds 0 [.ref 17, .ref r, .int e, .null, .null, .null] [] h = some (some (.int (sec (mr h r) e (if e = 0 then mr h r 1 else mr h r 2))), h') ∧ (∀ q, wk (mr h r) e (if e = 0 then mr h r 1 else mr h r 2) = some q → h' 17 11 = nI q.1 ∧ ∀ i, i < 12 → h' 25 i = nI (q.2.2 i)) ∧ ∀ a x, a ≠ 25 → ¬ (a = 17 ∧ x = 11) → h' a x = h a x := by
  rw [mr_lo (show 1 < 32 by omega), mr_lo (show 2 < 32 by omega)]
  obtain ⟨b', g', q1, q2⟩ := m_outSeconds hr ok he
  refine ⟨_, q1, ?_, ?_⟩
  · intro q hq
    obtain ⟨e1, e2⟩ := q2 q hq
    subst e1; subst e2
    exact ⟨oS_17 hr, fun i hi => oS_25 hr hi⟩
  · intro a x h1 h2
    unfold oS
    by_cases h3 : a = r ∧ x = (if e = 0 then 1 else 2)
    · rw [if_pos h3, h3.1, h3.2]
      rcases he with rfl | rfl <;> rfl
    · rw [if_neg h3, if_neg h2, if_neg (fun z => h1 z.1)]
theorem f_isAWay : ev mX5_isAWay 0 [.ref 10] [] h = some (some (.int (if h 10 1 = -9 then 0 else 1)), h) := by
  by_cases h1 : h 10 1 = -9 <;> simp [eX5_isAWay_0, eX5_isAWay_1, eX5_isAWay_4, eX5_isAWay_6, eX5_isAWay_9, eX5_isAWay_10, eX5_isAWay_13, eX5_isAWay_14, h1]
theorem f_rank : ev mX5_rank 0 [.ref 10] [] h = some (some (.int (if h 10 1 = -9 then 1000000 else h 10 1)), h) := by
  by_cases h1 : h 10 1 = -9 <;> simp [eX5_rank_0, eX5_rank_1, eX5_rank_4, eX5_rank_7, eX5_rank_8, eX5_rank_11, eX5_rank_14, eX5_rank_16, f_isAWay, h1]
/-- of all LOST ones -/
def asec (r : Nat → Int32) : Int32 := if sec r 0 (r 1) = -9 then -9 else if sec r 1 (r 2) = -9 then -9 else sec r 0 (r 1) + sec r 1 (r 2)
theorem f_secondsOfAll (hc : HC c) (ok : Ok (hm h c)) : ∃ h' : Sto, ev mX5_secondsOfAll 0 [.ref 10, .ref c, .null, .null] [] h = some (some (.int (asec (hm h c))), h') ∧ ∀ a, a ≠ 10 → h' a = h a := by
  have hlt := hc.lt
  have o := id ok
  obtain ⟨o0, o1, o2, -⟩ := o
  obtain ⟨h1, a1, a2, a3, a4, a4', a5⟩ := c_meas (e := 0) (d := h c 3) hc ok o1.2
  have e1 : hm h1 c = hm h c := hm_o (a5 _ (by omega)) (a5 _ (by omega)) (a5 _ (by omega))
  obtain ⟨h2, b1, b2, b3, b4, b4', b5⟩ := c_meas (h := h1) (e := 1) (d := h c 4) hc (by rw [e1]; exact ok) o2.2
  rw [e1] at b3
  have dp1 : h1 c 4 = h c 4 := by rw [a5 c (by omega)]
  unfold asec
  rw [hm1, hm2]
  by_cases s1 : sec (hm h c) 0 (h c 3) = -9
  · refine ⟨h1, ?_, a5⟩
    rw [s1] at a3
    simp [eX5_secondsOfAll_0, eX5_secondsOfAll_1, eX5_secondsOfAll_2, eX5_secondsOfAll_3, eX5_secondsOfAll_4, eX5_secondsOfAll_5, eX5_secondsOfAll_6, eX5_secondsOfAll_9, eX5_secondsOfAll_10, eX5_secondsOfAll_11, eX5_secondsOfAll_12, eX5_secondsOfAll_13, eX5_secondsOfAll_14, eX5_secondsOfAll_17, eX5_secondsOfAll_20, eX5_secondsOfAll_21, eX5_secondsOfAll_24, eX5_secondsOfAll_27, eX5_secondsOfAll_29, eX5_secondsOfAll_30, eX5_secondsOfAll_31, eX5_secondsOfAll_32, eX5_secondsOfAll_35, eX5_secondsOfAll_36, eX5_secondsOfAll_37, eX5_secondsOfAll_40, eX5_secondsOfAll_43, eX5_secondsOfAll_44, hc.2.1, f_depth hc, a1, f_isAWay, a3, s1]
  · by_cases s2 : sec (hm h c) 1 (h c 4) = -9
    · refine ⟨h2, ?_, fun a ha => by rw [b5 a ha, a5 a ha]⟩
      rw [s2] at b3
      simp [eX5_secondsOfAll_0, eX5_secondsOfAll_1, eX5_secondsOfAll_2, eX5_secondsOfAll_3, eX5_secondsOfAll_4, eX5_secondsOfAll_5, eX5_secondsOfAll_6, eX5_secondsOfAll_9, eX5_secondsOfAll_10, eX5_secondsOfAll_11, eX5_secondsOfAll_12, eX5_secondsOfAll_13, eX5_secondsOfAll_14, eX5_secondsOfAll_17, eX5_secondsOfAll_20, eX5_secondsOfAll_21, eX5_secondsOfAll_24, eX5_secondsOfAll_27, eX5_secondsOfAll_29, eX5_secondsOfAll_30, eX5_secondsOfAll_31, eX5_secondsOfAll_32, eX5_secondsOfAll_35, eX5_secondsOfAll_36, eX5_secondsOfAll_37, eX5_secondsOfAll_40, eX5_secondsOfAll_43, eX5_secondsOfAll_44, hc.2.1, f_depth hc, a1, f_isAWay, a3, s1, dp1, b1, b3, s2]
    · refine ⟨h2, ?_, fun a ha => by rw [b5 a ha, a5 a ha]⟩
      simp [eX5_secondsOfAll_0, eX5_secondsOfAll_1, eX5_secondsOfAll_2, eX5_secondsOfAll_3, eX5_secondsOfAll_4, eX5_secondsOfAll_5, eX5_secondsOfAll_6, eX5_secondsOfAll_9, eX5_secondsOfAll_10, eX5_secondsOfAll_11, eX5_secondsOfAll_12, eX5_secondsOfAll_13, eX5_secondsOfAll_14, eX5_secondsOfAll_17, eX5_secondsOfAll_20, eX5_secondsOfAll_21, eX5_secondsOfAll_24, eX5_secondsOfAll_27, eX5_secondsOfAll_29, eX5_secondsOfAll_30, eX5_secondsOfAll_31, eX5_secondsOfAll_32, eX5_secondsOfAll_35, eX5_secondsOfAll_36, eX5_secondsOfAll_37, eX5_secondsOfAll_40, eX5_secondsOfAll_43, eX5_secondsOfAll_44, hc.2.1, f_depth hc, a1, f_isAWay, a3, s1, dp1, b1, b3, s2]
theorem m_allSeconds (hr : lyA r = some 32) (ok : Ok (mr h r)) : ∃ h' : Sto, ev mX7_allSeconds 0 [.ref 17, .ref r, .null, .null] [] h = some (some (.int (asec (mr h r))), h') ∧ ∀ a x, a ≠ 25 → ¬ (a = 17 ∧ x = 11) → h' a x = h a x := by
  have l32 := ly32 hr
  have o := id ok
  obtain ⟨o0, o1, o2, -⟩ := o
  obtain ⟨h1, a1, a2, a3⟩ := m_outS (e := 0) hr ok (Or.inl rfl)
  have e1 : mr h1 r = mr h r := by
    funext j
    unfold mr
    rw [a3 r j (by omega) (by omega)]
  obtain ⟨h2, b1, b2, b3⟩ := m_outS (h := h1) (e := 1) hr (by rw [e1]; exact ok) (Or.inr rfl)
  rw [e1] at b1
  simp at a1 b1
  refine ⟨h2, ?_, fun a x q1 q2 => by rw [b3 a x q1 q2, a3 a x q1 q2]⟩
  unfold asec
  have n1 := sec_neg (e := 0) ok o1.2
  have n2 := sec_neg (e := 1) ok o2.2
  by_cases s1 : sec (mr h r) 0 (mr h r 1) = -9
  · have s1' := n1.mpr s1
    simp [eX7_allSeconds_0, eX7_allSeconds_1, eX7_allSeconds_2, eX7_allSeconds_3, eX7_allSeconds_6, eX7_allSeconds_7, eX7_allSeconds_8, eX7_allSeconds_9, eX7_allSeconds_10, eX7_allSeconds_13, eX7_allSeconds_14, eX7_allSeconds_15, eX7_allSeconds_18, eX7_allSeconds_19, eX7_allSeconds_22, eX7_allSeconds_24, eX7_allSeconds_27, eX7_allSeconds_28, eX7_allSeconds_29, eX7_allSeconds_30, a1, b1, s1]
  · have s1' : ¬ sec (mr h r) 0 (mr h r 1) < 0 := fun z => s1 (n1.mp z)
    by_cases s2 : sec (mr h r) 1 (mr h r 2) = -9
    · simp [eX7_allSeconds_0, eX7_allSeconds_1, eX7_allSeconds_2, eX7_allSeconds_3, eX7_allSeconds_6, eX7_allSeconds_7, eX7_allSeconds_8, eX7_allSeconds_9, eX7_allSeconds_10, eX7_allSeconds_13, eX7_allSeconds_14, eX7_allSeconds_15, eX7_allSeconds_18, eX7_allSeconds_19, eX7_allSeconds_22, eX7_allSeconds_24, eX7_allSeconds_27, eX7_allSeconds_28, eX7_allSeconds_29, eX7_allSeconds_30, a1, b1, s1, s1', s2]
    · have s2' : ¬ sec (mr h r) 1 (mr h r 2) < 0 := fun z => s2 (n2.mp z)
      simp [eX7_allSeconds_0, eX7_allSeconds_1, eX7_allSeconds_2, eX7_allSeconds_3, eX7_allSeconds_6, eX7_allSeconds_7, eX7_allSeconds_8, eX7_allSeconds_9, eX7_allSeconds_10, eX7_allSeconds_13, eX7_allSeconds_14, eX7_allSeconds_15, eX7_allSeconds_18, eX7_allSeconds_19, eX7_allSeconds_22, eX7_allSeconds_24, eX7_allSeconds_27, eX7_allSeconds_28, eX7_allSeconds_29, eX7_allSeconds_30, a1, b1, s1, s1', s2, s2']
end SEC

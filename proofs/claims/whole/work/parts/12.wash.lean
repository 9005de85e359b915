/-! PULLS AND WASHES: as functions of a row of 32, and Hem's methods in them -/
def ichD (len e d : Int32) : Int32 := if e = 0 then (if d < 1 then 0 else if len - 1 < (d - 1) / 2 then len - 1 else (d - 1) / 2) else len - 1 - (if d < 1 then 0 else if len - 1 < (d - 1) / 2 then len - 1 else (d - 1) / 2)
def ixN (len e d : Int32) : Nat := (ichD len e d).toNatClampNeg
def Ok (r : Nat → Int32) : Prop := (2 ≤ (r 0).toInt ∧ (r 0).toInt ≤ 12) ∧ (-40 ≤ (r 1).toInt ∧ (r 1).toInt ≤ 24) ∧ (-40 ≤ (r 2).toInt ∧ (r 2).toInt ≤ 24) ∧ (r 3 = 0 ∨ r 3 = 1) ∧ (r 4 = 0 ∨ r 4 = 1) ∧ (r 5 = 0 ∨ r 5 = 1) ∧ (1 ≤ (r 6).toInt ∧ (r 6).toInt ≤ 9) ∧ (0 ≤ (r 7).toInt ∧ (r 7).toInt ≤ 9) ∧ ∀ i, i < 12 → (0 ≤ (kO r i).toInt ∧ (kO r i).toInt ≤ 5) ∧ (0 ≤ (fO r i).toInt ∧ (fO r i).toInt ≤ 9)
theorem half_le {d : Int32} (h1 : 1 ≤ d.toInt) (h2 : d.toInt ≤ 24) : ((d - 1) / 2).toInt = (d.toInt - 1) / 2 := by
  have e1 : (d - 1).toInt = d.toInt - 1 := t_sub (by show _ ≤ d.toInt - 1; omega) (by show d.toInt - 1 < _; omega)
  rw [t_div (by decide), e1]
  show (d.toInt - 1).tdiv 2 = _
  rw [Int.tdiv_eq_ediv_of_nonneg (by omega)]
theorem ich_in {len e d : Int32} (hl : 2 ≤ len.toInt ∧ len.toInt ≤ 12) (hd : d.toInt ≤ 24) : ichD len e d = nI (ixN len e d) ∧ (ixN len e d : Int) < len.toInt := by
  have e1 : (len - 1).toInt = len.toInt - 1 := t_sub (by show _ ≤ len.toInt - 1; omega) (by show len.toInt - 1 < _; omega)
  have key : ∀ f : Int32, 0 ≤ f.toInt → f.toInt ≤ len.toInt - 1 → (len - 1 - f).toInt = len.toInt - 1 - f.toInt := by
    intro f h1 h2
    rw [t_sub (by rw [e1]; omega) (by rw [e1]; omega), e1]
  have fr : ∃ f : Int32, (if d < 1 then 0 else if len - 1 < (d - 1) / 2 then len - 1 else (d - 1) / 2) = f ∧ 0 ≤ f.toInt ∧ f.toInt ≤ len.toInt - 1 := by
    refine ⟨_, rfl, ?_⟩
    by_cases h1 : d < 1
    · rw [if_pos h1]
      show (0 : Int) ≤ 0 ∧ (0 : Int) ≤ _
      omega
    · rw [if_neg h1]
      have h1' : 1 ≤ d.toInt := by
        rw [t_lt] at h1
        have : ¬ d.toInt < 1 := h1
        omega
      have h2 := half_le h1' hd
      by_cases h3 : len - 1 < (d - 1) / 2
      · rw [if_pos h3, e1]; omega
      · rw [if_neg h3, h2]
        rw [t_lt, e1, h2] at h3
        omega
  obtain ⟨f, hf, hf0, hf1⟩ := fr
  have res : 0 ≤ (ichD len e d).toInt ∧ (ichD len e d).toInt < len.toInt := by
    unfold ichD
    rw [hf]
    split
    · omega
    · rw [key f hf0 hf1]; omega
  have e3 : ((ixN len e d : Nat) : Int) = (ichD len e d).toInt := by
    unfold ixN
    rw [t_cl]
    omega
  refine ⟨nI_nat (by rw [e3]), by rw [e3]; exact res.2⟩
theorem ix12 {len e d : Int32} (hl : 2 ≤ len.toInt ∧ len.toInt ≤ 12) (hd : d.toInt ≤ 24) : ixN len e d < 12 := by
  have := (ich_in (e := e) hl hd).2
  omega
/-- how far an END can be PULLED -/
def cplV (sw own oth kn n : Int32) : Int32 := if sw = 0 then (if 0 < (if (if (if kn = 0 then 24 else 0) - oth < own - -40 then (if kn = 0 then 24 else 0) - oth else own - -40) < n then (if (if kn = 0 then 24 else 0) - oth < own - -40 then (if kn = 0 then 24 else 0) - oth else own - -40) else n) then (if (if (if kn = 0 then 24 else 0) - oth < own - -40 then (if kn = 0 then 24 else 0) - oth else own - -40) < n then (if (if kn = 0 then 24 else 0) - oth < own - -40 then (if kn = 0 then 24 else 0) - oth else own - -40) else n) else 0) else 0
theorem cplV_in {sw own oth kn n : Int32} (h1 : -40 ≤ own.toInt ∧ own.toInt ≤ 24) (h2 : -40 ≤ oth.toInt ∧ oth.toInt ≤ 24) (hn : 0 ≤ n.toInt) : 0 ≤ (cplV sw own oth kn n).toInt ∧ (cplV sw own oth kn n).toInt ≤ n.toInt ∧ (cplV sw own oth kn n).toInt ≤ own.toInt + 40 ∧ (cplV sw own oth kn n).toInt ≤ 24 - oth.toInt := by
  have e1 : (own - -40).toInt = own.toInt + 40 := by
    rw [t_sub (by show _ ≤ own.toInt - -40; omega) (by show own.toInt - -40 < _; omega)]
    show own.toInt - -40 = _
    omega
  have e2 : ∃ z : Int32, (if kn = 0 then (24 : Int32) else 0) = z ∧ (z.toInt = 24 ∨ z.toInt = 0) := by
    by_cases hk : kn = 0
    · exact ⟨24, by rw [if_pos hk], Or.inl rfl⟩
    · exact ⟨0, by rw [if_neg hk], Or.inr rfl⟩
  obtain ⟨z, hz, hz2⟩ := e2
  unfold cplV
  rw [hz]
  have e3 : (z - oth).toInt = z.toInt - oth.toInt := t_sub (by omega) (by omega)
  by_cases hs : sw = 0
  · rw [if_pos hs]
    by_cases a1 : z - oth < own - -40
    · rw [if_pos a1]
      rw [t_lt, e1, e3] at a1
      by_cases a2 : z - oth < n
      · rw [if_pos a2]
        rw [t_lt, e3] at a2
        by_cases a3 : 0 < z - oth
        · rw [if_pos a3, e3]
          rw [t_lt, e3] at a3
          have : (0 : Int) < z.toInt - oth.toInt := a3
          omega
        · rw [if_neg a3]
          show (0 : Int) ≤ 0 ∧ (0 : Int) ≤ _ ∧ (0 : Int) ≤ _ ∧ (0 : Int) ≤ _
          omega
      · rw [if_neg a2]
        rw [t_lt, e3] at a2
        by_cases a3 : 0 < n
        · rw [if_pos a3]; omega
        · rw [if_neg a3]
          show (0 : Int) ≤ 0 ∧ (0 : Int) ≤ _ ∧ (0 : Int) ≤ _ ∧ (0 : Int) ≤ _
          omega
    · rw [if_neg a1]
      rw [t_lt, e1, e3] at a1
      by_cases a2 : own - -40 < n
      · rw [if_pos a2]
        rw [t_lt, e1] at a2
        by_cases a3 : 0 < own - -40
        · rw [if_pos a3, e1]; omega
        · rw [if_neg a3]
          show (0 : Int) ≤ 0 ∧ (0 : Int) ≤ _ ∧ (0 : Int) ≤ _ ∧ (0 : Int) ≤ _
          omega
      · rw [if_neg a2]
        rw [t_lt, e1] at a2
        by_cases a3 : 0 < n
        · rw [if_pos a3]; omega
        · rw [if_neg a3]
          show (0 : Int) ≤ 0 ∧ (0 : Int) ≤ _ ∧ (0 : Int) ≤ _ ∧ (0 : Int) ≤ _
          omega
  · rw [if_neg hs]
    show (0 : Int) ≤ 0 ∧ (0 : Int) ≤ _ ∧ (0 : Int) ≤ _ ∧ (0 : Int) ≤ _
    omega
def cpl (r : Nat → Int32) (e n : Int32) : Int32 := cplV (r 5) (if e = 0 then r 1 else r 2) (if e = 0 then r 2 else r 1) (if e = 0 then r 4 else r 3) n
def setD (r : Nat → Int32) (a b : Int32) : Nat → Int32 := fun j => if j = 1 then a else if j = 2 then b else r j
def pul (r : Nat → Int32) (e n : Int32) : Nat → Int32 := if e = 0 then setD r (r 1 - cpl r e n) (r 2 + cpl r e n) else setD r (r 1 + cpl r e n) (r 2 - cpl r e n)
def wdr (r : Nat → Int32) : Int32 := if r 1 < r 2 then drK (kO r (ixN (r 0) 1 (r 2))) (r 7) else drK (kO r (ixN (r 0) 0 (r 1))) (r 7)
def wfar (r : Nat → Int32) : Int32 := if r 1 < r 2 then cpl r 0 (wdr r) else cpl r 1 (wdr r)
def wst (r : Nat → Int32) : Nat → Int32 := if r 1 < r 2 then pul r 0 (wdr r) else pul r 1 (wdr r)
def wsN (r : Nat → Int32) : Nat → Nat → Int32
  | 0 => r
  | n + 1 => wsN (wst r) n
theorem drK_in {k p : Int32} (hp : 0 ≤ p.toInt ∧ p.toInt ≤ 9) : 0 ≤ (drK k p).toInt ∧ (drK k p).toInt ≤ 10 := by
  unfold drK
  split
  · show (0 : Int) ≤ 0 ∧ (0 : Int) ≤ 10; omega
  · split
    · rw [t_div (by decide)]
      show 0 ≤ p.toInt.tdiv 2 ∧ p.toInt.tdiv 2 ≤ 10
      rw [Int.tdiv_eq_ediv_of_nonneg hp.1]
      omega
    · split
      · rw [t_add (by show _ ≤ p.toInt + 1; omega) (by show p.toInt + 1 < _; omega)]
        show 0 ≤ p.toInt + 1 ∧ p.toInt + 1 ≤ 10
        omega
      · omega
theorem setD_k {r : Nat → Int32} {a b : Int32} {i : Nat} : kO (setD r a b) i = kO r i := by
  unfold kO setD
  rw [if_neg (by omega), if_neg (by omega)]
theorem setD_f {r : Nat → Int32} {a b : Int32} {i : Nat} : fO (setD r a b) i = fO r i := by
  unfold fO setD
  rw [if_neg (by omega), if_neg (by omega)]
theorem ok_setD {r : Nat → Int32} {a b : Int32} (ok : Ok r) (ha : -40 ≤ a.toInt ∧ a.toInt ≤ 24) (hb : -40 ≤ b.toInt ∧ b.toInt ≤ 24) : Ok (setD r a b) := by
  obtain ⟨o0, o1, o2, o3, o4, o5, o6, o7, o8⟩ := ok
  exact ⟨o0, ha, hb, o3, o4, o5, o6, o7, fun i hi => by rw [setD_k, setD_f]; exact o8 i hi⟩
theorem pul_ok {r : Nat → Int32} {e n : Int32} (ok : Ok r) (hn : 0 ≤ n.toInt) : Ok (pul r e n) := by
  have o := id ok
  obtain ⟨o0, o1, o2, -⟩ := o
  unfold pul
  by_cases he : e = 0
  · rw [if_pos he]
    have k := cplV_in (sw := r 5) (kn := r 4) o1 o2 hn
    have e1 : cpl r e n = cplV (r 5) (r 1) (r 2) (r 4) n := by unfold cpl; rw [if_pos he, if_pos he, if_pos he]
    rw [← e1] at k
    refine ok_setD ok ?_ ?_
    · rw [t_sub (by omega) (by omega)]; omega
    · rw [t_add (by omega) (by omega)]; omega
  · rw [if_neg he]
    have k := cplV_in (sw := r 5) (kn := r 3) o2 o1 hn
    have e1 : cpl r e n = cplV (r 5) (r 2) (r 1) (r 3) n := by unfold cpl; rw [if_neg he, if_neg he, if_neg he]
    rw [← e1] at k
    refine ok_setD ok ?_ ?_
    · rw [t_add (by omega) (by omega)]; omega
    · rw [t_sub (by omega) (by omega)]; omega
theorem wst_ok {r : Nat → Int32} (ok : Ok r) : Ok (wst r) := by
  have h7 := ok.2.2.2.2.2.2.2.1
  have hd : 0 ≤ (wdr r).toInt := by
    unfold wdr
    split
    · exact (drK_in h7).1
    · exact (drK_in h7).1
  unfold wst
  split
  · exact pul_ok ok hd
  · exact pul_ok ok hd
theorem wsN_ok {n : Nat} : ∀ {r : Nat → Int32}, Ok r → Ok (wsN r n) := by
  induction n with
  | zero => intro r ok; exact ok
  | succ n ih => intro r ok; exact ih (wst_ok ok)
/-- nothing else changes by a WASH -/
theorem setD_setD {r : Nat → Int32} {a b a' b' : Int32} : setD (setD r a b) a' b' = setD r a' b' := by
  funext j
  unfold setD
  split
  · rfl
  · split
    · rfl
    · rfl
theorem setD_self {r : Nat → Int32} : setD r (r 1) (r 2) = r := by
  funext j
  unfold setD
  split
  · rename_i h; rw [h]
  · split
    · rename_i h; rw [h]
    · rfl
theorem wst_form (r : Nat → Int32) : wst r = setD r (wst r 1) (wst r 2) := by
  unfold wst pul
  repeat' split
  all_goals rfl
theorem wsN_form (n : Nat) : ∀ r : Nat → Int32, wsN r n = setD r (wsN r n 1) (wsN r n 2) := by
  induction n with
  | zero => intro r; exact setD_self.symm
  | succ n ih =>
    intro r
    show wsN (wst r) n = setD r (wsN (wst r) n 1) (wsN (wst r) n 2)
    rw [ih (wst r)]
    rw [wst_form r, setD_setD]
    rfl
theorem wst_still {r : Nat → Int32} (h0 : wfar r = 0) : wst r = r := by
  unfold wfar at h0
  unfold wst pul
  by_cases h1 : r 1 < r 2
  · rw [if_pos h1] at h0 ⊢
    rw [if_pos rfl, h0, Int32.sub_zero, Int32.add_zero]
    exact setD_self
  · rw [if_neg h1] at h0 ⊢
    rw [if_neg (by decide), h0, Int32.sub_zero, Int32.add_zero]
    exact setD_self
theorem wsN_still {r : Nat → Int32} (h0 : wfar r = 0) : ∀ n, wsN r n = r := by
  intro n
  induction n with
  | zero => rfl
  | succ n ih =>
    show wsN (wst r) n = r
    rw [wst_still h0]
    exact ih

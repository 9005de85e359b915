section SCAN
variable {h h' : Sto} {w : Nat → Nat} {n p s : Nat}
/-- the letters of the class, of the model -/
def LX (h : Sto) (n : Nat) (w : Nat → Nat) : Prop := n ≤ 96 ∧ h 12 1 = nI n ∧ ∀ i, i < n → h 13 i = nI (w i) ∧ w i < 256
def LM (h : Sto) (n : Nat) (w : Nat → Nat) : Prop := n ≤ 96 ∧ h 17 8 = nI n ∧ ∀ i, i < n → h 22 i = nI (w i) ∧ w i < 256
abbrev Tk (w : Nat → Nat) (n : Nat) (c : Int32) (q : Nat) : Prop := q < n ∧ tsB c (nI (w q)) = true
def scI (w : Nat → Nat) (n s : Nat) : Nat → Nat → Nat → Nat × Bool
  | 0, _, p => (p, true)
  | m + 1, i, p => if Tk w n ((sByt.getD s []).getD i 0) p then scI w n s m (i + 1) (p + 1) else (p, false)
def stN (w : Nat → Nat) (n p : Nat) : Nat × Bool := if p < n ∧ fiN (nI (w p)) ≠ 5 then scI w n (fiN (nI (w p))) (sLen.getD (fiN (nI (w p))) 0) 0 (p + 1) else (p, false)
theorem scI_le : ∀ (m i p : Nat), p ≤ n → p ≤ (scI w n s m i p).1 ∧ (scI w n s m i p).1 ≤ n := by
  intro m
  induction m with
  | zero => intro i p hp; exact ⟨Nat.le_refl _, hp⟩
  | succ m ih =>
    intro i p hp
    rw [scI]
    split
    · rename_i t
      have := ih (i + 1) (p + 1) t.1
      omega
    · exact ⟨Nat.le_refl _, hp⟩
theorem scI_ok : ∀ (m i p : Nat), (scI w n s m i p).2 = true → (scI w n s m i p).1 = p + m := by
  intro m
  induction m with
  | zero => intro i p _; rfl
  | succ m ih =>
    intro i p hs
    rw [scI] at hs ⊢
    split at hs
    · rename_i t
      rw [if_pos t, ih (i + 1) (p + 1) hs]
      omega
    · cases hs
theorem stN_ok (hs : (stN w n p).2 = true) : p < n ∧ fiN (nI (w p)) ≠ 5 ∧ (stN w n p).1 = p + 1 + sLen.getD (fiN (nI (w p))) 0 ∧ (stN w n p).1 ≤ n := by
  unfold stN at hs ⊢
  by_cases c : p < n ∧ fiN (nI (w p)) ≠ 5
  · rw [if_pos c] at hs ⊢
    exact ⟨c.1, c.2, scI_ok _ _ _ hs, (scI_le _ _ _ c.1).2⟩
  · rw [if_neg c] at hs
    cases hs
theorem stN_le (hp : p ≤ n) : p ≤ (stN w n p).1 ∧ (stN w n p).1 ≤ n := by
  unfold stN
  split
  · rename_i c
    have := scI_le (w := w) (s := fiN (nI (w p))) (sLen.getD (fiN (nI (w p))) 0) 0 (p + 1) c.1
    omega
  · exact ⟨Nat.le_refl _, hp⟩
/-- where a FAULT of kind 1 is -/
def flN (w : Nat → Nat) (n : Nat) : Nat → Nat → Option Nat
  | 0, _ => none
  | f + 1, p => if (stN w n p).2 = true then (if (stN w n p).1 < n then flN w n f (stN w n p).1 else none) else some (stN w n p).1
def flV (o : Option Nat) : Int32 := match o with
  | none => -9
  | some q => nI q
theorem f_signAt (L : LX h n w) (hp : p < n) : ev mX2_signAt 0 [.ref 12, .int (nI p)] [] h = some (some (.int (nI (w p))), h) := by
  obtain ⟨l1, l2, l3⟩ := L
  have e1 : ¬ nI p < 0 := nI_pos (by omega)
  have e2 : ¬ nI n ≤ nI p := nI_ge hp (by omega)
  have e3 : ¬ (96 : Int32) ≤ nI p := nI_ge (b := 96) (by omega) (by omega)
  have e4 : (nI p).toNatClampNeg = p := nI_clamp (by omega)
  have e5 : ¬ 96 ≤ p := by omega
  simp [eX2_signAt_0, eX2_signAt_1, eX2_signAt_4, eX2_signAt_5, eX2_signAt_6, eX2_signAt_9, eX2_signAt_12, eX2_signAt_13, eX2_signAt_14, eX2_signAt_17, eX2_signAt_18, eX2_signAt_21, eX2_signAt_22, eX2_signAt_25, eX2_signAt_26, eX2_signAt_27, eX2_signAt_30, eX2_signAt_31, l2, e1, e2, e3, e4, e5, (l3 p hp).1, show lyA 13 = some 96 from rfl]
theorem f_signNo (L : LX h n w) (hp : n ≤ p) (hp2 : p < 1000) : ev mX2_signAt 0 [.ref 12, .int (nI p)] [] h = some (some (.int 0), h) := by
  obtain ⟨l1, l2, l3⟩ := L
  have e1 : ¬ nI p < 0 := nI_pos (by omega)
  have e2 : nI n ≤ nI p := nI_le hp (by omega)
  simp [eX2_signAt_0, eX2_signAt_1, eX2_signAt_4, eX2_signAt_5, eX2_signAt_6, eX2_signAt_9, eX2_signAt_12, eX2_signAt_13, eX2_signAt_14, eX2_signAt_17, eX2_signAt_18, eX2_signAt_21, eX2_signAt_22, eX2_signAt_25, eX2_signAt_26, eX2_signAt_27, eX2_signAt_30, eX2_signAt_31, l2, e1, e2]
theorem fu_in (L : LX h n w) (hs : s < 5) : ∀ (m i p : Nat), i + m = sLen.getD s 0 → p ≤ n → ev mX2_firstUnfit 33 [.ref 12, .int (nI p), .ref (100 + s), .int (nI i)] [] h = if (scI w n s m i p).2 = true then ev mX2_firstUnfit 76 [.ref 12, .int (nI (scI w n s m i p).1), .ref (100 + s), .int (nI (i + m))] [] h else some (some (.int (nI (scI w n s m i p).1)), h) := by
  have l6 := sl_lt (s := s)
  have rc := rc100 (show s < 7 by omega)
  have jl := j_len (s := s) (h := h) (by omega)
  have l2 := L.2.1
  have l1 := L.1
  intro m
  induction m with
  | zero =>
    intro i p hi hp
    have e1 : nI (sLen.getD s 0) ≤ nI i := nI_le (by omega) (by omega)
    generalize nI (sLen.getD s 0) = M at jl e1
    simp [eX2_firstUnfit_0, eX2_firstUnfit_1, eX2_firstUnfit_3, eX2_firstUnfit_4, eX2_firstUnfit_7, eX2_firstUnfit_10, eX2_firstUnfit_11, eX2_firstUnfit_12, eX2_firstUnfit_13, eX2_firstUnfit_16, eX2_firstUnfit_19, eX2_firstUnfit_20, eX2_firstUnfit_23, eX2_firstUnfit_26, eX2_firstUnfit_27, eX2_firstUnfit_28, eX2_firstUnfit_31, eX2_firstUnfit_32, eX2_firstUnfit_34, eX2_firstUnfit_35, eX2_firstUnfit_38, eX2_firstUnfit_41, eX2_firstUnfit_42, eX2_firstUnfit_43, eX2_firstUnfit_46, eX2_firstUnfit_49, eX2_firstUnfit_50, eX2_firstUnfit_51, eX2_firstUnfit_54, eX2_firstUnfit_55, eX2_firstUnfit_56, eX2_firstUnfit_59, eX2_firstUnfit_62, eX2_firstUnfit_65, eX2_firstUnfit_66, eX2_firstUnfit_67, eX2_firstUnfit_70, eX2_firstUnfit_73, eX2_firstUnfit_77, eX2_firstUnfit_78, eX2_firstUnfit_81, eX2_firstUnfit_84, eX2_firstUnfit_86, rc, jl, scI, eX2_firstUnfit_33, e1]
  | succ m ih =>
    intro i p hi hp
    have e1 : ¬ nI (sLen.getD s 0) ≤ nI i := nI_ge (by omega) (by omega)
    have jc := j_charAt (s := s) (i := i) (h := h) (by omega) (by omega)
    generalize nI (sLen.getD s 0) = M at jl e1
    rw [scI]
    generalize (sByt.getD s []).getD i 0 = c at jc
    rw [eX2_firstUnfit_33]
    by_cases hpn : p < n
    · have e2 : ¬ nI n ≤ nI p := nI_ge hpn (by omega)
      have fs := f_signAt L hpn
      have ff := f_fits (h := h) (c := c) (L.2.2 p hpn).2
      by_cases t : tsB c (nI (w p)) = true
      · rw [if_pos t] at ff
        have k := ih (i + 1) (p + 1) (by omega) (by omega)
        rw [if_pos (show Tk w n c p from ⟨hpn, t⟩), show i + (m + 1) = i + 1 + m by omega]
        refine Eq.trans ?_ k
        simp [eX2_firstUnfit_0, eX2_firstUnfit_1, eX2_firstUnfit_3, eX2_firstUnfit_4, eX2_firstUnfit_7, eX2_firstUnfit_10, eX2_firstUnfit_11, eX2_firstUnfit_12, eX2_firstUnfit_13, eX2_firstUnfit_16, eX2_firstUnfit_19, eX2_firstUnfit_20, eX2_firstUnfit_23, eX2_firstUnfit_26, eX2_firstUnfit_27, eX2_firstUnfit_28, eX2_firstUnfit_31, eX2_firstUnfit_32, eX2_firstUnfit_34, eX2_firstUnfit_35, eX2_firstUnfit_38, eX2_firstUnfit_41, eX2_firstUnfit_42, eX2_firstUnfit_43, eX2_firstUnfit_46, eX2_firstUnfit_49, eX2_firstUnfit_50, eX2_firstUnfit_51, eX2_firstUnfit_54, eX2_firstUnfit_55, eX2_firstUnfit_56, eX2_firstUnfit_59, eX2_firstUnfit_62, eX2_firstUnfit_65, eX2_firstUnfit_66, eX2_firstUnfit_67, eX2_firstUnfit_70, eX2_firstUnfit_73, eX2_firstUnfit_77, eX2_firstUnfit_78, eX2_firstUnfit_81, eX2_firstUnfit_84, eX2_firstUnfit_86, rc, jl, l2, e1, e2, jc, fs, ff, nI_1]
      · rw [if_neg t] at ff
        rw [if_neg (show ¬ Tk w n c p from fun z => t z.2)]
        simp [eX2_firstUnfit_0, eX2_firstUnfit_1, eX2_firstUnfit_3, eX2_firstUnfit_4, eX2_firstUnfit_7, eX2_firstUnfit_10, eX2_firstUnfit_11, eX2_firstUnfit_12, eX2_firstUnfit_13, eX2_firstUnfit_16, eX2_firstUnfit_19, eX2_firstUnfit_20, eX2_firstUnfit_23, eX2_firstUnfit_26, eX2_firstUnfit_27, eX2_firstUnfit_28, eX2_firstUnfit_31, eX2_firstUnfit_32, eX2_firstUnfit_34, eX2_firstUnfit_35, eX2_firstUnfit_38, eX2_firstUnfit_41, eX2_firstUnfit_42, eX2_firstUnfit_43, eX2_firstUnfit_46, eX2_firstUnfit_49, eX2_firstUnfit_50, eX2_firstUnfit_51, eX2_firstUnfit_54, eX2_firstUnfit_55, eX2_firstUnfit_56, eX2_firstUnfit_59, eX2_firstUnfit_62, eX2_firstUnfit_65, eX2_firstUnfit_66, eX2_firstUnfit_67, eX2_firstUnfit_70, eX2_firstUnfit_73, eX2_firstUnfit_77, eX2_firstUnfit_78, eX2_firstUnfit_81, eX2_firstUnfit_84, eX2_firstUnfit_86, rc, jl, l2, e1, e2, jc, fs, ff]
    · have e2 : nI n ≤ nI p := nI_le (by omega) (by omega)
      rw [if_neg (show ¬ Tk w n c p from fun z => hpn z.1)]
      simp [eX2_firstUnfit_0, eX2_firstUnfit_1, eX2_firstUnfit_3, eX2_firstUnfit_4, eX2_firstUnfit_7, eX2_firstUnfit_10, eX2_firstUnfit_11, eX2_firstUnfit_12, eX2_firstUnfit_13, eX2_firstUnfit_16, eX2_firstUnfit_19, eX2_firstUnfit_20, eX2_firstUnfit_23, eX2_firstUnfit_26, eX2_firstUnfit_27, eX2_firstUnfit_28, eX2_firstUnfit_31, eX2_firstUnfit_32, eX2_firstUnfit_34, eX2_firstUnfit_35, eX2_firstUnfit_38, eX2_firstUnfit_41, eX2_firstUnfit_42, eX2_firstUnfit_43, eX2_firstUnfit_46, eX2_firstUnfit_49, eX2_firstUnfit_50, eX2_firstUnfit_51, eX2_firstUnfit_54, eX2_firstUnfit_55, eX2_firstUnfit_56, eX2_firstUnfit_59, eX2_firstUnfit_62, eX2_firstUnfit_65, eX2_firstUnfit_66, eX2_firstUnfit_67, eX2_firstUnfit_70, eX2_firstUnfit_73, eX2_firstUnfit_77, eX2_firstUnfit_78, eX2_firstUnfit_81, eX2_firstUnfit_84, eX2_firstUnfit_86, rc, jl, l2, e1, e2]
theorem fu_loop (L : LX h n w) : ∀ (f p : Nat) (a2 a3 : Value), p ≤ n → n + 1 ≤ f + p → ev mX2_firstUnfit 2 [.ref 12, .int (nI p), a2, a3] [] h = some (some (.int (flV (flN w n f p))), h) := by
  have l2 := L.2.1
  have l1 := L.1
  intro f
  induction f with
  | zero => intro p a2 a3 hp hf; omega
  | succ f ih =>
    intro p a2 a3 hp hf
    rw [flN]
    by_cases hpn : p < n
    · have e2 : ¬ nI n ≤ nI p := nI_ge hpn (by omega)
      have fs := f_signAt L hpn
      have fm := f_form (h := h) (x := nI (w p))
      have fl := fi_lt (nI (w p))
      have je := j_empty (s := fiN (nI (w p))) (h := h) (by omega)
      have rc := rc100 (show fiN (nI (w p)) < 7 by omega)
      by_cases c5 : fiN (nI (w p)) = 5
      · have hst : stN w n p = (p, false) := by unfold stN; rw [if_neg (fun z => z.2 c5)]
        rw [hst, if_neg (show ¬ (p, false).2 = true from Bool.false_ne_true)]
        rw [c5] at fm je rc
        rw [show sLen.getD 5 0 = 0 from rfl, if_pos rfl] at je
        rw [eX2_firstUnfit_2]
        simp only [show 100 + 5 = 105 from rfl] at fm je rc
        simp [eX2_firstUnfit_0, eX2_firstUnfit_1, eX2_firstUnfit_3, eX2_firstUnfit_4, eX2_firstUnfit_7, eX2_firstUnfit_10, eX2_firstUnfit_11, eX2_firstUnfit_12, eX2_firstUnfit_13, eX2_firstUnfit_16, eX2_firstUnfit_19, eX2_firstUnfit_20, eX2_firstUnfit_23, eX2_firstUnfit_26, eX2_firstUnfit_27, eX2_firstUnfit_28, eX2_firstUnfit_31, eX2_firstUnfit_32, eX2_firstUnfit_34, eX2_firstUnfit_35, eX2_firstUnfit_38, eX2_firstUnfit_41, eX2_firstUnfit_42, eX2_firstUnfit_43, eX2_firstUnfit_46, eX2_firstUnfit_49, eX2_firstUnfit_50, eX2_firstUnfit_51, eX2_firstUnfit_54, eX2_firstUnfit_55, eX2_firstUnfit_56, eX2_firstUnfit_59, eX2_firstUnfit_62, eX2_firstUnfit_65, eX2_firstUnfit_66, eX2_firstUnfit_67, eX2_firstUnfit_70, eX2_firstUnfit_73, eX2_firstUnfit_77, eX2_firstUnfit_78, eX2_firstUnfit_81, eX2_firstUnfit_84, eX2_firstUnfit_86, l2, e2, fs, fm, je, rc, flV]
      · have hst : stN w n p = scI w n (fiN (nI (w p))) (sLen.getD (fiN (nI (w p))) 0) 0 (p + 1) := by unfold stN; rw [if_pos ⟨hpn, c5⟩]
        have ne : ¬ sLen.getD (fiN (nI (w p))) 0 = 0 := by
          have : fiN (nI (w p)) = 0 ∨ fiN (nI (w p)) = 1 ∨ fiN (nI (w p)) = 2 ∨ fiN (nI (w p)) = 3 ∨ fiN (nI (w p)) = 4 := by omega
          rcases this with z | z | z | z | z <;> rw [z] <;> decide
        rw [if_neg ne] at je
        have inn := fu_in L (s := fiN (nI (w p))) (by omega) (sLen.getD (fiN (nI (w p))) 0) 0 (p + 1) (by omega) (by omega)
        rw [← hst] at inn
        have le := stN_le (w := w) (n := n) (p := p) hp
        have head : ev mX2_firstUnfit 2 [.ref 12, .int (nI p), a2, a3] [] h = ev mX2_firstUnfit 33 [.ref 12, .int (nI (p + 1)), .ref (100 + fiN (nI (w p))), .int (nI 0)] [] h := by
          rw [eX2_firstUnfit_2]
          simp [eX2_firstUnfit_0, eX2_firstUnfit_1, eX2_firstUnfit_3, eX2_firstUnfit_4, eX2_firstUnfit_7, eX2_firstUnfit_10, eX2_firstUnfit_11, eX2_firstUnfit_12, eX2_firstUnfit_13, eX2_firstUnfit_16, eX2_firstUnfit_19, eX2_firstUnfit_20, eX2_firstUnfit_23, eX2_firstUnfit_26, eX2_firstUnfit_27, eX2_firstUnfit_28, eX2_firstUnfit_31, eX2_firstUnfit_32, eX2_firstUnfit_34, eX2_firstUnfit_35, eX2_firstUnfit_38, eX2_firstUnfit_41, eX2_firstUnfit_42, eX2_firstUnfit_43, eX2_firstUnfit_46, eX2_firstUnfit_49, eX2_firstUnfit_50, eX2_firstUnfit_51, eX2_firstUnfit_54, eX2_firstUnfit_55, eX2_firstUnfit_56, eX2_firstUnfit_59, eX2_firstUnfit_62, eX2_firstUnfit_65, eX2_firstUnfit_66, eX2_firstUnfit_67, eX2_firstUnfit_70, eX2_firstUnfit_73, eX2_firstUnfit_77, eX2_firstUnfit_78, eX2_firstUnfit_81, eX2_firstUnfit_84, eX2_firstUnfit_86, l2, e2, fs, fm, je, rc, nI_1, nI_0]
        rw [head, inn]
        by_cases ok : (stN w n p).2 = true
        · rw [if_pos ok, if_pos ok]
          have so := stN_ok ok
          by_cases lt : (stN w n p).1 < n
          · have k := ih (stN w n p).1 (.ref (100 + fiN (nI (w p)))) (.int (nI (0 + sLen.getD (fiN (nI (w p))) 0))) (by omega) (by omega)
            rw [if_pos lt, ← k]
            have e3 : nI (stN w n p).1 < nI n := nI_lt lt (by omega)
            simp [eX2_firstUnfit_76, eX2_firstUnfit_77, eX2_firstUnfit_78, eX2_firstUnfit_81, l2, e3]
          · have e3 : ¬ nI (stN w n p).1 < nI n := nI_nlt (by omega) (by omega)
            rw [if_neg lt]
            simp [eX2_firstUnfit_76, eX2_firstUnfit_77, eX2_firstUnfit_78, eX2_firstUnfit_81, eX2_firstUnfit_84, eX2_firstUnfit_86, l2, e3, flV]
        · rw [if_neg ok, if_neg ok]
          rfl
    · have hst : stN w n p = (p, false) := by unfold stN; rw [if_neg (fun z => hpn z.1)]
      rw [hst, if_neg (show ¬ (p, false).2 = true from Bool.false_ne_true)]
      have e2 : nI n ≤ nI p := nI_le (by omega) (by omega)
      have fs := f_signNo L (p := p) (by omega) (by omega)
      have fm := f_form (h := h) (x := 0)
      rw [show 100 + fiN 0 = 105 from rfl] at fm
      rw [eX2_firstUnfit_2]
      simp [eX2_firstUnfit_0, eX2_firstUnfit_1, eX2_firstUnfit_3, eX2_firstUnfit_4, eX2_firstUnfit_7, eX2_firstUnfit_10, eX2_firstUnfit_11, eX2_firstUnfit_12, eX2_firstUnfit_13, eX2_firstUnfit_16, eX2_firstUnfit_19, eX2_firstUnfit_20, eX2_firstUnfit_23, eX2_firstUnfit_26, eX2_firstUnfit_27, eX2_firstUnfit_28, eX2_firstUnfit_31, eX2_firstUnfit_32, eX2_firstUnfit_34, eX2_firstUnfit_35, eX2_firstUnfit_38, eX2_firstUnfit_41, eX2_firstUnfit_42, eX2_firstUnfit_43, eX2_firstUnfit_46, eX2_firstUnfit_49, eX2_firstUnfit_50, eX2_firstUnfit_51, eX2_firstUnfit_54, eX2_firstUnfit_55, eX2_firstUnfit_56, eX2_firstUnfit_59, eX2_firstUnfit_62, eX2_firstUnfit_65, eX2_firstUnfit_66, eX2_firstUnfit_67, eX2_firstUnfit_70, eX2_firstUnfit_73, eX2_firstUnfit_77, eX2_firstUnfit_78, eX2_firstUnfit_81, eX2_firstUnfit_84, eX2_firstUnfit_86, l2, e2, fs, fm, flV]
theorem f_firstUnfit (L : LX h n w) : ev mX2_firstUnfit 0 [.ref 12, .null, .null, .null] [] h = some (some (.int (flV (flN w n (n + 1) 0))), h) := by
  have k := fu_loop L (n + 1) 0 .null .null (by omega) (by omega)
  rw [← k, nI_0]
  simp [eX2_firstUnfit_0, eX2_firstUnfit_1]
end SCAN

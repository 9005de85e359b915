/-! BUNCHING OUT: the walk as a function of a row, the class's measure and the model's outSeconds in it -/
def mvN (r : Nat → Int32) (i : Nat) : Nat := (mvK (kO r i)).toInt.toNat
def bsN (r : Nat → Int32) (i : Nat) : Nat := (bsK (kO r i) (fO r i)).toInt.toNat
theorem mvK_in (k : Int32) : 0 ≤ (mvK k).toInt ∧ (mvK k).toInt ≤ 3 := by
  unfold mvK
  repeat' split
  all_goals decide
theorem mvN_eq (r : Nat → Int32) (i : Nat) : mvK (kO r i) = nI (mvN r i) ∧ mvN r i ≤ 3 := by
  have := mvK_in (kO r i)
  refine ⟨nI_nat (by unfold mvN; omega), by unfold mvN; omega⟩
theorem bsK_in {k f : Int32} (hf : 0 ≤ f.toInt ∧ f.toInt ≤ 9) : 3 ≤ (bsK k f).toInt ∧ (bsK k f).toInt ≤ 12 := by
  unfold bsK
  split
  · decide
  · split
    · rw [t_add (by show _ ≤ 3 + f.toInt; omega) (by show 3 + f.toInt < _; omega)]
      show 3 ≤ 3 + f.toInt ∧ 3 + f.toInt ≤ 12
      omega
    · decide
theorem bsN_eq {r : Nat → Int32} {i : Nat} (ok : Ok r) (hi : i < 12) : bsK (kO r i) (fO r i) = nI (bsN r i) ∧ 3 ≤ bsN r i ∧ bsN r i ≤ 12 := by
  have := bsK_in (k := kO r i) (ok.2.2.2.2.2.2.2.2 i hi).2
  refine ⟨nI_nat (by unfold bsN; omega), by unfold bsN; omega, by unfold bsN; omega⟩
/-- the INCH at depth d -/
def ixd (r : Nat → Int32) (e : Int32) (d : Nat) : Nat := ixN (r 0) e (nI d)
def bump (g : Nat → Nat) (i t : Nat) : Nat → Nat := fun j => if j = i then g j + t else g j
def wkc (r : Nat → Int32) (e : Int32) : Nat → Nat → Nat → Nat → (Nat → Nat) → Option (Nat × Nat × (Nat → Nat))
  | 0, _, b, s, g => some (b, s, g)
  | f + 1, d, b, s, g => if d = 0 then some (b, s, g) else if mvN r (ixd r e d) = 0 then none else wkc r e f (d - mvN r (ixd r e d)) (b + 1) (s + bsN r (ixd r e d)) (bump g (ixd r e d) (bsN r (ixd r e d)))
/-- an INCH from the END's own side -/
def ownI (len : Nat) (e : Int32) (i : Nat) : Nat := if e = 0 then i else len - 1 - i
def lenN (r : Nat → Int32) : Nat := (r 0).toInt.toNat
theorem len_in {r : Nat → Int32} (ok : Ok r) : 2 ≤ lenN r ∧ lenN r ≤ 12 ∧ (r 0).toInt = (lenN r : Int) ∧ r 0 = nI (lenN r) := by
  have := ok.1
  unfold lenN
  exact ⟨by omega, by omega, by omega, nI_nat (by omega)⟩
theorem ixd_in {r : Nat → Int32} {e : Int32} {d : Nat} (ok : Ok r) (hd : d ≤ 24) : ixd r e d < lenN r ∧ ixd r e d < 12 ∧ ichD (r 0) e (nI d) = nI (ixd r e d) := by
  have l := len_in ok
  have k := ich_in (len := r 0) (e := e) (d := nI d) ok.1 (by rw [t_nI (by omega)]; omega)
  unfold ixd
  refine ⟨by omega, by omega, k.1⟩
theorem ixd_own {r : Nat → Int32} {e : Int32} {d : Nat} (ok : Ok r) (h1 : 1 ≤ d) (hd : d ≤ 24) : ownI (lenN r) e (ixd r e d) = min ((d - 1) / 2) (lenN r - 1) := by
  have l := len_in ok
  have k := ixd_in (e := e) ok hd
  have hdi : (nI d).toInt = (d : Int) := t_nI (by omega)
  have e1 : (r 0 - 1).toInt = (lenN r : Int) - 1 := by
    rw [t_sub (by show _ ≤ (r 0).toInt - 1; omega) (by show (r 0).toInt - 1 < _; omega), l.2.2.1]
    rfl
  have e2 : ((nI d - 1) / 2).toInt = ((d : Int) - 1) / 2 := by
    rw [half_le (by omega) (by omega), hdi]
  have hn1 : ¬ nI d < 1 := by
    rw [t_lt, hdi]
    show ¬ (d : Int) < 1
    omega
  have fr : ∃ f : Int32, (if nI d < 1 then 0 else if r 0 - 1 < (nI d - 1) / 2 then r 0 - 1 else (nI d - 1) / 2) = f ∧ f.toInt = (min ((d - 1) / 2) (lenN r - 1) : Nat) := by
    refine ⟨_, rfl, ?_⟩
    rw [if_neg hn1]
    by_cases h3 : r 0 - 1 < (nI d - 1) / 2
    · rw [if_pos h3, e1]
      rw [t_lt, e1, e2] at h3
      omega
    · rw [if_neg h3, e2]
      rw [t_lt, e1, e2] at h3
      omega
  obtain ⟨f, hf, hf2⟩ := fr
  have k3 := k.2.2
  unfold ichD at k3
  rw [hf] at k3
  unfold ownI
  by_cases he : e = 0
  · rw [if_pos he]
    rw [if_pos he] at k3
    have : f.toInt = ((ixd r e d : Nat) : Int) := by rw [k3, t_nI (by omega)]
    omega
  · rw [if_neg he]
    rw [if_neg he] at k3
    have h4 : (r 0 - 1 - f).toInt = (lenN r : Int) - 1 - f.toInt := by rw [t_sub (by rw [e1, hf2]; omega) (by rw [e1, hf2]; omega), e1]
    have : (lenN r : Int) - 1 - f.toInt = ((ixd r e d : Nat) : Int) := by rw [← h4, k3, t_nI (by omega)]
    omega
/-- z is the INCH that cost most, the first from its side; -9 none -/
def Dear (len : Nat) (e : Int32) (g : Nat → Nat) (z : Int32) : Prop := ((∀ i, i < len → g i = 0) ∧ z = -9) ∨ ∃ D, D < len ∧ z = nI D ∧ 0 < g D ∧ (∀ i, i < len → g i ≤ g D) ∧ ∀ i, i < len → ownI len e i < ownI len e D → g i < g D
/-- what the class's loop holds of it on the way -/
def Jn (len : Nat) (e : Int32) (K : Nat) (g : Nat → Nat) (most here last dear : Int32) : Prop := ((∀ i, i < len → g i = 0) ∧ most = 0 ∧ last = -9 ∧ dear = -9) ∨ ∃ M D, M < len ∧ D < len ∧ last = nI M ∧ dear = nI D ∧ here = nI (g M) ∧ most = nI (g D) ∧ 0 < g D ∧ 0 < g M ∧ (∀ i, i < len → g i ≤ g D) ∧ (∀ i, i < len → ownI len e i < ownI len e D → g i < g D) ∧ (∀ i, i < len → ownI len e i < ownI len e M → g i = 0) ∧ K ≤ ownI len e M
theorem own_inj {len : Nat} {e : Int32} {i j : Nat} (hi : i < len) (hj : j < len) (h : ownI len e i = ownI len e j) : i = j := by
  unfold ownI at h
  split at h <;> omega
theorem Jn.dear {len K : Nat} {e : Int32} {g : Nat → Nat} {most here last dear : Int32} (j : Jn len e K g most here last dear) : Dear len e g dear := by
  rcases j with ⟨h1, h2, h3, h4⟩ | ⟨M, D, h1, h2, h3, h4, h5, h6, h7, h7', h8, h9, h10, h11⟩
  · exact Or.inl ⟨h1, h4⟩
  · exact Or.inr ⟨D, h2, h4, h7, h8, h9⟩
theorem Jn.step {len K : Nat} {e : Int32} {g : Nat → Nat} {most here last dear : Int32} {i t : Nat} (j : Jn len e K g most here last dear) (hi : i < len) (h12 : len ≤ 12) (hK : ownI len e i ≤ K) (ht : 0 < t) (hb : ∀ x, x < len → g x + t < 1000000) {K' : Nat} (hK' : K' ≤ ownI len e i) :
    Jn len e K' (bump g i t) (if (if nI i = last then here + nI t else nI t) < most then most else (if nI i = last then here + nI t else nI t)) (if nI i = last then here + nI t else nI t) (nI i) (if (if nI i = last then here + nI t else nI t) < most then dear else nI i) := by
  have bi : bump g i t i = g i + t := by unfold bump; rw [if_pos rfl]
  have bo : ∀ x, x ≠ i → bump g i t x = g x := fun x hx => by unfold bump; rw [if_neg hx]
  have hh : (if nI i = last then here + nI t else nI t) = nI (g i + t) := by
    rcases j with ⟨h1, h2, h3, h4⟩ | ⟨M, D, h1, h2, h3, h4, h5, h6, h7, h7', h8, h9, h10, h11⟩
    · have : ¬ nI i = last := by
        rw [h3]
        intro z
        have := congrArg Int32.toInt z
        rw [t_nI (by omega)] at this
        have h9 : (-9 : Int32).toInt = -9 := rfl
        rw [h9] at this
        omega
      rw [if_neg this, h1 i hi, Nat.zero_add]
    · by_cases hm : i = M
      · subst hm
        rw [if_pos h3.symm, h5, nI_add]
      · have : ¬ nI i = last := by
          rw [h3]
          intro z
          exact hm ((nI_eq (by omega) (by omega)).mp z)
        have hlt : ownI len e i < ownI len e M := by
          rcases Nat.lt_or_ge (ownI len e i) (ownI len e M) with z | z
          · exact z
          · exact absurd (own_inj (e := e) hi h1 (by omega)) hm
        rw [if_neg this, h10 i hi hlt, Nat.zero_add]
  rw [hh]
  have low : ∀ x, x < len → ownI len e x < ownI len e i → g x = 0 := by
    intro x hx hxi
    rcases j with ⟨h1, -⟩ | ⟨M, D, h1, h2, h3, h4, h5, h6, h7, h7', h8, h9, h10, h11⟩
    · exact h1 x hx
    · exact h10 x hx (by omega)
  have bnd := hb i hi
  by_cases hc : nI (g i + t) < most
  · rw [if_pos hc, if_pos hc]
    rcases j with ⟨h1, h2, h3, h4⟩ | ⟨M, D, h1, h2, h3, h4, h5, h6, h7, h7', h8, h9, h10, h11⟩
    · rw [h2, t_lt, t_nI (by omega)] at hc
      have : ((g i + t : Nat) : Int) < 0 := hc
      omega
    · have bD := hb D h2
      rw [h6, nI_ltI (by omega) (by omega)] at hc
      have hDi : D ≠ i := by
        intro z
        rw [z] at hc
        omega
      refine Or.inr ⟨i, D, hi, h2, rfl, h4, by rw [bi], by rw [bo D hDi]; exact h6, by rw [bo D hDi]; exact h7, by rw [bi]; omega, ?_, ?_, ?_, hK'⟩
      · intro x hx
        by_cases hxi : x = i
        · subst hxi; rw [bi, bo D hDi]; omega
        · rw [bo x hxi, bo D hDi]; exact h8 x hx
      · intro x hx hxD
        by_cases hxi : x = i
        · subst hxi; rw [bi, bo D hDi]; omega
        · rw [bo x hxi, bo D hDi]; exact h9 x hx hxD
      · intro x hx hxi
        have : x ≠ i := fun z => by rw [z] at hxi; omega
        rw [bo x this]
        exact low x hx hxi
  · rw [if_neg hc, if_neg hc]
    have top : ∀ x, x < len → g x ≤ g i + t := by
      intro x hx
      rcases j with ⟨h1, h2, h3, h4⟩ | ⟨M, D, h1, h2, h3, h4, h5, h6, h7, h7', h8, h9, h10, h11⟩
      · rw [h1 x hx]; omega
      · have bD := hb D h2
        rw [h6, nI_ltI (by omega) (by omega)] at hc
        have := h8 x hx
        omega
    refine Or.inr ⟨i, i, hi, hi, rfl, rfl, by rw [bi], by rw [bi], by rw [bi]; omega, by rw [bi]; omega, ?_, ?_, ?_, hK'⟩
    · intro x hx
      by_cases hxi : x = i
      · rw [hxi]; exact Nat.le_refl _
      · rw [bo x hxi, bi]; exact top x hx
    · intro x hx hxi
      have : x ≠ i := fun z => by rw [z] at hxi; omega
      rw [bo x this, bi, low x hx hxi]
      omega
    · intro x hx hxi
      have : x ≠ i := fun z => by rw [z] at hxi; omega
      rw [bo x this]
      exact low x hx hxi

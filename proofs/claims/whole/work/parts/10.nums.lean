/-! NUMBERS: Int32 through toInt, where nothing runs over -/
theorem t_add {a b : Int32} (h1 : -2147483648 ≤ a.toInt + b.toInt) (h2 : a.toInt + b.toInt < 2147483648) : (a + b).toInt = a.toInt + b.toInt := by
  rw [Int32.toInt_add]
  exact Int.bmod_eq_of_le (by omega) (by omega)
theorem t_sub {a b : Int32} (h1 : -2147483648 ≤ a.toInt - b.toInt) (h2 : a.toInt - b.toInt < 2147483648) : (a - b).toInt = a.toInt - b.toInt := by
  rw [Int32.toInt_sub]
  exact Int.bmod_eq_of_le (by omega) (by omega)
theorem t_mul {a b : Int32} (h1 : -2147483648 ≤ a.toInt * b.toInt) (h2 : a.toInt * b.toInt < 2147483648) : (a * b).toInt = a.toInt * b.toInt := by
  rw [Int32.toInt_mul]
  exact Int.bmod_eq_of_le (by omega) (by omega)
theorem t_neg {a : Int32} (h1 : -2147483648 < a.toInt) : (-a).toInt = -a.toInt := by
  have := a.toInt_lt
  rw [Int32.toInt_neg]
  exact Int.bmod_eq_of_le (by omega) (by omega)
theorem t_lt {a b : Int32} : a < b ↔ a.toInt < b.toInt := Int32.lt_iff_toInt_lt
theorem t_le {a b : Int32} : a ≤ b ↔ a.toInt ≤ b.toInt := Int32.le_iff_toInt_le
theorem t_eq {a b : Int32} : a = b ↔ a.toInt = b.toInt := ⟨fun h => by rw [h], fun h => Int32.toInt_inj.mp h⟩
theorem t_div {a b : Int32} (hb : 0 < b.toInt) : (a / b).toInt = a.toInt.tdiv b.toInt := by
  have h1 := a.toInt_lt
  have h2 := a.le_toInt
  rw [Int32.toInt_div]
  have h3 : -2147483648 ≤ a.toInt.tdiv b.toInt ∧ a.toInt.tdiv b.toInt ≤ 2147483647 := by
    rcases Int.lt_or_le a.toInt 0 with h | h
    · have e : a.toInt.tdiv b.toInt = -((-a.toInt).tdiv b.toInt) := by rw [Int.neg_tdiv, Int.neg_neg]
      have h4 : (-a.toInt).tdiv b.toInt = (-a.toInt) / b.toInt := Int.tdiv_eq_ediv_of_nonneg (by omega)
      have h5 : (-a.toInt) / b.toInt ≤ -a.toInt := Int.ediv_le_self _ (by omega)
      have h6 : 0 ≤ (-a.toInt) / b.toInt := Int.ediv_nonneg (by omega) (by omega)
      rw [e, h4]
      omega
    · have h4 : a.toInt.tdiv b.toInt = a.toInt / b.toInt := Int.tdiv_eq_ediv_of_nonneg h
      have h5 : a.toInt / b.toInt ≤ a.toInt := Int.ediv_le_self _ h
      have h6 : 0 ≤ a.toInt / b.toInt := Int.ediv_nonneg h (by omega)
      rw [h4]
      omega
  exact Int.bmod_eq_of_le (by omega) (by omega)
theorem t_cl {a : Int32} : a.toNatClampNeg = a.toInt.toNat := rfl
theorem t_nI {n : Nat} (h : n < 2147483648) : (nI n).toInt = (n : Int) := nI_toInt h
theorem t_of {z : Int} (h1 : -2147483648 ≤ z) (h2 : z < 2147483648) : (Int32.ofInt z).toInt = z := by
  rw [Int32.toInt_ofInt]
  show z.bmod 4294967296 = z
  exact Int.bmod_eq_of_le (by omega) (by omega)
theorem nI_nat {x : Int32} {n : Nat} (h : x.toInt = (n : Int)) : x = nI n := by
  have := x.toInt_lt
  apply t_eq.mpr
  rw [h, t_nI (by omega)]
/-! STORES -/
theorem st_at {h : Sto} {c j a b : Nat} {v : Int32} : st h c j v a b = if a = c ∧ b = j then v else h a b := rfl
/-- Hem at cell c as a row of 32 -/
def hm (h : Sto) (c : Nat) : Nat → Int32 := fun j => if j < 8 then h c (j + 2) else if 32 ≤ j then 0 else if j % 2 = 0 then h (c + 1) ((j - 8) / 2) else h (c + 2) ((j - 9) / 2)
/-- the model's row at cell r -/
def mr (h : Sto) (r : Nat) : Nat → Int32 := fun j => if j < 32 then h r j else 0
theorem mr_lo {h : Sto} {r j : Nat} (hj : j < 32) : mr h r j = h r j := by unfold mr; rw [if_pos hj]
def kO (r : Nat → Int32) (i : Nat) : Int32 := r (8 + 2 * i)
def fO (r : Nat → Int32) (i : Nat) : Int32 := r (9 + 2 * i)
theorem hm_k {h : Sto} {c i : Nat} (hi : i < 12) : kO (hm h c) i = h (c + 1) i := by
  unfold kO hm
  rw [if_neg (by omega), if_neg (by omega), if_pos (by omega), show (8 + 2 * i - 8) / 2 = i by omega]
theorem hm_f {h : Sto} {c i : Nat} (hi : i < 12) : fO (hm h c) i = h (c + 2) i := by
  unfold fO hm
  rw [if_neg (by omega), if_neg (by omega), if_neg (by omega), show (9 + 2 * i - 9) / 2 = i by omega]
theorem mr_k {h : Sto} {r i : Nat} (hi : i < 12) : kO (mr h r) i = h r (8 + 2 * i) := mr_lo (by omega)
theorem mr_f {h : Sto} {r i : Nat} (hi : i < 12) : fO (mr h r) i = h r (9 + 2 * i) := mr_lo (by omega)
def seam (k : Int32) : Prop := k = 1 ∨ k = 3 ∨ k = 5
def mvK (k : Int32) : Int32 := if k = 3 then 0 else if k = 1 ∨ k = 5 then 1 else if k = 2 then 3 else 2
def bsK (k f : Int32) : Int32 := if k = 1 ∨ k = 3 ∨ k = 5 then 5 else if k = 4 then 3 + f else 3
def thK (k f : Int32) : Int32 := if k = 3 then 9 + f else if k = 1 ∨ k = 5 then 9 else if k = 4 then 6 else 4
def drK (k p : Int32) : Int32 := if k = 5 then 0 else if k = 1 ∨ k = 3 then p / 2 else if k = 2 then p + 1 else p
def smK (k : Int32) : Int32 := if k = 1 ∨ k = 3 ∨ k = 5 then 1 else 0
theorem f_Kind_bunchMove {x : Int32} {h : Sto} : ev mX1_bunchMove 0 [.int x] [] h = some (some (.int (mvK x)), h) := by
  simp only [eX1_bunchMove_0, eX1_bunchMove_1, eX1_bunchMove_36, eX1_bunchMove_37, eX1_bunchMove_38, eX1_bunchMove_39, eX1_bunchMove_40, eX1_bunchMove_41, eX1_bunchMove_42, eX1_bunchMove_43]
  unfold mvK
  repeat' split
  all_goals first | rfl | (simp_all; done)
theorem f_Kind_bunchSeconds {x f : Int32} {h : Sto} : ev mX1_bunchSeconds 0 [.int x, .int f] [] h = some (some (.int (bsK x f)), h) := by
  simp only [eX1_bunchSeconds_0, eX1_bunchSeconds_1, eX1_bunchSeconds_36, eX1_bunchSeconds_37, eX1_bunchSeconds_38, eX1_bunchSeconds_39, eX1_bunchSeconds_40, eX1_bunchSeconds_41, eX1_bunchSeconds_42, eX1_bunchSeconds_43]
  unfold bsK
  repeat' split
  all_goals first | rfl | (simp_all; done)
theorem f_Kind_threadSeconds {x f : Int32} {h : Sto} : ev mX1_threadSeconds 0 [.int x, .int f] [] h = some (some (.int (thK x f)), h) := by
  simp only [eX1_threadSeconds_0, eX1_threadSeconds_1, eX1_threadSeconds_36, eX1_threadSeconds_38, eX1_threadSeconds_39, eX1_threadSeconds_41, eX1_threadSeconds_42, eX1_threadSeconds_43, eX1_threadSeconds_44, eX1_threadSeconds_46, eX1_threadSeconds_47, eX1_threadSeconds_48]
  unfold thK
  repeat' split
  all_goals first | rfl | (simp_all; done)
theorem f_Kind_washDraw {x p : Int32} {h : Sto} : ev mX1_washDraw 0 [.int x, .int p] [] h = some (some (.int (drK x p)), h) := by
  simp [eX1_washDraw_0, eX1_washDraw_1, eX1_washDraw_36, eX1_washDraw_37, eX1_washDraw_38, eX1_washDraw_39, eX1_washDraw_40, eX1_washDraw_41, eX1_washDraw_42, eX1_washDraw_43, eX1_washDraw_44, eX1_washDraw_45, eX1_washDraw_46, eX1_washDraw_47]
  unfold drK
  repeat' split
  all_goals first | rfl | (simp_all; done)
theorem f_Kind_isSeam {x : Int32} {h : Sto} : ev mX1_isSeam 0 [.int x] [] h = some (some (.int (smK x)), h) := by
  simp [eX1_isSeam_0, eX1_isSeam_1, eX1_isSeam_2, eX1_isSeam_5, eX1_isSeam_6, eX1_isSeam_7, eX1_isSeam_10, eX1_isSeam_11, eX1_isSeam_12, eX1_isSeam_15, eX1_isSeam_16, eX1_isSeam_19, eX1_isSeam_20]
  unfold smK
  repeat' split
  all_goals first | rfl | (simp_all; done)

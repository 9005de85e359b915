section CALLS8
variable {h h' : Sto} {e n : Int32}
theorem wkc_congr {r r' : Nat → Int32} (h0 : r 0 = r' 0) (hk : ∀ i, mvN r i = mvN r' i) (hb : ∀ i, bsN r i = bsN r' i) : ∀ (f d b s : Nat) (g : Nat → Nat), wkc r e f d b s g = wkc r' e f d b s g := by
  intro f
  induction f with
  | zero => intro d b s g; rfl
  | succ f ih =>
    intro d b s g
    have hi : ixd r e d = ixd r' e d := by unfold ixd; rw [h0]
    rw [wkc, wkc, hi, hk, hb, ih]
theorem sec_congr {r r' : Nat → Int32} {d : Int32} (h0 : r 0 = r' 0) (hk : ∀ i, mvN r i = mvN r' i) (hb : ∀ i, bsN r i = bsN r' i) : sec r e d = sec r' e d := by
  unfold sec wk
  rw [wkc_congr h0 hk hb]
theorem upd_k {r : Nat → Int32} {s i : Nat} {v : Int32} (hs : s < 8) : kO (upd r s v) i = kO r i := by unfold kO upd; rw [if_neg (by omega)]
theorem upd_f {r : Nat → Int32} {s i : Nat} {v : Int32} (hs : s < 8) : fO (upd r s v) i = fO r i := by unfold fO upd; rw [if_neg (by omega)]
theorem sec_upd {r : Nat → Int32} {s : Nat} {v d : Int32} (h0 : s ≠ 0) (hs : s < 8) : sec (upd r s v) e d = sec r e d :=
  sec_congr (by rw [upd_at, if_neg (fun z => h0 z.symm)]) (fun i => by unfold mvN; rw [upd_k hs]) (fun i => by unfold bsN; rw [upd_k hs, upd_f hs])
theorem sec_setD {r : Nat → Int32} {a b d : Int32} : sec (setD r a b) e d = sec r e d :=
  sec_congr rfl (fun i => by unfold mvN; rw [setD_k]) (fun i => by unfold bsN; rw [setD_k, setD_f])
/-- a figure doesn't matter at CLOTH -/
theorem sec_cloth {r : Nat → Int32} {i : Nat} {w d : Int32} : sec (upd (upd r (8 + 2 * i) 0) (9 + 2 * i) w) e d = sec (upd r (8 + 2 * i) 0) e d := by
  have hk : ∀ j, kO (upd (upd r (8 + 2 * i) 0) (9 + 2 * i) w) j = kO (upd r (8 + 2 * i) 0) j := fun j => by unfold kO upd; rw [if_neg (by omega)]
  refine sec_congr ?_ (fun j => by unfold mvN; rw [hk]) (fun j => ?_)
  · unfold upd
    rw [if_neg (by omega)]
  · unfold bsN
    rw [hk]
    by_cases hj : j = i
    · subst hj
      have k0 : kO (upd r (8 + 2 * j) 0) j = 0 := by unfold kO upd; rw [if_pos rfl]
      rw [k0]
      rfl
    · have : fO (upd (upd r (8 + 2 * i) 0) (9 + 2 * i) w) j = fO (upd r (8 + 2 * i) 0) j := by unfold fO upd; rw [if_neg (by omega)]
      rw [this]
theorem upd_kf_same {r : Nat → Int32} {k : Nat} {v : Int32} : upd (upd r (8 + 2 * k) v) (9 + 2 * k) (r (9 + 2 * k)) = upd r (8 + 2 * k) v := by
  funext j
  unfold upd
  by_cases hj : j = 9 + 2 * k
  · rw [if_pos hj, if_neg (by omega), hj]
  · rw [if_neg hj]
theorem ok_k {r : Nat → Int32} {k : Nat} {v : Int32} (ok : Ok r) (hk : k < 12) (hv : 0 ≤ v.toInt ∧ v.toInt ≤ 5) : Ok (upd r (8 + 2 * k) v) := by
  rw [← upd_kf_same (v := v)]
  exact ok_kf ok hv (ok.2.2.2.2.2.2.2.2 k hk).2
theorem INr_k {r : Nat → Int32} {k : Nat} {v : Int32} : INr (upd r (8 + 2 * k) v) e = INr r e := by
  unfold INr
  rw [upd_at, upd_at, if_neg (show ¬ 1 = 8 + 2 * k by omega), if_neg (show ¬ 2 = 8 + 2 * k by omega)]
theorem INr_f {r : Nat → Int32} {k : Nat} {v : Int32} : INr (upd r (9 + 2 * k) v) e = INr r e := by
  unfold INr
  rw [upd_at, upd_at, if_neg (show ¬ 1 = 9 + 2 * k by omega), if_neg (show ¬ 2 = 9 + 2 * k by omega)]
theorem INr_in {r : Nat → Int32} (ok : Ok r) : -40 ≤ (INr r e).toInt ∧ (INr r e).toInt ≤ 24 := by
  obtain ⟨-, o1, o2, -⟩ := ok
  unfold INr
  split
  · exact o1
  · exact o2
/-- DEEP -/
def dpN (r : Nat → Int32) (e v : Int32) : Nat → Int32
  | 0 => -9
  | d + 1 => if sec r e (nI (d + 1)) = -9 then dpN r e v d else if v < sec r e (nI (d + 1)) then dpN r e v d else nI (d + 1)
theorem m1n (d : Nat) : nI (d + 1) + -1 = nI d := pk_m1 d
theorem dc_loop {r : Nat → Int32} (ok : Ok r) {v a3 : Int32} : ∀ (d : Nat) (h : Sto), d ≤ 24 → hm h 1 = r → ∃ h' : Sto, ev mX6_deep 36 [.ref 0, .int e, .int v, .int a3, .int (nI d)] [] h = some (some (.int (dpN r e v d)), h') ∧ ∀ a, a ≠ 10 → h' a = h a := by
  intro d
  induction d with
  | zero =>
    intro h hd hr
    have e1 : nI 0 < 1 := by decide
    exact ⟨h, by simp [eX6_deep_0, eX6_deep_1, eX6_deep_4, eX6_deep_7, eX6_deep_8, eX6_deep_9, eX6_deep_12, eX6_deep_13, eX6_deep_14, eX6_deep_15, eX6_deep_18, eX6_deep_21, eX6_deep_22, eX6_deep_23, eX6_deep_26, eX6_deep_27, eX6_deep_28, eX6_deep_31, eX6_deep_32, eX6_deep_34, eX6_deep_36, eX6_deep_38, eX6_deep_39, eX6_deep_42, eX6_deep_43, eX6_deep_46, eX6_deep_47, eX6_deep_50, eX6_deep_51, eX6_deep_53, eX6_deep_56, eX6_deep_57, eX6_deep_60, eX6_deep_63, eX6_deep_66, eX6_deep_67, eX6_deep_70, eX6_deep_73, eX6_deep_74, eX6_deep_77, eX6_deep_79, eX6_deep_80, eX6_deep_83, eX6_deep_86, eX6_deep_88, e1, dpN], fun _ _ => rfl⟩
  | succ d ih =>
    intro h hd hr
    have e1 : ¬ nI (d + 1) < 1 := by
      rw [t_lt, t_nI (by omega)]
      show ¬ ((d + 1 : Nat) : Int) < 1
      omega
    obtain ⟨h1, a1, a2, a3', a4, a5, a6⟩ := c_meas (h := h) (e := e) (d := nI (d + 1)) HC1 (by rw [hr]; exact ok) (by rw [t_nI (by omega)]; omega)
    rw [hr] at a3'
    have hr1 : hm h1 1 = r := by rw [hm_o (a6 1 (by omega)) (a6 2 (by omega)) (a6 3 (by omega)), hr]
    obtain ⟨h2, b1, b2⟩ := ih h1 (by omega) hr1
    rw [eX6_deep_36]
    by_cases c1 : sec r e (nI (d + 1)) = -9
    · rw [c1] at a3'
      refine ⟨h2, ?_, fun a z => by rw [b2 a z, a6 a z]⟩
      simp [eX6_deep_0, eX6_deep_1, eX6_deep_4, eX6_deep_7, eX6_deep_8, eX6_deep_9, eX6_deep_12, eX6_deep_13, eX6_deep_14, eX6_deep_15, eX6_deep_18, eX6_deep_21, eX6_deep_22, eX6_deep_23, eX6_deep_26, eX6_deep_27, eX6_deep_28, eX6_deep_31, eX6_deep_32, eX6_deep_34, eX6_deep_38, eX6_deep_39, eX6_deep_42, eX6_deep_43, eX6_deep_46, eX6_deep_47, eX6_deep_50, eX6_deep_51, eX6_deep_53, eX6_deep_56, eX6_deep_57, eX6_deep_60, eX6_deep_63, eX6_deep_66, eX6_deep_67, eX6_deep_70, eX6_deep_73, eX6_deep_74, eX6_deep_77, eX6_deep_79, eX6_deep_80, eX6_deep_83, eX6_deep_86, eX6_deep_88, e1, a1, f_isAWay, a3', dpN, c1, m1n]
      exact b1
    · by_cases c2 : v < sec r e (nI (d + 1))
      · refine ⟨h2, ?_, fun a z => by rw [b2 a z, a6 a z]⟩
        simp [eX6_deep_0, eX6_deep_1, eX6_deep_4, eX6_deep_7, eX6_deep_8, eX6_deep_9, eX6_deep_12, eX6_deep_13, eX6_deep_14, eX6_deep_15, eX6_deep_18, eX6_deep_21, eX6_deep_22, eX6_deep_23, eX6_deep_26, eX6_deep_27, eX6_deep_28, eX6_deep_31, eX6_deep_32, eX6_deep_34, eX6_deep_38, eX6_deep_39, eX6_deep_42, eX6_deep_43, eX6_deep_46, eX6_deep_47, eX6_deep_50, eX6_deep_51, eX6_deep_53, eX6_deep_56, eX6_deep_57, eX6_deep_60, eX6_deep_63, eX6_deep_66, eX6_deep_67, eX6_deep_70, eX6_deep_73, eX6_deep_74, eX6_deep_77, eX6_deep_79, eX6_deep_80, eX6_deep_83, eX6_deep_86, eX6_deep_88, e1, a1, f_isAWay, a3', dpN, c1, c2, m1n]
        exact b1
      · refine ⟨h1, ?_, a6⟩
        simp [eX6_deep_0, eX6_deep_1, eX6_deep_4, eX6_deep_7, eX6_deep_8, eX6_deep_9, eX6_deep_12, eX6_deep_13, eX6_deep_14, eX6_deep_15, eX6_deep_18, eX6_deep_21, eX6_deep_22, eX6_deep_23, eX6_deep_26, eX6_deep_27, eX6_deep_28, eX6_deep_31, eX6_deep_32, eX6_deep_34, eX6_deep_38, eX6_deep_39, eX6_deep_42, eX6_deep_43, eX6_deep_46, eX6_deep_47, eX6_deep_50, eX6_deep_51, eX6_deep_53, eX6_deep_56, eX6_deep_57, eX6_deep_60, eX6_deep_63, eX6_deep_66, eX6_deep_67, eX6_deep_70, eX6_deep_73, eX6_deep_74, eX6_deep_77, eX6_deep_79, eX6_deep_80, eX6_deep_83, eX6_deep_86, eX6_deep_88, e1, a1, f_isAWay, a3', dpN, c1, c2]
theorem dm_loop {r : Nat → Int32} (ok : Ok r) (he : e = 0 ∨ e = 1) {v a3 : Int32} : ∀ (d : Nat) (h : Sto) (a5 : Value), d ≤ 24 → (∀ p, upd (mr h 19) (if e = 0 then 1 else 2) p = upd r (if e = 0 then 1 else 2) p) → ∃ h' : Sto, ev mX7_deep 41 [.ref 17, .int e, .int v, .int a3, .int (nI d), a5] [] h = some (some (.int (dpN r e v d)), h') ∧ ∀ a x, ¬ Scm a x → h' a x = h a x := by
  have s12 : (if e = 0 then 1 else 2) ≠ 0 ∧ (if e = 0 then 1 else 2) < 8 := by split <;> omega
  intro d
  induction d with
  | zero =>
    intro h a5 hd hp
    have e1 : nI 0 ≤ 0 := by decide
    exact ⟨h, by simp [eX7_deep_0, eX7_deep_1, eX7_deep_4, eX7_deep_7, eX7_deep_8, eX7_deep_11, eX7_deep_12, eX7_deep_15, eX7_deep_16, eX7_deep_17, eX7_deep_20, eX7_deep_21, eX7_deep_22, eX7_deep_25, eX7_deep_26, eX7_deep_27, eX7_deep_30, eX7_deep_31, eX7_deep_34, eX7_deep_37, eX7_deep_39, eX7_deep_41, eX7_deep_43, eX7_deep_46, eX7_deep_47, eX7_deep_50, eX7_deep_51, eX7_deep_52, eX7_deep_53, eX7_deep_55, eX7_deep_56, eX7_deep_57, eX7_deep_58, eX7_deep_61, eX7_deep_62, eX7_deep_65, eX7_deep_67, eX7_deep_69, eX7_deep_72, eX7_deep_74, eX7_deep_75, eX7_deep_78, eX7_deep_80, eX7_deep_81, eX7_deep_84, eX7_deep_87, eX7_deep_89, e1, dpN], fun _ _ _ => rfl⟩
  | succ d ih =>
    intro h a5 hd hp
    have e1 : ¬ nI (d + 1) ≤ 0 := nI_nle (by omega) (by omega)
    have m1 : mr (st h 19 (if e = 0 then 1 else 2) (nI (d + 1))) 19 = upd r (if e = 0 then 1 else 2) (nI (d + 1)) := by rw [mr_st (by split <;> omega), hp]
    have okd : Ok (upd r (if e = 0 then 1 else 2) (nI (d + 1))) := ok_upd ok (by split <;> omega) ⟨by split <;> omega, fun _ => by rw [t_nI (by omega)]; omega, by split <;> omega, by split <;> omega, by split <;> omega⟩
    obtain ⟨h1, a1, a2, a3'⟩ := m_outS (r := 19) (h := st h 19 (if e = 0 then 1 else 2) (nI (d + 1))) (e := e) rfl (by rw [m1]; exact okd) he
    have ed : (if e = 0 then mr (st h 19 (if e = 0 then 1 else 2) (nI (d + 1))) 19 1 else mr (st h 19 (if e = 0 then 1 else 2) (nI (d + 1))) 19 2) = nI (d + 1) := by
      rw [m1]
      rcases he with rfl | rfl
      · simp [upd_at]
      · simp [upd_at]
    rw [ed, m1, sec_upd s12.1 s12.2] at a1
    have hp1 : ∀ p, upd (mr h1 19) (if e = 0 then 1 else 2) p = upd r (if e = 0 then 1 else 2) p := by
      intro p
      rw [mr_cell (show h1 19 = st h 19 (if e = 0 then 1 else 2) (nI (d + 1)) 19 from funext fun x => a3' 19 x (by omega) (by omega)), m1, upd_upd]
    have fr1 : ∀ a x, ¬ Scm a x → h1 a x = h a x := by
      intro a x z
      unfold Scm at z
      rw [a3' a x (by omega) (by omega), st_cell (by omega)]
    have pre : ∀ T : List Value, ev mX7_deep 46 (.ref 17 :: .int e :: .int v :: .int a3 :: .int (nI (d + 1)) :: T) [] h = ev mX7_deep 57 (.ref 17 :: .int e :: .int v :: .int a3 :: .int (nI (d + 1)) :: T) [.ref 17] (st h 19 (if e = 0 then 1 else 2) (nI (d + 1))) := by
      intro T
      rcases he with rfl | rfl
      · simp [eX7_deep_46, eX7_deep_47, eX7_deep_50, eX7_deep_51, eX7_deep_52, eX7_deep_53, eX7_deep_55, eX7_deep_56, show lyA 19 = some 32 from rfl]
      · simp [eX7_deep_46, eX7_deep_47, eX7_deep_50, eX7_deep_51, eX7_deep_52, eX7_deep_53, eX7_deep_55, eX7_deep_56, show lyA 19 = some 32 from rfl]
    obtain ⟨h2, b1, b2⟩ := ih h1 (.int (sec r e (nI (d + 1)))) (by omega) hp1
    have si := neg_or (sec_in (e := e) (d := nI (d + 1)) ok (by rw [t_nI (by omega)]; omega))
    rw [eX7_deep_41]
    by_cases c1 : sec r e (nI (d + 1)) = -9
    · rw [c1] at a1 b1
      refine ⟨h2, ?_, fun a x z => by rw [b2 a x z, fr1 a x z]⟩
      simp [eX7_deep_0, eX7_deep_1, eX7_deep_4, eX7_deep_7, eX7_deep_8, eX7_deep_11, eX7_deep_12, eX7_deep_15, eX7_deep_16, eX7_deep_17, eX7_deep_20, eX7_deep_21, eX7_deep_22, eX7_deep_25, eX7_deep_26, eX7_deep_27, eX7_deep_30, eX7_deep_31, eX7_deep_34, eX7_deep_37, eX7_deep_39, eX7_deep_43, eX7_deep_47, eX7_deep_50, eX7_deep_51, eX7_deep_52, eX7_deep_53, eX7_deep_55, eX7_deep_56, eX7_deep_57, eX7_deep_58, eX7_deep_61, eX7_deep_62, eX7_deep_65, eX7_deep_67, eX7_deep_69, eX7_deep_72, eX7_deep_74, eX7_deep_75, eX7_deep_78, eX7_deep_80, eX7_deep_81, eX7_deep_84, eX7_deep_87, eX7_deep_89, e1, pre, a1, dpN, c1, m1n]
      exact b1
    · have c1' : ¬ sec r e (nI (d + 1)) < 0 := fun z => c1 (si.mp z)
      by_cases c2 : v < sec r e (nI (d + 1))
      · refine ⟨h2, ?_, fun a x z => by rw [b2 a x z, fr1 a x z]⟩
        simp [eX7_deep_0, eX7_deep_1, eX7_deep_4, eX7_deep_7, eX7_deep_8, eX7_deep_11, eX7_deep_12, eX7_deep_15, eX7_deep_16, eX7_deep_17, eX7_deep_20, eX7_deep_21, eX7_deep_22, eX7_deep_25, eX7_deep_26, eX7_deep_27, eX7_deep_30, eX7_deep_31, eX7_deep_34, eX7_deep_37, eX7_deep_39, eX7_deep_43, eX7_deep_47, eX7_deep_50, eX7_deep_51, eX7_deep_52, eX7_deep_53, eX7_deep_55, eX7_deep_56, eX7_deep_57, eX7_deep_58, eX7_deep_61, eX7_deep_62, eX7_deep_65, eX7_deep_67, eX7_deep_69, eX7_deep_72, eX7_deep_74, eX7_deep_75, eX7_deep_78, eX7_deep_80, eX7_deep_81, eX7_deep_84, eX7_deep_87, eX7_deep_89, e1, pre, a1, dpN, c1, c1', c2, m1n]
        exact b1
      · refine ⟨h1, ?_, fr1⟩
        simp [eX7_deep_0, eX7_deep_1, eX7_deep_4, eX7_deep_7, eX7_deep_8, eX7_deep_11, eX7_deep_12, eX7_deep_15, eX7_deep_16, eX7_deep_17, eX7_deep_20, eX7_deep_21, eX7_deep_22, eX7_deep_25, eX7_deep_26, eX7_deep_27, eX7_deep_30, eX7_deep_31, eX7_deep_34, eX7_deep_37, eX7_deep_39, eX7_deep_43, eX7_deep_47, eX7_deep_50, eX7_deep_51, eX7_deep_52, eX7_deep_53, eX7_deep_55, eX7_deep_56, eX7_deep_57, eX7_deep_58, eX7_deep_61, eX7_deep_62, eX7_deep_65, eX7_deep_67, eX7_deep_69, eX7_deep_72, eX7_deep_74, eX7_deep_75, eX7_deep_78, eX7_deep_80, eX7_deep_81, eX7_deep_84, eX7_deep_87, eX7_deep_89, e1, pre, a1, dpN, c1, c1', c2]
theorem Rel.fs (R : Rel h) (hf : ∀ a x, ¬ Scm a x → h' a x = h a x) : Rel h' := R.fr (fun a x z => hf a x (fun y => z (Or.inr y)))
theorem Rel.fc (R : Rel h) (hf : ∀ a, ¬ Scc a → h' a = h a) : Rel h' := R.fr (fun a x z => by rw [hf a (fun y => z (Or.inl y))])
theorem s_deep {e v : Int32} : Sim [.int e, .int v, .null, .null] [.int e, .int v, .null, .null, .null] mX6_deep mX7_deep := by
  intro h R
  by_cases he : e = 0 ∨ e = 1
  · by_cases h1 : v < 0
    · exact rf_both R (k := 4) (w := -4) (by omega) (by simp [le_nl, -Int32.not_lt, eX6_deep_0, eX6_deep_1, eX6_deep_4, eX6_deep_7, eX6_deep_8, eX6_deep_9, eX6_deep_12, eX6_deep_13, eX6_deep_14, eX6_deep_15, eX6_deep_18, eX6_deep_21, eX6_deep_22, eX6_deep_23, eX6_deep_26, eX6_deep_27, eX6_deep_28, eX6_deep_31, eX6_deep_32, eX6_deep_34, eX6_deep_38, eX6_deep_39, eX6_deep_42, eX6_deep_43, eX6_deep_46, eX6_deep_47, eX6_deep_50, eX6_deep_51, eX6_deep_53, eX6_deep_56, eX6_deep_57, eX6_deep_60, eX6_deep_63, eX6_deep_66, eX6_deep_67, eX6_deep_70, eX6_deep_73, eX6_deep_74, eX6_deep_77, eX6_deep_79, eX6_deep_80, eX6_deep_83, eX6_deep_86, eX6_deep_88, f_isEnd, he, f_outside, h1, f_refuse]) (by simp [le_nl, -Int32.not_lt, eX7_deep_0, eX7_deep_1, eX7_deep_4, eX7_deep_7, eX7_deep_8, eX7_deep_11, eX7_deep_12, eX7_deep_15, eX7_deep_16, eX7_deep_17, eX7_deep_20, eX7_deep_21, eX7_deep_22, eX7_deep_25, eX7_deep_26, eX7_deep_27, eX7_deep_30, eX7_deep_31, eX7_deep_34, eX7_deep_37, eX7_deep_39, eX7_deep_43, eX7_deep_46, eX7_deep_47, eX7_deep_50, eX7_deep_51, eX7_deep_52, eX7_deep_53, eX7_deep_55, eX7_deep_56, eX7_deep_57, eX7_deep_58, eX7_deep_61, eX7_deep_62, eX7_deep_65, eX7_deep_67, eX7_deep_69, eX7_deep_72, eX7_deep_74, eX7_deep_75, eX7_deep_78, eX7_deep_80, eX7_deep_81, eX7_deep_84, eX7_deep_87, eX7_deep_89, m_isEnd2, he, m_wrongS, h1, m_no])
    · by_cases h2 : 999 < v
      · exact rf_both R (k := 6) (w := -6) (by omega) (by simp [le_nl, -Int32.not_lt, eX6_deep_0, eX6_deep_1, eX6_deep_4, eX6_deep_7, eX6_deep_8, eX6_deep_9, eX6_deep_12, eX6_deep_13, eX6_deep_14, eX6_deep_15, eX6_deep_18, eX6_deep_21, eX6_deep_22, eX6_deep_23, eX6_deep_26, eX6_deep_27, eX6_deep_28, eX6_deep_31, eX6_deep_32, eX6_deep_34, eX6_deep_38, eX6_deep_39, eX6_deep_42, eX6_deep_43, eX6_deep_46, eX6_deep_47, eX6_deep_50, eX6_deep_51, eX6_deep_53, eX6_deep_56, eX6_deep_57, eX6_deep_60, eX6_deep_63, eX6_deep_66, eX6_deep_67, eX6_deep_70, eX6_deep_73, eX6_deep_74, eX6_deep_77, eX6_deep_79, eX6_deep_80, eX6_deep_83, eX6_deep_86, eX6_deep_88, f_isEnd, he, f_outside, h1, h2, f_refuse]) (by simp [le_nl, -Int32.not_lt, eX7_deep_0, eX7_deep_1, eX7_deep_4, eX7_deep_7, eX7_deep_8, eX7_deep_11, eX7_deep_12, eX7_deep_15, eX7_deep_16, eX7_deep_17, eX7_deep_20, eX7_deep_21, eX7_deep_22, eX7_deep_25, eX7_deep_26, eX7_deep_27, eX7_deep_30, eX7_deep_31, eX7_deep_34, eX7_deep_37, eX7_deep_39, eX7_deep_43, eX7_deep_46, eX7_deep_47, eX7_deep_50, eX7_deep_51, eX7_deep_52, eX7_deep_53, eX7_deep_55, eX7_deep_56, eX7_deep_57, eX7_deep_58, eX7_deep_61, eX7_deep_62, eX7_deep_65, eX7_deep_67, eX7_deep_69, eX7_deep_72, eX7_deep_74, eX7_deep_75, eX7_deep_78, eX7_deep_80, eX7_deep_81, eX7_deep_84, eX7_deep_87, eX7_deep_89, m_isEnd2, he, m_wrongS, h1, h2, m_no])
      · obtain ⟨h3, a1, a2⟩ := dc_loop (h := h) (e := e) (v := v) (a3 := 0) R.2.1 24 (by omega) R.1
        have R3 := R.f10 a2
        have e18 : mr h3 18 = mr h 18 := mr_cell (a2 18 (by omega))
        obtain ⟨h4, b1, b2, b3⟩ := m_lays (r := 18) (t := 19) (h := h3) rfl rfl (by omega)
        obtain ⟨h5, c1, c2⟩ := dm_loop (h := h4) (e := e) (v := v) (a3 := 0) R.2.1 he 24 .null (by omega) (fun p => by rw [b2, e18])
        rw [show nI 24 = 24 from rfl] at a1 c1
        exact ⟨dpN (mr h 18) e v 24, h3, h5, by simp [le_nl, -Int32.not_lt, eX6_deep_0, eX6_deep_1, eX6_deep_4, eX6_deep_7, eX6_deep_8, eX6_deep_9, eX6_deep_12, eX6_deep_13, eX6_deep_14, eX6_deep_15, eX6_deep_18, eX6_deep_21, eX6_deep_22, eX6_deep_23, eX6_deep_26, eX6_deep_27, eX6_deep_28, eX6_deep_31, eX6_deep_32, eX6_deep_34, eX6_deep_38, eX6_deep_39, eX6_deep_42, eX6_deep_43, eX6_deep_46, eX6_deep_47, eX6_deep_50, eX6_deep_51, eX6_deep_53, eX6_deep_56, eX6_deep_57, eX6_deep_60, eX6_deep_63, eX6_deep_66, eX6_deep_67, eX6_deep_70, eX6_deep_73, eX6_deep_74, eX6_deep_77, eX6_deep_79, eX6_deep_80, eX6_deep_83, eX6_deep_86, eX6_deep_88, f_isEnd, he, f_outside, h1, h2, a1], by simp [le_nl, -Int32.not_lt, eX7_deep_0, eX7_deep_1, eX7_deep_4, eX7_deep_7, eX7_deep_8, eX7_deep_11, eX7_deep_12, eX7_deep_15, eX7_deep_16, eX7_deep_17, eX7_deep_20, eX7_deep_21, eX7_deep_22, eX7_deep_25, eX7_deep_26, eX7_deep_27, eX7_deep_30, eX7_deep_31, eX7_deep_34, eX7_deep_37, eX7_deep_39, eX7_deep_43, eX7_deep_46, eX7_deep_47, eX7_deep_50, eX7_deep_51, eX7_deep_52, eX7_deep_53, eX7_deep_55, eX7_deep_56, eX7_deep_57, eX7_deep_58, eX7_deep_61, eX7_deep_62, eX7_deep_65, eX7_deep_67, eX7_deep_69, eX7_deep_72, eX7_deep_74, eX7_deep_75, eX7_deep_78, eX7_deep_80, eX7_deep_81, eX7_deep_84, eX7_deep_87, eX7_deep_89, m_isEnd2, he, m_wrongS, h1, h2, b1, c1], R3.fs (fun a x z => by rw [c2 a x z, b3 a (fun y => z (Or.inl y))])⟩
  · exact rf_both R (k := 1) (w := -1) (by omega) (by simp [le_nl, -Int32.not_lt, eX6_deep_0, eX6_deep_1, eX6_deep_4, eX6_deep_7, eX6_deep_8, eX6_deep_9, eX6_deep_12, eX6_deep_13, eX6_deep_14, eX6_deep_15, eX6_deep_18, eX6_deep_21, eX6_deep_22, eX6_deep_23, eX6_deep_26, eX6_deep_27, eX6_deep_28, eX6_deep_31, eX6_deep_32, eX6_deep_34, eX6_deep_38, eX6_deep_39, eX6_deep_42, eX6_deep_43, eX6_deep_46, eX6_deep_47, eX6_deep_50, eX6_deep_51, eX6_deep_53, eX6_deep_56, eX6_deep_57, eX6_deep_60, eX6_deep_63, eX6_deep_66, eX6_deep_67, eX6_deep_70, eX6_deep_73, eX6_deep_74, eX6_deep_77, eX6_deep_79, eX6_deep_80, eX6_deep_83, eX6_deep_86, eX6_deep_88, f_isEnd, he, f_refuse]) (by simp [le_nl, -Int32.not_lt, eX7_deep_0, eX7_deep_1, eX7_deep_4, eX7_deep_7, eX7_deep_8, eX7_deep_11, eX7_deep_12, eX7_deep_15, eX7_deep_16, eX7_deep_17, eX7_deep_20, eX7_deep_21, eX7_deep_22, eX7_deep_25, eX7_deep_26, eX7_deep_27, eX7_deep_30, eX7_deep_31, eX7_deep_34, eX7_deep_37, eX7_deep_39, eX7_deep_43, eX7_deep_46, eX7_deep_47, eX7_deep_50, eX7_deep_51, eX7_deep_52, eX7_deep_53, eX7_deep_55, eX7_deep_56, eX7_deep_57, eX7_deep_58, eX7_deep_61, eX7_deep_62, eX7_deep_65, eX7_deep_67, eX7_deep_69, eX7_deep_72, eX7_deep_74, eX7_deep_75, eX7_deep_78, eX7_deep_80, eX7_deep_81, eX7_deep_84, eX7_deep_87, eX7_deep_89, m_isEnd2, he, m_no])
/-- HOLDS UP -/
def rkS (s : Int32) : Int32 := if s = -9 then 1000000 else s
def huN (r : Nat → Int32) (e : Int32) : Nat → Nat → Int32 → Int32 → Int32
  | 0, _, b, _ => b
  | m + 1, j, b, S => if rkS S ≤ rkS (sec (upd r (8 + 2 * j) 0) e (INr r e)) then huN r e m (j + 1) b S else huN r e m (j + 1) (nI j) (sec (upd r (8 + 2 * j) 0) e (INr r e))
theorem rk_le {s S : Int32} (hs : s = -9 ∨ (0 ≤ s.toInt ∧ s.toInt ≤ 288)) (hS : S = -9 ∨ (0 ≤ S.toInt ∧ S.toInt ≤ 288)) : rkS S ≤ rkS s ↔ (s < 0 ∨ (¬ S < 0 ∧ ¬ s < S)) := by
  unfold rkS
  have n1 := neg_or hs
  have n2 := neg_or hS
  by_cases a : s = -9
  · have := n1.mpr a
    rw [if_pos a]
    refine ⟨fun _ => Or.inl this, fun _ => ?_⟩
    by_cases b : S = -9
    · rw [if_pos b]; exact Int32.le_refl _
    · rw [if_neg b, t_le]
      have := hS.resolve_left b
      show S.toInt ≤ 1000000
      omega
  · have a' : ¬ s < 0 := fun z => a (n1.mp z)
    have ha := hs.resolve_left a
    rw [if_neg a]
    by_cases b : S = -9
    · have b' := n2.mpr b
      rw [if_pos b]
      constructor
      · intro z
        rw [t_le] at z
        have z : (1000000 : Int) ≤ s.toInt := z
        omega
      · intro z
        rcases z with z | z
        · exact absurd z a'
        · exact absurd b' z.1
    · have b' : ¬ S < 0 := fun z => b (n2.mp z)
      rw [if_neg b]
      constructor
      · intro z
        exact Or.inr ⟨b', Int32.not_lt.mpr z⟩
      · intro z
        rcases z with z | z
        · exact absurd z a'
        · exact Int32.not_lt.mp z.2
theorem f_rwc {i : Nat} (ok : Ok (hm h 1)) (hi : i < 12) : ∃ h' : Sto, ev mX6_rankWithCloth 0 [.ref 0, .int (nI i), .int e] [] h = some (some (.int (rkS (sec (upd (hm h 1) (8 + 2 * i) 0) e (INr (hm h 1) e)))), h') ∧ ∀ a, ¬ Scc a → h' a = h a := by
  obtain ⟨h1, a1, a2, a3⟩ := f_copyFrom (h := h) HC4 HC1 (by unfold Apt; omega) ok
  have fm := f_make (h := h1) (v := 0) (w := 0) HC4 hi
  have e2 : hm (st (st h1 5 i 0) 6 i 0) 4 = upd (upd (hm h 1) (8 + 2 * i) 0) (9 + 2 * i) 0 := by
    rw [← a2]
    exact hm_kf hi
  have ok2 : Ok (hm (st (st h1 5 i 0) 6 i 0) 4) := by
    rw [e2]
    exact ok_kf ok (by decide) (by decide)
  have fd := f_depth (h := st (st h1 5 i 0) 6 i 0) (e := e) HC4
  have di : (if e = 0 then st (st h1 5 i 0) 6 i 0 4 3 else st (st h1 5 i 0) 6 i 0 4 4) = INr (hm h 1) e := by
    have : (if e = 0 then st (st h1 5 i 0) 6 i 0 4 3 else st (st h1 5 i 0) 6 i 0 4 4) = INr (hm (st (st h1 5 i 0) 6 i 0) 4) e := rfl
    rw [this, e2, INr_f, INr_k]
  rw [di] at fd
  obtain ⟨h2, b1, b2, b3, b4, b5, b6⟩ := c_meas (h := st (st h1 5 i 0) 6 i 0) (e := e) (d := INr (hm h 1) e) HC4 ok2 (INr_in ok).2
  rw [e2, sec_cloth] at b3
  refine ⟨h2, ?_, ?_⟩
  · unfold rkS
    rw [← b3]
    simp [eX6_rankWithCloth_0, eX6_rankWithCloth_1, eX6_rankWithCloth_4, eX6_rankWithCloth_5, eX6_rankWithCloth_8, eX6_rankWithCloth_11, eX6_rankWithCloth_12, eX6_rankWithCloth_15, eX6_rankWithCloth_16, eX6_rankWithCloth_17, eX6_rankWithCloth_18, eX6_rankWithCloth_21, eX6_rankWithCloth_22, eX6_rankWithCloth_25, eX6_rankWithCloth_26, eX6_rankWithCloth_29, eX6_rankWithCloth_30, eX6_rankWithCloth_31, eX6_rankWithCloth_34, eX6_rankWithCloth_35, eX6_rankWithCloth_38, eX6_rankWithCloth_41, eX6_rankWithCloth_42, eX6_rankWithCloth_45, eX6_rankWithCloth_48, a1, fm, fd, b1, f_rank, show rcv 4 = 0 from rfl, show rcv 1 = 0 from rfl]
  · intro a z
    unfold Scc at z
    rw [b6 a (by omega), st_cell (by omega), st_cell (by omega), a3 a (by omega) (by omega) (by omega)]
theorem hc_loop {r : Nat → Int32} (ok : Ok r) : ∀ (m j : Nat) (h : Sto) (b S : Int32) (a5 : Value), (r 0).toInt = (j : Int) + m → hm h 1 = r → ∃ h' : Sto, ev mX6_holdsUp 47 [.ref 0, .int e, .int b, .int (rkS S), .int (nI j), a5] [] h = some (some (.int (huN r e m j b S)), h') ∧ ∀ a, ¬ Scc a → h' a = h a := by
  have l := ok.1
  intro m
  induction m with
  | zero =>
    intro j h b S a5 hj hr
    have h0 : h 1 2 = r 0 := by rw [← hr]; rfl
    have e1 : r 0 ≤ nI j := by rw [t_le, t_nI (by omega)]; omega
    exact ⟨h, by simp [eX6_holdsUp_0, eX6_holdsUp_1, eX6_holdsUp_4, eX6_holdsUp_7, eX6_holdsUp_8, eX6_holdsUp_9, eX6_holdsUp_12, eX6_holdsUp_13, eX6_holdsUp_14, eX6_holdsUp_17, eX6_holdsUp_18, eX6_holdsUp_21, eX6_holdsUp_22, eX6_holdsUp_23, eX6_holdsUp_26, eX6_holdsUp_27, eX6_holdsUp_30, eX6_holdsUp_33, eX6_holdsUp_35, eX6_holdsUp_36, eX6_holdsUp_37, eX6_holdsUp_40, eX6_holdsUp_43, eX6_holdsUp_44, eX6_holdsUp_45, eX6_holdsUp_47, eX6_holdsUp_49, eX6_holdsUp_50, eX6_holdsUp_53, eX6_holdsUp_56, eX6_holdsUp_59, eX6_holdsUp_60, eX6_holdsUp_62, eX6_holdsUp_63, eX6_holdsUp_66, eX6_holdsUp_68, eX6_holdsUp_70, eX6_holdsUp_71, eX6_holdsUp_74, eX6_holdsUp_76, eX6_holdsUp_77, eX6_holdsUp_79, eX6_holdsUp_80, eX6_holdsUp_83, eX6_holdsUp_86, eX6_holdsUp_87, h0, e1, huN, show lyC 1 = 0 from rfl, show rcv 1 = 0 from rfl], fun _ _ => rfl⟩
  | succ m ih =>
    intro j h b S a5 hj hr
    have h0 : h 1 2 = r 0 := by rw [← hr]; rfl
    have e1 : ¬ r 0 ≤ nI j := by rw [t_le, t_nI (by omega)]; omega
    obtain ⟨h1, a1, a2⟩ := f_rwc (h := h) (e := e) (i := j) (by rw [hr]; exact ok) (by omega)
    rw [hr] at a1
    have hr1 : hm h1 1 = r := by rw [hm_o (a2 1 (by unfold Scc; omega)) (a2 2 (by unfold Scc; omega)) (a2 3 (by unfold Scc; omega)), hr]
    rw [eX6_holdsUp_47]
    by_cases c : rkS S ≤ rkS (sec (upd r (8 + 2 * j) 0) e (INr r e))
    · obtain ⟨h2, b1, b2⟩ := ih (j + 1) h1 b S (.int (rkS (sec (upd r (8 + 2 * j) 0) e (INr r e)))) (by omega) hr1
      refine ⟨h2, ?_, fun a z => by rw [b2 a z, a2 a z]⟩
      simp [eX6_holdsUp_0, eX6_holdsUp_1, eX6_holdsUp_4, eX6_holdsUp_7, eX6_holdsUp_8, eX6_holdsUp_9, eX6_holdsUp_12, eX6_holdsUp_13, eX6_holdsUp_14, eX6_holdsUp_17, eX6_holdsUp_18, eX6_holdsUp_21, eX6_holdsUp_22, eX6_holdsUp_23, eX6_holdsUp_26, eX6_holdsUp_27, eX6_holdsUp_30, eX6_holdsUp_33, eX6_holdsUp_35, eX6_holdsUp_36, eX6_holdsUp_37, eX6_holdsUp_40, eX6_holdsUp_43, eX6_holdsUp_44, eX6_holdsUp_45, eX6_holdsUp_49, eX6_holdsUp_50, eX6_holdsUp_53, eX6_holdsUp_56, eX6_holdsUp_59, eX6_holdsUp_60, eX6_holdsUp_62, eX6_holdsUp_63, eX6_holdsUp_66, eX6_holdsUp_68, eX6_holdsUp_70, eX6_holdsUp_71, eX6_holdsUp_74, eX6_holdsUp_76, eX6_holdsUp_77, eX6_holdsUp_79, eX6_holdsUp_80, eX6_holdsUp_83, eX6_holdsUp_86, eX6_holdsUp_87, h0, e1, a1, c, huN, nI_1, show lyC 1 = 0 from rfl, show rcv 1 = 0 from rfl]
      exact b1
    · obtain ⟨h2, b1, b2⟩ := ih (j + 1) h1 (nI j) (sec (upd r (8 + 2 * j) 0) e (INr r e)) (.int (rkS (sec (upd r (8 + 2 * j) 0) e (INr r e)))) (by omega) hr1
      refine ⟨h2, ?_, fun a z => by rw [b2 a z, a2 a z]⟩
      simp [eX6_holdsUp_0, eX6_holdsUp_1, eX6_holdsUp_4, eX6_holdsUp_7, eX6_holdsUp_8, eX6_holdsUp_9, eX6_holdsUp_12, eX6_holdsUp_13, eX6_holdsUp_14, eX6_holdsUp_17, eX6_holdsUp_18, eX6_holdsUp_21, eX6_holdsUp_22, eX6_holdsUp_23, eX6_holdsUp_26, eX6_holdsUp_27, eX6_holdsUp_30, eX6_holdsUp_33, eX6_holdsUp_35, eX6_holdsUp_36, eX6_holdsUp_37, eX6_holdsUp_40, eX6_holdsUp_43, eX6_holdsUp_44, eX6_holdsUp_45, eX6_holdsUp_49, eX6_holdsUp_50, eX6_holdsUp_53, eX6_holdsUp_56, eX6_holdsUp_59, eX6_holdsUp_60, eX6_holdsUp_62, eX6_holdsUp_63, eX6_holdsUp_66, eX6_holdsUp_68, eX6_holdsUp_70, eX6_holdsUp_71, eX6_holdsUp_74, eX6_holdsUp_76, eX6_holdsUp_77, eX6_holdsUp_79, eX6_holdsUp_80, eX6_holdsUp_83, eX6_holdsUp_86, eX6_holdsUp_87, h0, e1, a1, c, huN, nI_1, show lyC 1 = 0 from rfl, show rcv 1 = 0 from rfl]
      exact b1
theorem hm_loop {r : Nat → Int32} (ok : Ok r) (he : e = 0 ∨ e = 1) : ∀ (m j : Nat) (h : Sto) (b S : Int32) (a5 : Value), (r 0).toInt = (j : Int) + m → (S = -9 ∨ (0 ≤ S.toInt ∧ S.toInt ≤ 288)) → mr h 18 = r → ∃ h' : Sto, ev mX7_holdsUp 29 [.ref 17, .int e, .int S, .int b, .int (nI j), a5] [] h = some (some (.int (huN r e m j b S)), h') ∧ ∀ a x, ¬ Scm a x → h' a x = h a x := by
  have l := ok.1
  intro m
  induction m with
  | zero =>
    intro j h b S a5 hj hS hr
    have h0 : h 18 0 = r 0 := by rw [← hr]; rfl
    have e1 : r 0 ≤ nI j := by rw [t_le, t_nI (by omega)]; omega
    exact ⟨h, by simp [eX7_holdsUp_0, eX7_holdsUp_1, eX7_holdsUp_4, eX7_holdsUp_7, eX7_holdsUp_8, eX7_holdsUp_9, eX7_holdsUp_12, eX7_holdsUp_13, eX7_holdsUp_14, eX7_holdsUp_15, eX7_holdsUp_18, eX7_holdsUp_19, eX7_holdsUp_22, eX7_holdsUp_23, eX7_holdsUp_25, eX7_holdsUp_26, eX7_holdsUp_27, eX7_holdsUp_29, eX7_holdsUp_31, eX7_holdsUp_32, eX7_holdsUp_35, eX7_holdsUp_36, eX7_holdsUp_37, eX7_holdsUp_40, eX7_holdsUp_41, eX7_holdsUp_44, eX7_holdsUp_45, eX7_holdsUp_48, eX7_holdsUp_51, eX7_holdsUp_52, eX7_holdsUp_55, eX7_holdsUp_57, eX7_holdsUp_58, eX7_holdsUp_60, eX7_holdsUp_61, eX7_holdsUp_62, eX7_holdsUp_63, eX7_holdsUp_64, eX7_holdsUp_65, eX7_holdsUp_66, eX7_holdsUp_69, eX7_holdsUp_70, eX7_holdsUp_73, eX7_holdsUp_75, eX7_holdsUp_77, eX7_holdsUp_80, eX7_holdsUp_81, eX7_holdsUp_84, eX7_holdsUp_86, eX7_holdsUp_87, eX7_holdsUp_90, eX7_holdsUp_93, eX7_holdsUp_95, eX7_holdsUp_96, eX7_holdsUp_98, eX7_holdsUp_99, eX7_holdsUp_102, eX7_holdsUp_105, eX7_holdsUp_106, h0, e1, huN, show lyA 18 = some 32 from rfl], fun _ _ _ => rfl⟩
  | succ m ih =>
    intro j h b S a5 hj hS hr
    have hj12 : j < 12 := by omega
    have h0 : h 18 0 = r 0 := by rw [← hr]; rfl
    have e1 : ¬ r 0 ≤ nI j := by rw [t_le, t_nI (by omega)]; omega
    obtain ⟨a8, b8, c8, d8, e8, g8⟩ := ix8 hj12
    obtain ⟨h1, a1, a2, a3⟩ := m_lays (r := 18) (t := 19) (h := h) rfl rfl (by omega)
    have m1 : mr (st h1 19 (8 + 2 * j) 0) 19 = upd r (8 + 2 * j) 0 := by rw [mr_st (by omega), a2, hr]
    obtain ⟨h2, b1, b2, b3⟩ := m_outS (r := 19) (h := st h1 19 (8 + 2 * j) 0) (e := e) rfl (by rw [m1]; exact ok_k ok hj12 (by decide)) he
    rw [m1] at b1
    rw [show (if e = 0 then upd r (8 + 2 * j) 0 1 else upd r (8 + 2 * j) 0 2) = INr (upd r (8 + 2 * j) 0) e from rfl, INr_k] at b1
    have fr : ∀ a x, ¬ Scm a x → h2 a x = h a x := by
      intro a x z
      unfold Scm at z
      rw [b3 a x (by omega) (by omega), st_cell (by omega), a3 a (by omega)]
    have hr2 : mr h2 18 = r := by rw [mr_same (fun x _ => fr 18 x (by unfold Scm; omega)), hr]
    have si := sec_in (e := e) (d := INr r e) (ok_k (v := 0) ok hj12 (by decide)) (INr_in ok).2
    have rk := rk_le si hS
    rw [eX7_holdsUp_29]
    by_cases c : rkS S ≤ rkS (sec (upd r (8 + 2 * j) 0) e (INr r e))
    · obtain ⟨h3, g1, g2⟩ := ih (j + 1) h2 b S (.int (sec (upd r (8 + 2 * j) 0) e (INr r e))) (by omega) hS hr2
      refine ⟨h3, ?_, fun a x z => by rw [g2 a x z, fr a x z]⟩
      rcases rk.mp c with z | ⟨z1, z2⟩
      · simp [eX7_holdsUp_0, eX7_holdsUp_1, eX7_holdsUp_4, eX7_holdsUp_7, eX7_holdsUp_8, eX7_holdsUp_9, eX7_holdsUp_12, eX7_holdsUp_13, eX7_holdsUp_14, eX7_holdsUp_15, eX7_holdsUp_18, eX7_holdsUp_19, eX7_holdsUp_22, eX7_holdsUp_23, eX7_holdsUp_25, eX7_holdsUp_26, eX7_holdsUp_27, eX7_holdsUp_31, eX7_holdsUp_32, eX7_holdsUp_35, eX7_holdsUp_36, eX7_holdsUp_37, eX7_holdsUp_40, eX7_holdsUp_41, eX7_holdsUp_44, eX7_holdsUp_45, eX7_holdsUp_48, eX7_holdsUp_51, eX7_holdsUp_52, eX7_holdsUp_55, eX7_holdsUp_57, eX7_holdsUp_58, eX7_holdsUp_60, eX7_holdsUp_61, eX7_holdsUp_62, eX7_holdsUp_63, eX7_holdsUp_64, eX7_holdsUp_65, eX7_holdsUp_66, eX7_holdsUp_69, eX7_holdsUp_70, eX7_holdsUp_73, eX7_holdsUp_75, eX7_holdsUp_77, eX7_holdsUp_80, eX7_holdsUp_81, eX7_holdsUp_84, eX7_holdsUp_86, eX7_holdsUp_87, eX7_holdsUp_90, eX7_holdsUp_93, eX7_holdsUp_95, eX7_holdsUp_96, eX7_holdsUp_98, eX7_holdsUp_99, eX7_holdsUp_102, eX7_holdsUp_105, eX7_holdsUp_106, h0, e1, a1, a8, b8, e8, b1, c, z, huN, nI_1, show lyA 18 = some 32 from rfl, show lyA 19 = some 32 from rfl]
        exact g1
      · by_cases z : sec (upd r (8 + 2 * j) 0) e (INr r e) < 0
        · simp [eX7_holdsUp_0, eX7_holdsUp_1, eX7_holdsUp_4, eX7_holdsUp_7, eX7_holdsUp_8, eX7_holdsUp_9, eX7_holdsUp_12, eX7_holdsUp_13, eX7_holdsUp_14, eX7_holdsUp_15, eX7_holdsUp_18, eX7_holdsUp_19, eX7_holdsUp_22, eX7_holdsUp_23, eX7_holdsUp_25, eX7_holdsUp_26, eX7_holdsUp_27, eX7_holdsUp_31, eX7_holdsUp_32, eX7_holdsUp_35, eX7_holdsUp_36, eX7_holdsUp_37, eX7_holdsUp_40, eX7_holdsUp_41, eX7_holdsUp_44, eX7_holdsUp_45, eX7_holdsUp_48, eX7_holdsUp_51, eX7_holdsUp_52, eX7_holdsUp_55, eX7_holdsUp_57, eX7_holdsUp_58, eX7_holdsUp_60, eX7_holdsUp_61, eX7_holdsUp_62, eX7_holdsUp_63, eX7_holdsUp_64, eX7_holdsUp_65, eX7_holdsUp_66, eX7_holdsUp_69, eX7_holdsUp_70, eX7_holdsUp_73, eX7_holdsUp_75, eX7_holdsUp_77, eX7_holdsUp_80, eX7_holdsUp_81, eX7_holdsUp_84, eX7_holdsUp_86, eX7_holdsUp_87, eX7_holdsUp_90, eX7_holdsUp_93, eX7_holdsUp_95, eX7_holdsUp_96, eX7_holdsUp_98, eX7_holdsUp_99, eX7_holdsUp_102, eX7_holdsUp_105, eX7_holdsUp_106, h0, e1, a1, a8, b8, e8, b1, c, z, huN, nI_1, show lyA 18 = some 32 from rfl, show lyA 19 = some 32 from rfl]
          exact g1
        · simp [eX7_holdsUp_0, eX7_holdsUp_1, eX7_holdsUp_4, eX7_holdsUp_7, eX7_holdsUp_8, eX7_holdsUp_9, eX7_holdsUp_12, eX7_holdsUp_13, eX7_holdsUp_14, eX7_holdsUp_15, eX7_holdsUp_18, eX7_holdsUp_19, eX7_holdsUp_22, eX7_holdsUp_23, eX7_holdsUp_25, eX7_holdsUp_26, eX7_holdsUp_27, eX7_holdsUp_31, eX7_holdsUp_32, eX7_holdsUp_35, eX7_holdsUp_36, eX7_holdsUp_37, eX7_holdsUp_40, eX7_holdsUp_41, eX7_holdsUp_44, eX7_holdsUp_45, eX7_holdsUp_48, eX7_holdsUp_51, eX7_holdsUp_52, eX7_holdsUp_55, eX7_holdsUp_57, eX7_holdsUp_58, eX7_holdsUp_60, eX7_holdsUp_61, eX7_holdsUp_62, eX7_holdsUp_63, eX7_holdsUp_64, eX7_holdsUp_65, eX7_holdsUp_66, eX7_holdsUp_69, eX7_holdsUp_70, eX7_holdsUp_73, eX7_holdsUp_75, eX7_holdsUp_77, eX7_holdsUp_80, eX7_holdsUp_81, eX7_holdsUp_84, eX7_holdsUp_86, eX7_holdsUp_87, eX7_holdsUp_90, eX7_holdsUp_93, eX7_holdsUp_95, eX7_holdsUp_96, eX7_holdsUp_98, eX7_holdsUp_99, eX7_holdsUp_102, eX7_holdsUp_105, eX7_holdsUp_106, h0, e1, a1, a8, b8, e8, b1, c, z, z1, z2, huN, nI_1, show lyA 18 = some 32 from rfl, show lyA 19 = some 32 from rfl]
          exact g1
    · obtain ⟨h3, g1, g2⟩ := ih (j + 1) h2 (nI j) (sec (upd r (8 + 2 * j) 0) e (INr r e)) (.int (sec (upd r (8 + 2 * j) 0) e (INr r e))) (by omega) si hr2
      refine ⟨h3, ?_, fun a x z => by rw [g2 a x z, fr a x z]⟩
      have nk := fun z => c (rk.mpr z)
      have z : ¬ sec (upd r (8 + 2 * j) 0) e (INr r e) < 0 := fun y => nk (Or.inl y)
      by_cases z1 : S < 0
      · simp [eX7_holdsUp_0, eX7_holdsUp_1, eX7_holdsUp_4, eX7_holdsUp_7, eX7_holdsUp_8, eX7_holdsUp_9, eX7_holdsUp_12, eX7_holdsUp_13, eX7_holdsUp_14, eX7_holdsUp_15, eX7_holdsUp_18, eX7_holdsUp_19, eX7_holdsUp_22, eX7_holdsUp_23, eX7_holdsUp_25, eX7_holdsUp_26, eX7_holdsUp_27, eX7_holdsUp_31, eX7_holdsUp_32, eX7_holdsUp_35, eX7_holdsUp_36, eX7_holdsUp_37, eX7_holdsUp_40, eX7_holdsUp_41, eX7_holdsUp_44, eX7_holdsUp_45, eX7_holdsUp_48, eX7_holdsUp_51, eX7_holdsUp_52, eX7_holdsUp_55, eX7_holdsUp_57, eX7_holdsUp_58, eX7_holdsUp_60, eX7_holdsUp_61, eX7_holdsUp_62, eX7_holdsUp_63, eX7_holdsUp_64, eX7_holdsUp_65, eX7_holdsUp_66, eX7_holdsUp_69, eX7_holdsUp_70, eX7_holdsUp_73, eX7_holdsUp_75, eX7_holdsUp_77, eX7_holdsUp_80, eX7_holdsUp_81, eX7_holdsUp_84, eX7_holdsUp_86, eX7_holdsUp_87, eX7_holdsUp_90, eX7_holdsUp_93, eX7_holdsUp_95, eX7_holdsUp_96, eX7_holdsUp_98, eX7_holdsUp_99, eX7_holdsUp_102, eX7_holdsUp_105, eX7_holdsUp_106, h0, e1, a1, a8, b8, e8, b1, c, z, z1, huN, nI_1, show lyA 18 = some 32 from rfl, show lyA 19 = some 32 from rfl]
        exact g1
      · have z2 : sec (upd r (8 + 2 * j) 0) e (INr r e) < S := by
          by_cases y : sec (upd r (8 + 2 * j) 0) e (INr r e) < S
          · exact y
          · exact absurd (Or.inr ⟨z1, y⟩) nk
        simp [eX7_holdsUp_0, eX7_holdsUp_1, eX7_holdsUp_4, eX7_holdsUp_7, eX7_holdsUp_8, eX7_holdsUp_9, eX7_holdsUp_12, eX7_holdsUp_13, eX7_holdsUp_14, eX7_holdsUp_15, eX7_holdsUp_18, eX7_holdsUp_19, eX7_holdsUp_22, eX7_holdsUp_23, eX7_holdsUp_25, eX7_holdsUp_26, eX7_holdsUp_27, eX7_holdsUp_31, eX7_holdsUp_32, eX7_holdsUp_35, eX7_holdsUp_36, eX7_holdsUp_37, eX7_holdsUp_40, eX7_holdsUp_41, eX7_holdsUp_44, eX7_holdsUp_45, eX7_holdsUp_48, eX7_holdsUp_51, eX7_holdsUp_52, eX7_holdsUp_55, eX7_holdsUp_57, eX7_holdsUp_58, eX7_holdsUp_60, eX7_holdsUp_61, eX7_holdsUp_62, eX7_holdsUp_63, eX7_holdsUp_64, eX7_holdsUp_65, eX7_holdsUp_66, eX7_holdsUp_69, eX7_holdsUp_70, eX7_holdsUp_73, eX7_holdsUp_75, eX7_holdsUp_77, eX7_holdsUp_80, eX7_holdsUp_81, eX7_holdsUp_84, eX7_holdsUp_86, eX7_holdsUp_87, eX7_holdsUp_90, eX7_holdsUp_93, eX7_holdsUp_95, eX7_holdsUp_96, eX7_holdsUp_98, eX7_holdsUp_99, eX7_holdsUp_102, eX7_holdsUp_105, eX7_holdsUp_106, h0, e1, a1, a8, b8, e8, b1, c, z, z1, z2, huN, nI_1, show lyA 18 = some 32 from rfl, show lyA 19 = some 32 from rfl]
        exact g1
theorem s_holdsUp {e : Int32} : Sim [.int e, .null, .null, .null, .null] [.int e, .null, .null, .null, .null] mX6_holdsUp mX7_holdsUp := by
  intro h R
  by_cases he : e = 0 ∨ e = 1
  · have fd := R.fd (e := e)
    obtain ⟨h1, a1, a2, a3, a4, a5, a6⟩ := R.co (e := e)
    have R1 := R.f10 a6
    have e18 : mr h1 18 = mr h 18 := mr_cell (a6 18 (by omega))
    have r1 : hm h1 1 = mr h 18 := by rw [R1.1, e18]
    have si := sec_in (e := e) (d := INr (mr h 18) e) R.2.1 R.inn.2
    have l := R.len
    obtain ⟨h2, b1, b2⟩ := hc_loop (h := h1) (e := e) R.2.1 ((h 18 0).toInt.toNat) 0 (-9) (sec (mr h 18) e (INr (mr h 18) e)) .null (by show (h 18 0).toInt = _; omega) r1
    have R2 := R1.fc b2
    have f18 : h2 18 = h 18 := by rw [b2 18 (by unfold Scc; omega), a6 18 (by omega)]
    obtain ⟨h3, c1, c2, c3⟩ := R.mo f18 he
    have R3 := R2.fm c3
    have m3 : mr h3 18 = mr h 18 := by
      rw [mr_same (fun x _ => c3 18 x (by omega) (by omega)), mr_cell f18]
    obtain ⟨h4, d1, d2⟩ := hm_loop (h := h3) R.2.1 he ((h 18 0).toInt.toNat) 0 (-9) (sec (mr h 18) e (INr (mr h 18) e)) .null (by show (h 18 0).toInt = _; omega) si m3
    rw [nI_0] at b1 d1
    have rk : (if h1 10 1 = -9 then 1000000 else h1 10 1) = rkS (sec (mr h 18) e (INr (mr h 18) e)) := by rw [a3]; rfl
    have fr := f_rank (h := h1)
    rw [rk] at fr
    exact ⟨huN (mr h 18) e ((h 18 0).toInt.toNat) 0 (-9) (sec (mr h 18) e (INr (mr h 18) e)), h2, h4, by simp [eX6_holdsUp_0, eX6_holdsUp_1, eX6_holdsUp_4, eX6_holdsUp_7, eX6_holdsUp_8, eX6_holdsUp_9, eX6_holdsUp_12, eX6_holdsUp_13, eX6_holdsUp_14, eX6_holdsUp_17, eX6_holdsUp_18, eX6_holdsUp_21, eX6_holdsUp_22, eX6_holdsUp_23, eX6_holdsUp_26, eX6_holdsUp_27, eX6_holdsUp_30, eX6_holdsUp_33, eX6_holdsUp_35, eX6_holdsUp_36, eX6_holdsUp_37, eX6_holdsUp_40, eX6_holdsUp_43, eX6_holdsUp_44, eX6_holdsUp_45, eX6_holdsUp_49, eX6_holdsUp_50, eX6_holdsUp_53, eX6_holdsUp_56, eX6_holdsUp_59, eX6_holdsUp_60, eX6_holdsUp_62, eX6_holdsUp_63, eX6_holdsUp_66, eX6_holdsUp_68, eX6_holdsUp_70, eX6_holdsUp_71, eX6_holdsUp_74, eX6_holdsUp_76, eX6_holdsUp_77, eX6_holdsUp_79, eX6_holdsUp_80, eX6_holdsUp_83, eX6_holdsUp_86, eX6_holdsUp_87, f_isEnd, he, fd, a1, fr, show lyC 1 = 0 from rfl, show rcv 1 = 0 from rfl]; exact b1, by simp [eX7_holdsUp_0, eX7_holdsUp_1, eX7_holdsUp_4, eX7_holdsUp_7, eX7_holdsUp_8, eX7_holdsUp_9, eX7_holdsUp_12, eX7_holdsUp_13, eX7_holdsUp_14, eX7_holdsUp_15, eX7_holdsUp_18, eX7_holdsUp_19, eX7_holdsUp_22, eX7_holdsUp_23, eX7_holdsUp_25, eX7_holdsUp_26, eX7_holdsUp_27, eX7_holdsUp_31, eX7_holdsUp_32, eX7_holdsUp_35, eX7_holdsUp_36, eX7_holdsUp_37, eX7_holdsUp_40, eX7_holdsUp_41, eX7_holdsUp_44, eX7_holdsUp_45, eX7_holdsUp_48, eX7_holdsUp_51, eX7_holdsUp_52, eX7_holdsUp_55, eX7_holdsUp_57, eX7_holdsUp_58, eX7_holdsUp_60, eX7_holdsUp_61, eX7_holdsUp_62, eX7_holdsUp_63, eX7_holdsUp_64, eX7_holdsUp_65, eX7_holdsUp_66, eX7_holdsUp_69, eX7_holdsUp_70, eX7_holdsUp_73, eX7_holdsUp_75, eX7_holdsUp_77, eX7_holdsUp_80, eX7_holdsUp_81, eX7_holdsUp_84, eX7_holdsUp_86, eX7_holdsUp_87, eX7_holdsUp_90, eX7_holdsUp_93, eX7_holdsUp_95, eX7_holdsUp_96, eX7_holdsUp_98, eX7_holdsUp_99, eX7_holdsUp_102, eX7_holdsUp_105, eX7_holdsUp_106, m_isEnd2, he, c1]; exact d1, R3.fs d2⟩
  · exact rf_both R (k := 1) (w := -1) (by omega) (by simp [le_nl, -Int32.not_lt, eX6_holdsUp_0, eX6_holdsUp_1, eX6_holdsUp_4, eX6_holdsUp_7, eX6_holdsUp_8, eX6_holdsUp_9, eX6_holdsUp_12, eX6_holdsUp_13, eX6_holdsUp_14, eX6_holdsUp_17, eX6_holdsUp_18, eX6_holdsUp_21, eX6_holdsUp_22, eX6_holdsUp_23, eX6_holdsUp_26, eX6_holdsUp_27, eX6_holdsUp_30, eX6_holdsUp_33, eX6_holdsUp_35, eX6_holdsUp_36, eX6_holdsUp_37, eX6_holdsUp_40, eX6_holdsUp_43, eX6_holdsUp_44, eX6_holdsUp_45, eX6_holdsUp_49, eX6_holdsUp_50, eX6_holdsUp_53, eX6_holdsUp_56, eX6_holdsUp_59, eX6_holdsUp_60, eX6_holdsUp_62, eX6_holdsUp_63, eX6_holdsUp_66, eX6_holdsUp_68, eX6_holdsUp_70, eX6_holdsUp_71, eX6_holdsUp_74, eX6_holdsUp_76, eX6_holdsUp_77, eX6_holdsUp_79, eX6_holdsUp_80, eX6_holdsUp_83, eX6_holdsUp_86, eX6_holdsUp_87, f_isEnd, he, f_refuse]) (by simp [le_nl, -Int32.not_lt, eX7_holdsUp_0, eX7_holdsUp_1, eX7_holdsUp_4, eX7_holdsUp_7, eX7_holdsUp_8, eX7_holdsUp_9, eX7_holdsUp_12, eX7_holdsUp_13, eX7_holdsUp_14, eX7_holdsUp_15, eX7_holdsUp_18, eX7_holdsUp_19, eX7_holdsUp_22, eX7_holdsUp_23, eX7_holdsUp_25, eX7_holdsUp_26, eX7_holdsUp_27, eX7_holdsUp_31, eX7_holdsUp_32, eX7_holdsUp_35, eX7_holdsUp_36, eX7_holdsUp_37, eX7_holdsUp_40, eX7_holdsUp_41, eX7_holdsUp_44, eX7_holdsUp_45, eX7_holdsUp_48, eX7_holdsUp_51, eX7_holdsUp_52, eX7_holdsUp_55, eX7_holdsUp_57, eX7_holdsUp_58, eX7_holdsUp_60, eX7_holdsUp_61, eX7_holdsUp_62, eX7_holdsUp_63, eX7_holdsUp_64, eX7_holdsUp_65, eX7_holdsUp_66, eX7_holdsUp_69, eX7_holdsUp_70, eX7_holdsUp_73, eX7_holdsUp_75, eX7_holdsUp_77, eX7_holdsUp_80, eX7_holdsUp_81, eX7_holdsUp_84, eX7_holdsUp_86, eX7_holdsUp_87, eX7_holdsUp_90, eX7_holdsUp_93, eX7_holdsUp_95, eX7_holdsUp_96, eX7_holdsUp_98, eX7_holdsUp_99, eX7_holdsUp_102, eX7_holdsUp_105, eX7_holdsUp_106, m_isEnd2, he, m_no])
end CALLS8

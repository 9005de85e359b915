def wayS (h : Sto) (x y z : Int32) : Sto := st (st (st h 10 0 x) 10 1 y) 10 2 z
theorem way0' {h : Sto} {x y z : Int32} : wayS h x y z 10 0 = x := by simp [wayS, st_at]
theorem way1' {h : Sto} {x y z : Int32} : wayS h x y z 10 1 = y := by simp [wayS, st_at]
theorem way2' {h : Sto} {x y z : Int32} : wayS h x y z 10 2 = z := by simp [wayS, st_at]
theorem way_o {h : Sto} {x y z : Int32} {a b : Nat} (ha : a ≠ 10) : wayS h x y z a b = h a b := by simp [wayS, st_at, ha]
theorem way_o' {h : Sto} {x y z : Int32} {a : Nat} (ha : a ≠ 10) : wayS h x y z a = h a := funext fun _ => way_o ha
theorem way_s0 {h : Sto} {x y z v : Int32} : st (wayS h x y z) 10 0 v = wayS h v y z := by
  unfold wayS
  rw [st_comm (h := st (st h 10 0 x) 10 1 y) (by omega), st_comm (h := st h 10 0 x) (by omega), st_idem]
theorem way_s1 {h : Sto} {x y z v : Int32} : st (wayS h x y z) 10 1 v = wayS h x v z := by
  unfold wayS
  rw [st_comm (h := st (st h 10 0 x) 10 1 y) (by omega), st_idem]
theorem way_s2 {h : Sto} {x y z v : Int32} : st (wayS h x y z) 10 2 v = wayS h x y v := by
  unfold wayS
  rw [st_idem]
theorem hm_o {h h' : Sto} {c : Nat} (h0 : h' c = h c) (h1 : h' (c + 1) = h (c + 1)) (h2 : h' (c + 2) = h (c + 2)) : hm h' c = hm h c := by
  unfold hm
  rw [h0, h1, h2]
theorem hm_way {h : Sto} {c : Nat} {x y z : Int32} (hc : c + 2 < 10) : hm (wayS h x y z) c = hm h c := hm_o (way_o' (by omega)) (way_o' (by omega)) (way_o' (by omega))
theorem HC.lt {c : Nat} (hc : HC c) : c + 2 < 10 := by
  rcases ly_hem hc.1 with rfl | rfl | rfl <;> omega
/-- what is in the way behind measure -/
def wres (h : Sto) (o : Option (Nat × Nat × (Nat → Nat))) (z : Int32) : Sto := match o with
  | none => wayS h (-9) (-9) (-9)
  | some q => wayS h (nI q.1) (nI q.2.1) z
section MEAS
variable {c : Nat} {h : Sto} {e : Int32}
theorem f_neverIsOut {x y z : Int32} : ev mX5_neverIsOut 0 [.ref 10] [] (wayS h x y z) = some (none, wayS h (-9) (-9) (-9)) := by
  simp [eX5_neverIsOut_0, eX5_neverIsOut_1, eX5_neverIsOut_3, eX5_neverIsOut_6, eX5_neverIsOut_7, eX5_neverIsOut_9, eX5_neverIsOut_12, eX5_neverIsOut_13, eX5_neverIsOut_15, eX5_neverIsOut_18, way_s0, way_s1, way_s2]
theorem ms_loop (hc : HC c) (ok : Ok (hm h c)) : ∀ (f d b s : Nat) (g : Nat → Nat) (left most here last dear d0 : Int32) (a9 a10 : Value) (ro : Nat), ro + f = 24 → d ≤ f → s + 12 * d ≤ 288 → (∀ x, x < lenN (hm h c) → g x ≤ s) → (d = 0 → left < 1) → (1 ≤ d → left = nI d) → Jn (lenN (hm h c)) e (if d = 0 then 0 else ownI (lenN (hm h c)) e (ixd (hm h c) e d)) g most here last dear →
    ∃ z, ev mX5_measure 32 [.ref 10, .ref c, .int e, .int d0, .int left, .int most, .int here, .int last, .int (nI ro), a9, a10] [] (wayS h (nI b) (nI s) dear) = some (none, wres h (wkc (hm h c) e f d b s g) z) ∧ ∀ q, wkc (hm h c) e f d b s g = some q → Dear (lenN (hm h c)) e q.2.2 z := by
  have hlt := hc.lt
  have l := len_in ok
  intro f
  induction f with
  | zero =>
    intro d b s g left most here last dear d0 a9 a10 ro hf hd hs hg hl0 hl1 J
    have e1 : (24 : Int32) ≤ nI ro := by rw [show ro = 24 by omega]; decide
    refine ⟨dear, ?_, ?_⟩
    · simp [eX5_measure_0, eX5_measure_1, eX5_measure_2, eX5_measure_5, eX5_measure_6, eX5_measure_7, eX5_measure_10, eX5_measure_11, eX5_measure_13, eX5_measure_16, eX5_measure_17, eX5_measure_19, eX5_measure_20, eX5_measure_22, eX5_measure_23, eX5_measure_25, eX5_measure_27, eX5_measure_29, eX5_measure_30, eX5_measure_32, eX5_measure_34, eX5_measure_36, eX5_measure_39, eX5_measure_41, eX5_measure_42, eX5_measure_45, eX5_measure_46, eX5_measure_47, eX5_measure_49, eX5_measure_52, eX5_measure_54, eX5_measure_55, eX5_measure_57, eX5_measure_60, eX5_measure_62, eX5_measure_64, eX5_measure_67, eX5_measure_68, eX5_measure_71, eX5_measure_72, eX5_measure_74, eX5_measure_76, eX5_measure_79, eX5_measure_81, eX5_measure_82, eX5_measure_84, eX5_measure_87, eX5_measure_88, eX5_measure_91, eX5_measure_92, eX5_measure_94, eX5_measure_97, eX5_measure_99, eX5_measure_101, eX5_measure_103, eX5_measure_105, eX5_measure_107, eX5_measure_110, eX5_measure_112, eX5_measure_114, eX5_measure_115, eX5_measure_117, eX5_measure_120, eX5_measure_121, eX5_measure_122, eX5_measure_125, eX5_measure_126, eX5_measure_127, eX5_measure_130, eX5_measure_131, eX5_measure_132, eX5_measure_135, eX5_measure_136, eX5_measure_138, eX5_measure_141, eX5_measure_142, eX5_measure_145, eX5_measure_147, eX5_measure_149, eX5_measure_150, eX5_measure_152, eX5_measure_155, eX5_measure_158, e1, wkc, wres]
    · intro q hq
      cases hq
      exact J.dear
  | succ f ih =>
    intro d b s g left most here last dear d0 a9 a10 ro hf hd hs hg hl0 hl1 J
    have e1 : ¬ (24 : Int32) ≤ nI ro := by
      rw [t_le, t_nI (by omega)]
      show ¬ (24 : Int) ≤ _
      omega
    by_cases hd0 : d = 0
    · subst hd0
      have e2 := hl0 rfl
      refine ⟨dear, ?_, ?_⟩
      · rw [eX5_measure_32]
        simp [eX5_measure_0, eX5_measure_1, eX5_measure_2, eX5_measure_5, eX5_measure_6, eX5_measure_7, eX5_measure_10, eX5_measure_11, eX5_measure_13, eX5_measure_16, eX5_measure_17, eX5_measure_19, eX5_measure_20, eX5_measure_22, eX5_measure_23, eX5_measure_25, eX5_measure_27, eX5_measure_29, eX5_measure_30, eX5_measure_34, eX5_measure_36, eX5_measure_39, eX5_measure_41, eX5_measure_42, eX5_measure_45, eX5_measure_46, eX5_measure_47, eX5_measure_49, eX5_measure_52, eX5_measure_54, eX5_measure_55, eX5_measure_57, eX5_measure_60, eX5_measure_62, eX5_measure_64, eX5_measure_67, eX5_measure_68, eX5_measure_71, eX5_measure_72, eX5_measure_74, eX5_measure_76, eX5_measure_79, eX5_measure_81, eX5_measure_82, eX5_measure_84, eX5_measure_87, eX5_measure_88, eX5_measure_91, eX5_measure_92, eX5_measure_94, eX5_measure_97, eX5_measure_99, eX5_measure_101, eX5_measure_103, eX5_measure_105, eX5_measure_107, eX5_measure_110, eX5_measure_112, eX5_measure_114, eX5_measure_115, eX5_measure_117, eX5_measure_120, eX5_measure_121, eX5_measure_122, eX5_measure_125, eX5_measure_126, eX5_measure_127, eX5_measure_130, eX5_measure_131, eX5_measure_132, eX5_measure_135, eX5_measure_136, eX5_measure_138, eX5_measure_141, eX5_measure_142, eX5_measure_145, eX5_measure_147, eX5_measure_149, eX5_measure_150, eX5_measure_152, eX5_measure_155, eX5_measure_158, e1, e2, wkc, wres]
      · intro q hq
        unfold wkc at hq
        rw [if_pos rfl] at hq
        cases hq
        exact J.dear
    · have hd1 : 1 ≤ d := by omega
      obtain rfl := hl1 hd1
      have e2 : ¬ nI d < 1 := by
        rw [t_lt, t_nI (by omega)]
        show ¬ (d : Int) < 1
        omega
      have ix := ixd_in (e := e) ok (show d ≤ 24 by omega)
      obtain ⟨i1, i2, i3⟩ := ix
      rw [if_neg hd0] at J
      generalize hi : ixd (hm h c) e d = i at *
      have i3' : ichD (wayS h (nI b) (nI s) dear c 2) e (nI d) = nI i := by rw [way_o (by omega)]; exact i3
      obtain ⟨m1, m2⟩ := mvN_eq (hm h c) i
      obtain ⟨t1, t2, t3⟩ := bsN_eq ok i2
      rw [hm_k i2] at m1
      rw [hm_k i2, hm_f i2] at t1
      have fm : ∀ x y z, ev mX0_bunchMove 0 [.ref c, .int (nI i)] [] (wayS h x y z) = some (some (.int (nI (mvN (hm h c) i))), wayS h x y z) := by
        intro x y z
        rw [f_bunchMove hc i2, way_o (by omega), m1]
      have fs : ∀ x y z, ev mX0_bunchSeconds 0 [.ref c, .int (nI i)] [] (wayS h x y z) = some (some (.int (nI (bsN (hm h c) i))), wayS h x y z) := by
        intro x y z
        rw [f_bunchSeconds hc i2, way_o (by omega), way_o (by omega), t1]
      by_cases hm0' : mvN (hm h c) i = 0
      · refine ⟨0, ?_, ?_⟩
        · rw [hm0'] at fm
          have z0 : nI 0 = 0 := nI_0
          rw [eX5_measure_32]
          simp [eX5_measure_0, eX5_measure_1, eX5_measure_2, eX5_measure_5, eX5_measure_6, eX5_measure_7, eX5_measure_10, eX5_measure_11, eX5_measure_13, eX5_measure_16, eX5_measure_17, eX5_measure_19, eX5_measure_20, eX5_measure_22, eX5_measure_23, eX5_measure_25, eX5_measure_27, eX5_measure_29, eX5_measure_30, eX5_measure_34, eX5_measure_36, eX5_measure_39, eX5_measure_41, eX5_measure_42, eX5_measure_45, eX5_measure_46, eX5_measure_47, eX5_measure_49, eX5_measure_52, eX5_measure_54, eX5_measure_55, eX5_measure_57, eX5_measure_60, eX5_measure_62, eX5_measure_64, eX5_measure_67, eX5_measure_68, eX5_measure_71, eX5_measure_72, eX5_measure_74, eX5_measure_76, eX5_measure_79, eX5_measure_81, eX5_measure_82, eX5_measure_84, eX5_measure_87, eX5_measure_88, eX5_measure_91, eX5_measure_92, eX5_measure_94, eX5_measure_97, eX5_measure_99, eX5_measure_101, eX5_measure_103, eX5_measure_105, eX5_measure_107, eX5_measure_110, eX5_measure_112, eX5_measure_114, eX5_measure_115, eX5_measure_117, eX5_measure_120, eX5_measure_121, eX5_measure_122, eX5_measure_125, eX5_measure_126, eX5_measure_127, eX5_measure_130, eX5_measure_131, eX5_measure_132, eX5_measure_135, eX5_measure_136, eX5_measure_138, eX5_measure_141, eX5_measure_142, eX5_measure_145, eX5_measure_147, eX5_measure_149, eX5_measure_150, eX5_measure_152, eX5_measure_155, eX5_measure_158, e1, e2, hc.2.1, f_inchAt hc, i3', fm, z0, f_neverIsOut]
          unfold wkc
          rw [if_neg hd0, hi, if_pos hm0']
          rfl
        · intro q hq
          unfold wkc at hq
          rw [if_neg hd0, hi, if_pos hm0'] at hq
          cases hq
      · have p0 : 0 < nI (mvN (hm h c) i) := by
          rw [t_lt, t_nI (by omega)]
          show (0 : Int) < _
          omega
        have stepJ := J.step (i := i) (t := bsN (hm h c) i) i1 l.2.1 (Nat.le_refl _) (by omega) (fun x hx => by have := hg x hx; omega) (K' := if d - mvN (hm h c) i = 0 then 0 else ownI (lenN (hm h c)) e (ixd (hm h c) e (d - mvN (hm h c) i))) (by
          split
          · omega
          · rename_i hnz
            rw [ixd_own ok (by omega) (by omega), ← hi, ixd_own ok (by omega) (by omega)]
            omega)
        have hg' : ∀ x, x < lenN (hm h c) → bump g i (bsN (hm h c) i) x ≤ s + bsN (hm h c) i := by
          intro x hx
          have := hg x hx
          unfold bump
          split <;> omega
        have hleft0 : d - mvN (hm h c) i = 0 → nI d - nI (mvN (hm h c) i) < 1 := by
          intro z
          rw [t_lt, pk_sub_toInt (by omega) (by omega)]
          show _ < (1 : Int)
          omega
        have hleft1 : 1 ≤ d - mvN (hm h c) i → nI d - nI (mvN (hm h c) i) = nI (d - mvN (hm h c) i) := by
          intro z
          exact pk_sub (by omega)
        obtain ⟨z, g1, g2⟩ := ih (d - mvN (hm h c) i) (b + 1) (s + bsN (hm h c) i) (bump g i (bsN (hm h c) i)) (nI d - nI (mvN (hm h c) i)) _ _ _ _ d0 (.int (nI i)) (.int (nI (mvN (hm h c) i))) (ro + 1) (by omega) (by omega) (by omega) hg' hleft0 hleft1 stepJ
        have ew : wkc (hm h c) e (f + 1) d b s g = wkc (hm h c) e f (d - mvN (hm h c) i) (b + 1) (s + bsN (hm h c) i) (bump g i (bsN (hm h c) i)) := by
          rw [wkc, if_neg hd0, hi, if_neg hm0']
        rw [ew]
        refine ⟨z, ?_, g2⟩
        rw [← g1]
        have p1 : ¬ nI (mvN (hm h c) i) ≤ 0 := Int32.not_le.mpr p0
        rw [eX5_measure_32]
        by_cases hl : nI i = last
        · subst hl
          by_cases hmo : here + nI (bsN (hm h c) i) < most
          · simp [eX5_measure_0, eX5_measure_1, eX5_measure_2, eX5_measure_5, eX5_measure_6, eX5_measure_7, eX5_measure_10, eX5_measure_11, eX5_measure_13, eX5_measure_16, eX5_measure_17, eX5_measure_19, eX5_measure_20, eX5_measure_22, eX5_measure_23, eX5_measure_25, eX5_measure_27, eX5_measure_29, eX5_measure_30, eX5_measure_34, eX5_measure_36, eX5_measure_39, eX5_measure_41, eX5_measure_42, eX5_measure_45, eX5_measure_46, eX5_measure_47, eX5_measure_49, eX5_measure_52, eX5_measure_54, eX5_measure_55, eX5_measure_57, eX5_measure_60, eX5_measure_62, eX5_measure_64, eX5_measure_67, eX5_measure_68, eX5_measure_71, eX5_measure_72, eX5_measure_74, eX5_measure_76, eX5_measure_79, eX5_measure_81, eX5_measure_82, eX5_measure_84, eX5_measure_87, eX5_measure_88, eX5_measure_91, eX5_measure_92, eX5_measure_94, eX5_measure_97, eX5_measure_99, eX5_measure_101, eX5_measure_103, eX5_measure_105, eX5_measure_107, eX5_measure_110, eX5_measure_112, eX5_measure_114, eX5_measure_115, eX5_measure_117, eX5_measure_120, eX5_measure_121, eX5_measure_122, eX5_measure_125, eX5_measure_126, eX5_measure_127, eX5_measure_130, eX5_measure_131, eX5_measure_132, eX5_measure_135, eX5_measure_136, eX5_measure_138, eX5_measure_141, eX5_measure_142, eX5_measure_145, eX5_measure_147, eX5_measure_149, eX5_measure_150, eX5_measure_152, eX5_measure_155, eX5_measure_158, e1, e2, hc.2.1, f_inchAt hc, i3', fm, fs, p0, hmo, way0', way1', way_s0, way_s1, way_s2, nI_add, nI_1]
          · simp [eX5_measure_0, eX5_measure_1, eX5_measure_2, eX5_measure_5, eX5_measure_6, eX5_measure_7, eX5_measure_10, eX5_measure_11, eX5_measure_13, eX5_measure_16, eX5_measure_17, eX5_measure_19, eX5_measure_20, eX5_measure_22, eX5_measure_23, eX5_measure_25, eX5_measure_27, eX5_measure_29, eX5_measure_30, eX5_measure_34, eX5_measure_36, eX5_measure_39, eX5_measure_41, eX5_measure_42, eX5_measure_45, eX5_measure_46, eX5_measure_47, eX5_measure_49, eX5_measure_52, eX5_measure_54, eX5_measure_55, eX5_measure_57, eX5_measure_60, eX5_measure_62, eX5_measure_64, eX5_measure_67, eX5_measure_68, eX5_measure_71, eX5_measure_72, eX5_measure_74, eX5_measure_76, eX5_measure_79, eX5_measure_81, eX5_measure_82, eX5_measure_84, eX5_measure_87, eX5_measure_88, eX5_measure_91, eX5_measure_92, eX5_measure_94, eX5_measure_97, eX5_measure_99, eX5_measure_101, eX5_measure_103, eX5_measure_105, eX5_measure_107, eX5_measure_110, eX5_measure_112, eX5_measure_114, eX5_measure_115, eX5_measure_117, eX5_measure_120, eX5_measure_121, eX5_measure_122, eX5_measure_125, eX5_measure_126, eX5_measure_127, eX5_measure_130, eX5_measure_131, eX5_measure_132, eX5_measure_135, eX5_measure_136, eX5_measure_138, eX5_measure_141, eX5_measure_142, eX5_measure_145, eX5_measure_147, eX5_measure_149, eX5_measure_150, eX5_measure_152, eX5_measure_155, eX5_measure_158, e1, e2, hc.2.1, f_inchAt hc, i3', fm, fs, p0, hmo, way0', way1', way_s0, way_s1, way_s2, nI_add, nI_1]
        · by_cases hmo : nI (bsN (hm h c) i) < most
          · simp [eX5_measure_0, eX5_measure_1, eX5_measure_2, eX5_measure_5, eX5_measure_6, eX5_measure_7, eX5_measure_10, eX5_measure_11, eX5_measure_13, eX5_measure_16, eX5_measure_17, eX5_measure_19, eX5_measure_20, eX5_measure_22, eX5_measure_23, eX5_measure_25, eX5_measure_27, eX5_measure_29, eX5_measure_30, eX5_measure_34, eX5_measure_36, eX5_measure_39, eX5_measure_41, eX5_measure_42, eX5_measure_45, eX5_measure_46, eX5_measure_47, eX5_measure_49, eX5_measure_52, eX5_measure_54, eX5_measure_55, eX5_measure_57, eX5_measure_60, eX5_measure_62, eX5_measure_64, eX5_measure_67, eX5_measure_68, eX5_measure_71, eX5_measure_72, eX5_measure_74, eX5_measure_76, eX5_measure_79, eX5_measure_81, eX5_measure_82, eX5_measure_84, eX5_measure_87, eX5_measure_88, eX5_measure_91, eX5_measure_92, eX5_measure_94, eX5_measure_97, eX5_measure_99, eX5_measure_101, eX5_measure_103, eX5_measure_105, eX5_measure_107, eX5_measure_110, eX5_measure_112, eX5_measure_114, eX5_measure_115, eX5_measure_117, eX5_measure_120, eX5_measure_121, eX5_measure_122, eX5_measure_125, eX5_measure_126, eX5_measure_127, eX5_measure_130, eX5_measure_131, eX5_measure_132, eX5_measure_135, eX5_measure_136, eX5_measure_138, eX5_measure_141, eX5_measure_142, eX5_measure_145, eX5_measure_147, eX5_measure_149, eX5_measure_150, eX5_measure_152, eX5_measure_155, eX5_measure_158, e1, e2, hc.2.1, f_inchAt hc, i3', fm, fs, p0, hl, hmo, way0', way1', way_s0, way_s1, way_s2, nI_add, nI_1]
          · simp [eX5_measure_0, eX5_measure_1, eX5_measure_2, eX5_measure_5, eX5_measure_6, eX5_measure_7, eX5_measure_10, eX5_measure_11, eX5_measure_13, eX5_measure_16, eX5_measure_17, eX5_measure_19, eX5_measure_20, eX5_measure_22, eX5_measure_23, eX5_measure_25, eX5_measure_27, eX5_measure_29, eX5_measure_30, eX5_measure_34, eX5_measure_36, eX5_measure_39, eX5_measure_41, eX5_measure_42, eX5_measure_45, eX5_measure_46, eX5_measure_47, eX5_measure_49, eX5_measure_52, eX5_measure_54, eX5_measure_55, eX5_measure_57, eX5_measure_60, eX5_measure_62, eX5_measure_64, eX5_measure_67, eX5_measure_68, eX5_measure_71, eX5_measure_72, eX5_measure_74, eX5_measure_76, eX5_measure_79, eX5_measure_81, eX5_measure_82, eX5_measure_84, eX5_measure_87, eX5_measure_88, eX5_measure_91, eX5_measure_92, eX5_measure_94, eX5_measure_97, eX5_measure_99, eX5_measure_101, eX5_measure_103, eX5_measure_105, eX5_measure_107, eX5_measure_110, eX5_measure_112, eX5_measure_114, eX5_measure_115, eX5_measure_117, eX5_measure_120, eX5_measure_121, eX5_measure_122, eX5_measure_125, eX5_measure_126, eX5_measure_127, eX5_measure_130, eX5_measure_131, eX5_measure_132, eX5_measure_135, eX5_measure_136, eX5_measure_138, eX5_measure_141, eX5_measure_142, eX5_measure_145, eX5_measure_147, eX5_measure_149, eX5_measure_150, eX5_measure_152, eX5_measure_155, eX5_measure_158, e1, e2, hc.2.1, f_inchAt hc, i3', fm, fs, p0, hl, hmo, way0', way1', way_s0, way_s1, way_s2, nI_add, nI_1]
/-- measure: the walk from a depth -/
theorem f_measure (hc : HC c) (ok : Ok (hm h c)) {d : Int32} (hd : d.toInt ≤ 24) : ∃ z, ev mX5_measure 0 [.ref 10, .ref c, .int e, .int d, .null, .null, .null, .null, .null, .null, .null] [] h = some (none, wres h (wkc (hm h c) e 24 d.toInt.toNat 0 0 (fun _ => 0)) z) ∧ ∀ q, wkc (hm h c) e 24 d.toInt.toNat 0 0 (fun _ => 0) = some q → Dear (lenN (hm h c)) e q.2.2 z := by
  obtain ⟨z, g1, g2⟩ := ms_loop (h := h) (e := e) hc ok 24 d.toInt.toNat 0 0 (fun _ => 0) d 0 0 (-9) (-9) d .null .null 0 (by omega) (by omega) (by omega) (fun _ _ => Nat.le_refl _) (by
    intro hz
    rw [t_lt]
    show d.toInt < 1
    omega) (fun hz => nI_nat (by omega)) (Or.inl ⟨fun _ _ => rfl, rfl, rfl, rfl⟩)
  refine ⟨z, ?_, g2⟩
  rw [← g1]
  simp [eX5_measure_0, eX5_measure_1, eX5_measure_2, eX5_measure_5, eX5_measure_6, eX5_measure_7, eX5_measure_10, eX5_measure_11, eX5_measure_13, eX5_measure_16, eX5_measure_17, eX5_measure_19, eX5_measure_20, eX5_measure_22, eX5_measure_23, eX5_measure_25, eX5_measure_27, eX5_measure_29, eX5_measure_30, eX5_measure_34, eX5_measure_36, eX5_measure_39, eX5_measure_41, eX5_measure_42, eX5_measure_45, eX5_measure_46, eX5_measure_47, eX5_measure_49, eX5_measure_52, eX5_measure_54, eX5_measure_55, eX5_measure_57, eX5_measure_60, eX5_measure_62, eX5_measure_64, eX5_measure_67, eX5_measure_68, eX5_measure_71, eX5_measure_72, eX5_measure_74, eX5_measure_76, eX5_measure_79, eX5_measure_81, eX5_measure_82, eX5_measure_84, eX5_measure_87, eX5_measure_88, eX5_measure_91, eX5_measure_92, eX5_measure_94, eX5_measure_97, eX5_measure_99, eX5_measure_101, eX5_measure_103, eX5_measure_105, eX5_measure_107, eX5_measure_110, eX5_measure_112, eX5_measure_114, eX5_measure_115, eX5_measure_117, eX5_measure_120, eX5_measure_121, eX5_measure_122, eX5_measure_125, eX5_measure_126, eX5_measure_127, eX5_measure_130, eX5_measure_131, eX5_measure_132, eX5_measure_135, eX5_measure_136, eX5_measure_138, eX5_measure_141, eX5_measure_142, eX5_measure_145, eX5_measure_147, eX5_measure_149, eX5_measure_150, eX5_measure_152, eX5_measure_155, eX5_measure_158]
  rfl
end MEAS

/-! No instruction writes beyond the objects: the script stays -/
section FRAME
def Kp (h : Sto) (d : Dn) : Prop := match d with
  | none => True
  | some (.inl r) => ∀ a, 27 ≤ a → r.2 a = h a
  | some (.inr (.inl q)) => ∀ a, 27 ≤ a → q.2.2.2 a = h a
  | some (.inr (.inr _)) => True
theorem lyA_lt {c n : Nat} (hc : lyA c = some n) : c < 27 := by
  unfold lyA at hc
  split at hc <;> first | omega | cases hc
theorem kq_none {h : Sto} : Kp h none := trivial
theorem kq_go {h : Sto} {pc : Nat} {L S : List Value} : Kp h (Gg pc L S h) := fun _ _ => rfl
theorem kq_st {h : Sto} {pc c j : Nat} {v : Int32} {L S : List Value} (hc : c < 27) : Kp h (Gg pc L S (st h c j v)) := fun a ha => st_cell (by omega)
theorem kq_ret {h : Sto} {v : Option Value} : Kp h (some (.inl (v, h))) := fun _ _ => rfl
theorem kq_cal {h : Sto} {q : MD × List Value × List Value} : Kp h (some (.inr (.inr q))) := trivial
section KP
variable {h : Sto} {L S : List Value} {pc len : Nat}
theorem kq_push {v : Value} {n : Nat} : Kp h (x_push v n len pc L S h) := by
  unfold x_push; repeat' split
  all_goals first | exact kq_go | exact kq_none
theorem kq_ldI {i n : Nat} : Kp h (x_ldI i n len pc L S h) := by
  unfold x_ldI; repeat' split
  all_goals first | exact kq_go | exact kq_none
theorem kq_ldA {i n : Nat} : Kp h (x_ldA i n len pc L S h) := by
  unfold x_ldA; repeat' split
  all_goals first | exact kq_go | exact kq_none
theorem kq_sto {k : Bool} {i n : Nat} : Kp h (x_st k i n len pc L S h) := by
  unfold x_st; repeat' split
  all_goals first | exact kq_go | exact kq_none
theorem kq_iinc {i : Nat} {z : Int} : Kp h (x_iinc i z len pc L S h) := by
  unfold x_iinc; repeat' split
  all_goals first | exact kq_go | exact kq_none
theorem kq_bin {f : Int32 → Int32 → Int32} : Kp h (x_bin f len pc L S h) := by
  unfold x_bin; repeat' split
  all_goals first | exact kq_go | exact kq_none
theorem kq_bin0 {f : Int32 → Int32 → Int32} : Kp h (x_bin0 f len pc L S h) := by
  unfold x_bin0; repeat' split
  all_goals first | exact kq_go | exact kq_none
theorem kq_un {f : Int32 → Int32} : Kp h (x_un f len pc L S h) := by
  unfold x_un; repeat' split
  all_goals first | exact kq_go | exact kq_none
theorem kq_dup : Kp h (x_dup len pc L S h) := by
  unfold x_dup; repeat' split
  all_goals first | exact kq_go | exact kq_none
theorem kq_pop : Kp h (x_pop len pc L S h) := by
  unfold x_pop; repeat' split
  all_goals first | exact kq_go | exact kq_none
theorem kq_dup2 : Kp h (x_dup2 len pc L S h) := by
  unfold x_dup2; repeat' split
  all_goals first | exact kq_go | exact kq_none
theorem kq_jump {off : Int} : Kp h (x_jump pc off L S h) := by
  unfold x_jump; repeat' split
  all_goals first | exact kq_go | exact kq_none
theorem kq_if {c : ClassFile.Cond} {off : Int} : Kp h (x_if c off len pc L S h) := by
  unfold x_if
  split
  · by_cases y : len = 3 ∧ 0 ≤ (pc : Int) + off
    · rw [if_pos y]; exact kq_go
    · rw [if_neg y]; exact kq_none
  · exact kq_none
theorem kq_icmp {c : ClassFile.Cond} {off : Int} : Kp h (x_icmp c off len pc L S h) := by
  unfold x_icmp
  split
  · by_cases y : len = 3 ∧ 0 ≤ (pc : Int) + off
    · rw [if_pos y]; exact kq_go
    · rw [if_neg y]; exact kq_none
  · exact kq_none
theorem kq_goto {off : Int} : Kp h (x_goto off len pc L S h) := by
  unfold x_goto; split
  · exact kq_jump
  · exact kq_none
theorem kq_tsw {d lo hi : Int} {offs : Array Int} : Kp h (x_tsw d lo hi offs pc L S h) := by
  unfold x_tsw; repeat' split
  all_goals first | exact kq_jump | exact kq_none
theorem kq_lsw {d : Int} {ps : Array (Int × Int)} : Kp h (x_lsw d ps pc L S h) := by
  unfold x_lsw; repeat' split
  all_goals first | exact kq_jump | exact kq_none
theorem kq_getf {own idx : Nat} : Kp h (x_getf own idx len pc L S h) := by
  unfold x_getf; repeat' split
  all_goals first | exact kq_go | exact kq_none
theorem kq_putf {own idx : Nat} : Kp h (x_putf own idx len pc L S h) := by
  unfold x_putf; repeat' split
  all_goals first | exact kq_none | (rename_i y; exact kq_st y.2.1)
theorem kq_iald : Kp h (x_iald len pc L S h) := by
  unfold x_iald; repeat' split
  all_goals first | exact kq_go | exact kq_none
theorem kq_bald : Kp h (x_bald len pc L S h) := by
  unfold x_bald; repeat' split
  all_goals first | exact kq_go | exact kq_none
theorem kq_iast : Kp h (x_iast len pc L S h) := by
  unfold x_iast
  split
  · rename_i c _
    cases hc : lyA c with
    | none => exact kq_none
    | some n =>
      dsimp only
      have y := lyA_lt hc
      repeat' split
      all_goals first | exact kq_none | exact kq_st y
  · exact kq_none
theorem kq_alen : Kp h (x_alen len pc L S h) := by
  unfold x_alen; repeat' split
  all_goals first | exact kq_go | exact kq_none
theorem kq_gets {own idx : Nat} : Kp h (x_gets own idx len pc L S h) := by
  unfold x_gets; repeat' split
  all_goals first | exact kq_go | exact kq_none
theorem kq_ldc {own idx n : Nat} : Kp h (x_ldc own idx n len pc L S h) := by
  unfold x_ldc; repeat' split
  all_goals first | exact kq_go | exact kq_none
theorem kq_math {w : Nat} {md : MD} : Kp h (x_math w md len pc L S h) := by
  unfold x_math
  split
  all_goals
    split
    · split
      · exact kq_go
      · exact kq_none
    · exact kq_none
theorem kq_call {kd : Nat} {md : MD} {idx : Nat} : Kp h (x_call kd md idx len S) := by
  unfold x_call; repeat' split
  all_goals first | exact kq_cal | exact kq_none
theorem kq_ireturn {md : MD} : Kp h (x_ireturn md len S h) := by
  unfold x_ireturn; repeat' split
  all_goals first | exact kq_ret | exact kq_none
theorem kq_areturn {md : MD} : Kp h (x_areturn md len S h) := by
  unfold x_areturn; repeat' split
  all_goals first | exact kq_ret | exact kq_none
theorem kq_return {md : MD} : Kp h (x_return md len S h) := by
  unfold x_return; repeat' split
  all_goals first | exact kq_ret | exact kq_none
theorem kq_ins {md : MD} {i : Instr} : Kp h (ins md len pc L S h i) := by
  unfold ins
  split
  all_goals first | exact kq_push | exact kq_ldc | exact kq_ldI | exact kq_ldA | exact kq_sto | exact kq_iinc | exact kq_bin | exact kq_bin0 | exact kq_un | exact kq_dup | exact kq_pop | exact kq_dup2 | exact kq_if | exact kq_icmp | exact kq_goto | exact kq_tsw | exact kq_lsw | exact kq_getf | exact kq_putf | exact kq_iald | exact kq_bald | exact kq_iast | exact kq_alen | exact kq_gets | exact kq_call | exact kq_ireturn | exact kq_areturn | exact kq_return | exact kq_none | (split; exact kq_math; exact kq_call)
theorem kq_dsc {md : MD} : Kp h (dsc md pc L S h) := by
  unfold dsc
  split
  · exact kq_ins
  · exact kq_none
end KP
theorem run_fr : ∀ (n : Nat) (md : MD) (pc : Nat) (L S : List Value) (h : Sto) (r : Option Value × Sto), run n md pc L S h = some r → ∀ a, 27 ≤ a → r.2 a = h a := by
  intro n
  induction n with
  | zero => intro md pc L S h r hr; cases hr
  | succ n ih =>
    intro md pc L S h r hr a ha
    have k := kq_dsc (h := h) (L := L) (S := S) (pc := pc) (md := md)
    have hr : stp (run n) md pc L S h = some r := hr
    unfold stp at hr
    cases hd : dsc md pc L S h with
    | none => rw [hd] at hr; cases hr
    | some d =>
      rw [hd] at hr k
      rcases d with b | ⟨pc', L', S', h'⟩ | ⟨cal, A, rest⟩
      · dsimp only at hr
        injection hr with hr
        subst hr
        exact k a ha
      · dsimp only at hr
        rw [ih md pc' L' S' h' r hr a ha]
        exact k a ha
      · dsimp only at hr
        obtain ⟨q, h1, h2⟩ := Option.bind_eq_some_iff.mp hr
        rw [ih _ _ _ _ _ _ h2 a ha, ih _ _ _ _ _ _ h1 a ha]
theorem ev_fr {md : MD} {pc : Nat} {L S : List Value} {h h' : Sto} {v : Option Value} (e : ev md pc L S h = some (v, h')) : ∀ a, 27 ≤ a → h' a = h a := by
  obtain ⟨n, hn⟩ := ev_iff.mp e
  exact run_fr n md pc L S h _ hn
/-- at the start -/
theorem rel0 (N : Nat) (xs : Nat → Int32) : Rel (sto0 N xs) := by
  have f1 : ∀ j, j < 8 → hem0 (j + 2) = mod0 j := by decide
  have f2 : ∀ j, j < 32 → 8 ≤ j → mod0 j = 0 := by decide
  have z2 : ∀ x, sto0 N xs 2 x = 0 := fun _ => rfl
  have z3 : ∀ x, sto0 N xs 3 x = 0 := fun _ => rfl
  have e1 : hm (sto0 N xs) 1 = mr (sto0 N xs) 18 := by
    funext j
    by_cases h8 : j < 8
    · rw [hm_lo h8, mr_lo (by omega)]
      exact f1 j h8
    · by_cases h32 : 32 ≤ j
      · unfold hm mr
        rw [if_neg h8, if_pos h32, if_neg (show ¬ j < 32 by omega)]
      · rw [mr_lo (show j < 32 by omega)]
        unfold hm
        rw [if_neg h8, if_neg h32, z2, z3]
        have := f2 j (by omega) (by omega)
        split <;> exact this.symm
  have ok : Ok (mr (sto0 N xs) 18) := by
    refine ⟨?_, ?_, ?_, Or.inl rfl, Or.inl rfl, Or.inl rfl, ?_, ?_, fun i hi => ?_⟩
    · show 2 ≤ (mod0 0).toInt ∧ (mod0 0).toInt ≤ 12
      decide
    · show -40 ≤ (mod0 1).toInt ∧ (mod0 1).toInt ≤ 24
      decide
    · show -40 ≤ (mod0 2).toInt ∧ (mod0 2).toInt ≤ 24
      decide
    · show 1 ≤ (mod0 6).toInt ∧ (mod0 6).toInt ≤ 9
      decide
    · show 0 ≤ (mod0 7).toInt ∧ (mod0 7).toInt ≤ 9
      decide
    have a : kO (mr (sto0 N xs) 18) i = 0 := by rw [mr_k hi]; exact f2 _ (by omega) (by omega)
    have b : fO (mr (sto0 N xs) 18) i = 0 := by rw [mr_f hi]; exact f2 _ (by omega) (by omega)
    rw [a, b]
    decide
  refine ⟨e1, ok, ⟨Or.inl rfl, rfl, fun z => ?_⟩, fun j _ => rfl, ⟨0, by omega, rfl, rfl, fun i hi => absurd hi (Nat.not_lt_zero _)⟩, ⟨0, by omega, rfl, rfl, fun i hi => absurd hi (Nat.not_lt_zero _)⟩⟩
  have z : (0 : Int32) = 1 := z
  exact absurd z (by decide)
end FRAME

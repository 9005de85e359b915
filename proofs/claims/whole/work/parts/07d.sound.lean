section SNG
variable {l : Launch} {G : Gm} {md : MD} {p : Program} {e : Env} {s : State} {m : MethodId} {args : Array Value} {below : List Frame} {meth : Method} {c : Code} {R : Room} {cells slots : Nat} {Q : State → Prop} {pc len n : Nat} {L S : List Value} {h : Sto} {q : Nat × List Value × List Value × Sto}
theorem kp_jump {off : Int} (hd : x_jump pc off L S h = some (.inr (.inl q))) : q.2.2.2 = h := by
  obtain ⟨t, -, rfl⟩ := jmp_inv hd
  rfl
/-- a step writes our own cells alone -/
theorem dsc_keep (hd : dsc md pc L S h = some (.inr (.inl q))) {a : Nat} (ha : 27 ≤ a) : q.2.2.2 a = h a := by
  unfold dsc at hd
  cases hdec : decode md.cod pc with
  | error er => rw [hdec] at hd; cases hd
  | ok r =>
    obtain ⟨i, len⟩ := r
    rw [hdec] at hd
    dsimp only at hd
    cases i
    case putfield i =>
      dsimp only [ins, x_putf] at hd
      split at hd
      · split at hd
        · split at hd
          · rename_i hl
            obtain rfl := Gg_inj hd
            have h27 : @LT.lt Nat instLTNat _ 27 := hl.2.1
            exact st_cell (by omega)
          · cases hd
        · cases hd
      · cases hd
    case iastore =>
      dsimp only [ins, x_iast] at hd
      split at hd
      · split at hd
        · rename_i hn
          split at hd
          · cases hd
          · split at hd
            · obtain rfl := Gg_inj hd
              have h27 := ly_a hn
              exact st_cell (by omega)
            · cases hd
        · cases hd
      · cases hd
    case invokevirtual i => exact absurd hd x_call_no
    case invokestatic i =>
      dsimp only [ins] at hd
      split at hd
      · dsimp only [x_math] at hd
        repeat' split at hd
        all_goals first | (cases hd; done) | (obtain rfl := Gg_inj hd; rfl)
      · exact absurd hd x_call_no
    case ireturn => exact absurd hd x_ret_no1
    case areturn => exact absurd hd x_ret_no2
    case return_ => exact absurd hd x_ret_no3
    case goto off =>
      dsimp only [ins, x_goto] at hd
      split at hd
      · rw [kp_jump hd]
      · cases hd
    case tableswitch d lo hi offs =>
      dsimp only [ins, x_tsw] at hd
      repeat' split at hd
      all_goals first | (cases hd; done) | rw [kp_jump hd]
    case lookupswitch d ps =>
      dsimp only [ins, x_lsw] at hd
      repeat' split at hd
      all_goals first | (cases hd; done) | rw [kp_jump hd]
    all_goals first
      | exact absurd (show (none : Dn) = some _ from hd) (fun z => by cases z)
      | (dsimp only [ins, x_push, x_ldI, x_ldA, x_st, x_iinc, x_bin, x_bin0, x_un, x_dup, x_pop, x_dup2, x_if, x_icmp, x_getf, x_iald, x_bald, x_alen, x_gets, x_ldc] at hd
         repeat' split at hd
         all_goals first | (cases hd; done) | (obtain rfl := Gg_inj hd; rfl))
/-- a return: the value is all that is on the stack, and the method's own kind -/
def RetAt (md : MD) (pc : Nat) (r : Option Value) : Prop := (∃ v ty, r = some (.int v) ∧ decode md.cod pc = .ok (.ireturn, 1) ∧ md.ret = some ty ∧ narrow ty (.int v) = .int v) ∨ (∃ a nm, r = some (.ref a) ∧ decode md.cod pc = .ok (.areturn, 1) ∧ md.ret = some (.object nm) ∧ 100 ≤ a ∧ a < 107) ∨ (r = none ∧ decode md.cod pc = .ok (.return_, 1) ∧ md.ret = none)
theorem ret_inv {r : Option Value × Sto} (hd : dsc md pc L S h = some (.inl r)) : RetAt md pc r.1 ∧ S = r.1.toList ∧ r.2 = h := by
  unfold dsc at hd
  cases hdec : decode md.cod pc with
  | error er => rw [hdec] at hd; cases hd
  | ok z =>
    obtain ⟨i, len⟩ := z
    rw [hdec] at hd
    dsimp only at hd
    cases i
    case ireturn =>
      dsimp only [ins, x_ireturn] at hd
      split at hd
      · rename_i v
        split at hd
        · rename_i hl
          obtain ⟨rfl, ht⟩ := hl
          obtain rfl := Sum.inl.inj (Option.some.inj hd)
          refine ⟨Or.inl ?_, rfl, rfl⟩
          rcases ht with ht | ⟨ht, hv⟩ | ⟨ht, hv⟩ | ⟨ht, hv⟩
          · exact ⟨v, .int, rfl, hdec, ht, rfl⟩
          · exact ⟨v, .boolean, rfl, hdec, ht, by rcases hv with rfl | rfl <;> rfl⟩
          · exact ⟨v, .char, rfl, hdec, ht, hv⟩
          · exact ⟨v, .byte, rfl, hdec, ht, hv⟩
        · cases hd
      · cases hd
    case areturn =>
      dsimp only [ins, x_areturn] at hd
      split at hd
      · rename_i a
        split at hd
        · rename_i hl
          obtain ⟨rfl, ht, h1, h2⟩ := hl
          obtain rfl := Sum.inl.inj (Option.some.inj hd)
          exact ⟨Or.inr (Or.inl ⟨a, _, rfl, hdec, ht, h1, h2⟩), rfl, rfl⟩
        · cases hd
      · cases hd
    case return_ =>
      dsimp only [ins, x_return] at hd
      split at hd
      · split at hd
        · rename_i hl
          obtain ⟨rfl, ht⟩ := hl
          obtain rfl := Sum.inl.inj (Option.some.inj hd)
          exact ⟨Or.inr (Or.inr ⟨rfl, hdec, ht⟩), rfl, rfl⟩
        · cases hd
      · cases hd
    all_goals first
      | exact absurd (show (none : Dn) = some _ from hd) (fun z => by cases z)
      | (dsimp only [ins, x_push, x_ldI, x_ldA, x_st, x_iinc, x_bin, x_bin0, x_un, x_dup, x_pop, x_dup2, x_if, x_icmp, x_getf, x_putf, x_iald, x_iast, x_bald, x_alen, x_gets, x_ldc, x_goto, x_tsw, x_lsw, x_jump, x_math, x_call] at hd
         repeat' split at hd
         all_goals cases hd)
theorem calT_ok {own idx kd k : Nat} {cal : MD} (hf : calT own idx = some (kd, cal, k)) : CalOK (own, idx, kd, cal, k) := by
  unfold calT at hf
  obtain ⟨a, h1, h2⟩ := Option.map_eq_some_iff.mp hf
  obtain ⟨h3, h4⟩ := fnd_mem h1
  simp only [Bool.and_eq_true, beq_iff_eq] at h4
  have e : a = (own, idx, kd, cal, k) := Prod.ext h4.1 (Prod.ext h4.2 h2)
  rw [← e]
  exact cal_ok a h3
theorem ctb_own : ∀ q ∈ CTB, q.2.2.2.1.1 ≠ 99 ∧ q.2.2.2.1.1 ≠ 98 := by
  have h : (CTB.all (fun q => q.2.2.2.1.1 != 99 && q.2.2.2.1.1 != 98)) = true := by decide +kernel
  intro q hq
  have := List.all_eq_true.mp h q hq
  simpa using this
theorem calT_own {own idx kd k : Nat} {cal : MD} (hf : calT own idx = some (kd, cal, k)) : cal.own ≠ 99 ∧ cal.own ≠ 98 := by
  unfold calT at hf
  obtain ⟨a, h1, h2⟩ := Option.map_eq_some_iff.mp hf
  have := ctb_own a (fnd_mem h1).1
  rw [h2] at this
  exact this
def CallAt (md : MD) (pc : Nat) (S : List Value) (cal : MD) (A rest : List Value) : Prop := ∃ kd idx k : Nat, CalOK (md.own, idx, kd, cal, k) ∧ (cal.own ≠ 99 ∧ cal.own ≠ 98) ∧ ((kd = 0 ∧ decode md.cod pc = .ok (.invokevirtual idx, 3)) ∨ (kd = 1 ∧ decode md.cod pc = .ok (.invokestatic idx, 3))) ∧ cal.frm + 1 ≤ md.frm ∧ 8 + (cal.mxl + 11) + cal.loc ≤ md.loc ∧ A.length = k + (1 - kd) ∧ A.length ≤ cal.mxl ∧ rest.length ≤ 8 ∧ A.all okV = true ∧ rest.all okV = true ∧ S = A.reverse ++ rest ∧ x_recv kd A cal.own = true
theorem xcall_inv {kd idx : Nat} {cal : MD} {A rest : List Value} (hdec : (kd = 0 ∧ decode md.cod pc = .ok (.invokevirtual idx, len)) ∨ (kd = 1 ∧ decode md.cod pc = .ok (.invokestatic idx, len))) (hd : x_call kd md idx len S = some (.inr (.inr (cal, A, rest)))) : CallAt md pc S cal A rest := by
  unfold x_call at hd
  split at hd
  · rename_i k cal' n hc
    split at hd
    · rename_i hl
      obtain ⟨rfl, rfl, h1, h2, h3, h4, h5, h6, h7⟩ := hl
      have e := Sum.inr.inj (Sum.inr.inj (Option.some.inj hd))
      obtain ⟨rfl, rfl, rfl⟩ : cal' = cal ∧ (S.take (n + (1 - k))).reverse = A ∧ S.drop (n + (1 - k)) = rest := by
        have e1 := congrArg Prod.fst e
        have e2 := congrArg Prod.snd e
        exact ⟨e1, congrArg Prod.fst e2, congrArg Prod.snd e2⟩
      have hall : S.take (n + (1 - k)) ++ S.drop (n + (1 - k)) = S := List.take_append_drop _ _
      have hal : (S.take (n + (1 - k))).all okV = true ∧ (S.drop (n + (1 - k))).all okV = true := by
        rw [← Bool.and_eq_true, ← List.all_append, hall]
        exact h6
      refine ⟨k, idx, n, calT_ok hc, calT_own hc, hdec, h1, h2, ?_, ?_, h5, ?_, hal.2, ?_, h7⟩
      · rw [List.length_reverse, List.length_take]; omega
      · rw [List.length_reverse, List.length_take]; omega
      · rw [List.all_reverse]; exact hal.1
      · rw [List.reverse_reverse]; exact hall.symm
    · cases hd
  · cases hd
theorem cal_inv {cal : MD} {A rest : List Value} (hd : dsc md pc L S h = some (.inr (.inr (cal, A, rest)))) : CallAt md pc S cal A rest := by
  unfold dsc at hd
  cases hdec : decode md.cod pc with
  | error er => rw [hdec] at hd; cases hd
  | ok z =>
    obtain ⟨i, len⟩ := z
    rw [hdec] at hd
    dsimp only at hd
    cases i
    case invokevirtual i => exact xcall_inv (Or.inl ⟨rfl, hdec⟩) hd
    case invokestatic i =>
      dsimp only [ins] at hd
      split at hd
      · dsimp only [x_math] at hd
        repeat' split at hd
        all_goals cases hd
      · exact xcall_inv (Or.inr ⟨rfl, hdec⟩) hd
    all_goals first
      | exact absurd (show (none : Dn) = some _ from hd) (fun z => by cases z)
      | (dsimp only [ins, x_push, x_ldI, x_ldA, x_st, x_iinc, x_bin, x_bin0, x_un, x_dup, x_pop, x_dup2, x_if, x_icmp, x_getf, x_putf, x_iald, x_iast, x_bald, x_alen, x_gets, x_ldc, x_goto, x_tsw, x_lsw, x_jump, x_ireturn, x_areturn, x_return] at hd
         repeat' split at hd
         all_goals cases hd)
theorem run_keep : ∀ (n : Nat) (md : MD) (pc : Nat) (L S : List Value) (h : Sto) (r : Option Value × Sto), run n md pc L S h = some r → ∀ a, 27 ≤ a → r.2 a = h a := by
  intro n
  induction n with
  | zero => intro md pc L S h r hr; cases hr
  | succ n ih =>
    intro md pc L S h r hr a ha
    have hr : stp (run n) md pc L S h = some r := hr
    unfold stp at hr
    cases hd : dsc md pc L S h with
    | none => rw [hd] at hr; cases hr
    | some d =>
      rw [hd] at hr
      rcases d with z | ⟨pc', L', S', h'⟩ | ⟨cal, A, rest⟩
      · cases hr
        rw [(ret_inv hd).2.2]
      · dsimp only at hr
        rw [ih _ _ _ _ _ _ hr a ha]
        exact dsc_keep hd ha
      · dsimp only at hr
        obtain ⟨y, h1, h2⟩ := Option.bind_eq_some_iff.mp hr
        rw [ih _ _ _ _ _ _ h2 a ha, ih _ _ _ _ _ _ h1 a ha]
end SNG

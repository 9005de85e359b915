section SNF
variable {l : Launch} {G : Gm} {md : MD} {p : Program} {e : Env} {s : State} {m : MethodId} {args : Array Value} {below : List Frame} {meth : Method} {c : Code} {R : Room} {cells slots : Nat} {Q : State → Prop} {pc len n : Nat} {L S : List Value} {h : Sto} {q : Nat × List Value × List Value × Sto}
theorem x_call_no {kd : Nat} {i : Nat} : ¬ x_call kd md i len S = some (.inr (.inl q)) := by
  intro hd
  unfold x_call at hd
  split at hd
  · split at hd
    · cases hd
    · cases hd
  · cases hd
theorem x_ret_no1 : ¬ x_ireturn md len S h = some (.inr (.inl q)) := by
  intro hd
  unfold x_ireturn at hd
  split at hd
  · split at hd <;> cases hd
  · cases hd
theorem x_ret_no2 : ¬ x_areturn md len S h = some (.inr (.inl q)) := by
  intro hd
  unfold x_areturn at hd
  split at hd
  · split at hd <;> cases hd
  · cases hd
theorem x_ret_no3 : ¬ x_return md len S h = some (.inr (.inl q)) := by
  intro hd
  unfold x_return at hd
  split at hd
  · split at hd <;> cases hd
  · cases hd
theorem so_istore {i : Nat} (h0 : G.v0 = .null ∨ ∃ t, G.v0 = .ref t) (hd : x_st true i n len pc L S h = some (.inr (.inl q)))
    (rowI : len = n → ∀ (H : Heap) (locs : List Loc) (ls : Array Slot) (rest : List Value) (x : Int32) (lv : List (Nat × Value)), lv_has ls md.mxl lv → i < md.mxl → (∀ ls' : Array Slot, lv_has ls' md.mxl ((i, .int x) :: lv.filter (fun q => !(q.1 == i) && !(q.1 + 1 == i && q.2.category == 2))) → W p l e R s m args below meth c H locs cells slots Q (F0 m (pc + n) ls' rest)) → W p l e R s m args below meth c H locs cells slots Q (F0 m pc ls (.int x :: rest)))
    (hk : WA l G md p e s m args below meth c R cells slots Q q.1 q.2.1 q.2.2.1 q.2.2.2) : WA l G md p e s m args below meth c R cells slots Q pc L S h := by
  refine so_st h0 hd (fun hl H locs ls rest v lv hv hls hi kk => ?_) hk
  cases v with
  | int x => exact rowI hl H locs ls rest x lv hls hi kk
  | _ => cases hv
theorem so_astore {i : Nat} (h0 : G.v0 = .null ∨ ∃ t, G.v0 = .ref t) (hd : x_st false i n len pc L S h = some (.inr (.inl q)))
    (rowA : len = n → ∀ (H : Heap) (locs : List Loc) (ls : Array Slot) (rest : List Value) (x : Nat) (lv : List (Nat × Value)), lv_has ls md.mxl lv → i < md.mxl → (∀ ls' : Array Slot, lv_has ls' md.mxl ((i, .ref x) :: lv.filter (fun q => !(q.1 == i) && !(q.1 + 1 == i && q.2.category == 2))) → W p l e R s m args below meth c H locs cells slots Q (F0 m (pc + n) ls' rest)) → W p l e R s m args below meth c H locs cells slots Q (F0 m pc ls (.ref x :: rest)))
    (rowN : len = n → ∀ (H : Heap) (locs : List Loc) (ls : Array Slot) (rest : List Value) (lv : List (Nat × Value)), lv_has ls md.mxl lv → i < md.mxl → (∀ ls' : Array Slot, lv_has ls' md.mxl ((i, .null) :: lv.filter (fun q => !(q.1 == i) && !(q.1 + 1 == i && q.2.category == 2))) → W p l e R s m args below meth c H locs cells slots Q (F0 m (pc + n) ls' rest)) → W p l e R s m args below meth c H locs cells slots Q (F0 m pc ls (.null :: rest)))
    (hk : WA l G md p e s m args below meth c R cells slots Q q.1 q.2.1 q.2.2.1 q.2.2.2) : WA l G md p e s m args below meth c R cells slots Q pc L S h := by
  refine so_st h0 hd (fun hl H locs ls rest v lv hv hls hi kk => ?_) hk
  cases v with
  | ref a =>
    show W p l e R s m args below meth c H locs cells slots Q (F0 m pc ls (cr G a :: rest))
    have kk2 : ∀ ls' : Array Slot, lv_has ls' md.mxl ((i, cr G a) :: lv.filter (fun q => !(q.1 == i) && !(q.1 + 1 == i && q.2.category == 2))) → W p l e R s m args below meth c H locs cells slots Q (F0 m (pc + n) ls' rest) := kk
    rcases cr_cases h0 a with ea | ⟨t, ea⟩
    · rw [ea] at kk2 ⊢; exact rowN hl H locs ls rest lv hls hi kk2
    · rw [ea] at kk2 ⊢; exact rowA hl H locs ls rest t lv hls hi kk2
  | _ => cases hv
/-- a step that stays in the method -/
theorem go_sound (C : Cx G md p s m args meth c R) (hcs : cells ≤ R.cells ∧ slots ≤ R.slots) (hd : dsc md pc L S h = some (.inr (.inl q))) (hk : WA l G md p e s m args below meth c R cells slots Q q.1 q.2.1 q.2.2.1 q.2.2.2) : WA l G md p e s m args below meth c R cells slots Q pc L S h := by
  unfold dsc at hd
  have hx := C.1
  have hb := C.2.1
  have h0 : G.v0 = .null ∨ ∃ t, G.v0 = .ref t := C.2.2.2.2.2.2.2.2.2.2.1.2.2.2.2.1
  cases hdec : decode md.cod pc with
  | error er => rw [hdec] at hd; cases hd
  | ok r =>
    obtain ⟨i, len⟩ := r
    rw [hdec] at hd
    dsimp only at hd
    cases i
    case iconst z => exact so_push hd (fun hl H locs ls rest k => lv_iconst hx hb (by subst hl; exact hdec) rfl k) hk
    case bipush z => exact so_push hd (fun hl H locs ls rest k => lv_bipush hx hb (by subst hl; exact hdec) rfl k) hk
    case sipush z => exact so_push hd (fun hl H locs ls rest k => lv_sipush hx hb (by subst hl; exact hdec) rfl k) hk
    case ldc i => exact so_ldc C (Or.inl ⟨rfl, hdec⟩) hd hk
    case ldc_w i => exact so_ldc C (Or.inr ⟨rfl, hdec⟩) hd hk
    case iload i => exact so_ldI hd (fun hl H locs ls rest x hxl k => lv_iload hx hb (by subst hl; exact hdec) hxl k) hk
    case iload_n i => exact so_ldI hd (fun hl H locs ls rest x hxl k => lv_iload_n hx hb (by subst hl; exact hdec) rfl hxl k) hk
    case aload i =>
      refine so_ldA hd (fun hl H locs ls rest a hxl k => ?_) hk
      rcases cr_cases h0 a with ea | ⟨t, ea⟩
      · rw [ea] at hxl k; exact lv_aloadN hx hb (by subst hl; exact hdec) hxl k
      · rw [ea] at hxl k; exact lv_aload hx hb (by subst hl; exact hdec) hxl k
    case aload_n i =>
      refine so_ldA hd (fun hl H locs ls rest a hxl k => ?_) hk
      rcases cr_cases h0 a with ea | ⟨t, ea⟩
      · rw [ea] at hxl k; exact lv_aload_nN hx hb (by subst hl; exact hdec) rfl hxl k
      · rw [ea] at hxl k; exact lv_aload_n hx hb (by subst hl; exact hdec) rfl hxl k
    case istore i => exact so_istore h0 hd (fun hl H locs ls rest x lv hls hi kk => lv_istore hx hb (by subst hl; exact hdec) hls hi rfl kk) hk
    case istore_n i => exact so_istore h0 hd (fun hl H locs ls rest x lv hls hi kk => lv_istore_n hx hb (by subst hl; exact hdec) rfl hls hi rfl kk) hk
    case astore i => exact so_astore h0 hd (fun hl H locs ls rest x lv hls hi kk => lv_astore hx hb (by subst hl; exact hdec) hls hi rfl kk) (fun hl H locs ls rest lv hls hi kk => lv_astoreN hx hb (by subst hl; exact hdec) hls hi rfl kk) hk
    case astore_n i => exact so_astore h0 hd (fun hl H locs ls rest x lv hls hi kk => lv_astore_n hx hb (by subst hl; exact hdec) rfl hls hi rfl kk) (fun hl H locs ls rest lv hls hi kk => lv_astore_nN hx hb (by subst hl; exact hdec) rfl hls hi rfl kk) hk
    case iinc i z => exact so_iinc h0 hd hx hb hdec hk
    case iadd => exact so_bin hd (fun hl H locs ls rest x y k => lv_iadd hx hb (by subst hl; exact hdec) k) hk
    case isub => exact so_bin hd (fun hl H locs ls rest x y k => lv_isub hx hb (by subst hl; exact hdec) k) hk
    case imul => exact so_bin hd (fun hl H locs ls rest x y k => lv_imul hx hb (by subst hl; exact hdec) k) hk
    case iand => exact so_bin hd (fun hl H locs ls rest x y k => lv_iand hx hb (by subst hl; exact hdec) k) hk
    case ior => exact so_bin hd (fun hl H locs ls rest x y k => lv_ior hx hb (by subst hl; exact hdec) k) hk
    case ixor => exact so_bin hd (fun hl H locs ls rest x y k => lv_ixor hx hb (by subst hl; exact hdec) k) hk
    case ishl => exact so_bin hd (fun hl H locs ls rest x y k => lv_ishl hx hb (by subst hl; exact hdec) k) hk
    case ishr => exact so_bin hd (fun hl H locs ls rest x y k => lv_ishr hx hb (by subst hl; exact hdec) k) hk
    case idiv => exact so_bin0 hd (fun hl H locs ls rest x y hy k => lv_idiv hx hb (by subst hl; exact hdec) hy k) hk
    case irem => exact so_bin0 hd (fun hl H locs ls rest x y hy k => lv_irem hx hb (by subst hl; exact hdec) hy k) hk
    case ineg => exact so_un hd (fun hl H locs ls rest x k => lv_ineg hx hb (by subst hl; exact hdec) k) hk
    case i2b => exact so_un hd (fun hl H locs ls rest x k => lv_i2b hx hb (by subst hl; exact hdec) rfl k) hk
    case i2c => exact so_un hd (fun hl H locs ls rest x k => lv_i2c hx hb (by subst hl; exact hdec) rfl k) hk
    case dup => exact so_dup h0 hx hb hdec hd hk
    case pop => exact so_pop h0 hx hb hdec hd hk
    case dup2 => exact so_dup2 h0 hx hb hdec hd hk
    case ifCond cc off => exact so_if hx hb hdec hd hk
    case if_icmp cc off => exact so_icmp hx hb hdec hd hk
    case goto off => exact so_goto hx hb hdec hd hk
    case tableswitch d lo hi offs => exact so_tsw hx hb hdec hd hk
    case lookupswitch d ps => exact so_lsw hx hb hdec hd hk
    case getfield i => exact so_getf C hdec hd hk
    case putfield i => exact so_putf C hdec hd hk
    case iaload => exact so_iald C hdec hd hk
    case baload => exact so_bald C hdec hd hk
    case iastore => exact so_iast C hdec hd hk
    case arraylength => exact so_alen C hdec hd hk
    case getstatic i => exact so_gets C hdec hd hk
    case invokevirtual i => exact absurd hd x_call_no
    case invokestatic i =>
      dsimp only [ins] at hd
      split at hd
      · rename_i w hw
        exact so_math C hcs hw hdec hd hk
      · exact absurd hd x_call_no
    case ireturn => exact absurd hd x_ret_no1
    case areturn => exact absurd hd x_ret_no2
    case return_ => exact absurd hd x_ret_no3
    all_goals exact absurd (show (none : Dn) = some _ from hd) (fun z => by cases z)
end SNF

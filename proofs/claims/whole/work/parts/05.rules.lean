/-! One rule an instruction, as equations of 'ev'. -/
section RULES
variable {md : MD} {pc : Nat} {L S : List Value} {h : Sto} {x y v : Int32}
theorem g_iconst {z : Int} (hd : decode md.cod pc = .ok (.iconst z, 1)) (hv : Int32.ofInt z = v) : ev md pc L S h = ev md (pc + 1) L (.int v :: S) h := by subst hv; exact ev_go (by rw [dsc_of hd]; rfl)
theorem g_bipush {z : Int} (hd : decode md.cod pc = .ok (.bipush z, 2)) (hv : (Int8.ofInt z).toInt32 = v) : ev md pc L S h = ev md (pc + 2) L (.int v :: S) h := by subst hv; exact ev_go (by rw [dsc_of hd]; rfl)
theorem g_sipush {z : Int} (hd : decode md.cod pc = .ok (.sipush z, 3)) (hv : (Int16.ofInt z).toInt32 = v) : ev md pc L S h = ev md (pc + 3) L (.int v :: S) h := by subst hv; exact ev_go (by rw [dsc_of hd]; rfl)
theorem g_ldcI {i : Nat} (hd : decode md.cod pc = .ok (.ldc i, 2)) (hv : ldT md.own i = some v) : ev md pc L S h = ev md (pc + 2) L (.int v :: S) h := ev_go (by rw [dsc_of hd]; dsimp only [ins, x_ldc]; rw [hv]; rfl)
theorem g_ldcwI {i : Nat} (hd : decode md.cod pc = .ok (.ldc_w i, 3)) (hv : ldT md.own i = some v) : ev md pc L S h = ev md (pc + 3) L (.int v :: S) h := ev_go (by rw [dsc_of hd]; dsimp only [ins, x_ldc]; rw [hv]; rfl)
theorem g_ldcS {i k : Nat} (hd : decode md.cod pc = .ok (.ldc i, 2)) (hv : ldT md.own i = none) (hs : stT md.own i = some k) : ev md pc L S h = ev md (pc + 2) L (.ref (100 + k) :: S) h := ev_go (by rw [dsc_of hd]; dsimp only [ins, x_ldc]; rw [hv]; dsimp only; rw [hs]; rfl)
theorem g_iload {i : Nat} (hd : decode md.cod pc = .ok (.iload i, 2)) (hl : L[i]? = some (.int x)) : ev md pc L S h = ev md (pc + 2) L (.int x :: S) h := ev_go (by rw [dsc_of hd]; dsimp only [ins, x_ldI]; rw [hl]; rfl)
theorem g_iload_n {i : Fin 4} (hd : decode md.cod pc = .ok (.iload_n i, 1)) (hl : L[i.val]? = some (.int x)) : ev md pc L S h = ev md (pc + 1) L (.int x :: S) h := ev_go (by rw [dsc_of hd]; dsimp only [ins, x_ldI]; rw [hl]; rfl)
theorem g_aload {i c : Nat} (hd : decode md.cod pc = .ok (.aload i, 2)) (hl : L[i]? = some (.ref c)) : ev md pc L S h = ev md (pc + 2) L (.ref c :: S) h := ev_go (by rw [dsc_of hd]; dsimp only [ins, x_ldA]; rw [hl]; rfl)
theorem g_aload_n {i : Fin 4} {c : Nat} (hd : decode md.cod pc = .ok (.aload_n i, 1)) (hl : L[i.val]? = some (.ref c)) : ev md pc L S h = ev md (pc + 1) L (.ref c :: S) h := ev_go (by rw [dsc_of hd]; dsimp only [ins, x_ldA]; rw [hl]; rfl)
theorem g_istore {i : Nat} {L' : List Value} (hd : decode md.cod pc = .ok (.istore i, 2)) (hi : i < L.length) (hl : L.set i (.int x) = L') : ev md pc L (.int x :: S) h = ev md (pc + 2) L' S h := by subst hl; exact ev_go (by rw [dsc_of hd]; dsimp only [ins, x_st]; rw [if_pos ⟨rfl, hi, rfl⟩])
theorem g_istore_n {i : Fin 4} {L' : List Value} (hd : decode md.cod pc = .ok (.istore_n i, 1)) (hi : i.val < L.length) (hl : L.set i.val (.int x) = L') : ev md pc L (.int x :: S) h = ev md (pc + 1) L' S h := by subst hl; exact ev_go (by rw [dsc_of hd]; dsimp only [ins, x_st]; rw [if_pos ⟨rfl, hi, rfl⟩])
theorem g_astore {i c : Nat} {L' : List Value} (hd : decode md.cod pc = .ok (.astore i, 2)) (hi : i < L.length) (hl : L.set i (.ref c) = L') : ev md pc L (.ref c :: S) h = ev md (pc + 2) L' S h := by subst hl; exact ev_go (by rw [dsc_of hd]; dsimp only [ins, x_st]; rw [if_pos ⟨rfl, hi, rfl⟩])
theorem g_astore_n {i : Fin 4} {c : Nat} {L' : List Value} (hd : decode md.cod pc = .ok (.astore_n i, 1)) (hi : i.val < L.length) (hl : L.set i.val (.ref c) = L') : ev md pc L (.ref c :: S) h = ev md (pc + 1) L' S h := by subst hl; exact ev_go (by rw [dsc_of hd]; dsimp only [ins, x_st]; rw [if_pos ⟨rfl, hi, rfl⟩])
theorem g_iinc {i : Nat} {z : Int} {L' : List Value} (hd : decode md.cod pc = .ok (.iinc i z, 3)) (hx : L[i]? = some (.int x)) (hv : Int32.ofInt z = v) (hl : L.set i (.int (x + v)) = L') : ev md pc L S h = ev md (pc + 3) L' S h := by subst hl; subst hv; exact ev_go (by rw [dsc_of hd]; dsimp only [ins, x_iinc]; rw [hx]; rfl)
theorem g_iadd (hd : decode md.cod pc = .ok (.iadd, 1)) : ev md pc L (.int y :: .int x :: S) h = ev md (pc + 1) L (.int (x + y) :: S) h := ev_go (by rw [dsc_of hd]; rfl)
theorem g_isub (hd : decode md.cod pc = .ok (.isub, 1)) : ev md pc L (.int y :: .int x :: S) h = ev md (pc + 1) L (.int (x - y) :: S) h := ev_go (by rw [dsc_of hd]; rfl)
theorem g_imul (hd : decode md.cod pc = .ok (.imul, 1)) : ev md pc L (.int y :: .int x :: S) h = ev md (pc + 1) L (.int (x * y) :: S) h := ev_go (by rw [dsc_of hd]; rfl)
theorem g_iand (hd : decode md.cod pc = .ok (.iand, 1)) : ev md pc L (.int y :: .int x :: S) h = ev md (pc + 1) L (.int (x &&& y) :: S) h := ev_go (by rw [dsc_of hd]; rfl)
theorem g_ior (hd : decode md.cod pc = .ok (.ior, 1)) : ev md pc L (.int y :: .int x :: S) h = ev md (pc + 1) L (.int (x ||| y) :: S) h := ev_go (by rw [dsc_of hd]; rfl)
theorem g_ixor (hd : decode md.cod pc = .ok (.ixor, 1)) : ev md pc L (.int y :: .int x :: S) h = ev md (pc + 1) L (.int (x ^^^ y) :: S) h := ev_go (by rw [dsc_of hd]; rfl)
theorem g_ishl (hd : decode md.cod pc = .ok (.ishl, 1)) : ev md pc L (.int y :: .int x :: S) h = ev md (pc + 1) L (.int (x <<< (y &&& 31)) :: S) h := ev_go (by rw [dsc_of hd]; rfl)
theorem g_ishr (hd : decode md.cod pc = .ok (.ishr, 1)) : ev md pc L (.int y :: .int x :: S) h = ev md (pc + 1) L (.int (x >>> (y &&& 31)) :: S) h := ev_go (by rw [dsc_of hd]; rfl)
theorem g_idiv (hd : decode md.cod pc = .ok (.idiv, 1)) : ev md pc L (.int y :: .int x :: S) h = if y = 0 then none else ev md (pc + 1) L (.int (x / y) :: S) h := by
  by_cases hy : y = 0
  · rw [if_pos hy]; exact ev_no (by rw [dsc_of hd]; dsimp only [ins, x_bin0]; rw [if_neg (fun q => q.2 hy)])
  · rw [if_neg hy]; exact ev_go (by rw [dsc_of hd]; dsimp only [ins, x_bin0]; rw [if_pos ⟨rfl, hy⟩])
theorem g_irem (hd : decode md.cod pc = .ok (.irem, 1)) : ev md pc L (.int y :: .int x :: S) h = if y = 0 then none else ev md (pc + 1) L (.int (x - x / y * y) :: S) h := by
  by_cases hy : y = 0
  · rw [if_pos hy]; exact ev_no (by rw [dsc_of hd]; dsimp only [ins, x_bin0]; rw [if_neg (fun q => q.2 hy)])
  · rw [if_neg hy]; exact ev_go (by rw [dsc_of hd]; dsimp only [ins, x_bin0]; rw [if_pos ⟨rfl, hy⟩])
theorem g_ineg (hd : decode md.cod pc = .ok (.ineg, 1)) : ev md pc L (.int x :: S) h = ev md (pc + 1) L (.int (-x) :: S) h := ev_go (by rw [dsc_of hd]; rfl)
theorem g_i2b (hd : decode md.cod pc = .ok (.i2b, 1)) : ev md pc L (.int x :: S) h = ev md (pc + 1) L (.int x.toInt8.toInt32 :: S) h := ev_go (by rw [dsc_of hd]; rfl)
theorem g_i2c (hd : decode md.cod pc = .ok (.i2c, 1)) : ev md pc L (.int x :: S) h = ev md (pc + 1) L (.int (x.toUInt32 % 65536).toInt32 :: S) h := ev_go (by rw [dsc_of hd]; rfl)
theorem g_dupI (hd : decode md.cod pc = .ok (.dup, 1)) : ev md pc L (.int x :: S) h = ev md (pc + 1) L (.int x :: .int x :: S) h := ev_go (by rw [dsc_of hd]; rfl)
theorem g_dupA {c : Nat} (hd : decode md.cod pc = .ok (.dup, 1)) : ev md pc L (.ref c :: S) h = ev md (pc + 1) L (.ref c :: .ref c :: S) h := ev_go (by rw [dsc_of hd]; rfl)
theorem g_popI (hd : decode md.cod pc = .ok (.pop, 1)) : ev md pc L (.int x :: S) h = ev md (pc + 1) L S h := ev_go (by rw [dsc_of hd]; rfl)
theorem g_dup2IA {c : Nat} (hd : decode md.cod pc = .ok (.dup2, 1)) : ev md pc L (.int x :: .ref c :: S) h = ev md (pc + 1) L (.int x :: .ref c :: .int x :: .ref c :: S) h := ev_go (by rw [dsc_of hd]; rfl)
theorem x_jump_of {off : Int} {tgt : Nat} (ht : (pc : Int) + off = (tgt : Int)) : x_jump pc off L S h = Gg tgt L S h := by
  unfold x_jump
  rw [ht, if_pos (Int.natCast_nonneg _)]
  rfl
theorem g_goto {off : Int} {tgt : Nat} (hd : decode md.cod pc = .ok (.goto off, 3)) (ht : (pc : Int) + off = (tgt : Int)) : ev md pc L S h = ev md tgt L S h := ev_go (by rw [dsc_of hd]; exact x_jump_of ht)
theorem g_if {c : ClassFile.Cond} {off : Int} {tgt : Nat} (hd : decode md.cod pc = .ok (.ifCond c off, 3)) (ht : (pc : Int) + off = (tgt : Int)) : ev md pc L (.int x :: S) h = if x_hold1 c x = true then ev md tgt L S h else ev md (pc + 3) L S h := by
  by_cases hc : x_hold1 c x = true
  · rw [if_pos hc]; exact ev_go (by rw [dsc_of hd]; dsimp only [ins, x_if]; rw [if_pos ⟨rfl, by rw [ht]; exact Int.natCast_nonneg _⟩, if_pos hc, ht]; rfl)
  · rw [if_neg hc]; exact ev_go (by rw [dsc_of hd]; dsimp only [ins, x_if]; rw [if_pos ⟨rfl, by rw [ht]; exact Int.natCast_nonneg _⟩, if_neg hc])
theorem g_icmp {c : ClassFile.Cond} {off : Int} {tgt : Nat} (hd : decode md.cod pc = .ok (.if_icmp c off, 3)) (ht : (pc : Int) + off = (tgt : Int)) : ev md pc L (.int y :: .int x :: S) h = if x_hold2 c x y = true then ev md tgt L S h else ev md (pc + 3) L S h := by
  by_cases hc : x_hold2 c x y = true
  · rw [if_pos hc]; exact ev_go (by rw [dsc_of hd]; dsimp only [ins, x_icmp]; rw [if_pos ⟨rfl, by rw [ht]; exact Int.natCast_nonneg _⟩, if_pos hc, ht]; rfl)
  · rw [if_neg hc]; exact ev_go (by rw [dsc_of hd]; dsimp only [ins, x_icmp]; rw [if_pos ⟨rfl, by rw [ht]; exact Int.natCast_nonneg _⟩, if_neg hc])
theorem ite_b {p : Prop} [Decidable p] {b : Bool} (hb : b = decide p) {A B : Rs} : (if b = true then A else B) = if p then A else B := by
  subst hb
  by_cases hp : p
  · rw [if_pos hp, if_pos (decide_eq_true hp)]
  · rw [if_neg hp, if_neg (fun q => hp (of_decide_eq_true q))]
theorem ite_nb {p : Prop} [Decidable p] {b : Bool} (hb : b = decide (¬ p)) {A B : Rs} : (if b = true then A else B) = if p then B else A := by
  subst hb
  by_cases hp : p
  · rw [if_pos hp, if_neg (fun q => (of_decide_eq_true q : ¬ p) hp)]
  · rw [if_neg hp, if_pos (decide_eq_true hp)]
variable {off : Int} {tgt : Nat}
theorem g_ifeq (hd : decode md.cod pc = .ok (.ifCond .eq off, 3)) (ht : (pc : Int) + off = (tgt : Int)) : ev md pc L (.int x :: S) h = if x = 0 then ev md tgt L S h else ev md (pc + 3) L S h := (g_if hd ht).trans (ite_b rfl)
theorem g_ifne (hd : decode md.cod pc = .ok (.ifCond .ne off, 3)) (ht : (pc : Int) + off = (tgt : Int)) : ev md pc L (.int x :: S) h = if x = 0 then ev md (pc + 3) L S h else ev md tgt L S h := (g_if hd ht).trans (ite_nb rfl)
theorem g_iflt (hd : decode md.cod pc = .ok (.ifCond .lt off, 3)) (ht : (pc : Int) + off = (tgt : Int)) : ev md pc L (.int x :: S) h = if x < 0 then ev md tgt L S h else ev md (pc + 3) L S h := (g_if hd ht).trans (ite_b rfl)
theorem g_ifge (hd : decode md.cod pc = .ok (.ifCond .ge off, 3)) (ht : (pc : Int) + off = (tgt : Int)) : ev md pc L (.int x :: S) h = if 0 ≤ x then ev md tgt L S h else ev md (pc + 3) L S h := (g_if hd ht).trans (ite_b rfl)
theorem g_ifgt (hd : decode md.cod pc = .ok (.ifCond .gt off, 3)) (ht : (pc : Int) + off = (tgt : Int)) : ev md pc L (.int x :: S) h = if 0 < x then ev md tgt L S h else ev md (pc + 3) L S h := (g_if hd ht).trans (ite_b rfl)
theorem g_ifle (hd : decode md.cod pc = .ok (.ifCond .le off, 3)) (ht : (pc : Int) + off = (tgt : Int)) : ev md pc L (.int x :: S) h = if x ≤ 0 then ev md tgt L S h else ev md (pc + 3) L S h := (g_if hd ht).trans (ite_b rfl)
theorem g_icmpeq (hd : decode md.cod pc = .ok (.if_icmp .eq off, 3)) (ht : (pc : Int) + off = (tgt : Int)) : ev md pc L (.int y :: .int x :: S) h = if x = y then ev md tgt L S h else ev md (pc + 3) L S h := (g_icmp hd ht).trans (ite_b rfl)
theorem g_icmpne (hd : decode md.cod pc = .ok (.if_icmp .ne off, 3)) (ht : (pc : Int) + off = (tgt : Int)) : ev md pc L (.int y :: .int x :: S) h = if x = y then ev md (pc + 3) L S h else ev md tgt L S h := (g_icmp hd ht).trans (ite_nb rfl)
theorem g_icmplt (hd : decode md.cod pc = .ok (.if_icmp .lt off, 3)) (ht : (pc : Int) + off = (tgt : Int)) : ev md pc L (.int y :: .int x :: S) h = if x < y then ev md tgt L S h else ev md (pc + 3) L S h := (g_icmp hd ht).trans (ite_b rfl)
theorem g_icmpge (hd : decode md.cod pc = .ok (.if_icmp .ge off, 3)) (ht : (pc : Int) + off = (tgt : Int)) : ev md pc L (.int y :: .int x :: S) h = if y ≤ x then ev md tgt L S h else ev md (pc + 3) L S h := (g_icmp hd ht).trans (ite_b rfl)
theorem g_icmpgt (hd : decode md.cod pc = .ok (.if_icmp .gt off, 3)) (ht : (pc : Int) + off = (tgt : Int)) : ev md pc L (.int y :: .int x :: S) h = if y < x then ev md tgt L S h else ev md (pc + 3) L S h := (g_icmp hd ht).trans (ite_b rfl)
theorem g_icmple (hd : decode md.cod pc = .ok (.if_icmp .le off, 3)) (ht : (pc : Int) + off = (tgt : Int)) : ev md pc L (.int y :: .int x :: S) h = if x ≤ y then ev md tgt L S h else ev md (pc + 3) L S h := (g_icmp hd ht).trans (ite_b rfl)
theorem g_tswIn {d lo hi : Int} {offs : Array Int} {len : Nat} (hd : decode md.cod pc = .ok (.tableswitch d lo hi offs, len)) (h1 : ¬ (x.toInt < lo ∨ hi < x.toInt)) (ho : offs[(x.toInt - lo).toNat]? = some off) (ht : (pc : Int) + off = (tgt : Int)) : ev md pc L (.int x :: S) h = ev md tgt L S h := ev_go (by rw [dsc_of hd]; dsimp only [ins, x_tsw]; rw [if_neg h1, ho]; exact x_jump_of ht)
theorem g_tswOut {d lo hi : Int} {offs : Array Int} {len : Nat} (hd : decode md.cod pc = .ok (.tableswitch d lo hi offs, len)) (h1 : x.toInt < lo ∨ hi < x.toInt) (ht : (pc : Int) + d = (tgt : Int)) : ev md pc L (.int x :: S) h = ev md tgt L S h := ev_go (by rw [dsc_of hd]; dsimp only [ins, x_tsw]; rw [if_pos h1]; exact x_jump_of ht)
theorem g_lsw {d : Int} {ps : Array (Int × Int)} {len : Nat} (hd : decode md.cod pc = .ok (.lookupswitch d ps, len)) (hp : (ps.toList.zip (ps.toList.drop 1)).all (fun (a, next) => a.1 < next.1) = true) (ho : Op.lookupswitch.offset ps.toList d x.toInt = off) (ht : (pc : Int) + off = (tgt : Int)) : ev md pc L (.int x :: S) h = ev md tgt L S h := ev_go (by rw [dsc_of hd]; dsimp only [ins, x_lsw]; rw [if_pos hp, ho]; exact x_jump_of ht)
theorem ly_lt {c ci : Nat} (hc : lyC c = ci) (hi : ci ≠ 99) : c < 27 := by
  unfold lyC at hc
  split at hc <;> first | omega | exact absurd hc.symm hi
theorem ly_hem {c : Nat} (hc : lyC c = 0) : c = 1 ∨ c = 4 ∨ c = 7 := by
  unfold lyC at hc
  split at hc <;> first | (cases hc; done) | simp
theorem g_getI {i ci j c : Nat} (hd : decode md.cod pc = .ok (.getfield i, 3)) (hf : fldT md.own i = some (ci, j)) (hi : ci ≠ 99) (hr : ∀ c, lyC c = ci → lyR c j = none) (hc : lyC c = ci) : ev md pc L (.ref c :: S) h = ev md (pc + 3) L (.int (h c j) :: S) h := ev_go (by rw [dsc_of hd]; dsimp only [ins, x_getf]; rw [if_pos (ly_lt hc hi), hf]; dsimp only; rw [if_pos ⟨rfl, hc⟩, hr c hc])
theorem g_getA {i ci j c t : Nat} (hd : decode md.cod pc = .ok (.getfield i, 3)) (hf : fldT md.own i = some (ci, j)) (hi : ci ≠ 99) (hc : lyC c = ci) (hr : lyR c j = some t) : ev md pc L (.ref c :: S) h = ev md (pc + 3) L (.ref t :: S) h := ev_go (by rw [dsc_of hd]; dsimp only [ins, x_getf]; rw [if_pos (ly_lt hc hi), hf]; dsimp only; rw [if_pos ⟨rfl, hc⟩, hr])
theorem g_getV {c : Nat} (hd : decode md.cod pc = .ok (.getfield 9, 3)) (ho : md.own = 10) (h1 : 100 ≤ c ∧ c < 107) : ev md pc L (.ref c :: S) h = ev md (pc + 3) L (.ref (c + 100) :: S) h := ev_go (by rw [dsc_of hd]; dsimp only [ins, x_getf]; rw [if_neg (show ¬ c < 27 by omega), if_pos ⟨rfl, h1.1, h1.2, ho⟩, if_pos rfl])
theorem g_getC {c : Nat} (hd : decode md.cod pc = .ok (.getfield 15, 3)) (ho : md.own = 10) (h1 : 100 ≤ c ∧ c < 107) : ev md pc L (.ref c :: S) h = ev md (pc + 3) L (.int 0 :: S) h := ev_go (by rw [dsc_of hd]; dsimp only [ins, x_getf]; rw [if_neg (show ¬ c < 27 by omega), if_pos ⟨rfl, h1.1, h1.2, ho⟩, if_neg (show ¬ 15 = 9 by omega), if_pos rfl])
theorem g_putI {i ci j c : Nat} (hd : decode md.cod pc = .ok (.putfield i, 3)) (hf : fldT md.own i = some (ci, j)) (hi : ci ≠ 99) (hp : pty ci j = 1) (hc : lyC c = ci) : ev md pc L (.int v :: .ref c :: S) h = ev md (pc + 3) L S (st h c j v) := ev_go (by rw [dsc_of hd]; dsimp only [ins, x_putf]; rw [hf]; dsimp only; rw [if_pos ⟨rfl, ly_lt hc hi, hc, Or.inl hp⟩])
theorem g_putZ {i ci j c : Nat} (hd : decode md.cod pc = .ok (.putfield i, 3)) (hf : fldT md.own i = some (ci, j)) (hi : ci ≠ 99) (hp : pty ci j = 2) (hc : lyC c = ci) : ev md pc L (.int v :: .ref c :: S) h = if v = 0 ∨ v = 1 then ev md (pc + 3) L S (st h c j v) else none := by
  by_cases hv : v = 0 ∨ v = 1
  · rw [if_pos hv]; exact ev_go (by rw [dsc_of hd]; dsimp only [ins, x_putf]; rw [hf]; dsimp only; rw [if_pos ⟨rfl, ly_lt hc hi, hc, Or.inr ⟨hp, hv⟩⟩])
  · rw [if_neg hv]; exact ev_no (by rw [dsc_of hd]; dsimp only [ins, x_putf]; rw [hf]; dsimp only; rw [if_neg (fun q => q.2.2.2.elim (fun z => by omega) (fun z => hv z.2))])
theorem ly_a {c n : Nat} (hc : lyA c = some n) : c < 27 := by
  unfold lyA at hc
  split at hc <;> first | omega | cases hc
theorem g_iald {c n : Nat} (hd : decode md.cod pc = .ok (.iaload, 1)) (hc : lyA c = some n) : ev md pc L (.int x :: .ref c :: S) h = if x < 0 ∨ n ≤ x.toNatClampNeg then none else ev md (pc + 1) L (.int (h c x.toNatClampNeg) :: S) h := by
  have h4 := ly_a hc
  by_cases hx : x < 0 ∨ n ≤ x.toNatClampNeg
  · rw [if_pos hx]; exact ev_no (by rw [dsc_of hd]; dsimp only [ins, x_iald]; rw [if_neg (show ¬ c = 400 by omega), hc]; dsimp only; rw [if_pos hx])
  · rw [if_neg hx]; exact ev_go (by rw [dsc_of hd]; dsimp only [ins, x_iald]; rw [if_neg (show ¬ c = 400 by omega), hc]; dsimp only; rw [if_neg hx, if_pos rfl])
theorem g_iaX (hd : decode md.cod pc = .ok (.iaload, 1)) : ev md pc L (.int x :: .ref 400 :: S) h = if x < 0 ∨ (h 401 0).toNatClampNeg ≤ x.toNatClampNeg then none else ev md (pc + 1) L (.int (h 400 x.toNatClampNeg) :: S) h := by
  by_cases hx : x < 0 ∨ (h 401 0).toNatClampNeg ≤ x.toNatClampNeg
  · rw [if_pos hx]; exact ev_no (by rw [dsc_of hd]; dsimp only [ins, x_iald]; rw [if_pos rfl, if_pos hx])
  · rw [if_neg hx]; exact ev_go (by rw [dsc_of hd]; dsimp only [ins, x_iald]; rw [if_pos rfl, if_neg hx, if_pos rfl])
theorem g_iast {c n : Nat} (hd : decode md.cod pc = .ok (.iastore, 1)) (hc : lyA c = some n) : ev md pc L (.int v :: .int x :: .ref c :: S) h = if x < 0 ∨ n ≤ x.toNatClampNeg then none else ev md (pc + 1) L S (st h c x.toNatClampNeg v) := by
  by_cases hx : x < 0 ∨ n ≤ x.toNatClampNeg
  · rw [if_pos hx]; exact ev_no (by rw [dsc_of hd]; dsimp only [ins, x_iast]; rw [hc]; dsimp only; rw [if_pos hx])
  · rw [if_neg hx]; exact ev_go (by rw [dsc_of hd]; dsimp only [ins, x_iast]; rw [hc]; dsimp only; rw [if_neg hx, if_pos rfl])
theorem g_bald {i : Nat} (hd : decode md.cod pc = .ok (.baload, 1)) (hi : i < 7) : ev md pc L (.int x :: .ref (200 + i) :: S) h = if x < 0 ∨ sLen.getD i 0 ≤ x.toNatClampNeg then none else ev md (pc + 1) L (.int ((sByt.getD i []).getD x.toNatClampNeg 0) :: S) h := by
  have e : 200 + i - 200 = i := by omega
  by_cases hx : x < 0 ∨ sLen.getD i 0 ≤ x.toNatClampNeg
  · rw [if_pos hx]; exact ev_no (by rw [dsc_of hd]; dsimp only [ins, x_bald]; rw [e, if_neg (fun q => q.2.2.2 hx)])
  · rw [if_neg hx]; exact ev_go (by rw [dsc_of hd]; dsimp only [ins, x_bald]; rw [e, if_pos (show 1 = 1 ∧ 200 ≤ 200 + i ∧ 200 + i < 207 ∧ ¬ (x < 0 ∨ sLen.getD i 0 ≤ x.toNatClampNeg) from ⟨rfl, by omega, by omega, hx⟩)])
theorem g_alen {c n : Nat} (hd : decode md.cod pc = .ok (.arraylength, 1)) (hc : lyA c = some n) (hv : Int32.ofNat n = v) : ev md pc L (.ref c :: S) h = ev md (pc + 1) L (.int v :: S) h := by
  subst hv
  have h4 := ly_a hc
  exact ev_go (by rw [dsc_of hd]; dsimp only [ins, x_alen]; rw [if_neg (show ¬ c = 400 by omega), if_neg (show ¬ (200 ≤ c ∧ c < 207) by omega), hc]; rfl)
theorem g_alenB {i : Nat} (hd : decode md.cod pc = .ok (.arraylength, 1)) (hi : i < 7) : ev md pc L (.ref (200 + i) :: S) h = ev md (pc + 1) L (.int (Int32.ofNat (sLen.getD i 0)) :: S) h := by
  have e : 200 + i - 200 = i := by omega
  exact ev_go (by rw [dsc_of hd]; dsimp only [ins, x_alen]; rw [e, if_neg (show ¬ 200 + i = 400 by omega), if_pos (show 200 ≤ 200 + i ∧ 200 + i < 207 by omega), if_pos rfl])
theorem g_alenX (hd : decode md.cod pc = .ok (.arraylength, 1)) : ev md pc L (.ref 400 :: S) h = ev md (pc + 1) L (.int (h 401 0) :: S) h := ev_go (by rw [dsc_of hd]; rfl)
theorem g_gets38 (hd : decode md.cod pc = .ok (.getstatic 38, 3)) (ho : md.own = 10) : ev md pc L S h = ev md (pc + 3) L (.int 1 :: S) h := ev_go (by rw [dsc_of hd]; dsimp only [ins, x_gets]; rw [if_pos ⟨rfl, ho⟩, if_pos rfl])
theorem g_gets1053 (hd : decode md.cod pc = .ok (.getstatic 1053, 3)) (ho : md.own = 10) : ev md pc L S h = ev md (pc + 3) L (.ref 300 :: S) h := ev_go (by rw [dsc_of hd]; dsimp only [ins, x_gets]; rw [if_pos ⟨rfl, ho⟩, if_neg (show ¬ 1053 = 38 by omega), if_pos rfl])
theorem g_max {i : Nat} (hd : decode md.cod pc = .ok (.invokestatic i, 3)) (hm : mthT md.own i = some 0) (hr : 1 ≤ md.frm ∧ 21 ≤ md.loc) (hS : S.length ≤ 8 ∧ S.all okV = true) : ev md pc L (.int y :: .int x :: S) h = ev md (pc + 3) L (.int (if x < y then y else x) :: S) h := ev_go (by rw [dsc_of hd]; dsimp only [ins]; rw [hm]; exact if_pos (show 3 = 3 ∧ 1 ≤ md.frm ∧ 21 ≤ md.loc ∧ S.length ≤ 8 ∧ S.all okV = true from ⟨rfl, hr.1, hr.2, hS.1, hS.2⟩))
theorem g_min {i : Nat} (hd : decode md.cod pc = .ok (.invokestatic i, 3)) (hm : mthT md.own i = some 1) (hr : 1 ≤ md.frm ∧ 21 ≤ md.loc) (hS : S.length ≤ 8 ∧ S.all okV = true) : ev md pc L (.int y :: .int x :: S) h = ev md (pc + 3) L (.int (if y < x then y else x) :: S) h := ev_go (by rw [dsc_of hd]; dsimp only [ins]; rw [hm]; exact if_pos (show 3 = 3 ∧ 1 ≤ md.frm ∧ 21 ≤ md.loc ∧ S.length ≤ 8 ∧ S.all okV = true from ⟨rfl, hr.1, hr.2, hS.1, hS.2⟩))
theorem g_abs {i : Nat} (hd : decode md.cod pc = .ok (.invokestatic i, 3)) (hm : mthT md.own i = some 2) (hr : 1 ≤ md.frm ∧ 21 ≤ md.loc) (hS : S.length ≤ 8 ∧ S.all okV = true) : ev md pc L (.int x :: S) h = ev md (pc + 3) L (.int (if 0 ≤ x then x else 0 - x) :: S) h := ev_go (by rw [dsc_of hd]; dsimp only [ins]; rw [hm]; exact if_pos (show 3 = 3 ∧ 1 ≤ md.frm ∧ 21 ≤ md.loc ∧ S.length ≤ 8 ∧ S.all okV = true from ⟨rfl, hr.1, hr.2, hS.1, hS.2⟩))
theorem g_calV {i n : Nat} {cal : MD} {A rest L0 : List Value} (hd : decode md.cod pc = .ok (.invokevirtual i, 3)) (hc : calT md.own i = some (0, cal, n)) (hr : cal.frm + 1 ≤ md.frm ∧ 8 + (cal.mxl + 11) + cal.loc ≤ md.loc ∧ n + 1 ≤ cal.mxl) (hs : n + 1 ≤ S.length ∧ (S.drop (n + 1)).length ≤ 8 ∧ S.all okV = true) (hA : (S.take (n + 1)).reverse = A) (hR : S.drop (n + 1) = rest) (hv : x_recv 0 A cal.own = true) (hL : A ++ List.replicate (cal.mxl - A.length) .null = L0) : ev md pc L S h = (ev cal 0 L0 [] h).bind (fun q => ev md (pc + 3) L (q.1.toList ++ rest) q.2) := by
  subst hL
  refine ev_cal ?_
  rw [dsc_of hd]
  dsimp only [ins, x_call]
  rw [hc]
  dsimp only
  rw [if_pos ⟨rfl, rfl, hr.1, hr.2.1, hs.1, hr.2.2, hs.2.1, hs.2.2, by rw [hA]; exact hv⟩, hA, hR]
theorem g_calS {i n : Nat} {cal : MD} {A rest L0 : List Value} (hd : decode md.cod pc = .ok (.invokestatic i, 3)) (hm : mthT md.own i = none) (hc : calT md.own i = some (1, cal, n)) (hr : cal.frm + 1 ≤ md.frm ∧ 8 + (cal.mxl + 11) + cal.loc ≤ md.loc ∧ n ≤ cal.mxl) (hs : n ≤ S.length ∧ (S.drop n).length ≤ 8 ∧ S.all okV = true) (hA : (S.take n).reverse = A) (hR : S.drop n = rest) (hL : A ++ List.replicate (cal.mxl - A.length) .null = L0) : ev md pc L S h = (ev cal 0 L0 [] h).bind (fun q => ev md (pc + 3) L (q.1.toList ++ rest) q.2) := by
  subst hL
  refine ev_cal ?_
  rw [dsc_of hd]
  dsimp only [ins]
  rw [hm]
  dsimp only [x_call]
  rw [hc]
  dsimp only
  rw [if_pos ⟨rfl, rfl, hr.1, hr.2.1, hs.1, hr.2.2, hs.2.1, hs.2.2, rfl⟩]
  show some (Sum.inr (Sum.inr (cal, (S.take n).reverse, S.drop n))) = _
  rw [hA, hR]
theorem g_iretI (hd : decode md.cod pc = .ok (.ireturn, 1)) (hr : md.ret = some .int) : ev md pc L [.int v] h = some (some (.int v), h) := ev_ret (by rw [dsc_of hd]; dsimp only [ins, x_ireturn]; rw [if_pos ⟨rfl, Or.inl hr⟩])
theorem g_iretZ (hd : decode md.cod pc = .ok (.ireturn, 1)) (hr : md.ret = some .boolean) : ev md pc L [.int v] h = if v = 0 ∨ v = 1 then some (some (.int v), h) else none := by
  by_cases hv : v = 0 ∨ v = 1
  · rw [if_pos hv]; exact ev_ret (by rw [dsc_of hd]; dsimp only [ins, x_ireturn]; rw [if_pos ⟨rfl, Or.inr (Or.inl ⟨hr, hv⟩)⟩])
  · rw [if_neg hv]; exact ev_no (by rw [dsc_of hd]; dsimp only [ins, x_ireturn]; rw [if_neg]; rintro ⟨-, q | q | q | q⟩ <;> first | exact hv q.2 | (rw [hr] at q; cases q; done) | (have q1 := q.1; rw [hr] at q1; cases q1; done))
theorem g_iretC (hd : decode md.cod pc = .ok (.ireturn, 1)) (hr : md.ret = some .char) (hv : narrow .char (.int v) = .int v) : ev md pc L [.int v] h = some (some (.int v), h) := ev_ret (by rw [dsc_of hd]; dsimp only [ins, x_ireturn]; rw [if_pos ⟨rfl, Or.inr (Or.inr (Or.inl ⟨hr, hv⟩))⟩])
theorem g_iretB (hd : decode md.cod pc = .ok (.ireturn, 1)) (hr : md.ret = some .byte) (hv : narrow .byte (.int v) = .int v) : ev md pc L [.int v] h = some (some (.int v), h) := ev_ret (by rw [dsc_of hd]; dsimp only [ins, x_ireturn]; rw [if_pos ⟨rfl, Or.inr (Or.inr (Or.inr ⟨hr, hv⟩))⟩])
theorem g_aret {c : Nat} (hd : decode md.cod pc = .ok (.areturn, 1)) (hr : md.ret = some (.object "java/lang/String")) (hc : 100 ≤ c ∧ c < 107) : ev md pc L [.ref c] h = some (some (.ref c), h) := ev_ret (by rw [dsc_of hd]; dsimp only [ins, x_areturn]; rw [if_pos ⟨rfl, hr, hc.1, hc.2⟩])
theorem g_vret (hd : decode md.cod pc = .ok (.return_, 1)) (hr : md.ret = none) : ev md pc L [] h = some (none, h) := ev_ret (by rw [dsc_of hd]; dsimp only [ins, x_return]; rw [if_pos ⟨rfl, hr⟩])
end RULES

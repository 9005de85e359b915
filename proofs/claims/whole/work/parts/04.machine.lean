/-! A SMALL MACHINE of my own: the store is 'cell, slot -> int' (references never change once the objects are made: the layout is fixed), one instruction is 'dsc', a run is 'ev'. -/
abbrev Sto : Type := Nat → Nat → Int32
abbrev Rs : Type := Option (Option Value × Sto)
abbrev Dn : Type := Option ((Option Value × Sto) ⊕ ((Nat × List Value × List Value × Sto) ⊕ (MD × List Value × List Value)))
def st (h : Sto) (c j : Nat) (v : Int32) : Sto := fun a b => if a = c ∧ b = j then v else h a b
/-- the class of an object's cell -/
def lyC : Nat → Nat
  | 0 => 5
  | 1 => 0
  | 4 => 0
  | 7 => 0
  | 10 => 4
  | 11 => 2
  | 12 => 1
  | 14 => 3
  | 17 => 6
  | _ => 99
/-- an array's length -/
def lyA : Nat → Option Nat
  | 2 => some 12
  | 3 => some 12
  | 5 => some 12
  | 6 => some 12
  | 8 => some 12
  | 9 => some 12
  | 13 => some 96
  | 15 => some 12
  | 16 => some 7
  | 18 => some 32
  | 19 => some 32
  | 20 => some 32
  | 21 => some 32
  | 22 => some 96
  | 23 => some 12
  | 24 => some 7
  | 25 => some 12
  | 26 => some 3
  | _ => none
/-- what a slot that is a reference refers to -/
def lyR : Nat → Nat → Option Nat
  | 0, 0 => some 1
  | 0, 1 => some 4
  | 0, 2 => some 7
  | 0, 4 => some 10
  | 0, 5 => some 11
  | 0, 6 => some 12
  | 0, 7 => some 14
  | 0, 8 => some 16
  | 1, 0 => some 2
  | 1, 1 => some 3
  | 4, 0 => some 5
  | 4, 1 => some 6
  | 7, 0 => some 8
  | 7, 1 => some 9
  | 12, 0 => some 13
  | 14, 0 => some 15
  | 17, 0 => some 18
  | 17, 1 => some 19
  | 17, 2 => some 20
  | 17, 3 => some 21
  | 17, 5 => some 22
  | 17, 6 => some 23
  | 17, 7 => some 24
  | 17, 10 => some 25
  | 17, 13 => some 26
  | _, _ => none
/-- slots that may be written: 1 an int, 2 a boolean -/
def pty : Nat → Nat → Nat
  | 0, 0 => 0
  | 0, 1 => 0
  | 0, 5 => 2
  | 0, 6 => 2
  | 0, 7 => 2
  | 0, _ => 1
  | 1, 1 => 1
  | 2, _ => 1
  | 3, 1 => 1
  | 4, _ => 1
  | 5, 3 => 2
  | 6, 4 => 2
  | 6, 8 => 1
  | 6, 9 => 1
  | 6, 11 => 1
  | 6, 12 => 1
  | 6, 14 => 1
  | 6, 15 => 1
  | _, _ => 0
def rcv (c : Nat) : Nat := if c < 27 then lyC c else if 100 ≤ c ∧ c < 107 then 10 else 98
def okV : Value → Bool
  | .int _ => true
  | .ref _ => true
  | _ => false
def fldT (own idx : Nat) : Option (Nat × Nat) := (FTB.find? (fun q => q.1 == own && q.2.1 == idx)).map (fun q => q.2.2)
def ldT (own idx : Nat) : Option Int32 := (LTB.find? (fun q => q.1 == own && q.2.1 == idx)).map (fun q => q.2.2)
def stT (own idx : Nat) : Option Nat := STB.findIdx? (fun q => q.1 == own && q.2.1 == idx)
def calT (own idx : Nat) : Option (Nat × MD × Nat) := (CTB.find? (fun q => q.1 == own && q.2.1 == idx)).map (fun q => q.2.2)
def mthT (own idx : Nat) : Option Nat := (MTB.find? (fun q => q.1 == own && q.2.1 == idx)).map (fun q => q.2.2)
abbrev MD.own (md : MD) : Nat := md.1
abbrev MD.nam (md : MD) : MethodName := md.2.1
abbrev MD.cod (md : MD) : ByteArray := md.2.2.1
abbrev MD.mxl (md : MD) : Nat := md.2.2.2.1
abbrev MD.ret (md : MD) : Option FieldType := md.2.2.2.2.1
abbrev MD.frm (md : MD) : Nat := md.2.2.2.2.2.1
abbrev MD.loc (md : MD) : Nat := md.2.2.2.2.2.2
abbrev Gg (pc : Nat) (L S : List Value) (h : Sto) : Dn := some (.inr (.inl (pc, L, S, h)))
def x_push (v : Value) (n len pc : Nat) (L S : List Value) (h : Sto) : Dn := if len = n then Gg (pc + n) L (v :: S) h else none
def x_ldI (i n len pc : Nat) (L S : List Value) (h : Sto) : Dn := match L[i]? with
  | some (.int x) => if len = n then Gg (pc + n) L (.int x :: S) h else none
  | _ => none
def x_ldA (i n len pc : Nat) (L S : List Value) (h : Sto) : Dn := match L[i]? with
  | some (.ref x) => if len = n then Gg (pc + n) L (.ref x :: S) h else none
  | _ => none
def okK (k : Bool) (v : Value) : Bool := match k, v with
  | true, .int _ => true
  | false, .ref _ => true
  | _, _ => false
def x_st (k : Bool) (i n len pc : Nat) (L S : List Value) (h : Sto) : Dn := match S with
  | v :: S' => if len = n ∧ i < L.length ∧ okK k v = true then Gg (pc + n) (L.set i v) S' h else none
  | _ => none
def x_iinc (i : Nat) (z : Int) (len pc : Nat) (L S : List Value) (h : Sto) : Dn := match L[i]? with
  | some (.int x) => if len = 3 then Gg (pc + 3) (L.set i (.int (x + Int32.ofInt z))) S h else none
  | _ => none
def x_bin (f : Int32 → Int32 → Int32) (len pc : Nat) (L S : List Value) (h : Sto) : Dn := match S with
  | .int y :: .int x :: S' => if len = 1 then Gg (pc + 1) L (.int (f x y) :: S') h else none
  | _ => none
def x_bin0 (f : Int32 → Int32 → Int32) (len pc : Nat) (L S : List Value) (h : Sto) : Dn := match S with
  | .int y :: .int x :: S' => if len = 1 ∧ ¬ y = 0 then Gg (pc + 1) L (.int (f x y) :: S') h else none
  | _ => none
def x_un (f : Int32 → Int32) (len pc : Nat) (L S : List Value) (h : Sto) : Dn := match S with
  | .int x :: S' => if len = 1 then Gg (pc + 1) L (.int (f x) :: S') h else none
  | _ => none
def x_dup (len pc : Nat) (L S : List Value) (h : Sto) : Dn := match S with
  | v :: S' => if len = 1 ∧ okV v = true then Gg (pc + 1) L (v :: v :: S') h else none
  | _ => none
def x_pop (len pc : Nat) (L S : List Value) (h : Sto) : Dn := match S with
  | v :: S' => if len = 1 ∧ okV v = true then Gg (pc + 1) L S' h else none
  | _ => none
def x_dup2 (len pc : Nat) (L S : List Value) (h : Sto) : Dn := match S with
  | v :: w :: S' => if len = 1 ∧ okV v = true ∧ okV w = true then Gg (pc + 1) L (v :: w :: v :: w :: S') h else none
  | _ => none
def x_jump (pc : Nat) (off : Int) (L S : List Value) (h : Sto) : Dn := if 0 ≤ (pc : Int) + off then Gg ((pc : Int) + off).toNat L S h else none
def x_hold1 (c : ClassFile.Cond) (x : Int32) : Bool := match c with
  | .eq => decide (x = 0)
  | .ne => decide (¬ x = 0)
  | .lt => decide (x < 0)
  | .ge => decide (0 ≤ x)
  | .gt => decide (0 < x)
  | .le => decide (x ≤ 0)
def x_hold2 (c : ClassFile.Cond) (x y : Int32) : Bool := match c with
  | .eq => decide (x = y)
  | .ne => decide (¬ x = y)
  | .lt => decide (x < y)
  | .ge => decide (y ≤ x)
  | .gt => decide (y < x)
  | .le => decide (x ≤ y)
def x_if (c : ClassFile.Cond) (off : Int) (len pc : Nat) (L S : List Value) (h : Sto) : Dn := match S with
  | .int x :: S' => if len = 3 ∧ 0 ≤ (pc : Int) + off then Gg (if x_hold1 c x = true then ((pc : Int) + off).toNat else pc + 3) L S' h else none
  | _ => none
def x_icmp (c : ClassFile.Cond) (off : Int) (len pc : Nat) (L S : List Value) (h : Sto) : Dn := match S with
  | .int y :: .int x :: S' => if len = 3 ∧ 0 ≤ (pc : Int) + off then Gg (if x_hold2 c x y = true then ((pc : Int) + off).toNat else pc + 3) L S' h else none
  | _ => none
def x_goto (off : Int) (len pc : Nat) (L S : List Value) (h : Sto) : Dn := if len = 3 then x_jump pc off L S h else none
def x_tsw (d lo hi : Int) (offs : Array Int) (pc : Nat) (L S : List Value) (h : Sto) : Dn := match S with
  | .int x :: S' => if x.toInt < lo ∨ hi < x.toInt then x_jump pc d L S' h else (match offs[(x.toInt - lo).toNat]? with
      | some o => x_jump pc o L S' h
      | none => none)
  | _ => none
def x_lsw (d : Int) (ps : Array (Int × Int)) (pc : Nat) (L S : List Value) (h : Sto) : Dn := match S with
  | .int x :: S' => if (ps.toList.zip (ps.toList.drop 1)).all (fun (a, next) => a.1 < next.1) = true then x_jump pc (Op.lookupswitch.offset ps.toList d x.toInt) L S' h else none
  | _ => none
def x_getf (own idx len pc : Nat) (L S : List Value) (h : Sto) : Dn := match S with
  | .ref c :: S' => if c < 27 then (match fldT own idx with
      | some (ci, j) => if len = 3 ∧ lyC c = ci then (match lyR c j with
          | some t => Gg (pc + 3) L (.ref t :: S') h
          | none => Gg (pc + 3) L (.int (h c j) :: S') h) else none
      | none => none)
    else if len = 3 ∧ 100 ≤ c ∧ c < 107 ∧ own = 10 then (if idx = 9 then Gg (pc + 3) L (.ref (c + 100) :: S') h else if idx = 15 then Gg (pc + 3) L (.int 0 :: S') h else none) else none
  | _ => none
def x_putf (own idx len pc : Nat) (L S : List Value) (h : Sto) : Dn := match S with
  | .int v :: .ref c :: S' => (match fldT own idx with
      | some (ci, j) => if len = 3 ∧ c < 27 ∧ lyC c = ci ∧ (pty ci j = 1 ∨ (pty ci j = 2 ∧ (v = 0 ∨ v = 1))) then Gg (pc + 3) L S' (st h c j v) else none
      | none => none)
  | _ => none
def x_iald (len pc : Nat) (L S : List Value) (h : Sto) : Dn := match S with
  | .int i :: .ref c :: S' => if c = 400 then (if i < 0 ∨ (h 401 0).toNatClampNeg ≤ i.toNatClampNeg then none else if len = 1 then Gg (pc + 1) L (.int (h 400 i.toNatClampNeg) :: S') h else none)
    else (match lyA c with
      | some n => if i < 0 ∨ n ≤ i.toNatClampNeg then none else if len = 1 then Gg (pc + 1) L (.int (h c i.toNatClampNeg) :: S') h else none
      | none => none)
  | _ => none
def x_bald (len pc : Nat) (L S : List Value) (h : Sto) : Dn := match S with
  | .int i :: .ref c :: S' => if len = 1 ∧ 200 ≤ c ∧ c < 207 ∧ ¬ (i < 0 ∨ sLen.getD (c - 200) 0 ≤ i.toNatClampNeg) then Gg (pc + 1) L (.int ((sByt.getD (c - 200) []).getD i.toNatClampNeg 0) :: S') h else none
  | _ => none
def x_iast (len pc : Nat) (L S : List Value) (h : Sto) : Dn := match S with
  | .int v :: .int i :: .ref c :: S' => (match lyA c with
      | some n => if i < 0 ∨ n ≤ i.toNatClampNeg then none else if len = 1 then Gg (pc + 1) L S' (st h c i.toNatClampNeg v) else none
      | none => none)
  | _ => none
def x_alen (len pc : Nat) (L S : List Value) (h : Sto) : Dn := match S with
  | .ref c :: S' => if c = 400 then (if len = 1 then Gg (pc + 1) L (.int (h 401 0) :: S') h else none)
    else if 200 ≤ c ∧ c < 207 then (if len = 1 then Gg (pc + 1) L (.int (Int32.ofNat (sLen.getD (c - 200) 0)) :: S') h else none)
    else (match lyA c with
      | some n => if len = 1 then Gg (pc + 1) L (.int (Int32.ofNat n) :: S') h else none
      | none => none)
  | _ => none
def x_gets (own idx len pc : Nat) (L S : List Value) (h : Sto) : Dn := if len = 3 ∧ own = 10 then (if idx = 38 then Gg (pc + 3) L (.int 1 :: S) h else if idx = 1053 then Gg (pc + 3) L (.ref 300 :: S) h else none) else none
def x_ldc (own idx n len pc : Nat) (L S : List Value) (h : Sto) : Dn := match ldT own idx with
  | some v => if len = n then Gg (pc + n) L (.int v :: S) h else none
  | none => (match stT own idx with
      | some i => if len = n ∧ n = 2 then Gg (pc + 2) L (.ref (100 + i) :: S) h else none
      | none => none)
def x_recv (kd : Nat) (A : List Value) (cl : Nat) : Bool := if kd = 0 then (match A with
    | .ref c :: _ => rcv c == cl
    | _ => false) else true
def x_math (w : Nat) (md : MD) (len pc : Nat) (L S : List Value) (h : Sto) : Dn := match w with
  | 0 => (match S with
      | .int y :: .int x :: S' => if len = 3 ∧ 1 ≤ md.frm ∧ 21 ≤ md.loc ∧ S'.length ≤ 8 ∧ S'.all okV = true then Gg (pc + 3) L (.int (if x < y then y else x) :: S') h else none
      | _ => none)
  | 1 => (match S with
      | .int y :: .int x :: S' => if len = 3 ∧ 1 ≤ md.frm ∧ 21 ≤ md.loc ∧ S'.length ≤ 8 ∧ S'.all okV = true then Gg (pc + 3) L (.int (if y < x then y else x) :: S') h else none
      | _ => none)
  | _ => (match S with
      | .int x :: S' => if len = 3 ∧ 1 ≤ md.frm ∧ 21 ≤ md.loc ∧ S'.length ≤ 8 ∧ S'.all okV = true then Gg (pc + 3) L (.int (if 0 ≤ x then x else 0 - x) :: S') h else none
      | _ => none)
def x_call (kd : Nat) (md : MD) (idx len : Nat) (S : List Value) : Dn := match calT md.own idx with
  | some (k, cal, n) => if len = 3 ∧ k = kd ∧ cal.frm + 1 ≤ md.frm ∧ 8 + (cal.mxl + 11) + cal.loc ≤ md.loc ∧ n + (1 - kd) ≤ S.length ∧ n + (1 - kd) ≤ cal.mxl ∧ (S.drop (n + (1 - kd))).length ≤ 8 ∧ S.all okV = true ∧ x_recv kd (S.take (n + (1 - kd))).reverse cal.own = true then
      some (.inr (.inr (cal, (S.take (n + (1 - kd))).reverse, S.drop (n + (1 - kd))))) else none
  | none => none
def x_ireturn (md : MD) (len : Nat) (S : List Value) (h : Sto) : Dn := match S with
  | [.int v] => if len = 1 ∧ (md.ret = some .int ∨ (md.ret = some .boolean ∧ (v = 0 ∨ v = 1)) ∨ (md.ret = some .char ∧ narrow .char (.int v) = .int v) ∨ (md.ret = some .byte ∧ narrow .byte (.int v) = .int v)) then some (.inl (some (.int v), h)) else none
  | _ => none
def x_areturn (md : MD) (len : Nat) (S : List Value) (h : Sto) : Dn := match S with
  | [.ref c] => if len = 1 ∧ md.ret = some (.object "java/lang/String") ∧ 100 ≤ c ∧ c < 107 then some (.inl (some (.ref c), h)) else none
  | _ => none
def x_return (md : MD) (len : Nat) (S : List Value) (h : Sto) : Dn := match S with
  | [] => if len = 1 ∧ md.ret = none then some (.inl (none, h)) else none
  | _ => none
def ins (md : MD) (len pc : Nat) (L S : List Value) (h : Sto) : Instr → Dn
  | .iconst z => x_push (.int (Int32.ofInt z)) 1 len pc L S h
  | .bipush z => x_push (.int (Int8.ofInt z).toInt32) 2 len pc L S h
  | .sipush z => x_push (.int (Int16.ofInt z).toInt32) 3 len pc L S h
  | .ldc i => x_ldc md.own i 2 len pc L S h
  | .ldc_w i => x_ldc md.own i 3 len pc L S h
  | .iload i => x_ldI i 2 len pc L S h
  | .iload_n i => x_ldI i.val 1 len pc L S h
  | .aload i => x_ldA i 2 len pc L S h
  | .aload_n i => x_ldA i.val 1 len pc L S h
  | .istore i => x_st true i 2 len pc L S h
  | .istore_n i => x_st true i.val 1 len pc L S h
  | .astore i => x_st false i 2 len pc L S h
  | .astore_n i => x_st false i.val 1 len pc L S h
  | .iinc i z => x_iinc i z len pc L S h
  | .iadd => x_bin (fun x y => x + y) len pc L S h
  | .isub => x_bin (fun x y => x - y) len pc L S h
  | .imul => x_bin (fun x y => x * y) len pc L S h
  | .iand => x_bin (fun x y => x &&& y) len pc L S h
  | .ior => x_bin (fun x y => x ||| y) len pc L S h
  | .ixor => x_bin (fun x y => x ^^^ y) len pc L S h
  | .ishl => x_bin (fun x y => x <<< (y &&& 31)) len pc L S h
  | .ishr => x_bin (fun x y => x >>> (y &&& 31)) len pc L S h
  | .idiv => x_bin0 (fun x y => x / y) len pc L S h
  | .irem => x_bin0 (fun x y => x - x / y * y) len pc L S h
  | .ineg => x_un (fun x => -x) len pc L S h
  | .i2b => x_un (fun x => x.toInt8.toInt32) len pc L S h
  | .i2c => x_un (fun x => (x.toUInt32 % 65536).toInt32) len pc L S h
  | .dup => x_dup len pc L S h
  | .pop => x_pop len pc L S h
  | .dup2 => x_dup2 len pc L S h
  | .ifCond c off => x_if c off len pc L S h
  | .if_icmp c off => x_icmp c off len pc L S h
  | .goto off => x_goto off len pc L S h
  | .tableswitch d lo hi offs => x_tsw d lo hi offs pc L S h
  | .lookupswitch d ps => x_lsw d ps pc L S h
  | .getfield i => x_getf md.own i len pc L S h
  | .putfield i => x_putf md.own i len pc L S h
  | .iaload => x_iald len pc L S h
  | .baload => x_bald len pc L S h
  | .iastore => x_iast len pc L S h
  | .arraylength => x_alen len pc L S h
  | .getstatic i => x_gets md.own i len pc L S h
  | .invokevirtual i => x_call 0 md i len S
  | .invokestatic i => (match mthT md.own i with
      | some w => x_math w md len pc L S h
      | none => x_call 1 md i len S)
  | .ireturn => x_ireturn md len S h
  | .areturn => x_areturn md len S h
  | .return_ => x_return md len S h
  | _ => none
def dsc (md : MD) (pc : Nat) (L S : List Value) (h : Sto) : Dn := match decode md.cod pc with
  | .ok (i, len) => ins md len pc L S h i
  | .error _ => none
def stp (E : MD → Nat → List Value → List Value → Sto → Rs) (md : MD) (pc : Nat) (L S : List Value) (h : Sto) : Rs := match dsc md pc L S h with
  | none => none
  | some (.inl r) => some r
  | some (.inr (.inl (pc', L', S', h'))) => E md pc' L' S' h'
  | some (.inr (.inr (cal, A, rest))) => (E cal 0 (A ++ List.replicate (cal.mxl - A.length) .null) [] h).bind (fun q => E md (pc + 3) L (q.1.toList ++ rest) q.2)
def run : Nat → MD → Nat → List Value → List Value → Sto → Rs
  | 0 => fun _ _ _ _ _ => none
  | n + 1 => stp (run n)
theorem stp_mono {E F : MD → Nat → List Value → List Value → Sto → Rs} (hEF : ∀ md pc L S h r, E md pc L S h = some r → F md pc L S h = some r) {md : MD} {pc : Nat} {L S : List Value} {h : Sto} {r : Option Value × Sto} (hr : stp E md pc L S h = some r) : stp F md pc L S h = some r := by
  unfold stp at hr ⊢
  cases hd : dsc md pc L S h with
  | none => rw [hd] at hr; cases hr
  | some d =>
    rw [hd] at hr
    rcases d with a | ⟨pc', L', S', h'⟩ | ⟨cal, A, rest⟩
    · exact hr
    · exact hEF _ _ _ _ _ _ hr
    · dsimp only at hr ⊢
      obtain ⟨q, h1, h2⟩ := Option.bind_eq_some_iff.mp hr
      exact Option.bind_eq_some_iff.mpr ⟨q, hEF _ _ _ _ _ _ h1, hEF _ _ _ _ _ _ h2⟩
theorem run_succ : ∀ (n : Nat) (md : MD) (pc : Nat) (L S : List Value) (h : Sto) (r : Option Value × Sto), run n md pc L S h = some r → run (n + 1) md pc L S h = some r := by
  intro n
  induction n with
  | zero => intro md pc L S h r hr; cases hr
  | succ n ih => intro md pc L S h r hr; exact stp_mono ih hr
theorem run_le {n k : Nat} (hk : n ≤ k) {md : MD} {pc : Nat} {L S : List Value} {h : Sto} {r : Option Value × Sto} (hr : run n md pc L S h = some r) : run k md pc L S h = some r := by
  induction hk with
  | refl => exact hr
  | step _ ih => exact run_succ _ _ _ _ _ _ _ ih
noncomputable def ev (md : MD) (pc : Nat) (L S : List Value) (h : Sto) : Rs := @dite _ (∃ n r, run n md pc L S h = some r) (Classical.propDecidable _) (fun H => run H.choose md pc L S h) (fun _ => none)
theorem ev_iff {md : MD} {pc : Nat} {L S : List Value} {h : Sto} {r : Option Value × Sto} : ev md pc L S h = some r ↔ ∃ n, run n md pc L S h = some r := by
  unfold ev
  by_cases H : ∃ n r, run n md pc L S h = some r
  · rw [dif_pos H]
    constructor
    · intro e; exact ⟨_, e⟩
    · rintro ⟨n, e⟩
      obtain ⟨r', hr'⟩ := H.choose_spec
      have h1 := run_le (Nat.le_max_left n H.choose) e
      have h2 := run_le (Nat.le_max_right n H.choose) hr'
      rw [h1] at h2
      rw [hr', h2]
  · rw [dif_neg H]
    constructor
    · intro e; cases e
    · rintro ⟨n, e⟩; exact absurd ⟨n, r, e⟩ H
theorem rs_ext {a b : Rs} (h : ∀ r, a = some r ↔ b = some r) : a = b := by
  cases a with
  | none =>
    cases b with
    | none => rfl
    | some y => exact ((h y).mpr rfl)
  | some x => exact ((h x).mp rfl).symm
theorem ev_fix (md : MD) (pc : Nat) (L S : List Value) (h : Sto) : ev md pc L S h = stp ev md pc L S h := by
  apply rs_ext
  intro r
  constructor
  · intro e
    obtain ⟨n, hn⟩ := ev_iff.mp e
    cases n with
    | zero => cases hn
    | succ n => exact stp_mono (fun md pc L S h r hr => ev_iff.mpr ⟨n, hr⟩) hn
  · intro e
    apply ev_iff.mpr
    unfold stp at e
    cases hd : dsc md pc L S h with
    | none => rw [hd] at e; cases e
    | some d =>
      rw [hd] at e
      rcases d with a | ⟨pc', L', S', h'⟩ | ⟨cal, A, rest⟩
      · exact ⟨1, by show stp (run 0) md pc L S h = _; unfold stp; rw [hd]; exact e⟩
      · obtain ⟨n, hn⟩ := ev_iff.mp e
        exact ⟨n + 1, by show stp (run n) md pc L S h = _; unfold stp; rw [hd]; exact hn⟩
      · dsimp only at e
        obtain ⟨q, h1, h2⟩ := Option.bind_eq_some_iff.mp e
        obtain ⟨n1, g1⟩ := ev_iff.mp h1
        obtain ⟨n2, g2⟩ := ev_iff.mp h2
        exact ⟨max n1 n2 + 1, by
          show stp (run (max n1 n2)) md pc L S h = _
          unfold stp
          rw [hd]
          exact Option.bind_eq_some_iff.mpr ⟨q, run_le (Nat.le_max_left _ _) g1, run_le (Nat.le_max_right _ _) g2⟩⟩
theorem ev_go {md : MD} {pc : Nat} {L S : List Value} {h : Sto} {pc' : Nat} {L' S' : List Value} {h' : Sto} (hd : dsc md pc L S h = Gg pc' L' S' h') : ev md pc L S h = ev md pc' L' S' h' := by
  rw [ev_fix]; unfold stp; rw [hd]
theorem ev_ret {md : MD} {pc : Nat} {L S : List Value} {h : Sto} {r : Option Value × Sto} (hd : dsc md pc L S h = some (.inl r)) : ev md pc L S h = some r := by
  rw [ev_fix]; unfold stp; rw [hd]
theorem ev_cal {md : MD} {pc : Nat} {L S : List Value} {h : Sto} {cal : MD} {A rest : List Value} (hd : dsc md pc L S h = some (.inr (.inr (cal, A, rest)))) : ev md pc L S h = (ev cal 0 (A ++ List.replicate (cal.mxl - A.length) .null) [] h).bind (fun q => ev md (pc + 3) L (q.1.toList ++ rest) q.2) := by
  rw [ev_fix]; unfold stp; rw [hd]
theorem ev_no {md : MD} {pc : Nat} {L S : List Value} {h : Sto} (hd : dsc md pc L S h = none) : ev md pc L S h = none := by
  rw [ev_fix]; unfold stp; rw [hd]
theorem dsc_of {md : MD} {pc len : Nat} {i : Instr} (hd : decode md.cod pc = .ok (i, len)) (L S : List Value) (h : Sto) : dsc md pc L S h = ins md len pc L S h i := by
  unfold dsc; rw [hd]

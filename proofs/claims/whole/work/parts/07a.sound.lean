/-! THE SMALL MACHINE IS TRUE OF THE JVM'S: what a store means in the heap, and each instruction, by the kit's rows. -/
abbrev Gm : Type := (Nat → ClassId) × (Nat → Nat → Nat) × ClassId × (Nat → Nat) × (Nat → Nat) × (Nat → Nat) × Value × Nat
abbrev Gm.dC (G : Gm) : Nat → ClassId := G.1
abbrev Gm.dI (G : Gm) : Nat → Nat → Nat := G.2.1
abbrev Gm.cA (G : Gm) : ClassId := G.2.2.1
abbrev Gm.adr (G : Gm) : Nat → Nat := G.2.2.2.1
abbrev Gm.adK (G : Gm) : Nat → Nat := G.2.2.2.2.1
abbrev Gm.adV (G : Gm) : Nat → Nat := G.2.2.2.2.2.1
abbrev Gm.v0 (G : Gm) : Value := G.2.2.2.2.2.2.1
abbrev Gm.scb (G : Gm) : Nat := G.2.2.2.2.2.2.2
abbrev Gm.D (G : Gm) : va_G := (G.dC, G.dI)
def cr (G : Gm) (c : Nat) : Value := if c < 27 then .ref (G.adr c) else if c < 200 then .ref (G.adK (c - 100)) else if c < 300 then .ref (G.adV (c - 200)) else if c = 300 then G.v0 else .ref G.scb
def cv (G : Gm) : Value → Value
  | .ref c => cr G c
  | v => v
def nF : Nat → Nat
  | 0 => 10
  | 1 => 2
  | 2 => 2
  | 3 => 2
  | 4 => 3
  | 5 => 9
  | _ => 16
def fsv (G : Gm) (c : Nat) (h : Sto) (j : Nat) : Value := match lyR c j with
  | some t => .ref (G.adr t)
  | none => .int (h c j)
def fsl (G : Gm) (c n : Nat) (h : Sto) : List Value := (List.range n).map (fsv G c h)
def cel (G : Gm) (h : Sto) (c : Nat) : va_E := match lyA c with
  | some n => .inl (G.cA, n, .inl (h c))
  | none => .inr (lyC c, fsl G c (nF (lyC c)) h)
def wld (G : Gm) (h : Sto) : va_W := (List.range 27).map (fun c => (G.adr c, cel G h c))
def Am (G : Gm) : Nat → Prop := fun q => ∃ c, c < 27 ∧ q = G.adr c
def Inj (G : Gm) : Prop := ∀ i j, i < 27 → j < 27 → G.adr i = G.adr j → i = j
abbrev tyI (G : Gm) : List (ClassId × FieldType) := [(G.cA, .int)]
theorem wld_get {G : Gm} {h : Sto} {c : Nat} (hc : c < 27) : (wld G h)[c]? = some (G.adr c, cel G h c) := by
  unfold wld
  rw [List.getElem?_map, List.getElem?_range hc]
  rfl
theorem wld_len (G : Gm) (h : Sto) : (wld G h).length = 27 := by unfold wld; rw [List.length_map, List.length_range]
theorem wld_get' {G : Gm} {h : Sto} {k : Nat} {q : Nat × va_E} (hq : (wld G h)[k]? = some q) : k < 27 ∧ q = (G.adr k, cel G h k) := by
  have hk : k < 27 := by
    have := (List.getElem?_eq_some_iff.mp hq).1
    rw [wld_len] at this
    exact this
  rw [wld_get hk] at hq
  exact ⟨hk, (Option.some.inj hq).symm⟩
theorem wld_D {G : Gm} {h : Sto} (hi : Inj G) : va_D (Am G) (wld G h) := by
  refine ⟨fun i j p q hp hq e => ?_, fun k q hq => ?_⟩
  · obtain ⟨h1, rfl⟩ := wld_get' hp
    obtain ⟨h2, rfl⟩ := wld_get' hq
    exact hi i j h1 h2 e
  · obtain ⟨h1, rfl⟩ := wld_get' hq
    exact ⟨k, h1, rfl⟩
theorem st_cell {h : Sto} {c j a : Nat} {v : Int32} (ha : a ≠ c) : st h c j v a = h a := by
  funext b
  unfold st
  rw [if_neg (fun q => ha q.1)]
theorem st_self {h : Sto} {c j : Nat} {v : Int32} : st h c j v c = upd (h c) j v := by
  funext b
  unfold st upd
  by_cases hb : b = j
  · rw [if_pos ⟨rfl, hb⟩, if_pos hb]
  · rw [if_neg (fun q => hb q.2), if_neg hb]
theorem fsl_other {G : Gm} {c n : Nat} {h h' : Sto} (e : h' c = h c) : fsl G c n h' = fsl G c n h := by
  unfold fsl
  refine List.map_congr_left (fun j _ => ?_)
  unfold fsv
  rw [e]
theorem cel_other {G : Gm} {h : Sto} {c j a : Nat} {v : Int32} (ha : a ≠ c) : cel G (st h c j v) a = cel G h a := by
  unfold cel
  cases lyA a with
  | none => dsimp only; rw [fsl_other (st_cell ha)]
  | some n => dsimp only; rw [st_cell ha]
theorem set_wld {G : Gm} {h : Sto} {c j : Nat} {v : Int32} {x : va_E} (hc : c < 27) (hx : x = cel G (st h c j v) c) : (wld G h).set c (G.adr c, x) = wld G (st h c j v) := by
  apply List.ext_getElem?
  intro i
  by_cases hi : i = c
  · subst hi
    rw [List.getElem?_set_self (by rw [wld_len]; exact hc), wld_get hc, hx]
  · rw [List.getElem?_set_ne (Ne.symm hi)]
    by_cases h27 : i < 27
    · rw [wld_get h27, wld_get h27, cel_other hi]
    · rw [List.getElem?_eq_none (by rw [wld_len]; omega), List.getElem?_eq_none (by rw [wld_len]; omega)]
theorem cel_arr {G : Gm} {h : Sto} {c n : Nat} (hc : lyA c = some n) : cel G h c = .inl (G.cA, n, .inl (h c)) := by unfold cel; rw [hc]
theorem ly_obj {c ci : Nat} (hc : lyC c = ci) (hi : ci ≠ 99) : lyA c = none := by
  unfold lyC at hc
  split at hc <;> first | rfl | exact absurd hc.symm hi
theorem cel_obj {G : Gm} {h : Sto} {c ci : Nat} (hc : lyC c = ci) (hi : ci ≠ 99) : cel G h c = .inr (ci, fsl G c (nF ci) h) := by unfold cel; rw [ly_obj hc hi, hc]
theorem fsl_get {G : Gm} {c n j : Nat} {h : Sto} (hj : j < n) : (fsl G c n h)[j]? = some (fsv G c h j) := by
  unfold fsl
  rw [List.getElem?_map, List.getElem?_range hj]
  rfl
theorem fsl_len (G : Gm) (c n : Nat) (h : Sto) : (fsl G c n h).length = n := by unfold fsl; rw [List.length_map, List.length_range]
theorem fsl_set {G : Gm} {c n j : Nat} {h : Sto} {v : Int32} (hj : j < n) (hr : lyR c j = none) : (fsl G c n h).set j (.int v) = fsl G c n (st h c j v) := by
  apply List.ext_getElem?
  intro i
  by_cases hi : i = j
  · subst hi
    rw [List.getElem?_set_self (by rw [fsl_len]; exact hj), fsl_get hj]
    unfold fsv
    rw [hr, st_self]
    dsimp only
    unfold upd
    rw [if_pos rfl]
  · rw [List.getElem?_set_ne (Ne.symm hi)]
    by_cases hn : i < n
    · rw [fsl_get hn, fsl_get hn]
      unfold fsv
      rw [st_self]
      unfold upd
      rw [if_neg hi]
    · rw [List.getElem?_eq_none (by rw [fsl_len]; omega), List.getElem?_eq_none (by rw [fsl_len]; omega)]
/-- constants: texts, statics, nest mates' words -/
def CNs (G : Gm) (U : State) (H : Heap) : Prop := vk_S 7 sLen sByt G.adK G.adV (Am G) U H ∧ (∀ (i : Nat) (q : Nat × Nat × String), STB[i]? = some q → vk_R (cn q.1) q.2.1 q.2.2 (G.adK i) U) ∧ va_Z "java/lang/String" "COMPACT_STRINGS" "Z" (.int 1) (Am G) U H ∧ va_Z "jdk/internal/util/Preconditions" "SIOOBE_FORMATTER" "Ljava/util/function/BiFunction;" G.v0 (Am G) U H ∧ (G.v0 = .null ∨ ∃ t, G.v0 = .ref t) ∧ (∀ w ∈ NWs, va_Nw w U)
/-- the script -/
def SCr (G : Gm) (h : Sto) (U : State) (H : Heap) : Prop := ∃ sL : Nat, sL < 2 ^ 31 ∧ va_X G.scb sL (h 400) U H ∧ h 401 0 = Int32.ofNat sL ∧ G.scb < H.size ∧ ¬ Am G G.scb
theorem SCr.st {G : Gm} {h : Sto} {U : State} {H : Heap} {c j : Nat} {v : Int32} (hc : c < 27) (k : SCr G h U H) : SCr G (st h c j v) U H := by
  unfold SCr at k ⊢
  rw [st_cell (show 400 ≠ c by omega), st_cell (show 401 ≠ c by omega)]
  exact k
theorem cv_cat {G : Gm} (h0 : G.v0 = .null ∨ ∃ t, G.v0 = .ref t) {v : Value} (hv : okV v = true) : (cv G v).category = 1 := by
  cases v <;> first | (cases hv; done) | rfl | skip
  show (cr G _).category = 1
  unfold cr
  split
  · rfl
  · split
    · rfl
    · split
      · rfl
      · split
        · rcases h0 with e | ⟨t, e⟩ <;> rw [e] <;> rfl
        · rfl
theorem cr_cases {G : Gm} (h0 : G.v0 = .null ∨ ∃ t, G.v0 = .ref t) (a : Nat) : cr G a = .null ∨ ∃ t, cr G a = .ref t := by
  unfold cr
  split
  · exact Or.inr ⟨_, rfl⟩
  · split
    · exact Or.inr ⟨_, rfl⟩
    · split
      · exact Or.inr ⟨_, rfl⟩
      · split
        · exact h0
        · exact Or.inr ⟨_, rfl⟩
def lvo (G : Gm) (L : List Value) (i : Nat) : Option (Nat × Value) := match L[i]? with
  | some (.int x) => some (i, .int x)
  | some (.ref a) => some (i, cr G a)
  | _ => none
def lvl (G : Gm) (L : List Value) : List (Nat × Value) := (List.range L.length).filterMap (lvo G L)
theorem lvl_mem {G : Gm} {L : List Value} {q : Nat × Value} (hq : q ∈ lvl G L) : ∃ v, L[q.1]? = some v ∧ okV v = true ∧ q.2 = cv G v := by
  obtain ⟨i, -, hi⟩ := List.mem_filterMap.mp hq
  unfold lvo at hi
  split at hi
  · cases hi; rename_i x e; exact ⟨.int x, e, rfl, rfl⟩
  · cases hi; rename_i x e; exact ⟨.ref x, e, rfl, rfl⟩
  · cases hi
theorem lvl_of {G : Gm} {L : List Value} {i : Nat} {v : Value} (hi : L[i]? = some v) (hv : okV v = true) : (i, cv G v) ∈ lvl G L := by
  refine List.mem_filterMap.mpr ⟨i, List.mem_range.mpr (List.getElem?_eq_some_iff.mp hi).1, ?_⟩
  unfold lvo
  rw [hi]
  cases v <;> first | (cases hv; done) | rfl
theorem lvl_set {G : Gm} {L : List Value} {ls : Array Slot} {n i : Nat} {v : Value} (h0 : G.v0 = .null ∨ ∃ t, G.v0 = .ref t) (hv : okV v = true) (hl : lv_has ls n ((i, cv G v) :: (lvl G L).filter (fun q => !(q.1 == i) && !(q.1 + 1 == i && q.2.category == 2)))) : lv_has ls n (lvl G (L.set i v)) := by
  refine ⟨hl.1, hl.2.1, fun q hq => ?_⟩
  obtain ⟨w, h1, h2, h3⟩ := lvl_mem hq
  refine hl.2.2 q ?_
  by_cases hqi : q.1 = i
  · rw [hqi] at h1
    have hlt : i < L.length := by
      have := (List.getElem?_eq_some_iff.mp h1).1
      rwa [List.length_set] at this
    rw [List.getElem?_set_self hlt] at h1
    cases h1
    rw [show q = (i, cv G v) from Prod.ext hqi h3]
    exact List.mem_cons_self
  · rw [List.getElem?_set_ne (Ne.symm hqi)] at h1
    refine List.mem_cons_of_mem _ (List.mem_filter.mpr ⟨?_, ?_⟩)
    · rw [show q = (q.1, cv G w) from Prod.ext rfl h3]
      exact lvl_of h1 h2
    · have hc : q.2.category = 1 := by rw [h3]; exact cv_cat h0 h2
      have e1 : (q.1 == i) = false := by simpa using hqi
      have e2 : (q.2.category == 2) = false := by rw [hc]; rfl
      show (!(q.1 == i) && !(q.1 + 1 == i && q.2.category == 2)) = true
      rw [e1, e2, Bool.and_false]
      rfl
/-- what is given of a method's run: the machine, the method, the tables -/
def Cx (G : Gm) (md : MD) (p : Program) (s : State) (m : MethodId) (args : Array Value) (meth : Method) (c : Code) (R : Room) : Prop :=
  p.tables.exec = Jvm.exec ∧ c.code = md.cod ∧ meth.sig.returnType = md.ret ∧ c.maxLocals = md.mxl ∧ s.vm.findClass (cn md.own) = some m.cls ∧ (∀ w ∈ TBg, w.before args s = true) ∧ meth.locks = false ∧ md.frm ≤ R.frames ∧ md.loc ≤ R.locals ∧ va_K G.D clz (tyI G) s ∧ CNs G s s.heap ∧ Inj G
def WA (l : Launch) (G : Gm) (md : MD) (p : Program) (e : Env) (s : State) (m : MethodId) (args : Array Value) (below : List Frame) (meth : Method) (c : Code) (R : Room) (cells slots : Nat) (Q : State → Prop) (pc : Nat) (L S : List Value) (h : Sto) : Prop :=
  ∀ (H : Heap) (locs : List Loc) (ls : Array Slot), va_P G.D clz (wld G h) H → va_S (Am G) s.heap H locs → SCr G h s s.heap → lv_has ls md.mxl (lvl G L) → L.length = md.mxl → W p l e R s m args below meth c H locs cells slots Q (F0 m pc ls (S.map (cv G)))
section SND
variable {l : Launch} {G : Gm} {md : MD} {p : Program} {e : Env} {s : State} {m : MethodId} {args : Array Value} {below : List Frame} {meth : Method} {c : Code} {R : Room} {cells slots : Nat} {Q : State → Prop} {pc len n : Nat} {L S : List Value} {h : Sto} {q : Nat × List Value × List Value × Sto}
theorem Gg_inj {pc1 : Nat} {L1 S1 : List Value} {h1 : Sto} (e : Gg pc1 L1 S1 h1 = some (.inr (.inl q))) : q = (pc1, L1, S1, h1) := by
  have := Option.some.inj e
  exact (Sum.inl.inj (Sum.inr.inj this)).symm
theorem so_push {v : Value} (hd : x_push v n len pc L S h = some (.inr (.inl q))) (row : len = n → ∀ (H : Heap) (locs : List Loc) (ls : Array Slot) (rest : List Value), W p l e R s m args below meth c H locs cells slots Q (F0 m (pc + n) ls (cv G v :: rest)) → W p l e R s m args below meth c H locs cells slots Q (F0 m pc ls rest)) (hk : WA l G md p e s m args below meth c R cells slots Q q.1 q.2.1 q.2.2.1 q.2.2.2) : WA l G md p e s m args below meth c R cells slots Q pc L S h := by
  unfold x_push at hd
  split at hd
  · rename_i hl
    obtain rfl := Gg_inj hd
    intro H locs ls hP hS hX hv hL
    exact row hl H locs ls _ (hk H locs ls hP hS hX hv hL)
  · cases hd
theorem so_ldI {i : Nat} (hd : x_ldI i n len pc L S h = some (.inr (.inl q))) (row : len = n → ∀ (H : Heap) (locs : List Loc) (ls : Array Slot) (rest : List Value) (x : Int32), ls[i]? = some (.val (.int x)) → W p l e R s m args below meth c H locs cells slots Q (F0 m (pc + n) ls (.int x :: rest)) → W p l e R s m args below meth c H locs cells slots Q (F0 m pc ls rest)) (hk : WA l G md p e s m args below meth c R cells slots Q q.1 q.2.1 q.2.2.1 q.2.2.2) : WA l G md p e s m args below meth c R cells slots Q pc L S h := by
  unfold x_ldI at hd
  split at hd
  · rename_i x hx
    split at hd
    · rename_i hl
      obtain rfl := Gg_inj hd
      intro H locs ls hP hS hX hv hL
      exact row hl H locs ls _ x (hv.2.2 (i, .int x) (lvl_of (v := .int x) hx rfl)) (hk H locs ls hP hS hX hv hL)
    · cases hd
  · cases hd
theorem so_ldA {i : Nat} (hd : x_ldA i n len pc L S h = some (.inr (.inl q))) (row : len = n → ∀ (H : Heap) (locs : List Loc) (ls : Array Slot) (rest : List Value) (a : Nat), ls[i]? = some (.val (cr G a)) → W p l e R s m args below meth c H locs cells slots Q (F0 m (pc + n) ls (cr G a :: rest)) → W p l e R s m args below meth c H locs cells slots Q (F0 m pc ls rest)) (hk : WA l G md p e s m args below meth c R cells slots Q q.1 q.2.1 q.2.2.1 q.2.2.2) : WA l G md p e s m args below meth c R cells slots Q pc L S h := by
  unfold x_ldA at hd
  split at hd
  · rename_i x hx
    split at hd
    · rename_i hl
      obtain rfl := Gg_inj hd
      intro H locs ls hP hS hX hv hL
      exact row hl H locs ls _ x (hv.2.2 (i, cr G x) (lvl_of (v := .ref x) hx rfl)) (hk H locs ls hP hS hX hv hL)
    · cases hd
  · cases hd
theorem okK_okV {k : Bool} {v : Value} (hk : okK k v = true) : okV v = true := by
  cases k <;> cases v <;> first | rfl | cases hk
theorem so_st {i : Nat} {k : Bool} (h0 : G.v0 = .null ∨ ∃ t, G.v0 = .ref t) (hd : x_st k i n len pc L S h = some (.inr (.inl q))) (row : len = n → ∀ (H : Heap) (locs : List Loc) (ls : Array Slot) (rest : List Value) (v : Value) (lv : List (Nat × Value)), okK k v = true → lv_has ls md.mxl lv → i < md.mxl → (∀ ls' : Array Slot, lv_has ls' md.mxl ((i, cv G v) :: lv.filter (fun q => !(q.1 == i) && !(q.1 + 1 == i && q.2.category == 2))) → W p l e R s m args below meth c H locs cells slots Q (F0 m (pc + n) ls' rest)) → W p l e R s m args below meth c H locs cells slots Q (F0 m pc ls (cv G v :: rest))) (hk : WA l G md p e s m args below meth c R cells slots Q q.1 q.2.1 q.2.2.1 q.2.2.2) : WA l G md p e s m args below meth c R cells slots Q pc L S h := by
  unfold x_st at hd
  split at hd
  · rename_i v S'
    split at hd
    · rename_i hl
      obtain rfl := Gg_inj hd
      intro H locs ls hP hS hX hv hL
      exact row hl.1 H locs ls _ v (lvl G L) hl.2.2 hv (by rw [← hL]; exact hl.2.1) (fun ls' hls => hk H locs ls' hP hS hX (lvl_set h0 (okK_okV hl.2.2) hls) (by dsimp only; rw [List.length_set]; exact hL))
    · cases hd
  · cases hd
theorem so_iinc {i : Nat} {z : Int} (h0 : G.v0 = .null ∨ ∃ t, G.v0 = .ref t) (hd : x_iinc i z len pc L S h = some (.inr (.inl q))) (hx : p.tables.exec = Jvm.exec) (hb : c.code = md.cod) (hdec : decode md.cod pc = .ok (.iinc i z, len)) (hk : WA l G md p e s m args below meth c R cells slots Q q.1 q.2.1 q.2.2.1 q.2.2.2) : WA l G md p e s m args below meth c R cells slots Q pc L S h := by
  unfold x_iinc at hd
  split at hd
  · rename_i x hxi
    split at hd
    · rename_i hl
      obtain rfl := Gg_inj hd
      intro H locs ls hP hS hX hv hL
      subst hl
      have hmem := lvl_of (G := G) (v := .int x) hxi rfl
      obtain ⟨k, hk'⟩ := List.getElem?_of_mem hmem
      exact lv_iinc (k := k) hx hb hdec hv hk' rfl (by rw [← hL]; exact (List.getElem?_eq_some_iff.mp hxi).1) rfl (fun ls' hls => hk H locs ls' hP hS hX (lvl_set (v := .int (x + Int32.ofInt z)) h0 rfl hls) (by dsimp only; rw [List.length_set]; exact hL))
    · cases hd
  · cases hd
theorem so_bin {f : Int32 → Int32 → Int32} (hd : x_bin f len pc L S h = some (.inr (.inl q))) (row : len = 1 → ∀ (H : Heap) (locs : List Loc) (ls : Array Slot) (rest : List Value) (x y : Int32), W p l e R s m args below meth c H locs cells slots Q (F0 m (pc + 1) ls (.int (f x y) :: rest)) → W p l e R s m args below meth c H locs cells slots Q (F0 m pc ls (.int y :: .int x :: rest))) (hk : WA l G md p e s m args below meth c R cells slots Q q.1 q.2.1 q.2.2.1 q.2.2.2) : WA l G md p e s m args below meth c R cells slots Q pc L S h := by
  unfold x_bin at hd
  split at hd
  · rename_i y x S'
    split at hd
    · rename_i hl
      obtain rfl := Gg_inj hd
      intro H locs ls hP hS hX hv hL
      exact row hl H locs ls _ x y (hk H locs ls hP hS hX hv hL)
    · cases hd
  · cases hd
theorem so_bin0 {f : Int32 → Int32 → Int32} (hd : x_bin0 f len pc L S h = some (.inr (.inl q))) (row : len = 1 → ∀ (H : Heap) (locs : List Loc) (ls : Array Slot) (rest : List Value) (x y : Int32), ¬ y = 0 → W p l e R s m args below meth c H locs cells slots Q (F0 m (pc + 1) ls (.int (f x y) :: rest)) → W p l e R s m args below meth c H locs cells slots Q (F0 m pc ls (.int y :: .int x :: rest))) (hk : WA l G md p e s m args below meth c R cells slots Q q.1 q.2.1 q.2.2.1 q.2.2.2) : WA l G md p e s m args below meth c R cells slots Q pc L S h := by
  unfold x_bin0 at hd
  split at hd
  · rename_i y x S'
    split at hd
    · rename_i hl
      obtain rfl := Gg_inj hd
      intro H locs ls hP hS hX hv hL
      exact row hl.1 H locs ls _ x y hl.2 (hk H locs ls hP hS hX hv hL)
    · cases hd
  · cases hd
theorem so_un {f : Int32 → Int32} (hd : x_un f len pc L S h = some (.inr (.inl q))) (row : len = 1 → ∀ (H : Heap) (locs : List Loc) (ls : Array Slot) (rest : List Value) (x : Int32), W p l e R s m args below meth c H locs cells slots Q (F0 m (pc + 1) ls (.int (f x) :: rest)) → W p l e R s m args below meth c H locs cells slots Q (F0 m pc ls (.int x :: rest))) (hk : WA l G md p e s m args below meth c R cells slots Q q.1 q.2.1 q.2.2.1 q.2.2.2) : WA l G md p e s m args below meth c R cells slots Q pc L S h := by
  unfold x_un at hd
  split at hd
  · rename_i x S'
    split at hd
    · rename_i hl
      obtain rfl := Gg_inj hd
      intro H locs ls hP hS hX hv hL
      exact row hl H locs ls _ x (hk H locs ls hP hS hX hv hL)
    · cases hd
  · cases hd
theorem so_dup (h0 : G.v0 = .null ∨ ∃ t, G.v0 = .ref t) (hx : p.tables.exec = Jvm.exec) (hb : c.code = md.cod) (hdec : decode md.cod pc = .ok (.dup, len)) (hd : x_dup len pc L S h = some (.inr (.inl q))) (hk : WA l G md p e s m args below meth c R cells slots Q q.1 q.2.1 q.2.2.1 q.2.2.2) : WA l G md p e s m args below meth c R cells slots Q pc L S h := by
  unfold x_dup at hd
  split at hd
  · rename_i v S'
    split at hd
    · rename_i hl
      obtain rfl := Gg_inj hd
      intro H locs ls hP hS hX hv hL
      obtain ⟨rfl, hl⟩ := hl
      exact lv_dup hx hb hdec (cv_cat h0 hl) (hk H locs ls hP hS hX hv hL)
    · cases hd
  · cases hd
theorem so_pop (h0 : G.v0 = .null ∨ ∃ t, G.v0 = .ref t) (hx : p.tables.exec = Jvm.exec) (hb : c.code = md.cod) (hdec : decode md.cod pc = .ok (.pop, len)) (hd : x_pop len pc L S h = some (.inr (.inl q))) (hk : WA l G md p e s m args below meth c R cells slots Q q.1 q.2.1 q.2.2.1 q.2.2.2) : WA l G md p e s m args below meth c R cells slots Q pc L S h := by
  unfold x_pop at hd
  split at hd
  · rename_i v S'
    split at hd
    · rename_i hl
      obtain rfl := Gg_inj hd
      intro H locs ls hP hS hX hv hL
      obtain ⟨rfl, hl⟩ := hl
      exact lv_pop hx hb hdec (cv_cat h0 hl) (hk H locs ls hP hS hX hv hL)
    · cases hd
  · cases hd
theorem so_dup2 (h0 : G.v0 = .null ∨ ∃ t, G.v0 = .ref t) (hx : p.tables.exec = Jvm.exec) (hb : c.code = md.cod) (hdec : decode md.cod pc = .ok (.dup2, len)) (hd : x_dup2 len pc L S h = some (.inr (.inl q))) (hk : WA l G md p e s m args below meth c R cells slots Q q.1 q.2.1 q.2.2.1 q.2.2.2) : WA l G md p e s m args below meth c R cells slots Q pc L S h := by
  unfold x_dup2 at hd
  split at hd
  · rename_i v w S'
    split at hd
    · rename_i hl
      obtain rfl := Gg_inj hd
      intro H locs ls hP hS hX hv hL
      obtain ⟨rfl, hl, hw⟩ := hl
      exact lv_dup2_11 hx hb hdec (cv_cat h0 hl) (cv_cat h0 hw) (hk H locs ls hP hS hX hv hL)
    · cases hd
  · cases hd
theorem jmp_inv {off : Int} (hd : x_jump pc off L S h = some (.inr (.inl q))) : ∃ tgt : Nat, (pc : Int) + off = (tgt : Int) ∧ q = (tgt, L, S, h) := by
  unfold x_jump at hd
  split at hd
  · rename_i h0
    obtain rfl := Gg_inj hd
    exact ⟨((pc : Int) + off).toNat, (Int.toNat_of_nonneg h0).symm, rfl⟩
  · cases hd
theorem so_if {cc : ClassFile.Cond} {off : Int} (hx : p.tables.exec = Jvm.exec) (hb : c.code = md.cod) (hdec : decode md.cod pc = .ok (.ifCond cc off, len)) (hd : x_if cc off len pc L S h = some (.inr (.inl q))) (hk : WA l G md p e s m args below meth c R cells slots Q q.1 q.2.1 q.2.2.1 q.2.2.2) : WA l G md p e s m args below meth c R cells slots Q pc L S h := by
  unfold x_if at hd
  split at hd
  · rename_i x S'
    split at hd
    · rename_i hl
      obtain ⟨rfl, h0⟩ := hl
      obtain rfl := Gg_inj hd
      have ht : (pc : Int) + off = (((pc : Int) + off).toNat : Int) := (Int.toNat_of_nonneg h0).symm
      intro H locs ls hP hS hX hv hL
      have k := hk H locs ls hP hS hX hv hL
      dsimp only at k
      have kt : x_hold1 cc x = true → W p l e R s m args below meth c H locs cells slots Q (F0 m ((pc : Int) + off).toNat ls (S'.map (cv G))) := fun z => by rw [if_pos z] at k; exact k
      have kf : ¬ x_hold1 cc x = true → W p l e R s m args below meth c H locs cells slots Q (F0 m (pc + 3) ls (S'.map (cv G))) := fun z => by rw [if_neg z] at k; exact k
      cases cc
      · exact lv_if_eq hx hb hdec ht (fun z => kt (decide_eq_true z)) (fun z => kf (fun y => z (of_decide_eq_true y)))
      · exact lv_if_ne hx hb hdec ht (fun z => kt (decide_eq_true z)) (fun z => kf (fun y => (of_decide_eq_true y : ¬ x = 0) z))
      · exact lv_if_lt hx hb hdec ht (fun z => kt (decide_eq_true z)) (fun z => kf (fun y => z (of_decide_eq_true y)))
      · exact lv_if_ge hx hb hdec ht (fun z => kt (decide_eq_true z)) (fun z => kf (fun y => z (of_decide_eq_true y)))
      · exact lv_if_gt hx hb hdec ht (fun z => kt (decide_eq_true z)) (fun z => kf (fun y => z (of_decide_eq_true y)))
      · exact lv_if_le hx hb hdec ht (fun z => kt (decide_eq_true z)) (fun z => kf (fun y => z (of_decide_eq_true y)))
    · cases hd
  · cases hd
theorem so_icmp {cc : ClassFile.Cond} {off : Int} (hx : p.tables.exec = Jvm.exec) (hb : c.code = md.cod) (hdec : decode md.cod pc = .ok (.if_icmp cc off, len)) (hd : x_icmp cc off len pc L S h = some (.inr (.inl q))) (hk : WA l G md p e s m args below meth c R cells slots Q q.1 q.2.1 q.2.2.1 q.2.2.2) : WA l G md p e s m args below meth c R cells slots Q pc L S h := by
  unfold x_icmp at hd
  split at hd
  · rename_i y x S'
    split at hd
    · rename_i hl
      obtain ⟨rfl, h0⟩ := hl
      obtain rfl := Gg_inj hd
      have ht : (pc : Int) + off = (((pc : Int) + off).toNat : Int) := (Int.toNat_of_nonneg h0).symm
      intro H locs ls hP hS hX hv hL
      have k := hk H locs ls hP hS hX hv hL
      dsimp only at k
      have kt : x_hold2 cc x y = true → W p l e R s m args below meth c H locs cells slots Q (F0 m ((pc : Int) + off).toNat ls (S'.map (cv G))) := fun z => by rw [if_pos z] at k; exact k
      have kf : ¬ x_hold2 cc x y = true → W p l e R s m args below meth c H locs cells slots Q (F0 m (pc + 3) ls (S'.map (cv G))) := fun z => by rw [if_neg z] at k; exact k
      cases cc
      · exact lv_icmp_eq hx hb hdec ht (fun z => kt (decide_eq_true z)) (fun z => kf (fun y => z (of_decide_eq_true y)))
      · exact lv_icmp_ne hx hb hdec ht (fun z => kt (decide_eq_true z)) (fun z => kf (fun w => (of_decide_eq_true w : ¬ x = y) z))
      · exact lv_icmp_lt hx hb hdec ht (fun z => kt (decide_eq_true z)) (fun z => kf (fun y => z (of_decide_eq_true y)))
      · exact lv_icmp_ge hx hb hdec ht (fun z => kt (decide_eq_true z)) (fun z => kf (fun y => z (of_decide_eq_true y)))
      · exact lv_icmp_gt hx hb hdec ht (fun z => kt (decide_eq_true z)) (fun z => kf (fun y => z (of_decide_eq_true y)))
      · exact lv_icmp_le hx hb hdec ht (fun z => kt (decide_eq_true z)) (fun z => kf (fun y => z (of_decide_eq_true y)))
    · cases hd
  · cases hd
theorem so_goto {off : Int} (hx : p.tables.exec = Jvm.exec) (hb : c.code = md.cod) (hdec : decode md.cod pc = .ok (.goto off, len)) (hd : x_goto off len pc L S h = some (.inr (.inl q))) (hk : WA l G md p e s m args below meth c R cells slots Q q.1 q.2.1 q.2.2.1 q.2.2.2) : WA l G md p e s m args below meth c R cells slots Q pc L S h := by
  unfold x_goto at hd
  split at hd
  · rename_i hl
    subst hl
    obtain ⟨tgt, ht, rfl⟩ := jmp_inv hd
    intro H locs ls hP hS hX hv hL
    exact lv_goto hx hb hdec ht (hk H locs ls hP hS hX hv hL)
  · cases hd
theorem so_tsw {d lo hi : Int} {offs : Array Int} (hx : p.tables.exec = Jvm.exec) (hb : c.code = md.cod) (hdec : decode md.cod pc = .ok (.tableswitch d lo hi offs, len)) (hd : x_tsw d lo hi offs pc L S h = some (.inr (.inl q))) (hk : WA l G md p e s m args below meth c R cells slots Q q.1 q.2.1 q.2.2.1 q.2.2.2) : WA l G md p e s m args below meth c R cells slots Q pc L S h := by
  unfold x_tsw at hd
  split at hd
  · rename_i x S'
    split at hd
    · rename_i ho
      obtain ⟨tgt, ht, rfl⟩ := jmp_inv hd
      intro H locs ls hP hS hX hv hL
      exact lv_tableOut hx hb hdec ho ht (hk H locs ls hP hS hX hv hL)
    · rename_i ho
      split at hd
      · rename_i off hoff
        obtain ⟨tgt, ht, rfl⟩ := jmp_inv hd
        intro H locs ls hP hS hX hv hL
        exact lv_tableIn hx hb hdec (fun z => ho (Or.inl z)) (fun z => ho (Or.inr z)) hoff ht (hk H locs ls hP hS hX hv hL)
      · cases hd
  · cases hd
theorem so_lsw {d : Int} {ps : Array (Int × Int)} (hx : p.tables.exec = Jvm.exec) (hb : c.code = md.cod) (hdec : decode md.cod pc = .ok (.lookupswitch d ps, len)) (hd : x_lsw d ps pc L S h = some (.inr (.inl q))) (hk : WA l G md p e s m args below meth c R cells slots Q q.1 q.2.1 q.2.2.1 q.2.2.2) : WA l G md p e s m args below meth c R cells slots Q pc L S h := by
  unfold x_lsw at hd
  split at hd
  · rename_i x S'
    split at hd
    · rename_i ho
      obtain ⟨tgt, ht, rfl⟩ := jmp_inv hd
      intro H locs ls hP hS hX hv hL
      exact lv_lookup hx hb hdec ho rfl ht (hk H locs ls hP hS hX hv hL)
    · cases hd
  · cases hd
end SND

/-! THE CLAIM OUT OF ONE WALK OF THE LAW'S BODY. Your part is whole_start (and what it stands on); all else here is the same for every law, but numbers. -/
def R_law : String := "GoneIntoItsTunnelLaw"
def lw_P (b : Addr) (xs : List Int32) (args : Array Value) (s : State) : Prop := args = #[.ref b] ∧ s.IntsAt b xs ∧ xs.length ≤ 2048 ∧ (Jvm.Cond.and given_1 narrow_1).before args s = true
def lw_Q (_ : Array Value) (s : State) (o : Outcome) (t : State) : Prop := o = .returned (some (.int 1)) ∧ Framed s o t [] 27 509
def lw_Z (below : List Frame) (a : Array Value) (s : State) : State → Prop := fun t => ∃ o, t.status = .running ∧ Ended t below o ∧ lw_Q a s o t
/-- the law's own end, with 1 on the stack, nothing written that was there before, its room as the claim has it -/
theorem lw_ret {p : Program} {l : Launch} {e : Env} {s : State} {m : MethodId} {below : List Frame} {meth : Method} {c : Code} {b : Nat} (hx : p.tables.exec = Jvm.exec) (hb : c.code = code) (hr : meth.sig.returnType = ret) (hlocks : meth.locks = false) {pc : Nat} {H : Heap} {ls : Array Slot} (hdg : decode code pc = .ok (.ireturn, 1)) : W p l e room_1 s m #[Value.ref b] below meth c H [] 27 509 (lw_Z below #[Value.ref b] s) (F0 m pc ls [.int 1]) := by
  intro T hT X
  obtain ⟨fs, hret, hrun, hended, hW, hframe⟩ := X.leave (v := some (.int 1)) (hlocks := hlocks) (fun h => by rw [hr] at h; cases h)
  have hmeth' : T.vm.method? m = some meth := X.method'
  refine ⟨T.setFrames fs, ?_, .returned (some (.int 1)), hrun, hended, rfl, ⟨_, rfl⟩, hW, hframe⟩
  jvm_step X.here [X.here.top, hx, hb, hdg, hmeth', hr, ret, narrow_b1]
  (try refine ⟨rfl, ?_⟩); (try refine ⟨rfl, ?_⟩)
  first | (intro acts; rw [hret _ acts rfl rfl rfl]) | rw [hret _ _ rfl rfl rfl]
  exact Steps.refl _
/-- what holds at the law's entry: the machine, the code, the tables' words (any of lw_tbl by 'hts w (by decide +kernel)'), the script of L ints xs at the cell b, what the Statement gives of the start (any of its parts by flat_of_before) -/
def lw_At (p : Program) (s : State) (m : MethodId) (meth : Method) (c : Code) (b L : Nat) (xs : Nat → Int32) : Prop :=
  p.tables.exec = Jvm.exec ∧ c.code = code ∧ meth.sig.returnType = ret ∧ c.maxLocals = 4 ∧ s.vm.findClass R_law = some m.cls ∧ (∀ w ∈ lw_tbl, w.before #[Value.ref b] s = true) ∧ va_X b L xs s s.heap ∧ b < s.heap.size ∧ meth.locks = false ∧ (Jvm.Cond.and given_1 narrow_1).before #[Value.ref b] s = true

theorem fst_at (AD : List Nat) {ws : va_W} {i : Nat} (h : AD = ws.map (fun q => q.1)) (hi : i < ws.length) : ∃ q, ws[i]? = some q ∧ q.1 = AD.getD i 0 := by
  refine ⟨ws[i], List.getElem?_eq_getElem hi, ?_⟩
  subst h
  rw [List.getD_eq_getElem?_getD, List.getElem?_map, List.getElem?_eq_getElem hi]
  rfl
theorem nwc_warm {s U : State} (hW : s.WarmedH U.vm) : ∀ w ∈ NWc, va_Nw w s → va_Nw w U := by
  intro w hw
  simp only [NWc, List.mem_cons, List.not_mem_nil, or_false] at hw
  rcases hw with rfl | rfl | rfl | rfl | rfl <;> exact fun z => va_Nw.warmM hW z
theorem blind_n {dC : Nat → ClassId} {dI : Nat → Nat → Nat} {cA : ClassId} {sz : Nat} (ws : va_W) (av : List Value) : FrameBlind (va_Pc av (fun U => U.heap.size = sz ∧ va_P (dC, dI) clz ws U.heap ∧ va_K (dC, dI) clz [(cA, .int)] U ∧ va_D (fun _ => True) ws ∧ ∀ w ∈ NWc, va_Nw w U)) := by
  intro a U g mk q
  obtain ⟨q0, q1, qP, qK, qD, qN⟩ := q
  refine ⟨q0, q1, qP, va_K.moved (u := U) (U := U.calling g mk a) (Vm.Alike.refl U.vm) qK, qD, fun w hw => ?_⟩
  have h1 : ∀ w ∈ NWc, w.onTables = true := by decide +kernel
  exact va_Nw.same (u := U) (U := U.calling g mk a) (h1 w hw) rfl (qN w hw)
set_option maxRecDepth 100000 in
theorem wd_15 : (Jvm.Cond.classLink "GoneIntoItsTunnelLaw" (7 : Nat) "GoneIntoItsTunnel") ∈ TBg := tb_1 15 (by decide +kernel) rfl
set_option maxRecDepth 100000 in
theorem wd_16 : (Jvm.Cond.instantiable "GoneIntoItsTunnel" (9 : Nat)) ∈ TBg := tb_1 16 (by decide +kernel) rfl
set_option maxRecDepth 100000 in
theorem wd_17 : (Jvm.Cond.methodLink "GoneIntoItsTunnelLaw" (9 : Nat) ({ cls := "GoneIntoItsTunnel", name := "<init>", desc := "()V" } : Jvm.MethodName)) ∈ TBg := tb_1 17 (by decide +kernel) rfl
set_option maxRecDepth 100000 in
theorem wd_725 : (Jvm.Cond.classLink "GoneIntoItsTunnelLaw" (10 : Nat) "GoneIntoItsTunnelModel") ∈ TBg := tb_4 5 (by decide +kernel) rfl
set_option maxRecDepth 100000 in
theorem wd_726 : (Jvm.Cond.instantiable "GoneIntoItsTunnelModel" (16 : Nat)) ∈ TBg := tb_4 6 (by decide +kernel) rfl
set_option maxRecDepth 100000 in
theorem wd_727 : (Jvm.Cond.methodLink "GoneIntoItsTunnelLaw" (12 : Nat) ({ cls := "GoneIntoItsTunnelModel", name := "<init>", desc := "()V" } : Jvm.MethodName)) ∈ TBg := tb_4 7 (by decide +kernel) rfl
/-- the store behind both constructors -/
def hem0 : Nat → Int32 := fun j => match j with
  | 2 => 6
  | 3 => -8
  | 4 => -8
  | 8 => 3
  | 9 => 3
  | _ => 0
def way0 : Nat → Int32 := fun j => match j with
  | 2 => -9
  | _ => 0
def mod0 : Nat → Int32 := upd (upd (upd (upd (upd (fun _ => 0) 0 6) 1 (-8)) 2 (-8)) 6 3) 7 3
def sto0 (L : Nat) (xs : Nat → Int32) : Sto := fun c => match c with
  | 1 => hem0
  | 4 => hem0
  | 7 => hem0
  | 10 => way0
  | 18 => mod0
  | 400 => xs
  | 401 => fun _ => Int32.ofNat L
  | _ => fun _ => 0
def tmJ (i : Nat) : Term := match STB[i]? with
  | some q => Term.string (cn q.1) q.2.1
  | none => Term.string "" 0
theorem nwc_at {args : Array Value} {s : State} (hts : ∀ w ∈ lw_tbl, w.before args s = true) : (∀ w ∈ NWc, va_Nw w s) ∧ (∀ w ∈ NWs, va_Nw w s) := by
  have h1 : ∀ w ∈ NWc, w ∈ tables_1_1 ∧ w.onTables = true := by decide +kernel
  have h2 : ∀ w ∈ NWs, w ∈ tables_1_1 ∧ w.onTables = true := by decide +kernel
  have up : ∀ w, w ∈ tables_1_1 → w ∈ lw_tbl := fun w hw => by
    show w ∈ k2_sels lw_privs ++ (tables_1_1 ++ (tables_1_2 ++ (tables_1_3 ++ (tables_1_4 ++ tables_1_5))))
    simp only [List.mem_append]
    exact Or.inr (Or.inl hw)
  exact ⟨fun w hw => va_Nw.of (h1 w hw).2 (hts w (up w (h1 w hw).1)), fun w hw => va_Nw.of (h2 w hw).2 (hts w (up w (h2 w hw).1))⟩
theorem str_at {args : Array Value} {s : State} {A : Nat → Prop} (hg : (Jvm.Cond.and given_1 narrow_1).before args s = true) (hts : ∀ w ∈ lw_tbl, w.before args s = true) (hA : ∀ a : Nat, a < s.heap.size → ¬ A a) : ∃ adK adV : Nat → Nat, vk_S 7 sLen sByt adK adV A s s.heap ∧ ∀ (i : Nat) (q : Nat × Nat × String), STB[i]? = some q → vk_R (cn q.1) q.2.1 q.2.2 (adK i) s := by
  have hs := flat_of_before _ hg
  have m1 : ∀ i, i < 7 → Cond.exactly (tmJ i) "java/lang/String" ∈ flatC (Jvm.Cond.and given_1 narrow_1) := by decide +kernel
  have m2 : ∀ i, i < 7 → Cond.eq (.field (tmJ i) "java/lang/String" "coder" "B") (.int 0) ∈ flatC (Jvm.Cond.and given_1 narrow_1) := by decide +kernel
  have m3 : ∀ i, i < 7 → Cond.arrayOf (.field (tmJ i) "java/lang/String" "value" "[B") .byte ∈ flatC (Jvm.Cond.and given_1 narrow_1) := by decide +kernel
  have m4 : ∀ i, i < 7 → Cond.eq (.length (.field (tmJ i) "java/lang/String" "value" "[B")) (.int (Int32.ofNat (sLen.getD i 0))) ∈ flatC (Jvm.Cond.and given_1 narrow_1) := by decide +kernel
  have m5 : ∀ i, i < 7 → ∀ j, j < sLen.getD i 0 → Cond.eq (.elem (.field (tmJ i) "java/lang/String" "value" "[B") (.int (Int32.ofNat j))) (.int ((sByt.getD i []).getD j 0)) ∈ flatC (Jvm.Cond.and given_1 narrow_1) := by decide +kernel
  have m6 : ∀ i, i < 7 → ∀ j, j < 7 → i ≠ j → (Cond.not (Cond.eq (tmJ i) (tmJ j)) ∈ flatC (Jvm.Cond.and given_1 narrow_1) ∨ Cond.not (Cond.eq (tmJ j) (tmJ i)) ∈ flatC (Jvm.Cond.and given_1 narrow_1)) := by decide +kernel
  have m7 : ∀ q ∈ STB, Cond.stringRef (cn q.1) q.2.1 q.2.2 ∈ tables_1_1 ∨ Cond.stringRef (cn q.1) q.2.1 q.2.2 ∈ tables_1_2 := by decide +kernel
  obtain ⟨adK, adV, k1, k2⟩ := vk_Sof (N := 7) (tm := tmJ) (len := sLen) (byt := sByt) (A := A) (by decide) (fun i hi => hs _ (m1 i hi)) (fun i hi => hs _ (m2 i hi)) (fun i hi => hs _ (m3 i hi)) (fun i hi => hs _ (m4 i hi)) (fun i hi j hj => hs _ (m5 i hi j hj)) (fun i j hi hj hij => (m6 i hi j hj hij).elim (fun z => Or.inl (hs _ z)) (fun z => Or.inr (hs _ z))) hA
  refine ⟨adK, adV, k1, fun i q hq => ?_⟩
  have hi : i < 7 := (List.getElem?_eq_some_iff.mp hq).1
  have hw : Cond.stringRef (cn q.1) q.2.1 q.2.2 ∈ lw_tbl := by
    show _ ∈ k2_sels lw_privs ++ (tables_1_1 ++ (tables_1_2 ++ (tables_1_3 ++ (tables_1_4 ++ tables_1_5))))
    simp only [List.mem_append]
    rcases m7 q (List.mem_of_getElem? hq) with z | z
    · exact Or.inr (Or.inl z)
    · exact Or.inr (Or.inr (Or.inl z))
  have e : tmJ i = Term.string (cn q.1) q.2.1 := by unfold tmJ; rw [hq]
  have k3 := k2 i hi
  rw [e] at k3
  refine vk_R.of (hts _ hw) k3

set_option maxHeartbeats 4000000 in
set_option maxRecDepth 100000 in
/-- from the law's entry to the head of its loop, and from the small machine's answer to the end -/
theorem whole_of (hlaw : ∀ (L : Nat) (xs : Nat → Int32), L ≤ 2048 → ∃ h', ev mL_law 18 [.ref 400, .ref 0, .ref 17, .int 0] [] (sto0 L xs) = some (some (.int 1), h')) {p : Program} {e : Env} {s : State} {m : MethodId} {below : List Frame} {meth : Method} {c : Code} (l : Launch) {b L : Nat} {xs : Nat → Int32} (hL : L ≤ 2048) (C0 : lw_At p s m meth c b L xs) : W p l e room_1 s m #[Value.ref b] below meth c s.heap [] 0 0 (lw_Z below #[Value.ref b] s) (entryFrame m ([Value.ref b] : List Value).toArray 4) := by
  obtain ⟨hx, hb, hr, hml, hown, hts0, hX, hbl, hlocks, hgv⟩ := id C0
  have hts : ∀ w ∈ TBg, w.before #[Value.ref b] s = true := fun w hw => hts0 w (List.mem_filter.mp hw).1
  have hA : ∀ q : Nat, s.heap.size ≤ q → (fun q : Nat => s.heap.size ≤ q) q := fun _ h => h
  obtain ⟨hNc, hNs⟩ := nwc_at hts0
  obtain ⟨c0, iS0, hKn0⟩ := u_known (C := RX0) (T := TX0) (N := 10) (n := 10) hts cw_X0 (hts (.instantiable RX0 10) wd_24)
  obtain ⟨c1, iS1, hKn1⟩ := u_known (C := RX2) (T := TX2) (N := 2) (n := 2) hts cw_X2 (hts (.instantiable RX2 2) wd_102)
  obtain ⟨c2, iS2, hKn2⟩ := u_known (C := RX3) (T := TX3) (N := 2) (n := 2) hts cw_X3 (hts (.instantiable RX3 2) wd_87)
  obtain ⟨c3, iS3, hKn3⟩ := u_known (C := RX4) (T := TX4) (N := 2) (n := 2) hts cw_X4 (hts (.instantiable RX4 2) wd_116)
  obtain ⟨c4, iS4, hKn4⟩ := u_known (C := RX5) (T := TX5) (N := 3) (n := 3) hts cw_X5 (hts (.instantiable RX5 3) wd_67)
  obtain ⟨c5, iS5, hKn5⟩ := u_known (C := RX6) (T := TX6) (N := 9) (n := 9) hts cw_X6 (hts (.instantiable RX6 9) wd_16)
  obtain ⟨c6, iS6, hKn6⟩ := u_known (C := RX7) (T := TX7) (N := 16) (n := 16) hts cw_X7 (hts (.instantiable RX7 16) wd_726)
  obtain ⟨cA, kA, comp, hfA, hkA, hkd⟩ := Cond.arrayClass_spec (hts (.arrayClass .int) wd_65)
  obtain ⟨dC, dI, hKc⟩ : ∃ (dC : Nat → ClassId) (dI : Nat → Nat → Nat), ∀ (k : Nat) (q : vw_C), clz[k]? = some q → u_Kn s q.1 q.2.1 q.2.2 (dC k) (dI k) := by
    refine ⟨fun k => match k with | 0 => c0 | 1 => c1 | 2 => c2 | 3 => c3 | 4 => c4 | 5 => c5 | _ => c6, fun k => match k with | 0 => iS0 | 1 => iS1 | 2 => iS2 | 3 => iS3 | 4 => iS4 | 5 => iS5 | _ => iS6, ?_⟩
    intro k q hq
    have h7 := clz_lt hq
    match k, h7, hq with
    | 0, _, hq => cases hq; exact hKn0
    | 1, _, hq => cases hq; exact hKn1
    | 2, _, hq => cases hq; exact hKn2
    | 3, _, hq => cases hq; exact hKn3
    | 4, _, hq => cases hq; exact hKn4
    | 5, _, hq => cases hq; exact hKn5
    | 6, _, hq => cases hq; exact hKn6
    | k + 7, h, _ => omega
  have hK : va_K (dC, dI) clz [(cA, .int)] s := by
    refine ⟨hKc, fun k q hq => ?_⟩
    match k, hq with
    | 0, hq =>
      cases hq
      exact ⟨fun n z => ⟨fun k h => (by cases h), kA, hkA, comp, hkd⟩, hfA⟩
    | k + 1, hq => simp at hq
  have hS : va_S (fun q : Nat => s.heap.size ≤ q) s.heap s.heap [] := va_S.rf
  have hP : va_P (dC, dI) clz [] s.heap := fun k q h => by simp at h
  have hD : va_D (fun q : Nat => s.heap.size ≤ q) [] := ⟨fun i j p q h => by simp at h, fun k q h => by simp at h⟩
  have hl := lv_entry ([.ref b]) (n := 4) (Nat.le_of_ble_eq_true rfl)
  rw [lg_entry_eq]
  generalize (lg_sl ([.ref b]) ++ List.replicate (4 - (lg_sl ([.ref b])).length) Slot.unset).toArray = ls at hl ⊢
  have hl : lv_has ls 4 [(0, .ref b)] := hl
  refine va_new (ci := 5) (fs := [.null, .null, .null, .int 0, .null, .null, .null, .null, .null]) (C := RX6) (T := TX6) (N := 9) hx hb hts cw_X6 tyX6 tyX6_ok hown (hts (.classLink R_law 7 RX6) wd_15) (hts (.instantiable RX6 9) wd_16) (hts (.initialized RX6) wd_1) hK hP hD hS hA rfl (by decide) (Nat.le_of_ble_eq_true rfl) (Nat.le_of_ble_eq_true rfl) dL_law_0 (fun q0 H hP hD hS => ?_)
  have hP : va_P (dC, dI) clz [(q0, .inr (5, [.null, .null, .null, .int 0, .null, .null, .null, .null, .null]))] H := hP
  have hD : va_D (fun q : Nat => s.heap.size ≤ q) [(q0, .inr (5, [.null, .null, .null, .int 0, .null, .null, .null, .null, .null]))] := hD
  refine lv_dup hx hb dL_law_3 rfl ?_
  have hPc := hP.sub (ws' := [(q0, .inr (5, [.null, .null, .null, .int 0, .null, .null, .null, .null, .null]))]) [0] rfl
  have hDc := hD.sub (ws' := [(q0, .inr (5, [.null, .null, .null, .int 0, .null, .null, .null, .null, .null]))]) [0] (by decide) rfl
  have hFc := va_free (wc := [(q0, .inr (5, [.null, .null, .null, .int 0, .null, .null, .null, .null, .null]))]) hD hS hA [0] rfl
  refine va_callv (va_runI (As := []) (rest := [.ref q0]) ⟨hx, hb, hml, hown, hts⟩ (c_X6_init l dC dI cA q0 H.size) (cwI 0 hts (gi (fun w hw => (List.mem_cons.mp hw).elim (fun z => z ▸ k_X6.1.1) (fun z => z)) : GoodIn TBg b_X6) rfl rfl rfl (hts (.initialized RX6) wd_1) (hts (.methodLink R_law 9 yX6_init) wd_17) (hts (.instanceMethod yX6_init) k_X6.2) rfl (by decide +kernel) ⟨Nat.le_of_ble_eq_true rfl, Nat.le_of_ble_eq_true rfl⟩) ⟨blind_n _ _, fun U hU hW => ⟨rfl, by rw [hU], by rw [hU]; exact hPc, va_K.moved hW.alike hK, hDc.weaken (fun _ _ _ _ => trivial), fun w hw => nwc_warm hW w hw (hNc w hw)⟩⟩ rfl rfl hl.1 rfl (lv_room (Nat.le_of_ble_eq_true rfl)) dL_law_4 ⟨Nat.le_of_ble_eq_true rfl, Nat.le_of_ble_eq_true rfl⟩) hS (fun q _ h => hFc q h) hFc (fun u t H1 locs ht hvm hw hB hz1 hk1 hS => ?_)
  obtain ⟨q1, q2, q3, q4, q5, q6, q7, q8, q9, q10, q11, q12, q13, q14, q15, q16, hP1, hK1, hD1⟩ := hB
  rw [ht] at hP1
  obtain ⟨hP, hD⟩ := va_join (wr := []) (w1 := [(q0, .inr (5, [.ref q1, .ref q4, .ref q7, .int 0, .ref q10, .ref q11, .ref q12, .ref q14, .ref q16])), (q1, .inr (0, [.ref q2, .ref q3, .int 6, .int (-8), .int (-8), .int 0, .int 0, .int 0, .int 3, .int 3])), (q2, .inl (cA, 12, .inl (fun _ => 0))), (q3, .inl (cA, 12, .inl (fun _ => 0))), (q4, .inr (0, [.ref q5, .ref q6, .int 6, .int (-8), .int (-8), .int 0, .int 0, .int 0, .int 3, .int 3])), (q5, .inl (cA, 12, .inl (fun _ => 0))), (q6, .inl (cA, 12, .inl (fun _ => 0))), (q7, .inr (0, [.ref q8, .ref q9, .int 6, .int (-8), .int (-8), .int 0, .int 0, .int 0, .int 3, .int 3])), (q8, .inl (cA, 12, .inl (fun _ => 0))), (q9, .inl (cA, 12, .inl (fun _ => 0))), (q10, .inr (4, [.int 0, .int 0, .int (-9)])), (q11, .inr (2, [.int 0, .int 0])), (q12, .inr (1, [.ref q13, .int 0])), (q13, .inl (cA, 96, .inl (fun _ => 0))), (q14, .inr (3, [.ref q15, .int 0])), (q15, .inl (cA, 12, .inl (fun _ => 0))), (q16, .inl (cA, 7, .inl (fun _ => 0)))]) hP hD [0] [] rfl rfl (by decide) (by decide) hk1 hFc hP1 hD1
  generalize H1 = H at hP hS ⊢
  have hP : va_P (dC, dI) clz [(q0, .inr (5, [.ref q1, .ref q4, .ref q7, .int 0, .ref q10, .ref q11, .ref q12, .ref q14, .ref q16])), (q1, .inr (0, [.ref q2, .ref q3, .int 6, .int (-8), .int (-8), .int 0, .int 0, .int 0, .int 3, .int 3])), (q2, .inl (cA, 12, .inl (fun _ => 0))), (q3, .inl (cA, 12, .inl (fun _ => 0))), (q4, .inr (0, [.ref q5, .ref q6, .int 6, .int (-8), .int (-8), .int 0, .int 0, .int 0, .int 3, .int 3])), (q5, .inl (cA, 12, .inl (fun _ => 0))), (q6, .inl (cA, 12, .inl (fun _ => 0))), (q7, .inr (0, [.ref q8, .ref q9, .int 6, .int (-8), .int (-8), .int 0, .int 0, .int 0, .int 3, .int 3])), (q8, .inl (cA, 12, .inl (fun _ => 0))), (q9, .inl (cA, 12, .inl (fun _ => 0))), (q10, .inr (4, [.int 0, .int 0, .int (-9)])), (q11, .inr (2, [.int 0, .int 0])), (q12, .inr (1, [.ref q13, .int 0])), (q13, .inl (cA, 96, .inl (fun _ => 0))), (q14, .inr (3, [.ref q15, .int 0])), (q15, .inl (cA, 12, .inl (fun _ => 0))), (q16, .inl (cA, 7, .inl (fun _ => 0)))] H := hP
  have hD : va_D (fun q : Nat => s.heap.size ≤ q) [(q0, .inr (5, [.ref q1, .ref q4, .ref q7, .int 0, .ref q10, .ref q11, .ref q12, .ref q14, .ref q16])), (q1, .inr (0, [.ref q2, .ref q3, .int 6, .int (-8), .int (-8), .int 0, .int 0, .int 0, .int 3, .int 3])), (q2, .inl (cA, 12, .inl (fun _ => 0))), (q3, .inl (cA, 12, .inl (fun _ => 0))), (q4, .inr (0, [.ref q5, .ref q6, .int 6, .int (-8), .int (-8), .int 0, .int 0, .int 0, .int 3, .int 3])), (q5, .inl (cA, 12, .inl (fun _ => 0))), (q6, .inl (cA, 12, .inl (fun _ => 0))), (q7, .inr (0, [.ref q8, .ref q9, .int 6, .int (-8), .int (-8), .int 0, .int 0, .int 0, .int 3, .int 3])), (q8, .inl (cA, 12, .inl (fun _ => 0))), (q9, .inl (cA, 12, .inl (fun _ => 0))), (q10, .inr (4, [.int 0, .int 0, .int (-9)])), (q11, .inr (2, [.int 0, .int 0])), (q12, .inr (1, [.ref q13, .int 0])), (q13, .inl (cA, 96, .inl (fun _ => 0))), (q14, .inr (3, [.ref q15, .int 0])), (q15, .inl (cA, 12, .inl (fun _ => 0))), (q16, .inl (cA, 7, .inl (fun _ => 0)))] := hD
  refine lv_astore_n (lv' := [(1, .ref q0), (0, .ref b)]) hx hb dL_law_7 rfl hl (by decide) rfl (fun ls hl => ?_)
  refine va_new (ci := 6) (fs := [.null, .null, .null, .null, .int 0, .null, .null, .null, .int 0, .int 0, .null, .int 0, .int 0, .null, .int 0, .int 0]) (C := RX7) (T := TX7) (N := 16) hx hb hts cw_X7 tyX7 tyX7_ok hown (hts (.classLink R_law 10 RX7) wd_725) (hts (.instantiable RX7 16) wd_726) (hts (.initialized RX7) wd_7) hK hP hD hS hA rfl (by decide) (Nat.le_of_ble_eq_true rfl) (Nat.le_of_ble_eq_true rfl) dL_law_8 (fun q17 H hP hD hS => ?_)
  have hP : va_P (dC, dI) clz [(q0, .inr (5, [.ref q1, .ref q4, .ref q7, .int 0, .ref q10, .ref q11, .ref q12, .ref q14, .ref q16])), (q1, .inr (0, [.ref q2, .ref q3, .int 6, .int (-8), .int (-8), .int 0, .int 0, .int 0, .int 3, .int 3])), (q2, .inl (cA, 12, .inl (fun _ => 0))), (q3, .inl (cA, 12, .inl (fun _ => 0))), (q4, .inr (0, [.ref q5, .ref q6, .int 6, .int (-8), .int (-8), .int 0, .int 0, .int 0, .int 3, .int 3])), (q5, .inl (cA, 12, .inl (fun _ => 0))), (q6, .inl (cA, 12, .inl (fun _ => 0))), (q7, .inr (0, [.ref q8, .ref q9, .int 6, .int (-8), .int (-8), .int 0, .int 0, .int 0, .int 3, .int 3])), (q8, .inl (cA, 12, .inl (fun _ => 0))), (q9, .inl (cA, 12, .inl (fun _ => 0))), (q10, .inr (4, [.int 0, .int 0, .int (-9)])), (q11, .inr (2, [.int 0, .int 0])), (q12, .inr (1, [.ref q13, .int 0])), (q13, .inl (cA, 96, .inl (fun _ => 0))), (q14, .inr (3, [.ref q15, .int 0])), (q15, .inl (cA, 12, .inl (fun _ => 0))), (q16, .inl (cA, 7, .inl (fun _ => 0))), (q17, .inr (6, [.null, .null, .null, .null, .int 0, .null, .null, .null, .int 0, .int 0, .null, .int 0, .int 0, .null, .int 0, .int 0]))] H := hP
  have hD : va_D (fun q : Nat => s.heap.size ≤ q) [(q0, .inr (5, [.ref q1, .ref q4, .ref q7, .int 0, .ref q10, .ref q11, .ref q12, .ref q14, .ref q16])), (q1, .inr (0, [.ref q2, .ref q3, .int 6, .int (-8), .int (-8), .int 0, .int 0, .int 0, .int 3, .int 3])), (q2, .inl (cA, 12, .inl (fun _ => 0))), (q3, .inl (cA, 12, .inl (fun _ => 0))), (q4, .inr (0, [.ref q5, .ref q6, .int 6, .int (-8), .int (-8), .int 0, .int 0, .int 0, .int 3, .int 3])), (q5, .inl (cA, 12, .inl (fun _ => 0))), (q6, .inl (cA, 12, .inl (fun _ => 0))), (q7, .inr (0, [.ref q8, .ref q9, .int 6, .int (-8), .int (-8), .int 0, .int 0, .int 0, .int 3, .int 3])), (q8, .inl (cA, 12, .inl (fun _ => 0))), (q9, .inl (cA, 12, .inl (fun _ => 0))), (q10, .inr (4, [.int 0, .int 0, .int (-9)])), (q11, .inr (2, [.int 0, .int 0])), (q12, .inr (1, [.ref q13, .int 0])), (q13, .inl (cA, 96, .inl (fun _ => 0))), (q14, .inr (3, [.ref q15, .int 0])), (q15, .inl (cA, 12, .inl (fun _ => 0))), (q16, .inl (cA, 7, .inl (fun _ => 0))), (q17, .inr (6, [.null, .null, .null, .null, .int 0, .null, .null, .null, .int 0, .int 0, .null, .int 0, .int 0, .null, .int 0, .int 0]))] := hD
  refine lv_dup hx hb dL_law_11 rfl ?_
  have hPc := hP.sub (ws' := [(q17, .inr (6, [.null, .null, .null, .null, .int 0, .null, .null, .null, .int 0, .int 0, .null, .int 0, .int 0, .null, .int 0, .int 0]))]) [17] rfl
  have hDc := hD.sub (ws' := [(q17, .inr (6, [.null, .null, .null, .null, .int 0, .null, .null, .null, .int 0, .int 0, .null, .int 0, .int 0, .null, .int 0, .int 0]))]) [17] (by decide) rfl
  have hFc := va_free (wc := [(q17, .inr (6, [.null, .null, .null, .null, .int 0, .null, .null, .null, .int 0, .int 0, .null, .int 0, .int 0, .null, .int 0, .int 0]))]) hD hS hA [17] rfl
  refine va_callv (va_runI (As := []) (rest := [.ref q17]) ⟨hx, hb, hml, hown, hts⟩ (c_X7_init l dC dI cA q17 H.size) (cwI 0 hts (gi (fun w hw => (List.mem_cons.mp hw).elim (fun z => z ▸ k_X7.1.1) (fun z => z)) : GoodIn TBg b_X7) rfl rfl rfl (hts (.initialized RX7) wd_7) (hts (.methodLink R_law 12 yX7_init) wd_727) (hts (.instanceMethod yX7_init) k_X7.2) rfl (by decide +kernel) ⟨Nat.le_of_ble_eq_true rfl, Nat.le_of_ble_eq_true rfl⟩) ⟨blind_c _ _, fun U hU hW => ⟨rfl, by rw [hU], by rw [hU]; exact hPc, va_K.moved hW.alike hK, hDc.weaken (fun _ _ _ _ => trivial)⟩⟩ rfl rfl hl.1 rfl (lv_room (Nat.le_of_ble_eq_true rfl)) dL_law_12 ⟨Nat.le_of_ble_eq_true rfl, Nat.le_of_ble_eq_true rfl⟩) hS (fun q _ h => hFc q h) hFc (fun u t H1 locs ht hvm hw hB hz1 hk1 hS => ?_)
  obtain ⟨q18, q19, q20, q21, q22, q23, q24, q25, q26, hP1, hK1, hD1⟩ := hB
  rw [ht] at hP1
  obtain ⟨hP, hD⟩ := va_join (wr := [(q0, .inr (5, [.ref q1, .ref q4, .ref q7, .int 0, .ref q10, .ref q11, .ref q12, .ref q14, .ref q16])), (q1, .inr (0, [.ref q2, .ref q3, .int 6, .int (-8), .int (-8), .int 0, .int 0, .int 0, .int 3, .int 3])), (q2, .inl (cA, 12, .inl (fun _ => 0))), (q3, .inl (cA, 12, .inl (fun _ => 0))), (q4, .inr (0, [.ref q5, .ref q6, .int 6, .int (-8), .int (-8), .int 0, .int 0, .int 0, .int 3, .int 3])), (q5, .inl (cA, 12, .inl (fun _ => 0))), (q6, .inl (cA, 12, .inl (fun _ => 0))), (q7, .inr (0, [.ref q8, .ref q9, .int 6, .int (-8), .int (-8), .int 0, .int 0, .int 0, .int 3, .int 3])), (q8, .inl (cA, 12, .inl (fun _ => 0))), (q9, .inl (cA, 12, .inl (fun _ => 0))), (q10, .inr (4, [.int 0, .int 0, .int (-9)])), (q11, .inr (2, [.int 0, .int 0])), (q12, .inr (1, [.ref q13, .int 0])), (q13, .inl (cA, 96, .inl (fun _ => 0))), (q14, .inr (3, [.ref q15, .int 0])), (q15, .inl (cA, 12, .inl (fun _ => 0))), (q16, .inl (cA, 7, .inl (fun _ => 0)))]) (w1 := [(q17, .inr (6, [.ref q18, .ref q19, .ref q20, .ref q21, .int 0, .ref q22, .ref q23, .ref q24, .int 0, .int 0, .ref q25, .int 0, .int 0, .ref q26, .int 0, .int 0])), (q18, .inl (cA, 32, .inl (upd (upd (upd (upd (upd (fun _ => 0) 0 6) 1 (-8)) 2 (-8)) 6 3) 7 3))), (q19, .inl (cA, 32, .inl (fun _ => 0))), (q20, .inl (cA, 32, .inl (fun _ => 0))), (q21, .inl (cA, 32, .inl (fun _ => 0))), (q22, .inl (cA, 96, .inl (fun _ => 0))), (q23, .inl (cA, 12, .inl (fun _ => 0))), (q24, .inl (cA, 7, .inl (fun _ => 0))), (q25, .inl (cA, 12, .inl (fun _ => 0))), (q26, .inl (cA, 3, .inl (fun _ => 0)))]) hP hD [17] [0, 1, 2, 3, 4, 5, 6, 7, 8, 9, 10, 11, 12, 13, 14, 15, 16] rfl rfl (by decide) (by decide) hk1 hFc hP1 hD1
  generalize H1 = H at hP hS ⊢
  have hP : va_P (dC, dI) clz [(q0, .inr (5, [.ref q1, .ref q4, .ref q7, .int 0, .ref q10, .ref q11, .ref q12, .ref q14, .ref q16])), (q1, .inr (0, [.ref q2, .ref q3, .int 6, .int (-8), .int (-8), .int 0, .int 0, .int 0, .int 3, .int 3])), (q2, .inl (cA, 12, .inl (fun _ => 0))), (q3, .inl (cA, 12, .inl (fun _ => 0))), (q4, .inr (0, [.ref q5, .ref q6, .int 6, .int (-8), .int (-8), .int 0, .int 0, .int 0, .int 3, .int 3])), (q5, .inl (cA, 12, .inl (fun _ => 0))), (q6, .inl (cA, 12, .inl (fun _ => 0))), (q7, .inr (0, [.ref q8, .ref q9, .int 6, .int (-8), .int (-8), .int 0, .int 0, .int 0, .int 3, .int 3])), (q8, .inl (cA, 12, .inl (fun _ => 0))), (q9, .inl (cA, 12, .inl (fun _ => 0))), (q10, .inr (4, [.int 0, .int 0, .int (-9)])), (q11, .inr (2, [.int 0, .int 0])), (q12, .inr (1, [.ref q13, .int 0])), (q13, .inl (cA, 96, .inl (fun _ => 0))), (q14, .inr (3, [.ref q15, .int 0])), (q15, .inl (cA, 12, .inl (fun _ => 0))), (q16, .inl (cA, 7, .inl (fun _ => 0))), (q17, .inr (6, [.ref q18, .ref q19, .ref q20, .ref q21, .int 0, .ref q22, .ref q23, .ref q24, .int 0, .int 0, .ref q25, .int 0, .int 0, .ref q26, .int 0, .int 0])), (q18, .inl (cA, 32, .inl (upd (upd (upd (upd (upd (fun _ => 0) 0 6) 1 (-8)) 2 (-8)) 6 3) 7 3))), (q19, .inl (cA, 32, .inl (fun _ => 0))), (q20, .inl (cA, 32, .inl (fun _ => 0))), (q21, .inl (cA, 32, .inl (fun _ => 0))), (q22, .inl (cA, 96, .inl (fun _ => 0))), (q23, .inl (cA, 12, .inl (fun _ => 0))), (q24, .inl (cA, 7, .inl (fun _ => 0))), (q25, .inl (cA, 12, .inl (fun _ => 0))), (q26, .inl (cA, 3, .inl (fun _ => 0)))] H := hP
  have hD : va_D (fun q : Nat => s.heap.size ≤ q) [(q0, .inr (5, [.ref q1, .ref q4, .ref q7, .int 0, .ref q10, .ref q11, .ref q12, .ref q14, .ref q16])), (q1, .inr (0, [.ref q2, .ref q3, .int 6, .int (-8), .int (-8), .int 0, .int 0, .int 0, .int 3, .int 3])), (q2, .inl (cA, 12, .inl (fun _ => 0))), (q3, .inl (cA, 12, .inl (fun _ => 0))), (q4, .inr (0, [.ref q5, .ref q6, .int 6, .int (-8), .int (-8), .int 0, .int 0, .int 0, .int 3, .int 3])), (q5, .inl (cA, 12, .inl (fun _ => 0))), (q6, .inl (cA, 12, .inl (fun _ => 0))), (q7, .inr (0, [.ref q8, .ref q9, .int 6, .int (-8), .int (-8), .int 0, .int 0, .int 0, .int 3, .int 3])), (q8, .inl (cA, 12, .inl (fun _ => 0))), (q9, .inl (cA, 12, .inl (fun _ => 0))), (q10, .inr (4, [.int 0, .int 0, .int (-9)])), (q11, .inr (2, [.int 0, .int 0])), (q12, .inr (1, [.ref q13, .int 0])), (q13, .inl (cA, 96, .inl (fun _ => 0))), (q14, .inr (3, [.ref q15, .int 0])), (q15, .inl (cA, 12, .inl (fun _ => 0))), (q16, .inl (cA, 7, .inl (fun _ => 0))), (q17, .inr (6, [.ref q18, .ref q19, .ref q20, .ref q21, .int 0, .ref q22, .ref q23, .ref q24, .int 0, .int 0, .ref q25, .int 0, .int 0, .ref q26, .int 0, .int 0])), (q18, .inl (cA, 32, .inl (upd (upd (upd (upd (upd (fun _ => 0) 0 6) 1 (-8)) 2 (-8)) 6 3) 7 3))), (q19, .inl (cA, 32, .inl (fun _ => 0))), (q20, .inl (cA, 32, .inl (fun _ => 0))), (q21, .inl (cA, 32, .inl (fun _ => 0))), (q22, .inl (cA, 96, .inl (fun _ => 0))), (q23, .inl (cA, 12, .inl (fun _ => 0))), (q24, .inl (cA, 7, .inl (fun _ => 0))), (q25, .inl (cA, 12, .inl (fun _ => 0))), (q26, .inl (cA, 3, .inl (fun _ => 0)))] := hD
  refine lv_astore_n (lv' := [(2, .ref q17), (1, .ref q0), (0, .ref b)]) hx hb dL_law_15 rfl hl (by decide) rfl (fun ls hl => ?_)
  refine lv_iconst (v := 0) hx hb dL_law_16 (by decide) ?_
  refine lv_istore_n (lv' := [(3, .int 0), (2, .ref q17), (1, .ref q0), (0, .ref b)]) hx hb dL_law_17 rfl hl (by decide) rfl (fun ls hl => ?_)
  refine va_forget (fun q hq => hS.2.2 q hq) ?_
  refine W.widen (k := 27) (n := 509) (Nat.le_of_ble_eq_true rfl) (Nat.le_of_ble_eq_true rfl) ?_
  obtain ⟨AD, hAD⟩ : ∃ z : List Nat, z = [q0, q1, q2, q3, q4, q5, q6, q7, q8, q9, q10, q11, q12, q13, q14, q15, q16, q17, q18, q19, q20, q21, q22, q23, q24, q25, q26] := ⟨_, rfl⟩
  have hge : ∀ c, c < 27 → s.heap.size ≤ AD.getD c 0 := by
    intro c hc
    rw [hAD]
    have key := hD.2 c
    clear hAD hP hS hK hD
    match c, hc with
    | 0, _ => exact key _ rfl
    | 1, _ => exact key _ rfl
    | 2, _ => exact key _ rfl
    | 3, _ => exact key _ rfl
    | 4, _ => exact key _ rfl
    | 5, _ => exact key _ rfl
    | 6, _ => exact key _ rfl
    | 7, _ => exact key _ rfl
    | 8, _ => exact key _ rfl
    | 9, _ => exact key _ rfl
    | 10, _ => exact key _ rfl
    | 11, _ => exact key _ rfl
    | 12, _ => exact key _ rfl
    | 13, _ => exact key _ rfl
    | 14, _ => exact key _ rfl
    | 15, _ => exact key _ rfl
    | 16, _ => exact key _ rfl
    | 17, _ => exact key _ rfl
    | 18, _ => exact key _ rfl
    | 19, _ => exact key _ rfl
    | 20, _ => exact key _ rfl
    | 21, _ => exact key _ rfl
    | 22, _ => exact key _ rfl
    | 23, _ => exact key _ rfl
    | 24, _ => exact key _ rfl
    | 25, _ => exact key _ rfl
    | 26, _ => exact key _ rfl
    | k + 27, h => omega
  have hinj : ∀ i j, i < 27 → j < 27 → AD.getD i 0 = AD.getD j 0 → i = j := by
    intro i j hi hj hij
    have g1 := fst_at AD (i := i) (ws := [(q0, .inr (5, [.ref q1, .ref q4, .ref q7, .int 0, .ref q10, .ref q11, .ref q12, .ref q14, .ref q16])), (q1, .inr (0, [.ref q2, .ref q3, .int 6, .int (-8), .int (-8), .int 0, .int 0, .int 0, .int 3, .int 3])), (q2, .inl (cA, 12, .inl (fun _ => 0))), (q3, .inl (cA, 12, .inl (fun _ => 0))), (q4, .inr (0, [.ref q5, .ref q6, .int 6, .int (-8), .int (-8), .int 0, .int 0, .int 0, .int 3, .int 3])), (q5, .inl (cA, 12, .inl (fun _ => 0))), (q6, .inl (cA, 12, .inl (fun _ => 0))), (q7, .inr (0, [.ref q8, .ref q9, .int 6, .int (-8), .int (-8), .int 0, .int 0, .int 0, .int 3, .int 3])), (q8, .inl (cA, 12, .inl (fun _ => 0))), (q9, .inl (cA, 12, .inl (fun _ => 0))), (q10, .inr (4, [.int 0, .int 0, .int (-9)])), (q11, .inr (2, [.int 0, .int 0])), (q12, .inr (1, [.ref q13, .int 0])), (q13, .inl (cA, 96, .inl (fun _ => 0))), (q14, .inr (3, [.ref q15, .int 0])), (q15, .inl (cA, 12, .inl (fun _ => 0))), (q16, .inl (cA, 7, .inl (fun _ => 0))), (q17, .inr (6, [.ref q18, .ref q19, .ref q20, .ref q21, .int 0, .ref q22, .ref q23, .ref q24, .int 0, .int 0, .ref q25, .int 0, .int 0, .ref q26, .int 0, .int 0])), (q18, .inl (cA, 32, .inl (upd (upd (upd (upd (upd (fun _ => 0) 0 6) 1 (-8)) 2 (-8)) 6 3) 7 3))), (q19, .inl (cA, 32, .inl (fun _ => 0))), (q20, .inl (cA, 32, .inl (fun _ => 0))), (q21, .inl (cA, 32, .inl (fun _ => 0))), (q22, .inl (cA, 96, .inl (fun _ => 0))), (q23, .inl (cA, 12, .inl (fun _ => 0))), (q24, .inl (cA, 7, .inl (fun _ => 0))), (q25, .inl (cA, 12, .inl (fun _ => 0))), (q26, .inl (cA, 3, .inl (fun _ => 0)))]) (by rw [hAD]; rfl) (by show i < 27; exact hi)
    have g2 := fst_at AD (i := j) (ws := [(q0, .inr (5, [.ref q1, .ref q4, .ref q7, .int 0, .ref q10, .ref q11, .ref q12, .ref q14, .ref q16])), (q1, .inr (0, [.ref q2, .ref q3, .int 6, .int (-8), .int (-8), .int 0, .int 0, .int 0, .int 3, .int 3])), (q2, .inl (cA, 12, .inl (fun _ => 0))), (q3, .inl (cA, 12, .inl (fun _ => 0))), (q4, .inr (0, [.ref q5, .ref q6, .int 6, .int (-8), .int (-8), .int 0, .int 0, .int 0, .int 3, .int 3])), (q5, .inl (cA, 12, .inl (fun _ => 0))), (q6, .inl (cA, 12, .inl (fun _ => 0))), (q7, .inr (0, [.ref q8, .ref q9, .int 6, .int (-8), .int (-8), .int 0, .int 0, .int 0, .int 3, .int 3])), (q8, .inl (cA, 12, .inl (fun _ => 0))), (q9, .inl (cA, 12, .inl (fun _ => 0))), (q10, .inr (4, [.int 0, .int 0, .int (-9)])), (q11, .inr (2, [.int 0, .int 0])), (q12, .inr (1, [.ref q13, .int 0])), (q13, .inl (cA, 96, .inl (fun _ => 0))), (q14, .inr (3, [.ref q15, .int 0])), (q15, .inl (cA, 12, .inl (fun _ => 0))), (q16, .inl (cA, 7, .inl (fun _ => 0))), (q17, .inr (6, [.ref q18, .ref q19, .ref q20, .ref q21, .int 0, .ref q22, .ref q23, .ref q24, .int 0, .int 0, .ref q25, .int 0, .int 0, .ref q26, .int 0, .int 0])), (q18, .inl (cA, 32, .inl (upd (upd (upd (upd (upd (fun _ => 0) 0 6) 1 (-8)) 2 (-8)) 6 3) 7 3))), (q19, .inl (cA, 32, .inl (fun _ => 0))), (q20, .inl (cA, 32, .inl (fun _ => 0))), (q21, .inl (cA, 32, .inl (fun _ => 0))), (q22, .inl (cA, 96, .inl (fun _ => 0))), (q23, .inl (cA, 12, .inl (fun _ => 0))), (q24, .inl (cA, 7, .inl (fun _ => 0))), (q25, .inl (cA, 12, .inl (fun _ => 0))), (q26, .inl (cA, 3, .inl (fun _ => 0)))]) (by rw [hAD]; rfl) (by show j < 27; exact hj)
    obtain ⟨p1, z1, z2⟩ := g1
    obtain ⟨p2, z3, z4⟩ := g2
    exact hD.1 i j p1 p2 z1 z3 (by rw [z2, z4]; exact hij)
  have hnA : ∀ v0 adK adV, ∀ a : Nat, a < s.heap.size → ¬ Am (dC, dI, cA, (fun c => AD.getD c 0), adK, adV, v0, b) a := by
    rintro v0 adK adV a ha ⟨c, hc, rfl⟩
    exact absurd (hge c hc) (Nat.not_le.mpr ha)
  have hflat := flat_of_before _ hgv
  have hcs : (Term.static "java/lang/String" "COMPACT_STRINGS" "Z").eval #[Value.ref b] s none [] s = some (.int 1) := va_eqt (hflat (Cond.eq (Term.static "java/lang/String" "COMPACT_STRINGS" "Z") (.int 1)) (by decide +kernel))
  have hls1 : Cond.laysStatic "java/lang/String" "COMPACT_STRINGS" "Z" ∈ lw_tbl := List.mem_of_getElem? (i := 240) (by decide +kernel)
  have hls2 : Cond.laysStatic "jdk/internal/util/Preconditions" "SIOOBE_FORMATTER" "Ljava/util/function/BiFunction;" ∈ lw_tbl := List.mem_of_getElem? (i := 256) (by decide +kernel)
  obtain ⟨v0, hv0, hv1⟩ : ∃ v0 : Value, (v0 = .null ∨ ∃ t, v0 = .ref t) ∧ ∀ A : Nat → Prop, (∀ a : Nat, a < s.heap.size → ¬ A a) → va_Z "jdk/internal/util/Preconditions" "SIOOBE_FORMATTER" "Ljava/util/function/BiFunction;" v0 A s s.heap := by
    have z := va_Zqof (A := fun q : Nat => s.heap.size ≤ q) (hts0 _ hls2) (hts (.initialized "jdk/internal/util/Preconditions") wd_10) (hflat (Cond.isRef (Term.static "jdk/internal/util/Preconditions" "SIOOBE_FORMATTER" "Ljava/util/function/BiFunction;")) (by decide +kernel)) (fun a ha => by omega)
    have nar : ∀ {v0 : Value} {A : Nat → Prop}, (∀ a : Nat, a < s.heap.size → ¬ A a) → va_Z "jdk/internal/util/Preconditions" "SIOOBE_FORMATTER" "Ljava/util/function/BiFunction;" v0 (fun q : Nat => s.heap.size ≤ q) s s.heap → va_Z "jdk/internal/util/Preconditions" "SIOOBE_FORMATTER" "Ljava/util/function/BiFunction;" v0 A s s.heap := fun hA' z => z.narrow (fun q hq => by
      rcases Nat.lt_or_ge q s.heap.size with y | y
      · exact absurd hq (hA' q y)
      · exact y)
    rcases z with z | ⟨t, z⟩
    · exact ⟨.null, Or.inl rfl, fun A hA' => nar hA' z⟩
    · exact ⟨.ref t, Or.inr ⟨t, rfl⟩, fun A hA' => nar hA' z⟩
  obtain ⟨adK, adV, hst1, hst2⟩ := str_at (A := fun q : Nat => s.heap.size ≤ q) hgv hts0 (fun a ha => by omega)
  obtain ⟨G, hG⟩ : ∃ G : Gm, G = (dC, dI, cA, (fun c => AD.getD c 0), adK, adV, v0, b) := ⟨_, rfl⟩
  have hnA2 : ∀ a : Nat, a < s.heap.size → ¬ Am G a := by rw [hG]; exact hnA v0 adK adV
  have hAup : ∀ q, Am G q → s.heap.size ≤ q := fun q hq => by
    rcases Nat.lt_or_ge q s.heap.size with y | y
    · exact absurd hq (hnA2 q y)
    · exact y
  have hCN : CNs G s s.heap := by
    refine ⟨?_, ?_, va_Zof (hts0 _ hls1) (hts (.initialized "java/lang/String") wd_8) hcs hnA2, ?_, ?_, hNs⟩
    · have : vk_S 7 sLen sByt G.adK G.adV (Am G) s s.heap := by
        have z := hst1.narrow hAup
        rw [hG] at z ⊢
        exact z
      exact this
    · rw [hG]; exact hst2
    · have z := hv1 (Am G) hnA2
      rw [hG] at z ⊢
      exact z
    · rw [hG]; exact hv0
  have hbA : ¬ Am G b := hnA2 b hbl
  have hCx : Cx G mL_law p s m #[Value.ref b] meth c room_1 := ⟨hx, hb, hr, hml, hown, hts, hlocks, Nat.le_of_ble_eq_true rfl, Nat.le_of_ble_eq_true rfl, by rw [hG]; exact hK, hCN, by rw [hG]; exact hinj⟩
  obtain ⟨h', hev⟩ := hlaw L xs hL
  obtain ⟨n, hrun⟩ := ev_iff.mp hev
  have hfin : ∀ (pc : Nat) (H : Heap) (locs : List Loc) (ls : Array Slot), va_P G.D clz (wld G h') H → va_S (Am G) s.heap H locs → RetAt mL_law pc (some (.int 1)) → W p l e room_1 s m #[Value.ref b] below meth c H locs 27 509 (lw_Z below #[Value.ref b] s) (F0 m pc ls ((some (Value.int 1)).toList.map (cv G))) := by
    intro pc H locs ls hP hS hret
    rcases hret with ⟨v, ty, g0, g1, g2, g3⟩ | ⟨a, nm, g0, -⟩ | ⟨g0, -⟩
    · cases g0
      refine va_forget (fun q hq => hAup _ (hS.2.2 q hq)) ?_
      exact lw_ret hx hb hr hlocks g1
    · cases g0
    · cases g0
  refine snd l G n mL_law 18 _ _ _ _ _ hrun p e s m #[Value.ref b] below meth c room_1 27 509 _ hCx ⟨Nat.le_of_ble_eq_true rfl, Nat.le_of_ble_eq_true rfl⟩ hfin H [] ls ?_ ?_ ?_ ?_ rfl
  · have e1 : wld G (sto0 L xs) = [(q0, .inr (5, [.ref q1, .ref q4, .ref q7, .int 0, .ref q10, .ref q11, .ref q12, .ref q14, .ref q16])), (q1, .inr (0, [.ref q2, .ref q3, .int 6, .int (-8), .int (-8), .int 0, .int 0, .int 0, .int 3, .int 3])), (q2, .inl (cA, 12, .inl (fun _ => 0))), (q3, .inl (cA, 12, .inl (fun _ => 0))), (q4, .inr (0, [.ref q5, .ref q6, .int 6, .int (-8), .int (-8), .int 0, .int 0, .int 0, .int 3, .int 3])), (q5, .inl (cA, 12, .inl (fun _ => 0))), (q6, .inl (cA, 12, .inl (fun _ => 0))), (q7, .inr (0, [.ref q8, .ref q9, .int 6, .int (-8), .int (-8), .int 0, .int 0, .int 0, .int 3, .int 3])), (q8, .inl (cA, 12, .inl (fun _ => 0))), (q9, .inl (cA, 12, .inl (fun _ => 0))), (q10, .inr (4, [.int 0, .int 0, .int (-9)])), (q11, .inr (2, [.int 0, .int 0])), (q12, .inr (1, [.ref q13, .int 0])), (q13, .inl (cA, 96, .inl (fun _ => 0))), (q14, .inr (3, [.ref q15, .int 0])), (q15, .inl (cA, 12, .inl (fun _ => 0))), (q16, .inl (cA, 7, .inl (fun _ => 0))), (q17, .inr (6, [.ref q18, .ref q19, .ref q20, .ref q21, .int 0, .ref q22, .ref q23, .ref q24, .int 0, .int 0, .ref q25, .int 0, .int 0, .ref q26, .int 0, .int 0])), (q18, .inl (cA, 32, .inl (upd (upd (upd (upd (upd (fun _ => 0) 0 6) 1 (-8)) 2 (-8)) 6 3) 7 3))), (q19, .inl (cA, 32, .inl (fun _ => 0))), (q20, .inl (cA, 32, .inl (fun _ => 0))), (q21, .inl (cA, 32, .inl (fun _ => 0))), (q22, .inl (cA, 96, .inl (fun _ => 0))), (q23, .inl (cA, 12, .inl (fun _ => 0))), (q24, .inl (cA, 7, .inl (fun _ => 0))), (q25, .inl (cA, 12, .inl (fun _ => 0))), (q26, .inl (cA, 3, .inl (fun _ => 0)))] := by
      rw [hG, hAD]
      rfl
    rw [e1, hG]
    exact hP
  · exact ⟨hS.1, fun q h1 h2 => hS.2.1 q h1 (by omega), fun _ h => by cases h⟩
  · refine ⟨L, by omega, ?_, rfl, ?_, ?_⟩
    · rw [hG]; exact hX
    · rw [hG]; exact hbl
    · rw [hG]; rw [hG] at hbA; exact hbA
  · have e2 : lvl G [.ref 400, .ref 0, .ref 17, .int 0] = [(0, .ref b), (1, .ref q0), (2, .ref q17), (3, .int 0)] := by
      rw [hG, hAD]
      rfl
    rw [e2]
    exact lv_sub hl [3, 2, 1, 0] rfl

section SNH
variable {l : Launch} {G : Gm} {md : MD} {p : Program} {e : Env} {s : State} {m : MethodId} {args : Array Value} {below : List Frame} {meth : Method} {c : Code} {R : Room} {cells slots : Nat} {Q : State → Prop} {pc len n : Nat} {L S : List Value} {h : Sto}
theorem nw_form : ∀ w ∈ NWs, ∃ a i b n d hh, w = Cond.fieldLinkNest a i b n d hh := by
  intro w hw
  simp only [NWs, List.mem_cons, List.not_mem_nil, or_false] at hw
  rcases hw with hw | hw | hw | hw | hw | hw | hw | hw | hw | hw | hw | hw | hw <;> exact ⟨_, _, _, _, _, _, hw⟩
theorem CNs.go {U : State} {H : Heap} {locs : List Loc} (hW : s.WarmedH U.vm) (hS : va_S (Am G) s.heap H locs) (hU : U.heap = H) (k : CNs G s s.heap) : CNs G U U.heap := by
  subst hU
  obtain ⟨k1, k2, k3, k4, k5, k6⟩ := k
  refine ⟨vk_S.moved hW.alike (k1.kept hS.2.1), fun i q hq => (k2 i q hq).warm hW, va_Z.moved hW.alike (k3.kept hS.2.1), va_Z.moved hW.alike (k4.kept hS.2.1), k5, fun w hw => ?_⟩
  obtain ⟨a, i, b, n, d, hh, rfl⟩ := nw_form w hw
  exact va_Nw.warmF hW (k6 _ hw)
theorem SCr.go {U : State} {H : Heap} {locs : List Loc} (hW : s.WarmedH U.vm) (hS : va_S (Am G) s.heap H locs) (hU : U.heap = H) (k : SCr G h s s.heap) : SCr G h U U.heap := by
  subst hU
  obtain ⟨sL, k1, k2, k3, k4, k5⟩ := k
  exact ⟨sL, k1, va_X.moved hW.alike (k2.kept (hS.2.1 _ k4 k5)), k3, Nat.lt_of_lt_of_le k4 hS.1, k5⟩
/-- a contract's start and end -/
def PreB (G : Gm) (h : Sto) (U : State) : Prop := va_P G.D clz (wld G h) U.heap ∧ va_K G.D clz (tyI G) U ∧ CNs G U U.heap ∧ SCr G h U U.heap
def PostB (G : Gm) (r : Option Value) (h' : Sto) : Array Value → State → Outcome → State → Prop := fun _ st o t => (o = .returned (r.map (cv G)) ∧ va_P G.D clz (wld G h') t.heap) ∧ va_F (Am G) st t
abbrev wsM (md : MD) : List Cond := Cond.code md.nam md.cod md.mxl md.ret :: TBg
abbrev rmM (md : MD) : Room := { frames := md.frm, cells := 0, slots := 0, locals := md.loc }
def Ct (l : Launch) (G : Gm) (md : MD) (A : List Value) (h : Sto) (r : Option Value) (h' : Sto) : Prop := Met l md.nam (wsM md) (rmM md) (va_Pc (A.map (cv G)) (PreB G h)) (PostB G r h') 0 0 (Am G)
theorem pre_blind (A : List Value) : FrameBlind (va_Pc (A.map (cv G)) (PreB G h)) := by
  intro a U g mk q
  obtain ⟨q0, q1, q2, ⟨k1, k2, k3, k4, k5, k6⟩, sL, g1, g2, g3, g4, g5⟩ := q
  have hal : U.vm.Alike (U.calling g mk a).vm := Vm.Alike.refl U.vm
  refine ⟨q0, q1, va_K.moved (u := U) (U := U.calling g mk a) (Vm.Alike.refl U.vm) q2, ⟨vk_S.moved (u := U) (U := U.calling g mk a) (Vm.Alike.refl U.vm) k1, fun i q hq => vk_R.same (u := U) (U := U.calling g mk a) rfl (k2 i q hq), va_Z.moved (u := U) (U := U.calling g mk a) (Vm.Alike.refl U.vm) k3, va_Z.moved (u := U) (U := U.calling g mk a) (Vm.Alike.refl U.vm) k4, k5, fun w hw => ?_⟩, sL, g1, va_X.moved (u := U) (U := U.calling g mk a) (Vm.Alike.refl U.vm) g2, g3, g4, g5⟩
  obtain ⟨a', i, b, n, d, hh, rfl⟩ := nw_form w hw
  exact va_Nw.same (u := U) (U := U.calling g mk a) rfl rfl (k6 _ hw)
theorem gi {ws : List Cond} (hm : ∀ w ∈ ws, w ∈ TBg) : GoodIn TBg ws := fun w hw => ⟨hm w hw, (tb_good w (hm w hw)).2⟩
theorem rcv_cell {a : Nat} {H : Heap} {locs : List Loc} (hK : va_K G.D clz (tyI G) s) (hP : va_P G.D clz (wld G h) H) (hS : va_S (Am G) s.heap H locs) (hC : CNs G s s.heap) {k : Nat} (hk : rcv a = k) (hk2 : k ≠ 99) (hk3 : k ≠ 98) : ∃ b : Nat, cr G a = .ref b ∧ ∃ cellB : Cell, H[b]? = some cellB ∧ cellB.vm.isStatics = false ∧ s.vm.findClass (cn k) = some cellB.cls := by
  unfold rcv at hk
  split at hk
  · rename_i ha
    refine ⟨G.adr a, cr_lt ha, ?_⟩
    have hk7 : k < 7 := by
      rcases lyC_ci a with z | z
      · omega
      · omega
    obtain ⟨r, hr1, -, -, hr4⟩ := clz_nF k hk7
    obtain ⟨cell, g1, g2, g3⟩ := va_recv hK hP hr1 (q0 := a) (by rw [wld_get ha, cel_obj hk (by omega)])
    exact ⟨cell, g1, g2, by rw [← hr4]; exact g3⟩
  · split at hk
    · rename_i ha
      subst hk
      refine ⟨G.adK (a - 100), cr_str ha.1 ha.2, ?_⟩
      exact vk_recv hC.1 (i := a - 100) (by omega) hS
    · omega
/-- behind a call by contract -/
theorem call_join {r : Option Value} {h1 : Sto} {rest : List Value} {H : Heap} {locs : List Loc} {ls : Array Slot} {st0 : List Value} {a : Array Value} (hr : va_Run p l e R s m args below meth c H locs cells slots 0 0 (F0 m pc ls st0) (rest.map (cv G)) (PostB G r h1 a) (Am G)) (hS : va_S (Am G) s.heap H locs)
    (kk : ∀ (H1 : Heap) (locs1 : List Loc), va_P G.D clz (wld G h1) H1 → va_S (Am G) s.heap H1 locs1 → W p l e R s m args below meth c H1 locs1 cells slots Q (F0 m (pc + 3) ls ((r.toList ++ rest).map (cv G)))) : W p l e R s m args below meth c H locs cells slots Q (F0 m pc ls st0) := by
  intro T hT X
  obtain ⟨v, st₀, t, T', L, h0, X', hL, e1, e2, ⟨⟨hv, hP1⟩, hz, hkk⟩, sp⟩ := hr T hT X
  have hv' : v = r.map (cv G) := by
    have := hv
    injection this
  rw [h0] at hz hkk
  have hP2 : va_P G.D clz (wld G h1) T'.heap := by rw [e1]; exact hP1
  have hS2 : va_S (Am G) s.heap T'.heap (locs ++ L) := ⟨Nat.le_trans hS.1 (by rw [e1]; exact hz), fun q z1 z2 => by rw [e1, hkk q (Nat.lt_of_lt_of_le z1 hS.1) z2]; exact hS.2.1 q z1 z2, fun q hq => by
      rcases List.mem_append.mp hq with z | z
      · exact hS.2.2 q z
      · exact hL q z⟩
  obtain ⟨t2, a1, b1⟩ := kk T'.heap (locs ++ L) hP2 hS2 T' rfl X'
  refine ⟨t2, sp t2 ?_, b1⟩
  have e3 : v.toList ++ rest.map (cv G) = (r.toList ++ rest).map (cv G) := by
    rw [hv']
    cases r <;> rfl
  show Steps p.tables e below (T'.setTop { (F0 m pc ls st0) with pc := pc + 3, stack := v.toList ++ rest.map (cv G) }) t2
  rw [e3]
  exact a1
theorem call_sound {cal : MD} {A rest : List Value} {r : Option Value} {h1 : Sto} (C : Cx G md p s m args meth c R) (hcs : cells ≤ R.cells ∧ slots ≤ R.slots) (hd : dsc md pc L S h = some (.inr (.inr (cal, A, rest)))) (hM : Ct l G cal A h r h1) (hkp : ∀ a, 27 ≤ a → h1 a = h a) (hk : WA l G md p e s m args below meth c R cells slots Q (pc + 3) L (r.toList ++ rest) h1) : WA l G md p e s m args below meth c R cells slots Q pc L S h := by
  obtain ⟨hx, hb, hr, hml, hown, hts, hlk, hfr, hlo, hK, hC, hI⟩ := C
  obtain ⟨kd, idx, k, ⟨c1, c2, c3, c4, c5, c6, c7⟩, c8, hdec, f1, f2, f3, f4, f5, f6, f7, f8, f9⟩ := cal_inv hd
  dsimp only at c1 c2 c3 c4 c5 c6 c7
  intro H locs ls hP hS hX hv hL
  have hXn : SCr G h1 s s.heap := by
    unfold SCr at hX ⊢
    rw [hkp 400 (by omega), hkp 401 (by omega)]
    exact hX
  have hcat : 2 * (F0 m pc ls (S.map (cv G))).monitorRoom + ((rest.map (cv G)).map fun v => v.category).sum ≤ 8 := lv_room (by rw [cat_sum hC.2.2.2.2.1 f7]; exact f5)
  have hpre : ∀ U : State, U.heap = H → s.WarmedH U.vm → PreB G h U := fun U hU hW => ⟨by rw [hU]; exact hP, va_K.moved hW.alike hK, hC.go hW hS hU, hX.go hW hS hU⟩
  have hwsT : ∀ w ∈ wsM cal, w ∈ TBg := fun w hw => by
    rcases List.mem_cons.mp hw with rfl | hw
    · exact c2
    · exact hw
  have hcs0 : cells + 0 ≤ R.cells ∧ slots + 0 ≤ R.slots := hcs
  rcases hdec with ⟨rfl, hdec⟩ | ⟨rfl, hdec⟩
  · rcases c4 with ⟨-, c41, c42⟩ | ⟨z, -⟩
    · cases A with
      | nil => cases f9
      | cons v0 As =>
        cases v0 with
        | ref a =>
          have hrc : rcv a = cal.own := by
            have : (rcv a == cal.own) = true := f9
            simpa using this
          have hown_lt := c8
          obtain ⟨b, hb1, hb2⟩ := rcv_cell hK hP hS hC hrc hown_lt.1 hown_lt.2
          have hC6 : cn cal.own = cal.nam.cls := c6.symm
          rw [hC6] at hb2
          have hst : S.map (cv G) = (As.map (cv G)).reverse ++ .ref b :: rest.map (cv G) := by
            rw [f8, List.reverse_cons, List.map_append, List.map_append, List.append_assoc, List.map_reverse]
            show _ ++ ([cr G a] ++ _) = _
            rw [hb1]
            rfl
          have hG : GoodIn TBg (wsV (cn md.own) idx cal.nam.cls cal.nam (wsM cal)) := gi (fun w hw => by
            unfold wsV at hw
            rcases List.mem_append.mp hw with hw | hw
            · simp only [List.mem_cons, List.not_mem_nil, or_false] at hw
              rcases hw with rfl | rfl | rfl | rfl
              · exact c1
              · exact c41
              · exact c42
              · exact c3
            · exact hwsT w hw)
          have hAl : As.length = k := by
            simp only [List.length_cons] at f3
            omega
          have hPc : va_Pc ((Value.ref a :: As).map (cv G)) (PreB G h) = va_Pc (Value.ref b :: As.map (cv G)) (PreB G h) := by
            rw [List.map_cons]
            show va_Pc (cr G a :: _) _ = _
            rw [hb1]
          have hM' : Met l cal.nam (wsM cal) (rmM cal) (va_Pc (Value.ref b :: As.map (cv G)) (PreB G h)) (PostB G r h1) 0 0 (Am G) := by
            rw [← hPc]
            exact hM
          have hbl : FrameBlind (va_Pc (Value.ref b :: As.map (cv G)) (PreB G h)) := by
            rw [← hPc]
            exact pre_blind _
          have run := va_runV (l := l) (e := e) (below := below) (meth := meth) (cells := cells) (slots := slots) (locs := locs) (g := F0 m pc ls (S.map (cv G))) (As := As.map (cv G)) (rest := rest.map (cv G)) (b := b) (C := cal.nam.cls) (H := H) ⟨hx, hb, hml, hown, hts⟩ hM' (cwV k hts hG rfl rfl rfl ⟨rfl, c5⟩ ⟨Nat.le_trans f1 hfr, Nat.le_trans f2 hlo⟩) ⟨hbl, hb2, fun U hU hW => ⟨rfl, hpre U hU hW⟩⟩ rfl (by rw [List.length_map]; exact hAl) hv.1 hst hcat hdec hcs0
          exact call_join run hS (fun H1 locs1 hP1 hS1 => hk H1 locs1 ls hP1 hS1 hXn hv hL)
        | _ => cases f9
    · omega
  · rcases c4 with ⟨z, -⟩ | ⟨-, c41⟩
    · omega
    · have hst : S.map (cv G) = (A.map (cv G)).reverse ++ rest.map (cv G) := by rw [f8, List.map_append, List.map_reverse]
      have hG : GoodIn TBg (va_wsS (cn md.own) idx cal.nam (wsM cal)) := gi (fun w hw => by
        unfold va_wsS at hw
        rcases List.mem_append.mp hw with hw | hw
        · simp only [List.mem_cons, List.not_mem_nil, or_false] at hw
          rcases hw with rfl | rfl | rfl
          · exact c1
          · exact c41
          · exact c3
        · exact hwsT w hw)
      have run := va_runS (l := l) (e := e) (below := below) (meth := meth) (cells := cells) (slots := slots) (locs := locs) (g := F0 m pc ls (S.map (cv G))) (As := A.map (cv G)) (rest := rest.map (cv G)) (H := H) ⟨hx, hb, hml, hown, hts⟩ hM (va_cwS k hts hG rfl rfl rfl c5 ⟨Nat.le_trans f1 hfr, Nat.le_trans f2 hlo⟩) ⟨pre_blind _, fun U hU hW => ⟨rfl, hpre U hU hW⟩⟩ rfl (by rw [List.length_map]; exact f3) hv.1 hst hcat hdec hcs0
      exact call_join run hS (fun H1 locs1 hP1 hS1 => hk H1 locs1 ls hP1 hS1 hXn hv hL)
end SNH

theorem lva_mem {vs : List Value} (hv : ∀ w ∈ vs, w.category = 1) : ∀ (i j : Nat) (w : Value), vs[j]? = some w → (i + j, w) ∈ lv_args i vs := by
  induction vs with
  | nil => intro i j w h; simp at h
  | cons v vs ih =>
    intro i j w h
    have h1 : v.category = 1 := hv v List.mem_cons_self
    unfold lv_args
    rw [if_neg (by rw [h1]; decide)]
    cases j with
    | zero =>
      rw [List.getElem?_cons_zero] at h
      cases h
      exact List.mem_cons_self
    | succ j =>
      rw [List.getElem?_cons_succ] at h
      have := ih (fun w hw => hv w (List.mem_cons_of_mem _ hw)) (i + 1) j w h
      rw [show i + (j + 1) = i + 1 + j by omega]
      exact List.mem_cons_of_mem _ this
theorem lgs_len {vs : List Value} (hv : ∀ w ∈ vs, w.category = 1) : (lg_sl vs).length = vs.length := by
  induction vs with
  | nil => rfl
  | cons v vs ih =>
    have h1 : v.category = 1 := hv v List.mem_cons_self
    have := ih (fun w hw => hv w (List.mem_cons_of_mem _ hw))
    unfold lg_sl at this ⊢
    rw [List.flatMap_cons, List.length_append, this, if_neg (by rw [h1]; decide)]
    simp only [List.length_cons, List.length_nil]
    omega
theorem ent_has {G : Gm} {A : List Value} {n : Nat} {ls : Array Slot} (h0 : G.v0 = .null ∨ ∃ t, G.v0 = .ref t) (hA : A.all okV = true) (hl : lv_has ls n (lv_args 0 (A.map (cv G)))) (k : Nat) : lv_has ls n (lvl G (A ++ List.replicate k .null)) := by
  refine ⟨hl.1, hl.2.1, fun q hq => ?_⟩
  obtain ⟨v, h1, h2, h3⟩ := lvl_mem hq
  refine hl.2.2 q ?_
  have hlt : q.1 < A.length := by
    rcases Nat.lt_or_ge q.1 A.length with z | z
    · exact z
    · rw [List.getElem?_append_right z] at h1
      have := List.eq_of_mem_replicate (List.mem_of_getElem? h1)
      rw [this] at h2
      cases h2
  rw [List.getElem?_append_left hlt] at h1
  have hc : ∀ w ∈ A.map (cv G), w.category = 1 := by
    intro w hw
    obtain ⟨u, hu, rfl⟩ := List.mem_map.mp hw
    exact cv_cat h0 (List.all_eq_true.mp hA u hu)
  have := lva_mem hc 0 q.1 (cv G v) (by rw [List.getElem?_map, h1]; rfl)
  rw [Nat.zero_add, ← h3] at this
  exact this
section SNI
variable {l : Launch} {G : Gm}
/-- THE SMALL MACHINE IS TRUE: what it runs to, the JVM comes to -/
theorem snd (l : Launch) (G : Gm) : ∀ (n : Nat) (md : MD) (pc : Nat) (L S : List Value) (h : Sto) (r : Option Value) (h' : Sto), run n md pc L S h = some (r, h') → ∀ (p : Program) (e : Env) (s : State) (m : MethodId) (args : Array Value) (below : List Frame) (meth : Method) (c : Code) (R : Room) (cells slots : Nat) (Q : State → Prop), Cx G md p s m args meth c R → (cells ≤ R.cells ∧ slots ≤ R.slots) → (∀ (pc : Nat) (H : Heap) (locs : List Loc) (ls : Array Slot), va_P G.D clz (wld G h') H → va_S (Am G) s.heap H locs → RetAt md pc r → W p l e R s m args below meth c H locs cells slots Q (F0 m pc ls (r.toList.map (cv G)))) → WA l G md p e s m args below meth c R cells slots Q pc L S h := by
  intro n
  induction n with
  | zero => intro md pc L S h r h' hr; cases hr
  | succ n ih =>
    intro md pc L S h r h' hr p e s m args below meth c R cells slots Q C hcs fin
    have hr : stp (run n) md pc L S h = some (r, h') := hr
    unfold stp at hr
    cases hd : dsc md pc L S h with
    | none => rw [hd] at hr; cases hr
    | some d =>
      rw [hd] at hr
      rcases d with z | ⟨pc', L', S', h2⟩ | ⟨cal, A, rest⟩
      · cases hr
        obtain ⟨g1, g2, g3⟩ := ret_inv hd
        dsimp only at g1 g2 g3
        intro H locs ls hP hS hX hv hL
        rw [g2]
        exact fin pc H locs ls (by rw [g3]; exact hP) hS g1
      · exact go_sound C hcs hd (ih _ _ _ _ _ _ _ hr p e s m args below meth c R cells slots Q C hcs fin)
      · dsimp only at hr
        obtain ⟨⟨r1, h1⟩, q1, q2⟩ := Option.bind_eq_some_iff.mp hr
        refine call_sound C hcs hd ?_ (run_keep _ _ _ _ _ _ _ q1) (ih _ _ _ _ _ _ _ q2 p e s m args below meth c R cells slots Q C hcs fin)
        obtain ⟨kd, idx, k, ⟨c1, c2, c3, c4, c5, c6, c7⟩, -, -, -, -, f3, f4, f5, f6, f7, f8, f9⟩ := cal_inv hd
        dsimp only at c6 c7
        have hI := C.2.2.2.2.2.2.2.2.2.2.2
        clear C fin hr q2 hcs
        refine Met.ofW (cc := cal.cod) (maxL := cal.mxl) (ret := cal.ret) c7 rfl ?_
        intro p e s m args below meth c s₁ B hml hv
        obtain ⟨rfl, hP, hK, hC, hX⟩ := hv
        have hts : ∀ w ∈ TBg, w.before (A.map (cv G)).toArray s = true := fun w hw => atoms_spec (ws := wsM cal) B.pre w (List.mem_cons_of_mem _ hw)
        have hown : s.vm.findClass (cn cal.own) = some m.cls := by rw [← c6]; exact findClass_of_methodNamed B.named
        have C : Cx G cal p s m (A.map (cv G)).toArray meth c (headSpec (wsM cal) (rmM cal)).room := ⟨B.exec, B.bytes, B.returns, hml, hown, hts, B.notSynchronized, Nat.le_refl _, Nat.le_refl _, hK, hC, hI⟩
        have h0 := hC.2.2.2.2.1
        have hc1 : ∀ w ∈ A.map (cv G), w.category = 1 := by
          intro w hw
          obtain ⟨u, hu, rfl⟩ := List.mem_map.mp hw
          exact cv_cat h0 (List.all_eq_true.mp f6 u hu)
        have hlen : (lg_sl (A.map (cv G))).length ≤ cal.mxl := by rw [lgs_len hc1, List.length_map]; exact f4
        have hl := lv_entry (A.map (cv G)) (n := cal.mxl) hlen
        rw [lg_entry_eq]
        generalize (lg_sl (A.map (cv G)) ++ List.replicate (cal.mxl - (lg_sl (A.map (cv G))).length) Slot.unset).toArray = ls at hl ⊢
        have hl2 := ent_has h0 f6 hl (cal.mxl - A.length)
        refine ih cal 0 _ [] h r1 h1 q1 p e s m _ below meth c _ 0 0 _ C ⟨Nat.zero_le _, Nat.zero_le _⟩ ?_ s.heap [] ls hP va_S.rf hX hl2 (by rw [List.length_append, List.length_replicate]; omega)
        intro pc' H locs ls' hP' hS' hret
        rcases hret with ⟨v, ty, rfl, g1, g2, g3⟩ | ⟨a, nm, rfl, g1, g2, g3, g4⟩ | ⟨rfl, g1, g2⟩
        · exact W.zret (v := v) B.exec B.bytes (B.returns.trans g2) g3 (fun t ht hW => ⟨⟨rfl, by rw [ht]; exact hP'⟩, hS'.F ht⟩) hS'.2.2 g1 (hlocks := B.notSynchronized)
        · have ea : cr G a = .ref (G.adK (a - 100)) := cr_str g3 g4
          show W _ _ _ _ _ _ _ _ _ _ _ _ _ _ _ (F0 m pc' ls' [cr G a])
          rw [ea]
          exact W.aret (v := .ref (G.adK (a - 100))) B.exec B.bytes (B.returns.trans g2) (Or.inl ⟨_, rfl⟩) (Or.inr ⟨_, rfl⟩) (fun t ht hW => ⟨⟨by show _ = Outcome.returned (some (cr G a)); rw [ea], by rw [ht]; exact hP'⟩, hS'.F ht⟩) hS'.2.2 g1 (hlocks := B.notSynchronized)
        · exact W.vret B.exec B.bytes (B.returns.trans g2) (fun t ht hW => ⟨⟨rfl, by rw [ht]; exact hP'⟩, hS'.F ht⟩) hS'.2.2 g1 (hlocks := B.notSynchronized)
end SNI

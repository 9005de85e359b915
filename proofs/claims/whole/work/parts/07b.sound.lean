section SNE
variable {l : Launch} {G : Gm} {md : MD} {p : Program} {e : Env} {s : State} {m : MethodId} {args : Array Value} {below : List Frame} {meth : Method} {c : Code} {R : Room} {cells slots : Nat} {Q : State → Prop} {pc len n : Nat} {L S : List Value} {h : Sto} {q : Nat × List Value × List Value × Sto}
theorem cr_lt {a : Nat} (ha : a < 27) : cr G a = .ref (G.adr a) := by unfold cr; rw [if_pos ha]
theorem cr_str {a : Nat} (h1 : 100 ≤ a) (h2 : a < 107) : cr G a = .ref (G.adK (a - 100)) := by unfold cr; rw [if_neg (by omega), if_pos (by omega)]
theorem cr_byt {a : Nat} (h1 : 200 ≤ a) (h2 : a < 207) : cr G a = .ref (G.adV (a - 200)) := by unfold cr; rw [if_neg (by omega), if_neg (by omega), if_pos (by omega)]
theorem cr_scr : cr G 400 = .ref G.scb := by unfold cr; rw [if_neg (by omega), if_neg (by omega), if_neg (by omega), if_neg (by omega)]
theorem cr_val {a : Nat} (h1 : 100 ≤ a) (h2 : a < 107) : cr G (a + 100) = .ref (G.adV (a - 100)) := by rw [cr_byt (a := a + 100) (by omega) (by omega), show a + 100 - 200 = a - 100 by omega]
theorem fnd_mem {α : Type} {l : List α} {f : α → Bool} {a : α} (hf : l.find? f = some a) : a ∈ l ∧ f a = true := ⟨List.mem_of_find?_eq_some hf, List.find?_some hf⟩
theorem fldT_ok {own idx ci j : Nat} (hf : fldT own idx = some (ci, j)) : FldOK (own, idx, ci, j) := by
  unfold fldT at hf
  obtain ⟨a, h1, h2⟩ := Option.map_eq_some_iff.mp hf
  obtain ⟨h3, h4⟩ := fnd_mem h1
  simp only [Bool.and_eq_true, beq_iff_eq] at h4
  have e : a = (own, idx, ci, j) := Prod.ext h4.1 (Prod.ext h4.2 h2)
  rw [← e]
  exact fld_ok a h3
theorem clz_nF : ∀ ci, ci < 7 → ∃ r : vw_C, clz[ci]? = some r ∧ r.2.2 = nF ci ∧ (∀ w ∈ u_ws r.1 r.2.1 r.2.2, w ∈ TBg) ∧ r.1 = cn ci := by
  intro ci h
  match ci, h with
  | 0, _ => exact ⟨_, rfl, rfl, cw_X0, rfl⟩
  | 1, _ => exact ⟨_, rfl, rfl, cw_X2, rfl⟩
  | 2, _ => exact ⟨_, rfl, rfl, cw_X3, rfl⟩
  | 3, _ => exact ⟨_, rfl, rfl, cw_X4, rfl⟩
  | 4, _ => exact ⟨_, rfl, rfl, cw_X5, rfl⟩
  | 5, _ => exact ⟨_, rfl, rfl, cw_X6, rfl⟩
  | 6, _ => exact ⟨_, rfl, rfl, cw_X7, rfl⟩
  | k + 7, h => omega
theorem clz_lt {ci : Nat} {r : vw_C} (hr : clz[ci]? = some r) : ci < 7 := (List.getElem?_eq_some_iff.mp hr).1
/-- what a row that writes wants of a class: types, names apart, and of its slot -/
def PtyOK (r : vw_C) (ci : Nat) : Prop := ∃ ty0 : Nat → FieldType, (∀ k, k < r.2.2 → parseFieldDescriptor (r.2.1 k).2.2.1 = some (ty0 k)) ∧ (∀ a, a < r.2.2 → ∀ b, b < r.2.2 → a ≠ b → (r.2.1 a).2.1 ≠ (r.2.1 b).2.1) ∧ ∀ j, j < r.2.2 → (pty ci j = 1 → (r.2.1 j).2.2.2 = false ∧ ty0 j = .int) ∧ (pty ci j = 2 → (r.2.1 j).2.2.2 = false ∧ ty0 j = .boolean)
theorem pty_ok : ∀ ci r, clz[ci]? = some r → PtyOK r ci := by
  intro ci r hr
  have h7 := clz_lt hr
  match ci, h7, hr with
  | 0, _, hr => cases hr; exact ⟨tyX0, tyX0_ok, nmX0, by decide +kernel⟩
  | 1, _, hr => cases hr; exact ⟨tyX2, tyX2_ok, nmX2, by decide +kernel⟩
  | 2, _, hr => cases hr; exact ⟨tyX3, tyX3_ok, nmX3, by decide +kernel⟩
  | 3, _, hr => cases hr; exact ⟨tyX4, tyX4_ok, nmX4, by decide +kernel⟩
  | 4, _, hr => cases hr; exact ⟨tyX5, tyX5_ok, nmX5, by decide +kernel⟩
  | 5, _, hr => cases hr; exact ⟨tyX6, tyX6_ok, nmX6, by decide +kernel⟩
  | 6, _, hr => cases hr; exact ⟨tyX7, tyX7_ok, nmX7, by decide +kernel⟩
  | k + 7, h, _ => omega
theorem lyC_ci (a : Nat) : lyC a = 99 ∨ lyC a < 7 := by
  unfold lyC
  split <;> simp
theorem lyR_lt {a j t : Nat} (hr : lyR a j = some t) : t < 27 := by
  unfold lyR at hr
  split at hr <;> first | (cases hr; omega) | cases hr
theorem so_getf {i : Nat} (C : Cx G md p s m args meth c R) (hdec : decode md.cod pc = .ok (.getfield i, len)) (hd : x_getf md.own i len pc L S h = some (.inr (.inl q))) (hk : WA l G md p e s m args below meth c R cells slots Q q.1 q.2.1 q.2.2.1 q.2.2.2) : WA l G md p e s m args below meth c R cells slots Q pc L S h := by
  obtain ⟨hx, hb, hr, hml, hown, hts, hlk, hfr, hlo, hK, hC, hI⟩ := C
  unfold x_getf at hd
  split at hd
  · rename_i a S'
    split at hd
    · rename_i ha
      split at hd
      · rename_i ci j hf
        split at hd
        · rename_i hl
          obtain ⟨rfl, hci⟩ := hl
          obtain ⟨r, hr1, hr2, hr3⟩ := fldT_ok hf
          dsimp only at hr1 hr2 hr3
          have hci7 := clz_lt hr1
          obtain ⟨r', hr1', hn, hin, -⟩ := clz_nF ci hci7
          cases hr1.symm.trans hr1'
          intro H locs ls hP hS hX hv hL
          have he : (wld G h)[a]? = some (G.adr a, .inr (ci, fsl G a (nF ci) h)) := by rw [wld_get ha, cel_obj hci (by omega)]
          have hval : (fsl G a (nF ci) h)[j]? = some (fsv G a h j) := fsl_get (by rw [← hn]; exact hr2)
          show W p l e R s m args below meth c H locs cells slots Q (F0 m pc ls (cr G a :: S'.map (cv G)))
          rw [cr_lt ha]
          have fin : W p l e R s m args below meth c H locs cells slots Q (F0 m (pc + 3) ls (fsv G a h j :: S'.map (cv G))) := by
            unfold fsv
            cases hR : lyR a j with
            | none =>
              rw [hR] at hd
              obtain rfl := Gg_inj hd
              exact hk H locs ls hP hS hX hv hL
            | some t =>
              rw [hR] at hd
              obtain rfl := Gg_inj hd
              have k := hk H locs ls hP hS hX hv hL
              dsimp only at k ⊢
              rw [← cr_lt (lyR_lt hR)]
              exact k
          rcases hr3 with hw | ⟨host, hw⟩
          · exact va_get (D := G.D) (C := r.1) (T := r.2.1) (N := r.2.2) hx hb hts hin hown hK hP a he hr1 j hr2 (hts _ hw) (fun _ z => z) hval hdec fin
          · exact va_getN (D := G.D) (host := host) (C := r.1) (T := r.2.1) (N := r.2.2) hx hb hts hin hown hK hP a he hr1 j hr2 (va_Nw.use rfl (hC.2.2.2.2.2 _ hw)) (fun _ z => z) hval hdec fin
        · cases hd
      · cases hd
    · split at hd
      · rename_i hl
        obtain ⟨rfl, h1, h2, ho⟩ := hl
        have h1 : @LE.le Nat instLENat 100 a := h1
        have h2 : @LT.lt Nat instLTNat a 107 := h2
        have hs := hC.1.1 (a - 100) (by omega)
        have ho' : cn md.own = "java/lang/String" := by rw [ho]; rfl
        split at hd
        · rename_i hi
          subst hi
          obtain rfl := Gg_inj hd
          intro H locs ls hP hS hX hv hL
          show W p l e R s m args below meth c H locs cells slots Q (F0 m pc ls (cr G a :: S'.map (cv G)))
          rw [cr_str h1 h2]
          have k := hk H locs ls hP hS hX hv hL
          have e1 : cr G (a + 100) = .ref (G.adV (a - 100)) := cr_val h1 h2
          refine vk_getf (own := cn md.own) (ref := "java/lang/String") hx hb hs.2.2.1 hS hown (by rw [ho']; exact hts _ sv_value) (fun _ z => z) hdec ?_
          rw [← e1]
          exact k
        · split at hd
          · rename_i hi
            subst hi
            obtain rfl := Gg_inj hd
            intro H locs ls hP hS hX hv hL
            show W p l e R s m args below meth c H locs cells slots Q (F0 m pc ls (cr G a :: S'.map (cv G)))
            rw [cr_str h1 h2]
            exact vk_getf (own := cn md.own) (ref := "java/lang/String") hx hb hs.2.1 hS hown (by rw [ho']; exact hts _ sv_coder) (fun _ z => z) hdec (hk H locs ls hP hS hX hv hL)
          · cases hd
      · cases hd
  · cases hd
theorem ly_pty {a ci j : Nat} {v : Int32} (hc : lyC a = ci) (hp : pty ci j = 1 ∨ (pty ci j = 2 ∧ (v = 0 ∨ v = 1))) : lyR a j = none := by
  have hp : pty ci j ≠ 0 := by omega
  subst hc
  cases hR : lyR a j with
  | none => rfl
  | some t =>
    exfalso
    apply hp
    unfold lyR at hR
    split at hR <;> first | rfl | cases hR
theorem so_putf {i : Nat} (C : Cx G md p s m args meth c R) (hdec : decode md.cod pc = .ok (.putfield i, len)) (hd : x_putf md.own i len pc L S h = some (.inr (.inl q))) (hk : WA l G md p e s m args below meth c R cells slots Q q.1 q.2.1 q.2.2.1 q.2.2.2) : WA l G md p e s m args below meth c R cells slots Q pc L S h := by
  obtain ⟨hx, hb, hr, hml, hown, hts, hlk, hfr, hlo, hK, hC, hI⟩ := C
  unfold x_putf at hd
  split at hd
  · rename_i v a S'
    split at hd
    · rename_i ci j hf
      split at hd
      · rename_i hl
        obtain ⟨rfl, ha, hci, hp⟩ := hl
        obtain rfl := Gg_inj hd
        obtain ⟨r, hr1, hr2, hr3⟩ := fldT_ok hf
        dsimp only at hr1 hr2 hr3
        have hci7 := clz_lt hr1
        obtain ⟨r', hr1', hn, hin, -⟩ := clz_nF ci hci7
        cases hr1.symm.trans hr1'
        obtain ⟨ty0, hty, hnm, hpt⟩ := pty_ok ci r hr1
        intro H locs ls hP hS hX hv hL
        have he : (wld G h)[a]? = some (G.adr a, .inr (ci, fsl G a (nF ci) h)) := by rw [wld_get ha, cel_obj hci (by omega)]
        have hD : va_D (Am G) (wld G h) := wld_D hI
        have hjn : j < nF ci := by rw [← hn]; exact hr2
        have hRn : lyR a j = none := ly_pty hci hp
        have hset : (wld G h).set a (G.adr a, .inr (ci, (fsl G a (nF ci) h).set j (.int v))) = wld G (st h a j v) := set_wld ha (by rw [cel_obj hci (by omega), fsl_set hjn hRn])
        show W p l e R s m args below meth c H locs cells slots Q (F0 m pc ls (.int v :: cr G a :: S'.map (cv G)))
        rw [cr_lt ha]
        have fin : ∀ (H1 : Heap) (locs1 : List Loc), va_P G.D clz ((wld G h).set a (G.adr a, .inr (ci, (fsl G a (nF ci) h).set j (.int v)))) H1 → va_D (Am G) ((wld G h).set a (G.adr a, .inr (ci, (fsl G a (nF ci) h).set j (.int v)))) → va_S (Am G) s.heap H1 locs1 → W p l e R s m args below meth c H1 locs1 cells slots Q (F0 m (pc + 3) ls (S'.map (cv G))) := by
          intro H1 locs1 hP1 _ hS1
          rw [hset] at hP1
          exact hk H1 locs1 ls hP1 hS1 (hX.st ha) hv hL
        have hfin : (r.2.1 j).2.2.2 = false ∧ ∃ ty, parseFieldDescriptor (r.2.1 j).2.2.1 = some ty ∧ narrow ty (.int v) = .int v ∧ fits ty (.int v) = true := by
          rcases hp with hp | ⟨hp, hv01⟩
          · obtain ⟨g1, g2⟩ := (hpt j hr2).1 hp
            exact ⟨g1, .int, by rw [hty j hr2, g2], rfl, rfl⟩
          · obtain ⟨g1, g2⟩ := (hpt j hr2).2 hp
            exact ⟨g1, .boolean, by rw [hty j hr2, g2], by rcases hv01 with rfl | rfl <;> rfl, by rcases hv01 with rfl | rfl <;> rfl⟩
        obtain ⟨g1, ty, g2, g3, g4⟩ := hfin
        rcases hr3 with hw | ⟨host, hw⟩
        · exact va_put (D := G.D) (C := r.1) (T := r.2.1) (N := r.2.2) hx hb hts hin ty0 hty hnm hown hK hP hD hS a he hr1 j hr2 (hts _ hw) (fun _ z => z) g1 g2 g3 g4 (by rw [fsl_len]; exact hjn) hdec fin
        · exact va_putN (D := G.D) (host := host) (C := r.1) (T := r.2.1) (N := r.2.2) hx hb hts hin ty0 hty hnm hown hK hP hD hS a he hr1 j hr2 (va_Nw.use rfl (hC.2.2.2.2.2 _ hw)) (fun _ z => z) g1 g2 g3 g4 (by rw [fsl_len]; exact hjn) hdec fin
      · cases hd
    · cases hd
  · cases hd
theorem so_iald (C : Cx G md p s m args meth c R) (hdec : decode md.cod pc = .ok (.iaload, len)) (hd : x_iald len pc L S h = some (.inr (.inl q))) (hk : WA l G md p e s m args below meth c R cells slots Q q.1 q.2.1 q.2.2.1 q.2.2.2) : WA l G md p e s m args below meth c R cells slots Q pc L S h := by
  obtain ⟨hx, hb, hr, hml, hown, hts, hlk, hfr, hlo, hK, hC, hI⟩ := C
  unfold x_iald at hd
  split at hd
  · rename_i i a S'
    split at hd
    · rename_i ha
      subst ha
      split at hd
      · cases hd
      · rename_i hi
        split at hd
        · rename_i hl
          subst hl
          obtain rfl := Gg_inj hd
          intro H locs ls hP hS hX hv hL
          have k := hk H locs ls hP hS hX hv hL
          obtain ⟨sL, g1, g2, g3, g4, g5⟩ := hX
          show W p l e R s m args below meth c H locs cells slots Q (F0 m pc ls (.int i :: cr G 400 :: S'.map (cv G)))
          rw [cr_scr]
          refine va_sld hx hb g2 g4 g5 hS ?_ hdec k
          rw [g3] at hi
          have e : (Int32.ofNat sL).toNatClampNeg = sL := nI_clamp g1
          rw [e] at hi
          exact hi
        · cases hd
    · split at hd
      · rename_i n hn
        split at hd
        · cases hd
        · rename_i hi
          split at hd
          · rename_i hl
            subst hl
            obtain rfl := Gg_inj hd
            have ha := ly_a hn
            intro H locs ls hP hS hX hv hL
            show W p l e R s m args below meth c H locs cells slots Q (F0 m pc ls (.int i :: cr G a :: S'.map (cv G)))
            rw [cr_lt ha]
            exact va_iald (D := G.D) (cl := clz) hx hb hK hP a 0 (by rw [wld_get ha, cel_arr hn]) rfl hi hdec (hk H locs ls hP hS hX hv hL)
          · cases hd
      · cases hd
  · cases hd
theorem so_iast (C : Cx G md p s m args meth c R) (hdec : decode md.cod pc = .ok (.iastore, len)) (hd : x_iast len pc L S h = some (.inr (.inl q))) (hk : WA l G md p e s m args below meth c R cells slots Q q.1 q.2.1 q.2.2.1 q.2.2.2) : WA l G md p e s m args below meth c R cells slots Q pc L S h := by
  obtain ⟨hx, hb, hr, hml, hown, hts, hlk, hfr, hlo, hK, hC, hI⟩ := C
  unfold x_iast at hd
  split at hd
  · rename_i v i a S'
    split at hd
    · rename_i n hn
      split at hd
      · cases hd
      · rename_i hi
        split at hd
        · rename_i hl
          subst hl
          obtain rfl := Gg_inj hd
          have ha := ly_a hn
          intro H locs ls hP hS hX hv hL
          show W p l e R s m args below meth c H locs cells slots Q (F0 m pc ls (.int v :: .int i :: cr G a :: S'.map (cv G)))
          rw [cr_lt ha]
          refine va_iast (D := G.D) (cl := clz) hx hb hK hP (wld_D hI) hS a 0 (by rw [wld_get ha, cel_arr hn]) rfl hi hdec (fun H1 locs1 hP1 _ hS1 => ?_)
          rw [set_wld (j := i.toNatClampNeg) (v := v) ha (by rw [cel_arr hn, st_self])] at hP1
          exact hk H1 locs1 ls hP1 hS1 (hX.st ha) hv hL
        · cases hd
    · cases hd
  · cases hd
theorem so_bald (C : Cx G md p s m args meth c R) (hdec : decode md.cod pc = .ok (.baload, len)) (hd : x_bald len pc L S h = some (.inr (.inl q))) (hk : WA l G md p e s m args below meth c R cells slots Q q.1 q.2.1 q.2.2.1 q.2.2.2) : WA l G md p e s m args below meth c R cells slots Q pc L S h := by
  obtain ⟨hx, hb, hr, hml, hown, hts, hlk, hfr, hlo, hK, hC, hI⟩ := C
  unfold x_bald at hd
  split at hd
  · rename_i i a S'
    split at hd
    · rename_i hl
      obtain ⟨rfl, h1, h2, hi⟩ := hl
      have h1 : @LE.le Nat instLENat 200 a := h1
      have h2 : @LT.lt Nat instLTNat a 207 := h2
      obtain rfl := Gg_inj hd
      intro H locs ls hP hS hX hv hL
      show W p l e R s m args below meth c H locs cells slots Q (F0 m pc ls (.int i :: cr G a :: S'.map (cv G)))
      rw [cr_byt h1 h2]
      have hs := hC.1.1 (a - 200) (by omega)
      exact va_tb hx hb hs.2.2.2 hS hi rfl hdec (hk H locs ls hP hS hX hv hL)
    · cases hd
  · cases hd
theorem so_alen (C : Cx G md p s m args meth c R) (hdec : decode md.cod pc = .ok (.arraylength, len)) (hd : x_alen len pc L S h = some (.inr (.inl q))) (hk : WA l G md p e s m args below meth c R cells slots Q q.1 q.2.1 q.2.2.1 q.2.2.2) : WA l G md p e s m args below meth c R cells slots Q pc L S h := by
  obtain ⟨hx, hb, hr, hml, hown, hts, hlk, hfr, hlo, hK, hC, hI⟩ := C
  unfold x_alen at hd
  split at hd
  · rename_i a S'
    split at hd
    · rename_i ha
      subst ha
      split at hd
      · rename_i hl
        subst hl
        obtain rfl := Gg_inj hd
        intro H locs ls hP hS hX hv hL
        have k := hk H locs ls hP hS hX hv hL
        obtain ⟨sL, g1, g2, g3, g4, g5⟩ := hX
        show W p l e R s m args below meth c H locs cells slots Q (F0 m pc ls (cr G 400 :: S'.map (cv G)))
        rw [cr_scr]
        refine va_slen hx hb g2 g4 g5 hS hdec ?_
        rw [← g3]
        exact k
      · cases hd
    · split at hd
      · rename_i h12
        split at hd
        · rename_i hl
          subst hl
          obtain rfl := Gg_inj hd
          intro H locs ls hP hS hX hv hL
          show W p l e R s m args below meth c H locs cells slots Q (F0 m pc ls (cr G a :: S'.map (cv G)))
          have h1 : @LE.le Nat instLENat 200 a := h12.1
          have h2 : @LT.lt Nat instLTNat a 207 := h12.2
          rw [cr_byt h1 h2]
          have hs := hC.1.1 (a - 200) (by omega)
          exact va_tlen hx hb hs.2.2.2 hS rfl hdec (hk H locs ls hP hS hX hv hL)
        · cases hd
      · split at hd
        · rename_i n hn
          split at hd
          · rename_i hl
            subst hl
            obtain rfl := Gg_inj hd
            have ha := ly_a hn
            intro H locs ls hP hS hX hv hL
            show W p l e R s m args below meth c H locs cells slots Q (F0 m pc ls (cr G a :: S'.map (cv G)))
            rw [cr_lt ha]
            exact va_alen (D := G.D) (cl := clz) (ty := .int) (x := (n, .inl (h a))) hx hb hK hP a 0 (by rw [wld_get ha, cel_arr hn]) rfl rfl hdec (hk H locs ls hP hS hX hv hL)
          · cases hd
        · cases hd
  · cases hd
theorem so_gets {i : Nat} (C : Cx G md p s m args meth c R) (hdec : decode md.cod pc = .ok (.getstatic i, len)) (hd : x_gets md.own i len pc L S h = some (.inr (.inl q))) (hk : WA l G md p e s m args below meth c R cells slots Q q.1 q.2.1 q.2.2.1 q.2.2.2) : WA l G md p e s m args below meth c R cells slots Q pc L S h := by
  obtain ⟨hx, hb, hr, hml, hown, hts, hlk, hfr, hlo, hK, hC, hI⟩ := C
  unfold x_gets at hd
  split at hd
  · rename_i hl
    obtain ⟨rfl, ho⟩ := hl
    have ho' : cn md.own = "java/lang/String" := by rw [ho]; rfl
    split at hd
    · rename_i hi
      subst hi
      obtain rfl := Gg_inj hd
      intro H locs ls hP hS hX hv hL
      exact va_gets (own := cn md.own) (ref := "java/lang/String") hx hb hC.2.2.1 hS hown (by rw [ho']; exact hts _ gs_J0_38) (fun _ z => z) hdec (hk H locs ls hP hS hX hv hL)
    · split at hd
      · rename_i hi
        subst hi
        obtain rfl := Gg_inj hd
        intro H locs ls hP hS hX hv hL
        have k := hk H locs ls hP hS hX hv hL
        have e1 : cr G 300 = G.v0 := by unfold cr; rw [if_neg (by omega), if_neg (by omega), if_neg (by omega), if_pos rfl]
        refine va_gets (own := cn md.own) (ref := "jdk/internal/util/Preconditions") hx hb hC.2.2.2.1 hS hown (by rw [ho']; exact hts _ gs_J0_1053) (fun _ z => z) hdec ?_
        rw [← e1]
        exact k
      · cases hd
  · cases hd
theorem ldT_ok {own idx : Nat} {v : Int32} (hf : ldT own idx = some v) : Cond.constant (cn own) idx v ∈ TBg := by
  unfold ldT at hf
  obtain ⟨a, h1, h2⟩ := Option.map_eq_some_iff.mp hf
  obtain ⟨h3, h4⟩ := fnd_mem h1
  simp only [Bool.and_eq_true, beq_iff_eq] at h4
  have := ld_ok a h3
  rw [h4.1, h4.2, h2] at this
  exact this
theorem stT_ok {own idx i : Nat} (hf : stT own idx = some i) : i < 7 ∧ ∃ t : String, STB[i]? = some (own, idx, t) := by
  unfold stT at hf
  obtain ⟨h1, h2, -⟩ := List.findIdx?_eq_some_iff_getElem.mp hf
  simp only [Bool.and_eq_true, beq_iff_eq] at h2
  refine ⟨h1, STB[i].2.2, ?_⟩
  rw [List.getElem?_eq_getElem h1]
  congr 1
  exact Prod.ext h2.1 (Prod.ext h2.2 rfl)
theorem so_ldc {i : Nat} (C : Cx G md p s m args meth c R) (hdec : (n = 2 ∧ decode md.cod pc = .ok (.ldc i, len)) ∨ (n = 3 ∧ decode md.cod pc = .ok (.ldc_w i, len))) (hd : x_ldc md.own i n len pc L S h = some (.inr (.inl q))) (hk : WA l G md p e s m args below meth c R cells slots Q q.1 q.2.1 q.2.2.1 q.2.2.2) : WA l G md p e s m args below meth c R cells slots Q pc L S h := by
  obtain ⟨hx, hb, hr, hml, hown, hts, hlk, hfr, hlo, hK, hC, hI⟩ := C
  unfold x_ldc at hd
  split at hd
  · rename_i v hv0
    split at hd
    · rename_i hl
      subst hl
      obtain rfl := Gg_inj hd
      intro H locs ls hP hS hX hv hL
      have k := hk H locs ls hP hS hX hv hL
      rcases hdec with ⟨rfl, hdec⟩ | ⟨rfl, hdec⟩
      · exact lv_ldc hx hb hown (hts _ (ldT_ok hv0)) hdec k
      · exact lv_ldcw hx hb hown (hts _ (ldT_ok hv0)) hdec k
    · cases hd
  · split at hd
    · rename_i j hj
      split at hd
      · rename_i hl
        obtain ⟨rfl, rfl⟩ := hl
        obtain rfl := Gg_inj hd
        obtain ⟨h7, t, ht⟩ := stT_ok hj
        intro H locs ls hP hS hX hv hL
        have k := hk H locs ls hP hS hX hv hL
        have e1 : cr G (100 + j) = .ref (G.adK j) := by rw [cr_str (a := 100 + j) (by omega) (by omega), show 100 + j - 100 = j by omega]
        have hR : vk_R (cn md.own) i t (G.adK j) s := hC.2.1 j (md.own, i, t) ht
        have k : W p l e R s m args below meth c H locs cells slots Q (F0 m (pc + 2) ls (cr G (100 + j) :: S.map (cv G))) := k
        rw [e1] at k
        rcases hdec with ⟨-, hdec⟩ | ⟨z, -⟩
        · exact va_ldcS (own := cn md.own) (tx := t) (index := i) (q := G.adK j) hx hb hown hR hdec k
        · omega
      · cases hd
    · cases hd
theorem cat_sum (h0 : G.v0 = .null ∨ ∃ t, G.v0 = .ref t) {S' : List Value} (ho : S'.all okV = true) : ((S'.map (cv G)).map fun v => v.category).sum = S'.length := by
  induction S' with
  | nil => rfl
  | cons v S' ih =>
    simp only [List.all_cons, Bool.and_eq_true] at ho
    simp only [List.map_cons, List.sum_cons, List.length_cons]
    rw [ih ho.2, cv_cat h0 ho.1]
    omega
theorem mthT_ok {own idx w : Nat} (hf : mthT own idx = some w) : Cond.methodLink (cn own) idx (mthN w) ∈ TBg := by
  unfold mthT at hf
  obtain ⟨a, h1, h2⟩ := Option.map_eq_some_iff.mp hf
  obtain ⟨h3, h4⟩ := fnd_mem h1
  simp only [Bool.and_eq_true, beq_iff_eq] at h4
  have := mth_ok a h3
  rw [h4.1, h4.2, h2] at this
  exact this
theorem so_math {i w : Nat} (C : Cx G md p s m args meth c R) (hcs : cells ≤ R.cells ∧ slots ≤ R.slots) (hw : mthT md.own i = some w) (hdec : decode md.cod pc = .ok (.invokestatic i, len)) (hd : x_math w md len pc L S h = some (.inr (.inl q))) (hk : WA l G md p e s m args below meth c R cells slots Q q.1 q.2.1 q.2.2.1 q.2.2.2) : WA l G md p e s m args below meth c R cells slots Q pc L S h := by
  obtain ⟨hx, hb, hr, hml, hown, hts, hlk, hfr, hlo, hK, hC, hI⟩ := C
  have hlink := hts _ (mthT_ok hw)
  unfold x_math at hd
  split at hd
  · split at hd
    · rename_i y x S'
      split at hd
      · rename_i hl
        obtain ⟨rfl, h1, h2, h3, h4⟩ := hl
        obtain rfl := Gg_inj hd
        intro H locs ls hP hS hX hv hL
        exact va_mmax hx hb (by rw [hml]; exact hv.1.symm) hown hlink (hts _ ws_max) (hts _ wi_Math) (hts _ wm_max) (Nat.le_trans h1 hfr) (by rw [cat_sum hC.2.2.2.2.1 h4]; omega) hcs.1 hcs.2 hdec (hk H locs ls hP hS hX hv hL)
      · cases hd
    · cases hd
  · split at hd
    · rename_i y x S'
      split at hd
      · rename_i hl
        obtain ⟨rfl, h1, h2, h3, h4⟩ := hl
        obtain rfl := Gg_inj hd
        intro H locs ls hP hS hX hv hL
        exact va_mmin hx hb (by rw [hml]; exact hv.1.symm) hown hlink (hts _ ws_min) (hts _ wi_Math) (hts _ wm_min) (Nat.le_trans h1 hfr) (by rw [cat_sum hC.2.2.2.2.1 h4]; omega) hcs.1 hcs.2 hdec (hk H locs ls hP hS hX hv hL)
      · cases hd
    · cases hd
  · rename_i hn0 hn1
    split at hd
    · rename_i x S'
      split at hd
      · rename_i hl
        obtain ⟨rfl, h1, h2, h3, h4⟩ := hl
        obtain rfl := Gg_inj hd
        intro H locs ls hP hS hX hv hL
        have hlk2 : (Cond.methodLink (cn md.own) i Lib.Math.abs.name).before args s = true := by
          have e : mthN w = Lib.Math.abs.name := by
            unfold mthN
            split
            · exact absurd rfl hn0
            · exact absurd rfl hn1
            · rfl
          rw [← e]
          exact hlink
        exact va_mabs hx hb (by rw [hml]; exact hv.1.symm) hown hlk2 (hts _ ws_abs) (hts _ wi_Math) (hts _ wm_abs) (Nat.le_trans h1 hfr) (by rw [cat_sum hC.2.2.2.2.1 h4]; omega) hcs.1 hcs.2 hdec (hk H locs ls hP hS hX hv hL)
      · cases hd
    · cases hd
end SNE

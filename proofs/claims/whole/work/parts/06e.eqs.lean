theorem eL_law_18 {a0 a1 a2 : Value} {x : Int32} {T S : List Value} {h : Sto} : ev mL_law 18 (a0 :: a1 :: a2 :: .int x :: T) S h = ev mL_law 19 (a0 :: a1 :: a2 :: .int x :: T) (.int x :: S) h := g_iload_n dL_law_18 rfl
theorem eL_law_19 {x : Nat} {T S : List Value} {h : Sto} : ev mL_law 19 (.ref x :: T) S h = ev mL_law 20 (.ref x :: T) (.ref x :: S) h := g_aload_n dL_law_19 rfl
theorem eL_law_20  {L S : List Value} {h : Sto} : ev mL_law 20 L (.ref 400 :: S) h = ev mL_law 21 L (.int (h 401 0) :: S) h := g_alenX dL_law_20
theorem eL_law_21  {L S : List Value} {h : Sto} : ev mL_law 21 L S h = ev mL_law 22 L (.int 4 :: S) h := g_iconst (v := 4) dL_law_21 (by decide)
theorem eL_law_22 {x y : Int32} {L S : List Value} {h : Sto} : ev mL_law 22 L (.int y :: .int x :: S) h = ev mL_law 23 L (.int (x - y) :: S) h := g_isub dL_law_22
theorem eL_law_23 {x y : Int32} {L S : List Value} {h : Sto} : ev mL_law 23 L (.int y :: .int x :: S) h = if y < x then ev mL_law 1066 L S h else ev mL_law 26 L S h := g_icmpgt (tgt := 1066) dL_law_23 (by decide)
theorem eL_law_26 {x : Nat} {T S : List Value} {h : Sto} : ev mL_law 26 (.ref x :: T) S h = ev mL_law 27 (.ref x :: T) (.ref x :: S) h := g_aload_n dL_law_26 rfl
theorem eL_law_27 {a0 a1 a2 : Value} {x : Int32} {T S : List Value} {h : Sto} : ev mL_law 27 (a0 :: a1 :: a2 :: .int x :: T) S h = ev mL_law 28 (a0 :: a1 :: a2 :: .int x :: T) (.int x :: S) h := g_iload_n dL_law_27 rfl
theorem eL_law_28 {x : Int32} {L S : List Value} {h : Sto} : ev mL_law 28 L (.int x :: .ref 400 :: S) h = if x < 0 ∨ (h 401 0).toNatClampNeg ≤ x.toNatClampNeg then none else ev mL_law 29 L (.int (h 400 x.toNatClampNeg) :: S) h := g_iaX dL_law_28
theorem eL_law_29  {L S : List Value} {h : Sto} : ev mL_law 29 L S h = ev mL_law 31 L (.int 63 :: S) h := g_bipush (v := 63) dL_law_29 (by decide)
theorem eL_law_31 {x y : Int32} {L S : List Value} {h : Sto} : ev mL_law 31 L (.int y :: .int x :: S) h = ev mL_law 32 L (.int (x &&& y) :: S) h := g_iand dL_law_31
theorem eL_law_32 {x : Int32} {L S : List Value} {h : Sto} : ev mL_law 32 L (.int x :: S) h = if x = 0 then ev mL_law 192 L S h else if x = 1 then ev mL_law 215 L S h else if x = 2 then ev mL_law 228 L S h else if x = 3 then ev mL_law 261 L S h else if x = 4 then ev mL_law 304 L S h else if x = 5 then ev mL_law 327 L S h else if x = 6 then ev mL_law 360 L S h else if x = 7 then ev mL_law 383 L S h else if x = 8 then ev mL_law 396 L S h else if x = 9 then ev mL_law 429 L S h else if x = 10 then ev mL_law 462 L S h else if x = 11 then ev mL_law 485 L S h else if x = 12 then ev mL_law 498 L S h else if x = 13 then ev mL_law 521 L S h else if x = 14 then ev mL_law 554 L S h else if x = 15 then ev mL_law 587 L S h else if x = 16 then ev mL_law 600 L S h else if x = 17 then ev mL_law 623 L S h else if x = 18 then ev mL_law 656 L S h else if x = 19 then ev mL_law 679 L S h else if x = 20 then ev mL_law 692 L S h else if x = 21 then ev mL_law 715 L S h else if x = 22 then ev mL_law 748 L S h else if x = 23 then ev mL_law 781 L S h else if x = 24 then ev mL_law 804 L S h else if x = 25 then ev mL_law 827 L S h else if x = 26 then ev mL_law 840 L S h else if x = 27 then ev mL_law 853 L S h else if x = 28 then ev mL_law 876 L S h else if x = 29 then ev mL_law 889 L S h else if x = 30 then ev mL_law 922 L S h else if x = 31 then ev mL_law 945 L S h else if x = 32 then ev mL_law 968 L S h else if x = 33 then ev mL_law 1011 L S h else if x = 34 then ev mL_law 1024 L S h else if x = 35 then ev mL_law 1037 L S h else ev mL_law 1060 L S h := by
  by_cases h0 : x = 0
  · subst h0; rw [if_pos rfl]; exact g_tswIn (off := 160) (tgt := 192) dL_law_32 (by decide) (by decide) (by decide)
  rw [if_neg h0]
  by_cases h1 : x = 1
  · subst h1; rw [if_pos rfl]; exact g_tswIn (off := 183) (tgt := 215) dL_law_32 (by decide) (by decide) (by decide)
  rw [if_neg h1]
  by_cases h2 : x = 2
  · subst h2; rw [if_pos rfl]; exact g_tswIn (off := 196) (tgt := 228) dL_law_32 (by decide) (by decide) (by decide)
  rw [if_neg h2]
  by_cases h3 : x = 3
  · subst h3; rw [if_pos rfl]; exact g_tswIn (off := 229) (tgt := 261) dL_law_32 (by decide) (by decide) (by decide)
  rw [if_neg h3]
  by_cases h4 : x = 4
  · subst h4; rw [if_pos rfl]; exact g_tswIn (off := 272) (tgt := 304) dL_law_32 (by decide) (by decide) (by decide)
  rw [if_neg h4]
  by_cases h5 : x = 5
  · subst h5; rw [if_pos rfl]; exact g_tswIn (off := 295) (tgt := 327) dL_law_32 (by decide) (by decide) (by decide)
  rw [if_neg h5]
  by_cases h6 : x = 6
  · subst h6; rw [if_pos rfl]; exact g_tswIn (off := 328) (tgt := 360) dL_law_32 (by decide) (by decide) (by decide)
  rw [if_neg h6]
  by_cases h7 : x = 7
  · subst h7; rw [if_pos rfl]; exact g_tswIn (off := 351) (tgt := 383) dL_law_32 (by decide) (by decide) (by decide)
  rw [if_neg h7]
  by_cases h8 : x = 8
  · subst h8; rw [if_pos rfl]; exact g_tswIn (off := 364) (tgt := 396) dL_law_32 (by decide) (by decide) (by decide)
  rw [if_neg h8]
  by_cases h9 : x = 9
  · subst h9; rw [if_pos rfl]; exact g_tswIn (off := 397) (tgt := 429) dL_law_32 (by decide) (by decide) (by decide)
  rw [if_neg h9]
  by_cases h10 : x = 10
  · subst h10; rw [if_pos rfl]; exact g_tswIn (off := 430) (tgt := 462) dL_law_32 (by decide) (by decide) (by decide)
  rw [if_neg h10]
  by_cases h11 : x = 11
  · subst h11; rw [if_pos rfl]; exact g_tswIn (off := 453) (tgt := 485) dL_law_32 (by decide) (by decide) (by decide)
  rw [if_neg h11]
  by_cases h12 : x = 12
  · subst h12; rw [if_pos rfl]; exact g_tswIn (off := 466) (tgt := 498) dL_law_32 (by decide) (by decide) (by decide)
  rw [if_neg h12]
  by_cases h13 : x = 13
  · subst h13; rw [if_pos rfl]; exact g_tswIn (off := 489) (tgt := 521) dL_law_32 (by decide) (by decide) (by decide)
  rw [if_neg h13]
  by_cases h14 : x = 14
  · subst h14; rw [if_pos rfl]; exact g_tswIn (off := 522) (tgt := 554) dL_law_32 (by decide) (by decide) (by decide)
  rw [if_neg h14]
  by_cases h15 : x = 15
  · subst h15; rw [if_pos rfl]; exact g_tswIn (off := 555) (tgt := 587) dL_law_32 (by decide) (by decide) (by decide)
  rw [if_neg h15]
  by_cases h16 : x = 16
  · subst h16; rw [if_pos rfl]; exact g_tswIn (off := 568) (tgt := 600) dL_law_32 (by decide) (by decide) (by decide)
  rw [if_neg h16]
  by_cases h17 : x = 17
  · subst h17; rw [if_pos rfl]; exact g_tswIn (off := 591) (tgt := 623) dL_law_32 (by decide) (by decide) (by decide)
  rw [if_neg h17]
  by_cases h18 : x = 18
  · subst h18; rw [if_pos rfl]; exact g_tswIn (off := 624) (tgt := 656) dL_law_32 (by decide) (by decide) (by decide)
  rw [if_neg h18]
  by_cases h19 : x = 19
  · subst h19; rw [if_pos rfl]; exact g_tswIn (off := 647) (tgt := 679) dL_law_32 (by decide) (by decide) (by decide)
  rw [if_neg h19]
  by_cases h20 : x = 20
  · subst h20; rw [if_pos rfl]; exact g_tswIn (off := 660) (tgt := 692) dL_law_32 (by decide) (by decide) (by decide)
  rw [if_neg h20]
  by_cases h21 : x = 21
  · subst h21; rw [if_pos rfl]; exact g_tswIn (off := 683) (tgt := 715) dL_law_32 (by decide) (by decide) (by decide)
  rw [if_neg h21]
  by_cases h22 : x = 22
  · subst h22; rw [if_pos rfl]; exact g_tswIn (off := 716) (tgt := 748) dL_law_32 (by decide) (by decide) (by decide)
  rw [if_neg h22]
  by_cases h23 : x = 23
  · subst h23; rw [if_pos rfl]; exact g_tswIn (off := 749) (tgt := 781) dL_law_32 (by decide) (by decide) (by decide)
  rw [if_neg h23]
  by_cases h24 : x = 24
  · subst h24; rw [if_pos rfl]; exact g_tswIn (off := 772) (tgt := 804) dL_law_32 (by decide) (by decide) (by decide)
  rw [if_neg h24]
  by_cases h25 : x = 25
  · subst h25; rw [if_pos rfl]; exact g_tswIn (off := 795) (tgt := 827) dL_law_32 (by decide) (by decide) (by decide)
  rw [if_neg h25]
  by_cases h26 : x = 26
  · subst h26; rw [if_pos rfl]; exact g_tswIn (off := 808) (tgt := 840) dL_law_32 (by decide) (by decide) (by decide)
  rw [if_neg h26]
  by_cases h27 : x = 27
  · subst h27; rw [if_pos rfl]; exact g_tswIn (off := 821) (tgt := 853) dL_law_32 (by decide) (by decide) (by decide)
  rw [if_neg h27]
  by_cases h28 : x = 28
  · subst h28; rw [if_pos rfl]; exact g_tswIn (off := 844) (tgt := 876) dL_law_32 (by decide) (by decide) (by decide)
  rw [if_neg h28]
  by_cases h29 : x = 29
  · subst h29; rw [if_pos rfl]; exact g_tswIn (off := 857) (tgt := 889) dL_law_32 (by decide) (by decide) (by decide)
  rw [if_neg h29]
  by_cases h30 : x = 30
  · subst h30; rw [if_pos rfl]; exact g_tswIn (off := 890) (tgt := 922) dL_law_32 (by decide) (by decide) (by decide)
  rw [if_neg h30]
  by_cases h31 : x = 31
  · subst h31; rw [if_pos rfl]; exact g_tswIn (off := 913) (tgt := 945) dL_law_32 (by decide) (by decide) (by decide)
  rw [if_neg h31]
  by_cases h32 : x = 32
  · subst h32; rw [if_pos rfl]; exact g_tswIn (off := 936) (tgt := 968) dL_law_32 (by decide) (by decide) (by decide)
  rw [if_neg h32]
  by_cases h33 : x = 33
  · subst h33; rw [if_pos rfl]; exact g_tswIn (off := 979) (tgt := 1011) dL_law_32 (by decide) (by decide) (by decide)
  rw [if_neg h33]
  by_cases h34 : x = 34
  · subst h34; rw [if_pos rfl]; exact g_tswIn (off := 992) (tgt := 1024) dL_law_32 (by decide) (by decide) (by decide)
  rw [if_neg h34]
  by_cases h35 : x = 35
  · subst h35; rw [if_pos rfl]; exact g_tswIn (off := 1005) (tgt := 1037) dL_law_32 (by decide) (by decide) (by decide)
  rw [if_neg h35]
  have n0 := lv_neT (a := 0) h0 (by decide)
  have n1 := lv_neT (a := 1) h1 (by decide)
  have n2 := lv_neT (a := 2) h2 (by decide)
  have n3 := lv_neT (a := 3) h3 (by decide)
  have n4 := lv_neT (a := 4) h4 (by decide)
  have n5 := lv_neT (a := 5) h5 (by decide)
  have n6 := lv_neT (a := 6) h6 (by decide)
  have n7 := lv_neT (a := 7) h7 (by decide)
  have n8 := lv_neT (a := 8) h8 (by decide)
  have n9 := lv_neT (a := 9) h9 (by decide)
  have n10 := lv_neT (a := 10) h10 (by decide)
  have n11 := lv_neT (a := 11) h11 (by decide)
  have n12 := lv_neT (a := 12) h12 (by decide)
  have n13 := lv_neT (a := 13) h13 (by decide)
  have n14 := lv_neT (a := 14) h14 (by decide)
  have n15 := lv_neT (a := 15) h15 (by decide)
  have n16 := lv_neT (a := 16) h16 (by decide)
  have n17 := lv_neT (a := 17) h17 (by decide)
  have n18 := lv_neT (a := 18) h18 (by decide)
  have n19 := lv_neT (a := 19) h19 (by decide)
  have n20 := lv_neT (a := 20) h20 (by decide)
  have n21 := lv_neT (a := 21) h21 (by decide)
  have n22 := lv_neT (a := 22) h22 (by decide)
  have n23 := lv_neT (a := 23) h23 (by decide)
  have n24 := lv_neT (a := 24) h24 (by decide)
  have n25 := lv_neT (a := 25) h25 (by decide)
  have n26 := lv_neT (a := 26) h26 (by decide)
  have n27 := lv_neT (a := 27) h27 (by decide)
  have n28 := lv_neT (a := 28) h28 (by decide)
  have n29 := lv_neT (a := 29) h29 (by decide)
  have n30 := lv_neT (a := 30) h30 (by decide)
  have n31 := lv_neT (a := 31) h31 (by decide)
  have n32 := lv_neT (a := 32) h32 (by decide)
  have n33 := lv_neT (a := 33) h33 (by decide)
  have n34 := lv_neT (a := 34) h34 (by decide)
  have n35 := lv_neT (a := 35) h35 (by decide)
  exact g_tswOut (tgt := 1060) dL_law_32 (by omega) (by decide)
theorem eL_law_192 {a0 : Value} {x : Nat} {T S : List Value} {h : Sto} : ev mL_law 192 (a0 :: .ref x :: T) S h = ev mL_law 193 (a0 :: .ref x :: T) (.ref x :: S) h := g_aload_n dL_law_192 rfl
theorem eL_law_193 {x : Nat} {T S : List Value} {h : Sto} : ev mL_law 193 (.ref x :: T) S h = ev mL_law 194 (.ref x :: T) (.ref x :: S) h := g_aload_n dL_law_193 rfl
theorem eL_law_194 {a0 a1 a2 : Value} {x : Int32} {T S : List Value} {h : Sto} : ev mL_law 194 (a0 :: a1 :: a2 :: .int x :: T) S h = ev mL_law 195 (a0 :: a1 :: a2 :: .int x :: T) (.int x :: S) h := g_iload_n dL_law_194 rfl
theorem eL_law_195  {L S : List Value} {h : Sto} : ev mL_law 195 L S h = ev mL_law 196 L (.int 1 :: S) h := g_iconst (v := 1) dL_law_195 (by decide)
theorem eL_law_196 {x y : Int32} {L S : List Value} {h : Sto} : ev mL_law 196 L (.int y :: .int x :: S) h = ev mL_law 197 L (.int (x + y) :: S) h := g_iadd dL_law_196
theorem eL_law_197 {x : Int32} {L S : List Value} {h : Sto} : ev mL_law 197 L (.int x :: .ref 400 :: S) h = if x < 0 ∨ (h 401 0).toNatClampNeg ≤ x.toNatClampNeg then none else ev mL_law 198 L (.int (h 400 x.toNatClampNeg) :: S) h := g_iaX dL_law_197
theorem eL_law_198 {s0 : Int32} {L : List Value} {h : Sto} : ev mL_law 198 L [.int s0, .ref 0] h = (ev mX6_letter 0 [.ref 0, .int s0, .null] [] h).bind (fun q => ev mL_law 201 L (q.1.toList ++ []) q.2) := g_calV (i := 13) (n := 1) (cal := mX6_letter) (A := [.ref 0, .int s0]) (rest := []) dL_law_198 (by rfl) (by decide) ⟨by simp only [List.length_cons, List.length_nil]; omega, by simp only [List.drop, List.length_cons, List.length_nil]; omega, rfl⟩ rfl rfl rfl rfl
theorem eL_law_201 {a0 a1 : Value} {x : Nat} {T S : List Value} {h : Sto} : ev mL_law 201 (a0 :: a1 :: .ref x :: T) S h = ev mL_law 202 (a0 :: a1 :: .ref x :: T) (.ref x :: S) h := g_aload_n dL_law_201 rfl
theorem eL_law_202 {x : Nat} {T S : List Value} {h : Sto} : ev mL_law 202 (.ref x :: T) S h = ev mL_law 203 (.ref x :: T) (.ref x :: S) h := g_aload_n dL_law_202 rfl
theorem eL_law_203 {a0 a1 a2 : Value} {x : Int32} {T S : List Value} {h : Sto} : ev mL_law 203 (a0 :: a1 :: a2 :: .int x :: T) S h = ev mL_law 204 (a0 :: a1 :: a2 :: .int x :: T) (.int x :: S) h := g_iload_n dL_law_203 rfl
theorem eL_law_204  {L S : List Value} {h : Sto} : ev mL_law 204 L S h = ev mL_law 205 L (.int 1 :: S) h := g_iconst (v := 1) dL_law_204 (by decide)
theorem eL_law_205 {x y : Int32} {L S : List Value} {h : Sto} : ev mL_law 205 L (.int y :: .int x :: S) h = ev mL_law 206 L (.int (x + y) :: S) h := g_iadd dL_law_205
theorem eL_law_206 {x : Int32} {L S : List Value} {h : Sto} : ev mL_law 206 L (.int x :: .ref 400 :: S) h = if x < 0 ∨ (h 401 0).toNatClampNeg ≤ x.toNatClampNeg then none else ev mL_law 207 L (.int (h 400 x.toNatClampNeg) :: S) h := g_iaX dL_law_206
theorem eL_law_207 {s0 : Int32} {s2 : Int32} {L : List Value} {h : Sto} : ev mL_law 207 L [.int s0, .ref 17, .int s2] h = (ev mX7_letter 0 [.ref 17, .int s0] [] h).bind (fun q => ev mL_law 210 L (q.1.toList ++ [.int s2]) q.2) := g_calV (i := 17) (n := 1) (cal := mX7_letter) (A := [.ref 17, .int s0]) (rest := [.int s2]) dL_law_207 (by rfl) (by decide) ⟨by simp only [List.length_cons, List.length_nil]; omega, by simp only [List.drop, List.length_cons, List.length_nil]; omega, rfl⟩ rfl rfl rfl rfl
theorem eL_law_210 {x y : Int32} {L S : List Value} {h : Sto} : ev mL_law 210 L (.int y :: .int x :: S) h = if x = y then ev mL_law 1060 L S h else ev mL_law 213 L S h := g_icmpeq (tgt := 1060) dL_law_210 (by decide)
theorem eL_law_213  {L S : List Value} {h : Sto} : ev mL_law 213 L S h = ev mL_law 214 L (.int 0 :: S) h := g_iconst (v := 0) dL_law_213 (by decide)
theorem eL_law_214 {L : List Value} {h : Sto} {v : Int32} : ev mL_law 214 L [.int v] h = if v = 0 ∨ v = 1 then some (some (.int v), h) else none := g_iretZ dL_law_214 rfl
theorem eL_law_215 {a0 : Value} {x : Nat} {T S : List Value} {h : Sto} : ev mL_law 215 (a0 :: .ref x :: T) S h = ev mL_law 216 (a0 :: .ref x :: T) (.ref x :: S) h := g_aload_n dL_law_215 rfl
theorem eL_law_216 {L : List Value} {h : Sto} : ev mL_law 216 L [.ref 0] h = (ev mX6_hem 0 [.ref 0, .null, .null] [] h).bind (fun q => ev mL_law 219 L (q.1.toList ++ []) q.2) := g_calV (i := 18) (n := 0) (cal := mX6_hem) (A := [.ref 0]) (rest := []) dL_law_216 (by rfl) (by decide) ⟨by simp only [List.length_cons, List.length_nil]; omega, by simp only [List.drop, List.length_cons, List.length_nil]; omega, rfl⟩ rfl rfl rfl rfl
theorem eL_law_219 {a0 a1 : Value} {x : Nat} {T S : List Value} {h : Sto} : ev mL_law 219 (a0 :: a1 :: .ref x :: T) S h = ev mL_law 220 (a0 :: a1 :: .ref x :: T) (.ref x :: S) h := g_aload_n dL_law_219 rfl
theorem eL_law_220 {s1 : Int32} {L : List Value} {h : Sto} : ev mL_law 220 L [.ref 17, .int s1] h = (ev mX7_hem 0 [.ref 17, .null, .null, .null, .null, .null] [] h).bind (fun q => ev mL_law 223 L (q.1.toList ++ [.int s1]) q.2) := g_calV (i := 22) (n := 0) (cal := mX7_hem) (A := [.ref 17]) (rest := [.int s1]) dL_law_220 (by rfl) (by decide) ⟨by simp only [List.length_cons, List.length_nil]; omega, by simp only [List.drop, List.length_cons, List.length_nil]; omega, rfl⟩ rfl rfl rfl rfl
theorem eL_law_223 {x y : Int32} {L S : List Value} {h : Sto} : ev mL_law 223 L (.int y :: .int x :: S) h = if x = y then ev mL_law 1060 L S h else ev mL_law 226 L S h := g_icmpeq (tgt := 1060) dL_law_223 (by decide)
theorem eL_law_226  {L S : List Value} {h : Sto} : ev mL_law 226 L S h = ev mL_law 227 L (.int 0 :: S) h := g_iconst (v := 0) dL_law_226 (by decide)
theorem eL_law_227 {L : List Value} {h : Sto} {v : Int32} : ev mL_law 227 L [.int v] h = if v = 0 ∨ v = 1 then some (some (.int v), h) else none := g_iretZ dL_law_227 rfl
theorem eL_law_228 {a0 : Value} {x : Nat} {T S : List Value} {h : Sto} : ev mL_law 228 (a0 :: .ref x :: T) S h = ev mL_law 229 (a0 :: .ref x :: T) (.ref x :: S) h := g_aload_n dL_law_228 rfl
theorem eL_law_229 {x : Nat} {T S : List Value} {h : Sto} : ev mL_law 229 (.ref x :: T) S h = ev mL_law 230 (.ref x :: T) (.ref x :: S) h := g_aload_n dL_law_229 rfl
theorem eL_law_230 {a0 a1 a2 : Value} {x : Int32} {T S : List Value} {h : Sto} : ev mL_law 230 (a0 :: a1 :: a2 :: .int x :: T) S h = ev mL_law 231 (a0 :: a1 :: a2 :: .int x :: T) (.int x :: S) h := g_iload_n dL_law_230 rfl
theorem eL_law_231  {L S : List Value} {h : Sto} : ev mL_law 231 L S h = ev mL_law 232 L (.int 1 :: S) h := g_iconst (v := 1) dL_law_231 (by decide)
theorem eL_law_232 {x y : Int32} {L S : List Value} {h : Sto} : ev mL_law 232 L (.int y :: .int x :: S) h = ev mL_law 233 L (.int (x + y) :: S) h := g_iadd dL_law_232
theorem eL_law_233 {x : Int32} {L S : List Value} {h : Sto} : ev mL_law 233 L (.int x :: .ref 400 :: S) h = if x < 0 ∨ (h 401 0).toNatClampNeg ≤ x.toNatClampNeg then none else ev mL_law 234 L (.int (h 400 x.toNatClampNeg) :: S) h := g_iaX dL_law_233
theorem eL_law_234 {x : Nat} {T S : List Value} {h : Sto} : ev mL_law 234 (.ref x :: T) S h = ev mL_law 235 (.ref x :: T) (.ref x :: S) h := g_aload_n dL_law_234 rfl
theorem eL_law_235 {a0 a1 a2 : Value} {x : Int32} {T S : List Value} {h : Sto} : ev mL_law 235 (a0 :: a1 :: a2 :: .int x :: T) S h = ev mL_law 236 (a0 :: a1 :: a2 :: .int x :: T) (.int x :: S) h := g_iload_n dL_law_235 rfl
theorem eL_law_236  {L S : List Value} {h : Sto} : ev mL_law 236 L S h = ev mL_law 237 L (.int 2 :: S) h := g_iconst (v := 2) dL_law_236 (by decide)
theorem eL_law_237 {x y : Int32} {L S : List Value} {h : Sto} : ev mL_law 237 L (.int y :: .int x :: S) h = ev mL_law 238 L (.int (x + y) :: S) h := g_iadd dL_law_237
theorem eL_law_238 {x : Int32} {L S : List Value} {h : Sto} : ev mL_law 238 L (.int x :: .ref 400 :: S) h = if x < 0 ∨ (h 401 0).toNatClampNeg ≤ x.toNatClampNeg then none else ev mL_law 239 L (.int (h 400 x.toNatClampNeg) :: S) h := g_iaX dL_law_238
theorem eL_law_239 {s0 : Int32} {s1 : Int32} {L : List Value} {h : Sto} : ev mL_law 239 L [.int s0, .int s1, .ref 0] h = (ev mX6_inch 0 [.ref 0, .int s1, .int s0] [] h).bind (fun q => ev mL_law 242 L (q.1.toList ++ []) q.2) := g_calV (i := 23) (n := 2) (cal := mX6_inch) (A := [.ref 0, .int s1, .int s0]) (rest := []) dL_law_239 (by rfl) (by decide) ⟨by simp only [List.length_cons, List.length_nil]; omega, by simp only [List.drop, List.length_cons, List.length_nil]; omega, rfl⟩ rfl rfl rfl rfl
theorem eL_law_242 {a0 a1 : Value} {x : Nat} {T S : List Value} {h : Sto} : ev mL_law 242 (a0 :: a1 :: .ref x :: T) S h = ev mL_law 243 (a0 :: a1 :: .ref x :: T) (.ref x :: S) h := g_aload_n dL_law_242 rfl
theorem eL_law_243 {x : Nat} {T S : List Value} {h : Sto} : ev mL_law 243 (.ref x :: T) S h = ev mL_law 244 (.ref x :: T) (.ref x :: S) h := g_aload_n dL_law_243 rfl
theorem eL_law_244 {a0 a1 a2 : Value} {x : Int32} {T S : List Value} {h : Sto} : ev mL_law 244 (a0 :: a1 :: a2 :: .int x :: T) S h = ev mL_law 245 (a0 :: a1 :: a2 :: .int x :: T) (.int x :: S) h := g_iload_n dL_law_244 rfl
theorem eL_law_245  {L S : List Value} {h : Sto} : ev mL_law 245 L S h = ev mL_law 246 L (.int 1 :: S) h := g_iconst (v := 1) dL_law_245 (by decide)
theorem eL_law_246 {x y : Int32} {L S : List Value} {h : Sto} : ev mL_law 246 L (.int y :: .int x :: S) h = ev mL_law 247 L (.int (x + y) :: S) h := g_iadd dL_law_246
theorem eL_law_247 {x : Int32} {L S : List Value} {h : Sto} : ev mL_law 247 L (.int x :: .ref 400 :: S) h = if x < 0 ∨ (h 401 0).toNatClampNeg ≤ x.toNatClampNeg then none else ev mL_law 248 L (.int (h 400 x.toNatClampNeg) :: S) h := g_iaX dL_law_247
theorem eL_law_248 {x : Nat} {T S : List Value} {h : Sto} : ev mL_law 248 (.ref x :: T) S h = ev mL_law 249 (.ref x :: T) (.ref x :: S) h := g_aload_n dL_law_248 rfl
theorem eL_law_249 {a0 a1 a2 : Value} {x : Int32} {T S : List Value} {h : Sto} : ev mL_law 249 (a0 :: a1 :: a2 :: .int x :: T) S h = ev mL_law 250 (a0 :: a1 :: a2 :: .int x :: T) (.int x :: S) h := g_iload_n dL_law_249 rfl
theorem eL_law_250  {L S : List Value} {h : Sto} : ev mL_law 250 L S h = ev mL_law 251 L (.int 2 :: S) h := g_iconst (v := 2) dL_law_250 (by decide)
theorem eL_law_251 {x y : Int32} {L S : List Value} {h : Sto} : ev mL_law 251 L (.int y :: .int x :: S) h = ev mL_law 252 L (.int (x + y) :: S) h := g_iadd dL_law_251
theorem eL_law_252 {x : Int32} {L S : List Value} {h : Sto} : ev mL_law 252 L (.int x :: .ref 400 :: S) h = if x < 0 ∨ (h 401 0).toNatClampNeg ≤ x.toNatClampNeg then none else ev mL_law 253 L (.int (h 400 x.toNatClampNeg) :: S) h := g_iaX dL_law_252
theorem eL_law_253 {s0 : Int32} {s1 : Int32} {s3 : Int32} {L : List Value} {h : Sto} : ev mL_law 253 L [.int s0, .int s1, .ref 17, .int s3] h = (ev mX7_inch 0 [.ref 17, .int s1, .int s0] [] h).bind (fun q => ev mL_law 256 L (q.1.toList ++ [.int s3]) q.2) := g_calV (i := 27) (n := 2) (cal := mX7_inch) (A := [.ref 17, .int s1, .int s0]) (rest := [.int s3]) dL_law_253 (by rfl) (by decide) ⟨by simp only [List.length_cons, List.length_nil]; omega, by simp only [List.drop, List.length_cons, List.length_nil]; omega, rfl⟩ rfl rfl rfl rfl
theorem eL_law_256 {x y : Int32} {L S : List Value} {h : Sto} : ev mL_law 256 L (.int y :: .int x :: S) h = if x = y then ev mL_law 1060 L S h else ev mL_law 259 L S h := g_icmpeq (tgt := 1060) dL_law_256 (by decide)
theorem eL_law_259  {L S : List Value} {h : Sto} : ev mL_law 259 L S h = ev mL_law 260 L (.int 0 :: S) h := g_iconst (v := 0) dL_law_259 (by decide)
theorem eL_law_260 {L : List Value} {h : Sto} {v : Int32} : ev mL_law 260 L [.int v] h = if v = 0 ∨ v = 1 then some (some (.int v), h) else none := g_iretZ dL_law_260 rfl
theorem eL_law_261 {a0 : Value} {x : Nat} {T S : List Value} {h : Sto} : ev mL_law 261 (a0 :: .ref x :: T) S h = ev mL_law 262 (a0 :: .ref x :: T) (.ref x :: S) h := g_aload_n dL_law_261 rfl
theorem eL_law_262 {x : Nat} {T S : List Value} {h : Sto} : ev mL_law 262 (.ref x :: T) S h = ev mL_law 263 (.ref x :: T) (.ref x :: S) h := g_aload_n dL_law_262 rfl
theorem eL_law_263 {a0 a1 a2 : Value} {x : Int32} {T S : List Value} {h : Sto} : ev mL_law 263 (a0 :: a1 :: a2 :: .int x :: T) S h = ev mL_law 264 (a0 :: a1 :: a2 :: .int x :: T) (.int x :: S) h := g_iload_n dL_law_263 rfl
theorem eL_law_264  {L S : List Value} {h : Sto} : ev mL_law 264 L S h = ev mL_law 265 L (.int 1 :: S) h := g_iconst (v := 1) dL_law_264 (by decide)
theorem eL_law_265 {x y : Int32} {L S : List Value} {h : Sto} : ev mL_law 265 L (.int y :: .int x :: S) h = ev mL_law 266 L (.int (x + y) :: S) h := g_iadd dL_law_265
theorem eL_law_266 {x : Int32} {L S : List Value} {h : Sto} : ev mL_law 266 L (.int x :: .ref 400 :: S) h = if x < 0 ∨ (h 401 0).toNatClampNeg ≤ x.toNatClampNeg then none else ev mL_law 267 L (.int (h 400 x.toNatClampNeg) :: S) h := g_iaX dL_law_266
theorem eL_law_267 {x : Nat} {T S : List Value} {h : Sto} : ev mL_law 267 (.ref x :: T) S h = ev mL_law 268 (.ref x :: T) (.ref x :: S) h := g_aload_n dL_law_267 rfl
theorem eL_law_268 {a0 a1 a2 : Value} {x : Int32} {T S : List Value} {h : Sto} : ev mL_law 268 (a0 :: a1 :: a2 :: .int x :: T) S h = ev mL_law 269 (a0 :: a1 :: a2 :: .int x :: T) (.int x :: S) h := g_iload_n dL_law_268 rfl
theorem eL_law_269  {L S : List Value} {h : Sto} : ev mL_law 269 L S h = ev mL_law 270 L (.int 2 :: S) h := g_iconst (v := 2) dL_law_269 (by decide)
theorem eL_law_270 {x y : Int32} {L S : List Value} {h : Sto} : ev mL_law 270 L (.int y :: .int x :: S) h = ev mL_law 271 L (.int (x + y) :: S) h := g_iadd dL_law_270
theorem eL_law_271 {x : Int32} {L S : List Value} {h : Sto} : ev mL_law 271 L (.int x :: .ref 400 :: S) h = if x < 0 ∨ (h 401 0).toNatClampNeg ≤ x.toNatClampNeg then none else ev mL_law 272 L (.int (h 400 x.toNatClampNeg) :: S) h := g_iaX dL_law_271
theorem eL_law_272 {x : Nat} {T S : List Value} {h : Sto} : ev mL_law 272 (.ref x :: T) S h = ev mL_law 273 (.ref x :: T) (.ref x :: S) h := g_aload_n dL_law_272 rfl
theorem eL_law_273 {a0 a1 a2 : Value} {x : Int32} {T S : List Value} {h : Sto} : ev mL_law 273 (a0 :: a1 :: a2 :: .int x :: T) S h = ev mL_law 274 (a0 :: a1 :: a2 :: .int x :: T) (.int x :: S) h := g_iload_n dL_law_273 rfl
theorem eL_law_274  {L S : List Value} {h : Sto} : ev mL_law 274 L S h = ev mL_law 275 L (.int 3 :: S) h := g_iconst (v := 3) dL_law_274 (by decide)
theorem eL_law_275 {x y : Int32} {L S : List Value} {h : Sto} : ev mL_law 275 L (.int y :: .int x :: S) h = ev mL_law 276 L (.int (x + y) :: S) h := g_iadd dL_law_275
theorem eL_law_276 {x : Int32} {L S : List Value} {h : Sto} : ev mL_law 276 L (.int x :: .ref 400 :: S) h = if x < 0 ∨ (h 401 0).toNatClampNeg ≤ x.toNatClampNeg then none else ev mL_law 277 L (.int (h 400 x.toNatClampNeg) :: S) h := g_iaX dL_law_276
theorem eL_law_277 {s0 : Int32} {s1 : Int32} {s2 : Int32} {L : List Value} {h : Sto} : ev mL_law 277 L [.int s0, .int s1, .int s2, .ref 0] h = (ev mX6_turn 0 [.ref 0, .int s2, .int s1, .int s0, .null, .null] [] h).bind (fun q => ev mL_law 280 L (q.1.toList ++ []) q.2) := g_calV (i := 28) (n := 3) (cal := mX6_turn) (A := [.ref 0, .int s2, .int s1, .int s0]) (rest := []) dL_law_277 (by rfl) (by decide) ⟨by simp only [List.length_cons, List.length_nil]; omega, by simp only [List.drop, List.length_cons, List.length_nil]; omega, rfl⟩ rfl rfl rfl rfl
theorem eL_law_280 {a0 a1 : Value} {x : Nat} {T S : List Value} {h : Sto} : ev mL_law 280 (a0 :: a1 :: .ref x :: T) S h = ev mL_law 281 (a0 :: a1 :: .ref x :: T) (.ref x :: S) h := g_aload_n dL_law_280 rfl
theorem eL_law_281 {x : Nat} {T S : List Value} {h : Sto} : ev mL_law 281 (.ref x :: T) S h = ev mL_law 282 (.ref x :: T) (.ref x :: S) h := g_aload_n dL_law_281 rfl
theorem eL_law_282 {a0 a1 a2 : Value} {x : Int32} {T S : List Value} {h : Sto} : ev mL_law 282 (a0 :: a1 :: a2 :: .int x :: T) S h = ev mL_law 283 (a0 :: a1 :: a2 :: .int x :: T) (.int x :: S) h := g_iload_n dL_law_282 rfl
theorem eL_law_283  {L S : List Value} {h : Sto} : ev mL_law 283 L S h = ev mL_law 284 L (.int 1 :: S) h := g_iconst (v := 1) dL_law_283 (by decide)
theorem eL_law_284 {x y : Int32} {L S : List Value} {h : Sto} : ev mL_law 284 L (.int y :: .int x :: S) h = ev mL_law 285 L (.int (x + y) :: S) h := g_iadd dL_law_284
theorem eL_law_285 {x : Int32} {L S : List Value} {h : Sto} : ev mL_law 285 L (.int x :: .ref 400 :: S) h = if x < 0 ∨ (h 401 0).toNatClampNeg ≤ x.toNatClampNeg then none else ev mL_law 286 L (.int (h 400 x.toNatClampNeg) :: S) h := g_iaX dL_law_285
theorem eL_law_286 {x : Nat} {T S : List Value} {h : Sto} : ev mL_law 286 (.ref x :: T) S h = ev mL_law 287 (.ref x :: T) (.ref x :: S) h := g_aload_n dL_law_286 rfl
theorem eL_law_287 {a0 a1 a2 : Value} {x : Int32} {T S : List Value} {h : Sto} : ev mL_law 287 (a0 :: a1 :: a2 :: .int x :: T) S h = ev mL_law 288 (a0 :: a1 :: a2 :: .int x :: T) (.int x :: S) h := g_iload_n dL_law_287 rfl
theorem eL_law_288  {L S : List Value} {h : Sto} : ev mL_law 288 L S h = ev mL_law 289 L (.int 2 :: S) h := g_iconst (v := 2) dL_law_288 (by decide)
theorem eL_law_289 {x y : Int32} {L S : List Value} {h : Sto} : ev mL_law 289 L (.int y :: .int x :: S) h = ev mL_law 290 L (.int (x + y) :: S) h := g_iadd dL_law_289
theorem eL_law_290 {x : Int32} {L S : List Value} {h : Sto} : ev mL_law 290 L (.int x :: .ref 400 :: S) h = if x < 0 ∨ (h 401 0).toNatClampNeg ≤ x.toNatClampNeg then none else ev mL_law 291 L (.int (h 400 x.toNatClampNeg) :: S) h := g_iaX dL_law_290
theorem eL_law_291 {x : Nat} {T S : List Value} {h : Sto} : ev mL_law 291 (.ref x :: T) S h = ev mL_law 292 (.ref x :: T) (.ref x :: S) h := g_aload_n dL_law_291 rfl
theorem eL_law_292 {a0 a1 a2 : Value} {x : Int32} {T S : List Value} {h : Sto} : ev mL_law 292 (a0 :: a1 :: a2 :: .int x :: T) S h = ev mL_law 293 (a0 :: a1 :: a2 :: .int x :: T) (.int x :: S) h := g_iload_n dL_law_292 rfl
theorem eL_law_293  {L S : List Value} {h : Sto} : ev mL_law 293 L S h = ev mL_law 294 L (.int 3 :: S) h := g_iconst (v := 3) dL_law_293 (by decide)
theorem eL_law_294 {x y : Int32} {L S : List Value} {h : Sto} : ev mL_law 294 L (.int y :: .int x :: S) h = ev mL_law 295 L (.int (x + y) :: S) h := g_iadd dL_law_294
theorem eL_law_295 {x : Int32} {L S : List Value} {h : Sto} : ev mL_law 295 L (.int x :: .ref 400 :: S) h = if x < 0 ∨ (h 401 0).toNatClampNeg ≤ x.toNatClampNeg then none else ev mL_law 296 L (.int (h 400 x.toNatClampNeg) :: S) h := g_iaX dL_law_295
theorem eL_law_296 {s0 : Int32} {s1 : Int32} {s2 : Int32} {s4 : Int32} {L : List Value} {h : Sto} : ev mL_law 296 L [.int s0, .int s1, .int s2, .ref 17, .int s4] h = (ev mX7_turn 0 [.ref 17, .int s2, .int s1, .int s0, .null] [] h).bind (fun q => ev mL_law 299 L (q.1.toList ++ [.int s4]) q.2) := g_calV (i := 32) (n := 3) (cal := mX7_turn) (A := [.ref 17, .int s2, .int s1, .int s0]) (rest := [.int s4]) dL_law_296 (by rfl) (by decide) ⟨by simp only [List.length_cons, List.length_nil]; omega, by simp only [List.drop, List.length_cons, List.length_nil]; omega, rfl⟩ rfl rfl rfl rfl
theorem eL_law_299 {x y : Int32} {L S : List Value} {h : Sto} : ev mL_law 299 L (.int y :: .int x :: S) h = if x = y then ev mL_law 1060 L S h else ev mL_law 302 L S h := g_icmpeq (tgt := 1060) dL_law_299 (by decide)
theorem eL_law_302  {L S : List Value} {h : Sto} : ev mL_law 302 L S h = ev mL_law 303 L (.int 0 :: S) h := g_iconst (v := 0) dL_law_302 (by decide)
theorem eL_law_303 {L : List Value} {h : Sto} {v : Int32} : ev mL_law 303 L [.int v] h = if v = 0 ∨ v = 1 then some (some (.int v), h) else none := g_iretZ dL_law_303 rfl
theorem eL_law_304 {a0 : Value} {x : Nat} {T S : List Value} {h : Sto} : ev mL_law 304 (a0 :: .ref x :: T) S h = ev mL_law 305 (a0 :: .ref x :: T) (.ref x :: S) h := g_aload_n dL_law_304 rfl
theorem eL_law_305 {x : Nat} {T S : List Value} {h : Sto} : ev mL_law 305 (.ref x :: T) S h = ev mL_law 306 (.ref x :: T) (.ref x :: S) h := g_aload_n dL_law_305 rfl
theorem eL_law_306 {a0 a1 a2 : Value} {x : Int32} {T S : List Value} {h : Sto} : ev mL_law 306 (a0 :: a1 :: a2 :: .int x :: T) S h = ev mL_law 307 (a0 :: a1 :: a2 :: .int x :: T) (.int x :: S) h := g_iload_n dL_law_306 rfl
theorem eL_law_307  {L S : List Value} {h : Sto} : ev mL_law 307 L S h = ev mL_law 308 L (.int 1 :: S) h := g_iconst (v := 1) dL_law_307 (by decide)
theorem eL_law_308 {x y : Int32} {L S : List Value} {h : Sto} : ev mL_law 308 L (.int y :: .int x :: S) h = ev mL_law 309 L (.int (x + y) :: S) h := g_iadd dL_law_308
theorem eL_law_309 {x : Int32} {L S : List Value} {h : Sto} : ev mL_law 309 L (.int x :: .ref 400 :: S) h = if x < 0 ∨ (h 401 0).toNatClampNeg ≤ x.toNatClampNeg then none else ev mL_law 310 L (.int (h 400 x.toNatClampNeg) :: S) h := g_iaX dL_law_309
theorem eL_law_310 {s0 : Int32} {L : List Value} {h : Sto} : ev mL_law 310 L [.int s0, .ref 0] h = (ev mX6_inches 0 [.ref 0, .int s0, .null, .null] [] h).bind (fun q => ev mL_law 313 L (q.1.toList ++ []) q.2) := g_calV (i := 33) (n := 1) (cal := mX6_inches) (A := [.ref 0, .int s0]) (rest := []) dL_law_310 (by rfl) (by decide) ⟨by simp only [List.length_cons, List.length_nil]; omega, by simp only [List.drop, List.length_cons, List.length_nil]; omega, rfl⟩ rfl rfl rfl rfl
theorem eL_law_313 {a0 a1 : Value} {x : Nat} {T S : List Value} {h : Sto} : ev mL_law 313 (a0 :: a1 :: .ref x :: T) S h = ev mL_law 314 (a0 :: a1 :: .ref x :: T) (.ref x :: S) h := g_aload_n dL_law_313 rfl
theorem eL_law_314 {x : Nat} {T S : List Value} {h : Sto} : ev mL_law 314 (.ref x :: T) S h = ev mL_law 315 (.ref x :: T) (.ref x :: S) h := g_aload_n dL_law_314 rfl
theorem eL_law_315 {a0 a1 a2 : Value} {x : Int32} {T S : List Value} {h : Sto} : ev mL_law 315 (a0 :: a1 :: a2 :: .int x :: T) S h = ev mL_law 316 (a0 :: a1 :: a2 :: .int x :: T) (.int x :: S) h := g_iload_n dL_law_315 rfl
theorem eL_law_316  {L S : List Value} {h : Sto} : ev mL_law 316 L S h = ev mL_law 317 L (.int 1 :: S) h := g_iconst (v := 1) dL_law_316 (by decide)
theorem eL_law_317 {x y : Int32} {L S : List Value} {h : Sto} : ev mL_law 317 L (.int y :: .int x :: S) h = ev mL_law 318 L (.int (x + y) :: S) h := g_iadd dL_law_317
theorem eL_law_318 {x : Int32} {L S : List Value} {h : Sto} : ev mL_law 318 L (.int x :: .ref 400 :: S) h = if x < 0 ∨ (h 401 0).toNatClampNeg ≤ x.toNatClampNeg then none else ev mL_law 319 L (.int (h 400 x.toNatClampNeg) :: S) h := g_iaX dL_law_318
theorem eL_law_319 {s0 : Int32} {s2 : Int32} {L : List Value} {h : Sto} : ev mL_law 319 L [.int s0, .ref 17, .int s2] h = (ev mX7_inches 0 [.ref 17, .int s0, .null] [] h).bind (fun q => ev mL_law 322 L (q.1.toList ++ [.int s2]) q.2) := g_calV (i := 36) (n := 1) (cal := mX7_inches) (A := [.ref 17, .int s0]) (rest := [.int s2]) dL_law_319 (by rfl) (by decide) ⟨by simp only [List.length_cons, List.length_nil]; omega, by simp only [List.drop, List.length_cons, List.length_nil]; omega, rfl⟩ rfl rfl rfl rfl
theorem eL_law_322 {x y : Int32} {L S : List Value} {h : Sto} : ev mL_law 322 L (.int y :: .int x :: S) h = if x = y then ev mL_law 1060 L S h else ev mL_law 325 L S h := g_icmpeq (tgt := 1060) dL_law_322 (by decide)
theorem eL_law_325  {L S : List Value} {h : Sto} : ev mL_law 325 L S h = ev mL_law 326 L (.int 0 :: S) h := g_iconst (v := 0) dL_law_325 (by decide)
theorem eL_law_326 {L : List Value} {h : Sto} {v : Int32} : ev mL_law 326 L [.int v] h = if v = 0 ∨ v = 1 then some (some (.int v), h) else none := g_iretZ dL_law_326 rfl
theorem eL_law_327 {a0 : Value} {x : Nat} {T S : List Value} {h : Sto} : ev mL_law 327 (a0 :: .ref x :: T) S h = ev mL_law 328 (a0 :: .ref x :: T) (.ref x :: S) h := g_aload_n dL_law_327 rfl
theorem eL_law_328 {x : Nat} {T S : List Value} {h : Sto} : ev mL_law 328 (.ref x :: T) S h = ev mL_law 329 (.ref x :: T) (.ref x :: S) h := g_aload_n dL_law_328 rfl
theorem eL_law_329 {a0 a1 a2 : Value} {x : Int32} {T S : List Value} {h : Sto} : ev mL_law 329 (a0 :: a1 :: a2 :: .int x :: T) S h = ev mL_law 330 (a0 :: a1 :: a2 :: .int x :: T) (.int x :: S) h := g_iload_n dL_law_329 rfl
theorem eL_law_330  {L S : List Value} {h : Sto} : ev mL_law 330 L S h = ev mL_law 331 L (.int 1 :: S) h := g_iconst (v := 1) dL_law_330 (by decide)
theorem eL_law_331 {x y : Int32} {L S : List Value} {h : Sto} : ev mL_law 331 L (.int y :: .int x :: S) h = ev mL_law 332 L (.int (x + y) :: S) h := g_iadd dL_law_331
theorem eL_law_332 {x : Int32} {L S : List Value} {h : Sto} : ev mL_law 332 L (.int x :: .ref 400 :: S) h = if x < 0 ∨ (h 401 0).toNatClampNeg ≤ x.toNatClampNeg then none else ev mL_law 333 L (.int (h 400 x.toNatClampNeg) :: S) h := g_iaX dL_law_332
theorem eL_law_333 {x : Nat} {T S : List Value} {h : Sto} : ev mL_law 333 (.ref x :: T) S h = ev mL_law 334 (.ref x :: T) (.ref x :: S) h := g_aload_n dL_law_333 rfl
theorem eL_law_334 {a0 a1 a2 : Value} {x : Int32} {T S : List Value} {h : Sto} : ev mL_law 334 (a0 :: a1 :: a2 :: .int x :: T) S h = ev mL_law 335 (a0 :: a1 :: a2 :: .int x :: T) (.int x :: S) h := g_iload_n dL_law_334 rfl
theorem eL_law_335  {L S : List Value} {h : Sto} : ev mL_law 335 L S h = ev mL_law 336 L (.int 2 :: S) h := g_iconst (v := 2) dL_law_335 (by decide)
theorem eL_law_336 {x y : Int32} {L S : List Value} {h : Sto} : ev mL_law 336 L (.int y :: .int x :: S) h = ev mL_law 337 L (.int (x + y) :: S) h := g_iadd dL_law_336
theorem eL_law_337 {x : Int32} {L S : List Value} {h : Sto} : ev mL_law 337 L (.int x :: .ref 400 :: S) h = if x < 0 ∨ (h 401 0).toNatClampNeg ≤ x.toNatClampNeg then none else ev mL_law 338 L (.int (h 400 x.toNatClampNeg) :: S) h := g_iaX dL_law_337
theorem eL_law_338 {s0 : Int32} {s1 : Int32} {L : List Value} {h : Sto} : ev mL_law 338 L [.int s0, .int s1, .ref 0] h = (ev mX6_end 0 [.ref 0, .int s1, .int s0, .null, .null] [] h).bind (fun q => ev mL_law 341 L (q.1.toList ++ []) q.2) := g_calV (i := 37) (n := 2) (cal := mX6_end) (A := [.ref 0, .int s1, .int s0]) (rest := []) dL_law_338 (by rfl) (by decide) ⟨by simp only [List.length_cons, List.length_nil]; omega, by simp only [List.drop, List.length_cons, List.length_nil]; omega, rfl⟩ rfl rfl rfl rfl
theorem eL_law_341 {a0 a1 : Value} {x : Nat} {T S : List Value} {h : Sto} : ev mL_law 341 (a0 :: a1 :: .ref x :: T) S h = ev mL_law 342 (a0 :: a1 :: .ref x :: T) (.ref x :: S) h := g_aload_n dL_law_341 rfl
theorem eL_law_342 {x : Nat} {T S : List Value} {h : Sto} : ev mL_law 342 (.ref x :: T) S h = ev mL_law 343 (.ref x :: T) (.ref x :: S) h := g_aload_n dL_law_342 rfl
theorem eL_law_343 {a0 a1 a2 : Value} {x : Int32} {T S : List Value} {h : Sto} : ev mL_law 343 (a0 :: a1 :: a2 :: .int x :: T) S h = ev mL_law 344 (a0 :: a1 :: a2 :: .int x :: T) (.int x :: S) h := g_iload_n dL_law_343 rfl
theorem eL_law_344  {L S : List Value} {h : Sto} : ev mL_law 344 L S h = ev mL_law 345 L (.int 1 :: S) h := g_iconst (v := 1) dL_law_344 (by decide)
theorem eL_law_345 {x y : Int32} {L S : List Value} {h : Sto} : ev mL_law 345 L (.int y :: .int x :: S) h = ev mL_law 346 L (.int (x + y) :: S) h := g_iadd dL_law_345
theorem eL_law_346 {x : Int32} {L S : List Value} {h : Sto} : ev mL_law 346 L (.int x :: .ref 400 :: S) h = if x < 0 ∨ (h 401 0).toNatClampNeg ≤ x.toNatClampNeg then none else ev mL_law 347 L (.int (h 400 x.toNatClampNeg) :: S) h := g_iaX dL_law_346
theorem eL_law_347 {x : Nat} {T S : List Value} {h : Sto} : ev mL_law 347 (.ref x :: T) S h = ev mL_law 348 (.ref x :: T) (.ref x :: S) h := g_aload_n dL_law_347 rfl
theorem eL_law_348 {a0 a1 a2 : Value} {x : Int32} {T S : List Value} {h : Sto} : ev mL_law 348 (a0 :: a1 :: a2 :: .int x :: T) S h = ev mL_law 349 (a0 :: a1 :: a2 :: .int x :: T) (.int x :: S) h := g_iload_n dL_law_348 rfl
theorem eL_law_349  {L S : List Value} {h : Sto} : ev mL_law 349 L S h = ev mL_law 350 L (.int 2 :: S) h := g_iconst (v := 2) dL_law_349 (by decide)
theorem eL_law_350 {x y : Int32} {L S : List Value} {h : Sto} : ev mL_law 350 L (.int y :: .int x :: S) h = ev mL_law 351 L (.int (x + y) :: S) h := g_iadd dL_law_350
theorem eL_law_351 {x : Int32} {L S : List Value} {h : Sto} : ev mL_law 351 L (.int x :: .ref 400 :: S) h = if x < 0 ∨ (h 401 0).toNatClampNeg ≤ x.toNatClampNeg then none else ev mL_law 352 L (.int (h 400 x.toNatClampNeg) :: S) h := g_iaX dL_law_351
theorem eL_law_352 {s0 : Int32} {s1 : Int32} {s3 : Int32} {L : List Value} {h : Sto} : ev mL_law 352 L [.int s0, .int s1, .ref 17, .int s3] h = (ev mX7_end 0 [.ref 17, .int s1, .int s0, .null] [] h).bind (fun q => ev mL_law 355 L (q.1.toList ++ [.int s3]) q.2) := g_calV (i := 40) (n := 2) (cal := mX7_end) (A := [.ref 17, .int s1, .int s0]) (rest := [.int s3]) dL_law_352 (by rfl) (by decide) ⟨by simp only [List.length_cons, List.length_nil]; omega, by simp only [List.drop, List.length_cons, List.length_nil]; omega, rfl⟩ rfl rfl rfl rfl
theorem eL_law_355 {x y : Int32} {L S : List Value} {h : Sto} : ev mL_law 355 L (.int y :: .int x :: S) h = if x = y then ev mL_law 1060 L S h else ev mL_law 358 L S h := g_icmpeq (tgt := 1060) dL_law_355 (by decide)
theorem eL_law_358  {L S : List Value} {h : Sto} : ev mL_law 358 L S h = ev mL_law 359 L (.int 0 :: S) h := g_iconst (v := 0) dL_law_358 (by decide)
theorem eL_law_359 {L : List Value} {h : Sto} {v : Int32} : ev mL_law 359 L [.int v] h = if v = 0 ∨ v = 1 then some (some (.int v), h) else none := g_iretZ dL_law_359 rfl
theorem eL_law_360 {a0 : Value} {x : Nat} {T S : List Value} {h : Sto} : ev mL_law 360 (a0 :: .ref x :: T) S h = ev mL_law 361 (a0 :: .ref x :: T) (.ref x :: S) h := g_aload_n dL_law_360 rfl
theorem eL_law_361 {x : Nat} {T S : List Value} {h : Sto} : ev mL_law 361 (.ref x :: T) S h = ev mL_law 362 (.ref x :: T) (.ref x :: S) h := g_aload_n dL_law_361 rfl
theorem eL_law_362 {a0 a1 a2 : Value} {x : Int32} {T S : List Value} {h : Sto} : ev mL_law 362 (a0 :: a1 :: a2 :: .int x :: T) S h = ev mL_law 363 (a0 :: a1 :: a2 :: .int x :: T) (.int x :: S) h := g_iload_n dL_law_362 rfl
theorem eL_law_363  {L S : List Value} {h : Sto} : ev mL_law 363 L S h = ev mL_law 364 L (.int 1 :: S) h := g_iconst (v := 1) dL_law_363 (by decide)
theorem eL_law_364 {x y : Int32} {L S : List Value} {h : Sto} : ev mL_law 364 L (.int y :: .int x :: S) h = ev mL_law 365 L (.int (x + y) :: S) h := g_iadd dL_law_364
theorem eL_law_365 {x : Int32} {L S : List Value} {h : Sto} : ev mL_law 365 L (.int x :: .ref 400 :: S) h = if x < 0 ∨ (h 401 0).toNatClampNeg ≤ x.toNatClampNeg then none else ev mL_law 366 L (.int (h 400 x.toNatClampNeg) :: S) h := g_iaX dL_law_365
theorem eL_law_366 {s0 : Int32} {L : List Value} {h : Sto} : ev mL_law 366 L [.int s0, .ref 0] h = (ev mX6_tie 0 [.ref 0, .int s0] [] h).bind (fun q => ev mL_law 369 L (q.1.toList ++ []) q.2) := g_calV (i := 41) (n := 1) (cal := mX6_tie) (A := [.ref 0, .int s0]) (rest := []) dL_law_366 (by rfl) (by decide) ⟨by simp only [List.length_cons, List.length_nil]; omega, by simp only [List.drop, List.length_cons, List.length_nil]; omega, rfl⟩ rfl rfl rfl rfl
theorem eL_law_369 {a0 a1 : Value} {x : Nat} {T S : List Value} {h : Sto} : ev mL_law 369 (a0 :: a1 :: .ref x :: T) S h = ev mL_law 370 (a0 :: a1 :: .ref x :: T) (.ref x :: S) h := g_aload_n dL_law_369 rfl
theorem eL_law_370 {x : Nat} {T S : List Value} {h : Sto} : ev mL_law 370 (.ref x :: T) S h = ev mL_law 371 (.ref x :: T) (.ref x :: S) h := g_aload_n dL_law_370 rfl
theorem eL_law_371 {a0 a1 a2 : Value} {x : Int32} {T S : List Value} {h : Sto} : ev mL_law 371 (a0 :: a1 :: a2 :: .int x :: T) S h = ev mL_law 372 (a0 :: a1 :: a2 :: .int x :: T) (.int x :: S) h := g_iload_n dL_law_371 rfl
theorem eL_law_372  {L S : List Value} {h : Sto} : ev mL_law 372 L S h = ev mL_law 373 L (.int 1 :: S) h := g_iconst (v := 1) dL_law_372 (by decide)
theorem eL_law_373 {x y : Int32} {L S : List Value} {h : Sto} : ev mL_law 373 L (.int y :: .int x :: S) h = ev mL_law 374 L (.int (x + y) :: S) h := g_iadd dL_law_373
theorem eL_law_374 {x : Int32} {L S : List Value} {h : Sto} : ev mL_law 374 L (.int x :: .ref 400 :: S) h = if x < 0 ∨ (h 401 0).toNatClampNeg ≤ x.toNatClampNeg then none else ev mL_law 375 L (.int (h 400 x.toNatClampNeg) :: S) h := g_iaX dL_law_374
theorem eL_law_375 {s0 : Int32} {s2 : Int32} {L : List Value} {h : Sto} : ev mL_law 375 L [.int s0, .ref 17, .int s2] h = (ev mX7_tie 0 [.ref 17, .int s0] [] h).bind (fun q => ev mL_law 378 L (q.1.toList ++ [.int s2]) q.2) := g_calV (i := 44) (n := 1) (cal := mX7_tie) (A := [.ref 17, .int s0]) (rest := [.int s2]) dL_law_375 (by rfl) (by decide) ⟨by simp only [List.length_cons, List.length_nil]; omega, by simp only [List.drop, List.length_cons, List.length_nil]; omega, rfl⟩ rfl rfl rfl rfl
theorem eL_law_378 {x y : Int32} {L S : List Value} {h : Sto} : ev mL_law 378 L (.int y :: .int x :: S) h = if x = y then ev mL_law 1060 L S h else ev mL_law 381 L S h := g_icmpeq (tgt := 1060) dL_law_378 (by decide)
theorem eL_law_381  {L S : List Value} {h : Sto} : ev mL_law 381 L S h = ev mL_law 382 L (.int 0 :: S) h := g_iconst (v := 0) dL_law_381 (by decide)
theorem eL_law_382 {L : List Value} {h : Sto} {v : Int32} : ev mL_law 382 L [.int v] h = if v = 0 ∨ v = 1 then some (some (.int v), h) else none := g_iretZ dL_law_382 rfl
theorem eL_law_383 {a0 : Value} {x : Nat} {T S : List Value} {h : Sto} : ev mL_law 383 (a0 :: .ref x :: T) S h = ev mL_law 384 (a0 :: .ref x :: T) (.ref x :: S) h := g_aload_n dL_law_383 rfl
theorem eL_law_384 {L : List Value} {h : Sto} : ev mL_law 384 L [.ref 0] h = (ev mX6_sew 0 [.ref 0] [] h).bind (fun q => ev mL_law 387 L (q.1.toList ++ []) q.2) := g_calV (i := 45) (n := 0) (cal := mX6_sew) (A := [.ref 0]) (rest := []) dL_law_384 (by rfl) (by decide) ⟨by simp only [List.length_cons, List.length_nil]; omega, by simp only [List.drop, List.length_cons, List.length_nil]; omega, rfl⟩ rfl rfl rfl rfl
theorem eL_law_387 {a0 a1 : Value} {x : Nat} {T S : List Value} {h : Sto} : ev mL_law 387 (a0 :: a1 :: .ref x :: T) S h = ev mL_law 388 (a0 :: a1 :: .ref x :: T) (.ref x :: S) h := g_aload_n dL_law_387 rfl
theorem eL_law_388 {s1 : Int32} {L : List Value} {h : Sto} : ev mL_law 388 L [.ref 17, .int s1] h = (ev mX7_sew 0 [.ref 17] [] h).bind (fun q => ev mL_law 391 L (q.1.toList ++ [.int s1]) q.2) := g_calV (i := 48) (n := 0) (cal := mX7_sew) (A := [.ref 17]) (rest := [.int s1]) dL_law_388 (by rfl) (by decide) ⟨by simp only [List.length_cons, List.length_nil]; omega, by simp only [List.drop, List.length_cons, List.length_nil]; omega, rfl⟩ rfl rfl rfl rfl
theorem eL_law_391 {x y : Int32} {L S : List Value} {h : Sto} : ev mL_law 391 L (.int y :: .int x :: S) h = if x = y then ev mL_law 1060 L S h else ev mL_law 394 L S h := g_icmpeq (tgt := 1060) dL_law_391 (by decide)
theorem eL_law_394  {L S : List Value} {h : Sto} : ev mL_law 394 L S h = ev mL_law 395 L (.int 0 :: S) h := g_iconst (v := 0) dL_law_394 (by decide)
theorem eL_law_395 {L : List Value} {h : Sto} {v : Int32} : ev mL_law 395 L [.int v] h = if v = 0 ∨ v = 1 then some (some (.int v), h) else none := g_iretZ dL_law_395 rfl
theorem eL_law_396 {a0 : Value} {x : Nat} {T S : List Value} {h : Sto} : ev mL_law 396 (a0 :: .ref x :: T) S h = ev mL_law 397 (a0 :: .ref x :: T) (.ref x :: S) h := g_aload_n dL_law_396 rfl
theorem eL_law_397 {x : Nat} {T S : List Value} {h : Sto} : ev mL_law 397 (.ref x :: T) S h = ev mL_law 398 (.ref x :: T) (.ref x :: S) h := g_aload_n dL_law_397 rfl
theorem eL_law_398 {a0 a1 a2 : Value} {x : Int32} {T S : List Value} {h : Sto} : ev mL_law 398 (a0 :: a1 :: a2 :: .int x :: T) S h = ev mL_law 399 (a0 :: a1 :: a2 :: .int x :: T) (.int x :: S) h := g_iload_n dL_law_398 rfl
theorem eL_law_399  {L S : List Value} {h : Sto} : ev mL_law 399 L S h = ev mL_law 400 L (.int 1 :: S) h := g_iconst (v := 1) dL_law_399 (by decide)
theorem eL_law_400 {x y : Int32} {L S : List Value} {h : Sto} : ev mL_law 400 L (.int y :: .int x :: S) h = ev mL_law 401 L (.int (x + y) :: S) h := g_iadd dL_law_400
theorem eL_law_401 {x : Int32} {L S : List Value} {h : Sto} : ev mL_law 401 L (.int x :: .ref 400 :: S) h = if x < 0 ∨ (h 401 0).toNatClampNeg ≤ x.toNatClampNeg then none else ev mL_law 402 L (.int (h 400 x.toNatClampNeg) :: S) h := g_iaX dL_law_401
theorem eL_law_402 {x : Nat} {T S : List Value} {h : Sto} : ev mL_law 402 (.ref x :: T) S h = ev mL_law 403 (.ref x :: T) (.ref x :: S) h := g_aload_n dL_law_402 rfl
theorem eL_law_403 {a0 a1 a2 : Value} {x : Int32} {T S : List Value} {h : Sto} : ev mL_law 403 (a0 :: a1 :: a2 :: .int x :: T) S h = ev mL_law 404 (a0 :: a1 :: a2 :: .int x :: T) (.int x :: S) h := g_iload_n dL_law_403 rfl
theorem eL_law_404  {L S : List Value} {h : Sto} : ev mL_law 404 L S h = ev mL_law 405 L (.int 2 :: S) h := g_iconst (v := 2) dL_law_404 (by decide)
theorem eL_law_405 {x y : Int32} {L S : List Value} {h : Sto} : ev mL_law 405 L (.int y :: .int x :: S) h = ev mL_law 406 L (.int (x + y) :: S) h := g_iadd dL_law_405
theorem eL_law_406 {x : Int32} {L S : List Value} {h : Sto} : ev mL_law 406 L (.int x :: .ref 400 :: S) h = if x < 0 ∨ (h 401 0).toNatClampNeg ≤ x.toNatClampNeg then none else ev mL_law 407 L (.int (h 400 x.toNatClampNeg) :: S) h := g_iaX dL_law_406
theorem eL_law_407 {s0 : Int32} {s1 : Int32} {L : List Value} {h : Sto} : ev mL_law 407 L [.int s0, .int s1, .ref 0] h = (ev mX6_set 0 [.ref 0, .int s1, .int s0, .null, .null] [] h).bind (fun q => ev mL_law 410 L (q.1.toList ++ []) q.2) := g_calV (i := 49) (n := 2) (cal := mX6_set) (A := [.ref 0, .int s1, .int s0]) (rest := []) dL_law_407 (by rfl) (by decide) ⟨by simp only [List.length_cons, List.length_nil]; omega, by simp only [List.drop, List.length_cons, List.length_nil]; omega, rfl⟩ rfl rfl rfl rfl
theorem eL_law_410 {a0 a1 : Value} {x : Nat} {T S : List Value} {h : Sto} : ev mL_law 410 (a0 :: a1 :: .ref x :: T) S h = ev mL_law 411 (a0 :: a1 :: .ref x :: T) (.ref x :: S) h := g_aload_n dL_law_410 rfl
theorem eL_law_411 {x : Nat} {T S : List Value} {h : Sto} : ev mL_law 411 (.ref x :: T) S h = ev mL_law 412 (.ref x :: T) (.ref x :: S) h := g_aload_n dL_law_411 rfl
theorem eL_law_412 {a0 a1 a2 : Value} {x : Int32} {T S : List Value} {h : Sto} : ev mL_law 412 (a0 :: a1 :: a2 :: .int x :: T) S h = ev mL_law 413 (a0 :: a1 :: a2 :: .int x :: T) (.int x :: S) h := g_iload_n dL_law_412 rfl
theorem eL_law_413  {L S : List Value} {h : Sto} : ev mL_law 413 L S h = ev mL_law 414 L (.int 1 :: S) h := g_iconst (v := 1) dL_law_413 (by decide)
theorem eL_law_414 {x y : Int32} {L S : List Value} {h : Sto} : ev mL_law 414 L (.int y :: .int x :: S) h = ev mL_law 415 L (.int (x + y) :: S) h := g_iadd dL_law_414
theorem eL_law_415 {x : Int32} {L S : List Value} {h : Sto} : ev mL_law 415 L (.int x :: .ref 400 :: S) h = if x < 0 ∨ (h 401 0).toNatClampNeg ≤ x.toNatClampNeg then none else ev mL_law 416 L (.int (h 400 x.toNatClampNeg) :: S) h := g_iaX dL_law_415
theorem eL_law_416 {x : Nat} {T S : List Value} {h : Sto} : ev mL_law 416 (.ref x :: T) S h = ev mL_law 417 (.ref x :: T) (.ref x :: S) h := g_aload_n dL_law_416 rfl
theorem eL_law_417 {a0 a1 a2 : Value} {x : Int32} {T S : List Value} {h : Sto} : ev mL_law 417 (a0 :: a1 :: a2 :: .int x :: T) S h = ev mL_law 418 (a0 :: a1 :: a2 :: .int x :: T) (.int x :: S) h := g_iload_n dL_law_417 rfl
theorem eL_law_418  {L S : List Value} {h : Sto} : ev mL_law 418 L S h = ev mL_law 419 L (.int 2 :: S) h := g_iconst (v := 2) dL_law_418 (by decide)
theorem eL_law_419 {x y : Int32} {L S : List Value} {h : Sto} : ev mL_law 419 L (.int y :: .int x :: S) h = ev mL_law 420 L (.int (x + y) :: S) h := g_iadd dL_law_419
theorem eL_law_420 {x : Int32} {L S : List Value} {h : Sto} : ev mL_law 420 L (.int x :: .ref 400 :: S) h = if x < 0 ∨ (h 401 0).toNatClampNeg ≤ x.toNatClampNeg then none else ev mL_law 421 L (.int (h 400 x.toNatClampNeg) :: S) h := g_iaX dL_law_420
theorem eL_law_421 {s0 : Int32} {s1 : Int32} {s3 : Int32} {L : List Value} {h : Sto} : ev mL_law 421 L [.int s0, .int s1, .ref 17, .int s3] h = (ev mX7_set 0 [.ref 17, .int s1, .int s0, .null] [] h).bind (fun q => ev mL_law 424 L (q.1.toList ++ [.int s3]) q.2) := g_calV (i := 52) (n := 2) (cal := mX7_set) (A := [.ref 17, .int s1, .int s0]) (rest := [.int s3]) dL_law_421 (by rfl) (by decide) ⟨by simp only [List.length_cons, List.length_nil]; omega, by simp only [List.drop, List.length_cons, List.length_nil]; omega, rfl⟩ rfl rfl rfl rfl
theorem eL_law_424 {x y : Int32} {L S : List Value} {h : Sto} : ev mL_law 424 L (.int y :: .int x :: S) h = if x = y then ev mL_law 1060 L S h else ev mL_law 427 L S h := g_icmpeq (tgt := 1060) dL_law_424 (by decide)
theorem eL_law_427  {L S : List Value} {h : Sto} : ev mL_law 427 L S h = ev mL_law 428 L (.int 0 :: S) h := g_iconst (v := 0) dL_law_427 (by decide)
theorem eL_law_428 {L : List Value} {h : Sto} {v : Int32} : ev mL_law 428 L [.int v] h = if v = 0 ∨ v = 1 then some (some (.int v), h) else none := g_iretZ dL_law_428 rfl
theorem eL_law_429 {a0 : Value} {x : Nat} {T S : List Value} {h : Sto} : ev mL_law 429 (a0 :: .ref x :: T) S h = ev mL_law 430 (a0 :: .ref x :: T) (.ref x :: S) h := g_aload_n dL_law_429 rfl
theorem eL_law_430 {x : Nat} {T S : List Value} {h : Sto} : ev mL_law 430 (.ref x :: T) S h = ev mL_law 431 (.ref x :: T) (.ref x :: S) h := g_aload_n dL_law_430 rfl
theorem eL_law_431 {a0 a1 a2 : Value} {x : Int32} {T S : List Value} {h : Sto} : ev mL_law 431 (a0 :: a1 :: a2 :: .int x :: T) S h = ev mL_law 432 (a0 :: a1 :: a2 :: .int x :: T) (.int x :: S) h := g_iload_n dL_law_431 rfl
theorem eL_law_432  {L S : List Value} {h : Sto} : ev mL_law 432 L S h = ev mL_law 433 L (.int 1 :: S) h := g_iconst (v := 1) dL_law_432 (by decide)
theorem eL_law_433 {x y : Int32} {L S : List Value} {h : Sto} : ev mL_law 433 L (.int y :: .int x :: S) h = ev mL_law 434 L (.int (x + y) :: S) h := g_iadd dL_law_433
theorem eL_law_434 {x : Int32} {L S : List Value} {h : Sto} : ev mL_law 434 L (.int x :: .ref 400 :: S) h = if x < 0 ∨ (h 401 0).toNatClampNeg ≤ x.toNatClampNeg then none else ev mL_law 435 L (.int (h 400 x.toNatClampNeg) :: S) h := g_iaX dL_law_434
theorem eL_law_435 {x : Nat} {T S : List Value} {h : Sto} : ev mL_law 435 (.ref x :: T) S h = ev mL_law 436 (.ref x :: T) (.ref x :: S) h := g_aload_n dL_law_435 rfl
theorem eL_law_436 {a0 a1 a2 : Value} {x : Int32} {T S : List Value} {h : Sto} : ev mL_law 436 (a0 :: a1 :: a2 :: .int x :: T) S h = ev mL_law 437 (a0 :: a1 :: a2 :: .int x :: T) (.int x :: S) h := g_iload_n dL_law_436 rfl
theorem eL_law_437  {L S : List Value} {h : Sto} : ev mL_law 437 L S h = ev mL_law 438 L (.int 2 :: S) h := g_iconst (v := 2) dL_law_437 (by decide)
theorem eL_law_438 {x y : Int32} {L S : List Value} {h : Sto} : ev mL_law 438 L (.int y :: .int x :: S) h = ev mL_law 439 L (.int (x + y) :: S) h := g_iadd dL_law_438
theorem eL_law_439 {x : Int32} {L S : List Value} {h : Sto} : ev mL_law 439 L (.int x :: .ref 400 :: S) h = if x < 0 ∨ (h 401 0).toNatClampNeg ≤ x.toNatClampNeg then none else ev mL_law 440 L (.int (h 400 x.toNatClampNeg) :: S) h := g_iaX dL_law_439
theorem eL_law_440 {s0 : Int32} {s1 : Int32} {L : List Value} {h : Sto} : ev mL_law 440 L [.int s0, .int s1, .ref 0] h = (ev mX6_pull 0 [.ref 0, .int s1, .int s0, .null] [] h).bind (fun q => ev mL_law 443 L (q.1.toList ++ []) q.2) := g_calV (i := 53) (n := 2) (cal := mX6_pull) (A := [.ref 0, .int s1, .int s0]) (rest := []) dL_law_440 (by rfl) (by decide) ⟨by simp only [List.length_cons, List.length_nil]; omega, by simp only [List.drop, List.length_cons, List.length_nil]; omega, rfl⟩ rfl rfl rfl rfl
theorem eL_law_443 {a0 a1 : Value} {x : Nat} {T S : List Value} {h : Sto} : ev mL_law 443 (a0 :: a1 :: .ref x :: T) S h = ev mL_law 444 (a0 :: a1 :: .ref x :: T) (.ref x :: S) h := g_aload_n dL_law_443 rfl
theorem eL_law_444 {x : Nat} {T S : List Value} {h : Sto} : ev mL_law 444 (.ref x :: T) S h = ev mL_law 445 (.ref x :: T) (.ref x :: S) h := g_aload_n dL_law_444 rfl
theorem eL_law_445 {a0 a1 a2 : Value} {x : Int32} {T S : List Value} {h : Sto} : ev mL_law 445 (a0 :: a1 :: a2 :: .int x :: T) S h = ev mL_law 446 (a0 :: a1 :: a2 :: .int x :: T) (.int x :: S) h := g_iload_n dL_law_445 rfl
theorem eL_law_446  {L S : List Value} {h : Sto} : ev mL_law 446 L S h = ev mL_law 447 L (.int 1 :: S) h := g_iconst (v := 1) dL_law_446 (by decide)
theorem eL_law_447 {x y : Int32} {L S : List Value} {h : Sto} : ev mL_law 447 L (.int y :: .int x :: S) h = ev mL_law 448 L (.int (x + y) :: S) h := g_iadd dL_law_447
theorem eL_law_448 {x : Int32} {L S : List Value} {h : Sto} : ev mL_law 448 L (.int x :: .ref 400 :: S) h = if x < 0 ∨ (h 401 0).toNatClampNeg ≤ x.toNatClampNeg then none else ev mL_law 449 L (.int (h 400 x.toNatClampNeg) :: S) h := g_iaX dL_law_448
theorem eL_law_449 {x : Nat} {T S : List Value} {h : Sto} : ev mL_law 449 (.ref x :: T) S h = ev mL_law 450 (.ref x :: T) (.ref x :: S) h := g_aload_n dL_law_449 rfl
theorem eL_law_450 {a0 a1 a2 : Value} {x : Int32} {T S : List Value} {h : Sto} : ev mL_law 450 (a0 :: a1 :: a2 :: .int x :: T) S h = ev mL_law 451 (a0 :: a1 :: a2 :: .int x :: T) (.int x :: S) h := g_iload_n dL_law_450 rfl
theorem eL_law_451  {L S : List Value} {h : Sto} : ev mL_law 451 L S h = ev mL_law 452 L (.int 2 :: S) h := g_iconst (v := 2) dL_law_451 (by decide)
theorem eL_law_452 {x y : Int32} {L S : List Value} {h : Sto} : ev mL_law 452 L (.int y :: .int x :: S) h = ev mL_law 453 L (.int (x + y) :: S) h := g_iadd dL_law_452
theorem eL_law_453 {x : Int32} {L S : List Value} {h : Sto} : ev mL_law 453 L (.int x :: .ref 400 :: S) h = if x < 0 ∨ (h 401 0).toNatClampNeg ≤ x.toNatClampNeg then none else ev mL_law 454 L (.int (h 400 x.toNatClampNeg) :: S) h := g_iaX dL_law_453
theorem eL_law_454 {s0 : Int32} {s1 : Int32} {s3 : Int32} {L : List Value} {h : Sto} : ev mL_law 454 L [.int s0, .int s1, .ref 17, .int s3] h = (ev mX7_pull 0 [.ref 17, .int s1, .int s0, .null] [] h).bind (fun q => ev mL_law 457 L (q.1.toList ++ [.int s3]) q.2) := g_calV (i := 56) (n := 2) (cal := mX7_pull) (A := [.ref 17, .int s1, .int s0]) (rest := [.int s3]) dL_law_454 (by rfl) (by decide) ⟨by simp only [List.length_cons, List.length_nil]; omega, by simp only [List.drop, List.length_cons, List.length_nil]; omega, rfl⟩ rfl rfl rfl rfl
theorem eL_law_457 {x y : Int32} {L S : List Value} {h : Sto} : ev mL_law 457 L (.int y :: .int x :: S) h = if x = y then ev mL_law 1060 L S h else ev mL_law 460 L S h := g_icmpeq (tgt := 1060) dL_law_457 (by decide)
theorem eL_law_460  {L S : List Value} {h : Sto} : ev mL_law 460 L S h = ev mL_law 461 L (.int 0 :: S) h := g_iconst (v := 0) dL_law_460 (by decide)
theorem eL_law_461 {L : List Value} {h : Sto} {v : Int32} : ev mL_law 461 L [.int v] h = if v = 0 ∨ v = 1 then some (some (.int v), h) else none := g_iretZ dL_law_461 rfl
theorem eL_law_462 {a0 : Value} {x : Nat} {T S : List Value} {h : Sto} : ev mL_law 462 (a0 :: .ref x :: T) S h = ev mL_law 463 (a0 :: .ref x :: T) (.ref x :: S) h := g_aload_n dL_law_462 rfl
theorem eL_law_463 {x : Nat} {T S : List Value} {h : Sto} : ev mL_law 463 (.ref x :: T) S h = ev mL_law 464 (.ref x :: T) (.ref x :: S) h := g_aload_n dL_law_463 rfl
theorem eL_law_464 {a0 a1 a2 : Value} {x : Int32} {T S : List Value} {h : Sto} : ev mL_law 464 (a0 :: a1 :: a2 :: .int x :: T) S h = ev mL_law 465 (a0 :: a1 :: a2 :: .int x :: T) (.int x :: S) h := g_iload_n dL_law_464 rfl
theorem eL_law_465  {L S : List Value} {h : Sto} : ev mL_law 465 L S h = ev mL_law 466 L (.int 1 :: S) h := g_iconst (v := 1) dL_law_465 (by decide)
theorem eL_law_466 {x y : Int32} {L S : List Value} {h : Sto} : ev mL_law 466 L (.int y :: .int x :: S) h = ev mL_law 467 L (.int (x + y) :: S) h := g_iadd dL_law_466
theorem eL_law_467 {x : Int32} {L S : List Value} {h : Sto} : ev mL_law 467 L (.int x :: .ref 400 :: S) h = if x < 0 ∨ (h 401 0).toNatClampNeg ≤ x.toNatClampNeg then none else ev mL_law 468 L (.int (h 400 x.toNatClampNeg) :: S) h := g_iaX dL_law_467
theorem eL_law_468 {s0 : Int32} {L : List Value} {h : Sto} : ev mL_law 468 L [.int s0, .ref 0] h = (ev mX6_bunch 0 [.ref 0, .int s0, .null] [] h).bind (fun q => ev mL_law 471 L (q.1.toList ++ []) q.2) := g_calV (i := 57) (n := 1) (cal := mX6_bunch) (A := [.ref 0, .int s0]) (rest := []) dL_law_468 (by rfl) (by decide) ⟨by simp only [List.length_cons, List.length_nil]; omega, by simp only [List.drop, List.length_cons, List.length_nil]; omega, rfl⟩ rfl rfl rfl rfl
theorem eL_law_471 {a0 a1 : Value} {x : Nat} {T S : List Value} {h : Sto} : ev mL_law 471 (a0 :: a1 :: .ref x :: T) S h = ev mL_law 472 (a0 :: a1 :: .ref x :: T) (.ref x :: S) h := g_aload_n dL_law_471 rfl
theorem eL_law_472 {x : Nat} {T S : List Value} {h : Sto} : ev mL_law 472 (.ref x :: T) S h = ev mL_law 473 (.ref x :: T) (.ref x :: S) h := g_aload_n dL_law_472 rfl
theorem eL_law_473 {a0 a1 a2 : Value} {x : Int32} {T S : List Value} {h : Sto} : ev mL_law 473 (a0 :: a1 :: a2 :: .int x :: T) S h = ev mL_law 474 (a0 :: a1 :: a2 :: .int x :: T) (.int x :: S) h := g_iload_n dL_law_473 rfl
theorem eL_law_474  {L S : List Value} {h : Sto} : ev mL_law 474 L S h = ev mL_law 475 L (.int 1 :: S) h := g_iconst (v := 1) dL_law_474 (by decide)
theorem eL_law_475 {x y : Int32} {L S : List Value} {h : Sto} : ev mL_law 475 L (.int y :: .int x :: S) h = ev mL_law 476 L (.int (x + y) :: S) h := g_iadd dL_law_475
theorem eL_law_476 {x : Int32} {L S : List Value} {h : Sto} : ev mL_law 476 L (.int x :: .ref 400 :: S) h = if x < 0 ∨ (h 401 0).toNatClampNeg ≤ x.toNatClampNeg then none else ev mL_law 477 L (.int (h 400 x.toNatClampNeg) :: S) h := g_iaX dL_law_476
theorem eL_law_477 {s0 : Int32} {s2 : Int32} {L : List Value} {h : Sto} : ev mL_law 477 L [.int s0, .ref 17, .int s2] h = (ev mX7_bunch 0 [.ref 17, .int s0] [] h).bind (fun q => ev mL_law 480 L (q.1.toList ++ [.int s2]) q.2) := g_calV (i := 60) (n := 1) (cal := mX7_bunch) (A := [.ref 17, .int s0]) (rest := [.int s2]) dL_law_477 (by rfl) (by decide) ⟨by simp only [List.length_cons, List.length_nil]; omega, by simp only [List.drop, List.length_cons, List.length_nil]; omega, rfl⟩ rfl rfl rfl rfl
theorem eL_law_480 {x y : Int32} {L S : List Value} {h : Sto} : ev mL_law 480 L (.int y :: .int x :: S) h = if x = y then ev mL_law 1060 L S h else ev mL_law 483 L S h := g_icmpeq (tgt := 1060) dL_law_480 (by decide)
theorem eL_law_483  {L S : List Value} {h : Sto} : ev mL_law 483 L S h = ev mL_law 484 L (.int 0 :: S) h := g_iconst (v := 0) dL_law_483 (by decide)
theorem eL_law_484 {L : List Value} {h : Sto} {v : Int32} : ev mL_law 484 L [.int v] h = if v = 0 ∨ v = 1 then some (some (.int v), h) else none := g_iretZ dL_law_484 rfl
theorem eL_law_485 {a0 : Value} {x : Nat} {T S : List Value} {h : Sto} : ev mL_law 485 (a0 :: .ref x :: T) S h = ev mL_law 486 (a0 :: .ref x :: T) (.ref x :: S) h := g_aload_n dL_law_485 rfl
theorem eL_law_486 {L : List Value} {h : Sto} : ev mL_law 486 L [.ref 0] h = (ev mX6_anew 0 [.ref 0] [] h).bind (fun q => ev mL_law 489 L (q.1.toList ++ []) q.2) := g_calV (i := 61) (n := 0) (cal := mX6_anew) (A := [.ref 0]) (rest := []) dL_law_486 (by rfl) (by decide) ⟨by simp only [List.length_cons, List.length_nil]; omega, by simp only [List.drop, List.length_cons, List.length_nil]; omega, rfl⟩ rfl rfl rfl rfl
theorem eL_law_489 {a0 a1 : Value} {x : Nat} {T S : List Value} {h : Sto} : ev mL_law 489 (a0 :: a1 :: .ref x :: T) S h = ev mL_law 490 (a0 :: a1 :: .ref x :: T) (.ref x :: S) h := g_aload_n dL_law_489 rfl
theorem eL_law_490 {s1 : Int32} {L : List Value} {h : Sto} : ev mL_law 490 L [.ref 17, .int s1] h = (ev mX7_anew 0 [.ref 17] [] h).bind (fun q => ev mL_law 493 L (q.1.toList ++ [.int s1]) q.2) := g_calV (i := 64) (n := 0) (cal := mX7_anew) (A := [.ref 17]) (rest := [.int s1]) dL_law_490 (by rfl) (by decide) ⟨by simp only [List.length_cons, List.length_nil]; omega, by simp only [List.drop, List.length_cons, List.length_nil]; omega, rfl⟩ rfl rfl rfl rfl
theorem eL_law_493 {x y : Int32} {L S : List Value} {h : Sto} : ev mL_law 493 L (.int y :: .int x :: S) h = if x = y then ev mL_law 1060 L S h else ev mL_law 496 L S h := g_icmpeq (tgt := 1060) dL_law_493 (by decide)
theorem eL_law_496  {L S : List Value} {h : Sto} : ev mL_law 496 L S h = ev mL_law 497 L (.int 0 :: S) h := g_iconst (v := 0) dL_law_496 (by decide)
theorem eL_law_497 {L : List Value} {h : Sto} {v : Int32} : ev mL_law 497 L [.int v] h = if v = 0 ∨ v = 1 then some (some (.int v), h) else none := g_iretZ dL_law_497 rfl
theorem eL_law_498 {a0 : Value} {x : Nat} {T S : List Value} {h : Sto} : ev mL_law 498 (a0 :: .ref x :: T) S h = ev mL_law 499 (a0 :: .ref x :: T) (.ref x :: S) h := g_aload_n dL_law_498 rfl
theorem eL_law_499 {x : Nat} {T S : List Value} {h : Sto} : ev mL_law 499 (.ref x :: T) S h = ev mL_law 500 (.ref x :: T) (.ref x :: S) h := g_aload_n dL_law_499 rfl
theorem eL_law_500 {a0 a1 a2 : Value} {x : Int32} {T S : List Value} {h : Sto} : ev mL_law 500 (a0 :: a1 :: a2 :: .int x :: T) S h = ev mL_law 501 (a0 :: a1 :: a2 :: .int x :: T) (.int x :: S) h := g_iload_n dL_law_500 rfl
theorem eL_law_501  {L S : List Value} {h : Sto} : ev mL_law 501 L S h = ev mL_law 502 L (.int 1 :: S) h := g_iconst (v := 1) dL_law_501 (by decide)
theorem eL_law_502 {x y : Int32} {L S : List Value} {h : Sto} : ev mL_law 502 L (.int y :: .int x :: S) h = ev mL_law 503 L (.int (x + y) :: S) h := g_iadd dL_law_502
theorem eL_law_503 {x : Int32} {L S : List Value} {h : Sto} : ev mL_law 503 L (.int x :: .ref 400 :: S) h = if x < 0 ∨ (h 401 0).toNatClampNeg ≤ x.toNatClampNeg then none else ev mL_law 504 L (.int (h 400 x.toNatClampNeg) :: S) h := g_iaX dL_law_503
theorem eL_law_504 {s0 : Int32} {L : List Value} {h : Sto} : ev mL_law 504 L [.int s0, .ref 0] h = (ev mX6_wash 0 [.ref 0, .int s0, .null] [] h).bind (fun q => ev mL_law 507 L (q.1.toList ++ []) q.2) := g_calV (i := 65) (n := 1) (cal := mX6_wash) (A := [.ref 0, .int s0]) (rest := []) dL_law_504 (by rfl) (by decide) ⟨by simp only [List.length_cons, List.length_nil]; omega, by simp only [List.drop, List.length_cons, List.length_nil]; omega, rfl⟩ rfl rfl rfl rfl
theorem eL_law_507 {a0 a1 : Value} {x : Nat} {T S : List Value} {h : Sto} : ev mL_law 507 (a0 :: a1 :: .ref x :: T) S h = ev mL_law 508 (a0 :: a1 :: .ref x :: T) (.ref x :: S) h := g_aload_n dL_law_507 rfl
theorem eL_law_508 {x : Nat} {T S : List Value} {h : Sto} : ev mL_law 508 (.ref x :: T) S h = ev mL_law 509 (.ref x :: T) (.ref x :: S) h := g_aload_n dL_law_508 rfl
theorem eL_law_509 {a0 a1 a2 : Value} {x : Int32} {T S : List Value} {h : Sto} : ev mL_law 509 (a0 :: a1 :: a2 :: .int x :: T) S h = ev mL_law 510 (a0 :: a1 :: a2 :: .int x :: T) (.int x :: S) h := g_iload_n dL_law_509 rfl
theorem eL_law_510  {L S : List Value} {h : Sto} : ev mL_law 510 L S h = ev mL_law 511 L (.int 1 :: S) h := g_iconst (v := 1) dL_law_510 (by decide)
theorem eL_law_511 {x y : Int32} {L S : List Value} {h : Sto} : ev mL_law 511 L (.int y :: .int x :: S) h = ev mL_law 512 L (.int (x + y) :: S) h := g_iadd dL_law_511
theorem eL_law_512 {x : Int32} {L S : List Value} {h : Sto} : ev mL_law 512 L (.int x :: .ref 400 :: S) h = if x < 0 ∨ (h 401 0).toNatClampNeg ≤ x.toNatClampNeg then none else ev mL_law 513 L (.int (h 400 x.toNatClampNeg) :: S) h := g_iaX dL_law_512
theorem eL_law_513 {s0 : Int32} {s2 : Int32} {L : List Value} {h : Sto} : ev mL_law 513 L [.int s0, .ref 17, .int s2] h = (ev mX7_wash 0 [.ref 17, .int s0] [] h).bind (fun q => ev mL_law 516 L (q.1.toList ++ [.int s2]) q.2) := g_calV (i := 68) (n := 1) (cal := mX7_wash) (A := [.ref 17, .int s0]) (rest := [.int s2]) dL_law_513 (by rfl) (by decide) ⟨by simp only [List.length_cons, List.length_nil]; omega, by simp only [List.drop, List.length_cons, List.length_nil]; omega, rfl⟩ rfl rfl rfl rfl
theorem eL_law_516 {x y : Int32} {L S : List Value} {h : Sto} : ev mL_law 516 L (.int y :: .int x :: S) h = if x = y then ev mL_law 1060 L S h else ev mL_law 519 L S h := g_icmpeq (tgt := 1060) dL_law_516 (by decide)
theorem eL_law_519  {L S : List Value} {h : Sto} : ev mL_law 519 L S h = ev mL_law 520 L (.int 0 :: S) h := g_iconst (v := 0) dL_law_519 (by decide)
theorem eL_law_520 {L : List Value} {h : Sto} {v : Int32} : ev mL_law 520 L [.int v] h = if v = 0 ∨ v = 1 then some (some (.int v), h) else none := g_iretZ dL_law_520 rfl
theorem eL_law_521 {a0 : Value} {x : Nat} {T S : List Value} {h : Sto} : ev mL_law 521 (a0 :: .ref x :: T) S h = ev mL_law 522 (a0 :: .ref x :: T) (.ref x :: S) h := g_aload_n dL_law_521 rfl
theorem eL_law_522 {x : Nat} {T S : List Value} {h : Sto} : ev mL_law 522 (.ref x :: T) S h = ev mL_law 523 (.ref x :: T) (.ref x :: S) h := g_aload_n dL_law_522 rfl
theorem eL_law_523 {a0 a1 a2 : Value} {x : Int32} {T S : List Value} {h : Sto} : ev mL_law 523 (a0 :: a1 :: a2 :: .int x :: T) S h = ev mL_law 524 (a0 :: a1 :: a2 :: .int x :: T) (.int x :: S) h := g_iload_n dL_law_523 rfl
theorem eL_law_524  {L S : List Value} {h : Sto} : ev mL_law 524 L S h = ev mL_law 525 L (.int 1 :: S) h := g_iconst (v := 1) dL_law_524 (by decide)
theorem eL_law_525 {x y : Int32} {L S : List Value} {h : Sto} : ev mL_law 525 L (.int y :: .int x :: S) h = ev mL_law 526 L (.int (x + y) :: S) h := g_iadd dL_law_525
theorem eL_law_526 {x : Int32} {L S : List Value} {h : Sto} : ev mL_law 526 L (.int x :: .ref 400 :: S) h = if x < 0 ∨ (h 401 0).toNatClampNeg ≤ x.toNatClampNeg then none else ev mL_law 527 L (.int (h 400 x.toNatClampNeg) :: S) h := g_iaX dL_law_526
theorem eL_law_527 {x : Nat} {T S : List Value} {h : Sto} : ev mL_law 527 (.ref x :: T) S h = ev mL_law 528 (.ref x :: T) (.ref x :: S) h := g_aload_n dL_law_527 rfl
theorem eL_law_528 {a0 a1 a2 : Value} {x : Int32} {T S : List Value} {h : Sto} : ev mL_law 528 (a0 :: a1 :: a2 :: .int x :: T) S h = ev mL_law 529 (a0 :: a1 :: a2 :: .int x :: T) (.int x :: S) h := g_iload_n dL_law_528 rfl
theorem eL_law_529  {L S : List Value} {h : Sto} : ev mL_law 529 L S h = ev mL_law 530 L (.int 2 :: S) h := g_iconst (v := 2) dL_law_529 (by decide)
theorem eL_law_530 {x y : Int32} {L S : List Value} {h : Sto} : ev mL_law 530 L (.int y :: .int x :: S) h = ev mL_law 531 L (.int (x + y) :: S) h := g_iadd dL_law_530
theorem eL_law_531 {x : Int32} {L S : List Value} {h : Sto} : ev mL_law 531 L (.int x :: .ref 400 :: S) h = if x < 0 ∨ (h 401 0).toNatClampNeg ≤ x.toNatClampNeg then none else ev mL_law 532 L (.int (h 400 x.toNatClampNeg) :: S) h := g_iaX dL_law_531
theorem eL_law_532 {s0 : Int32} {s1 : Int32} {L : List Value} {h : Sto} : ev mL_law 532 L [.int s0, .int s1, .ref 0] h = (ev mX6_of 0 [.ref 0, .int s1, .int s0, .null] [] h).bind (fun q => ev mL_law 535 L (q.1.toList ++ []) q.2) := g_calV (i := 69) (n := 2) (cal := mX6_of) (A := [.ref 0, .int s1, .int s0]) (rest := []) dL_law_532 (by rfl) (by decide) ⟨by simp only [List.length_cons, List.length_nil]; omega, by simp only [List.drop, List.length_cons, List.length_nil]; omega, rfl⟩ rfl rfl rfl rfl
theorem eL_law_535 {a0 a1 : Value} {x : Nat} {T S : List Value} {h : Sto} : ev mL_law 535 (a0 :: a1 :: .ref x :: T) S h = ev mL_law 536 (a0 :: a1 :: .ref x :: T) (.ref x :: S) h := g_aload_n dL_law_535 rfl
theorem eL_law_536 {x : Nat} {T S : List Value} {h : Sto} : ev mL_law 536 (.ref x :: T) S h = ev mL_law 537 (.ref x :: T) (.ref x :: S) h := g_aload_n dL_law_536 rfl
theorem eL_law_537 {a0 a1 a2 : Value} {x : Int32} {T S : List Value} {h : Sto} : ev mL_law 537 (a0 :: a1 :: a2 :: .int x :: T) S h = ev mL_law 538 (a0 :: a1 :: a2 :: .int x :: T) (.int x :: S) h := g_iload_n dL_law_537 rfl
theorem eL_law_538  {L S : List Value} {h : Sto} : ev mL_law 538 L S h = ev mL_law 539 L (.int 1 :: S) h := g_iconst (v := 1) dL_law_538 (by decide)
theorem eL_law_539 {x y : Int32} {L S : List Value} {h : Sto} : ev mL_law 539 L (.int y :: .int x :: S) h = ev mL_law 540 L (.int (x + y) :: S) h := g_iadd dL_law_539
theorem eL_law_540 {x : Int32} {L S : List Value} {h : Sto} : ev mL_law 540 L (.int x :: .ref 400 :: S) h = if x < 0 ∨ (h 401 0).toNatClampNeg ≤ x.toNatClampNeg then none else ev mL_law 541 L (.int (h 400 x.toNatClampNeg) :: S) h := g_iaX dL_law_540
theorem eL_law_541 {x : Nat} {T S : List Value} {h : Sto} : ev mL_law 541 (.ref x :: T) S h = ev mL_law 542 (.ref x :: T) (.ref x :: S) h := g_aload_n dL_law_541 rfl
theorem eL_law_542 {a0 a1 a2 : Value} {x : Int32} {T S : List Value} {h : Sto} : ev mL_law 542 (a0 :: a1 :: a2 :: .int x :: T) S h = ev mL_law 543 (a0 :: a1 :: a2 :: .int x :: T) (.int x :: S) h := g_iload_n dL_law_542 rfl
theorem eL_law_543  {L S : List Value} {h : Sto} : ev mL_law 543 L S h = ev mL_law 544 L (.int 2 :: S) h := g_iconst (v := 2) dL_law_543 (by decide)
theorem eL_law_544 {x y : Int32} {L S : List Value} {h : Sto} : ev mL_law 544 L (.int y :: .int x :: S) h = ev mL_law 545 L (.int (x + y) :: S) h := g_iadd dL_law_544
theorem eL_law_545 {x : Int32} {L S : List Value} {h : Sto} : ev mL_law 545 L (.int x :: .ref 400 :: S) h = if x < 0 ∨ (h 401 0).toNatClampNeg ≤ x.toNatClampNeg then none else ev mL_law 546 L (.int (h 400 x.toNatClampNeg) :: S) h := g_iaX dL_law_545
theorem eL_law_546 {s0 : Int32} {s1 : Int32} {s3 : Int32} {L : List Value} {h : Sto} : ev mL_law 546 L [.int s0, .int s1, .ref 17, .int s3] h = (ev mX7_of 0 [.ref 17, .int s1, .int s0, .null] [] h).bind (fun q => ev mL_law 549 L (q.1.toList ++ [.int s3]) q.2) := g_calV (i := 72) (n := 2) (cal := mX7_of) (A := [.ref 17, .int s1, .int s0]) (rest := [.int s3]) dL_law_546 (by rfl) (by decide) ⟨by simp only [List.length_cons, List.length_nil]; omega, by simp only [List.drop, List.length_cons, List.length_nil]; omega, rfl⟩ rfl rfl rfl rfl
theorem eL_law_549 {x y : Int32} {L S : List Value} {h : Sto} : ev mL_law 549 L (.int y :: .int x :: S) h = if x = y then ev mL_law 1060 L S h else ev mL_law 552 L S h := g_icmpeq (tgt := 1060) dL_law_549 (by decide)
theorem eL_law_552  {L S : List Value} {h : Sto} : ev mL_law 552 L S h = ev mL_law 553 L (.int 0 :: S) h := g_iconst (v := 0) dL_law_552 (by decide)
theorem eL_law_553 {L : List Value} {h : Sto} {v : Int32} : ev mL_law 553 L [.int v] h = if v = 0 ∨ v = 1 then some (some (.int v), h) else none := g_iretZ dL_law_553 rfl
theorem eL_law_554 {a0 : Value} {x : Nat} {T S : List Value} {h : Sto} : ev mL_law 554 (a0 :: .ref x :: T) S h = ev mL_law 555 (a0 :: .ref x :: T) (.ref x :: S) h := g_aload_n dL_law_554 rfl
theorem eL_law_555 {x : Nat} {T S : List Value} {h : Sto} : ev mL_law 555 (.ref x :: T) S h = ev mL_law 556 (.ref x :: T) (.ref x :: S) h := g_aload_n dL_law_555 rfl
theorem eL_law_556 {a0 a1 a2 : Value} {x : Int32} {T S : List Value} {h : Sto} : ev mL_law 556 (a0 :: a1 :: a2 :: .int x :: T) S h = ev mL_law 557 (a0 :: a1 :: a2 :: .int x :: T) (.int x :: S) h := g_iload_n dL_law_556 rfl
theorem eL_law_557  {L S : List Value} {h : Sto} : ev mL_law 557 L S h = ev mL_law 558 L (.int 1 :: S) h := g_iconst (v := 1) dL_law_557 (by decide)
theorem eL_law_558 {x y : Int32} {L S : List Value} {h : Sto} : ev mL_law 558 L (.int y :: .int x :: S) h = ev mL_law 559 L (.int (x + y) :: S) h := g_iadd dL_law_558
theorem eL_law_559 {x : Int32} {L S : List Value} {h : Sto} : ev mL_law 559 L (.int x :: .ref 400 :: S) h = if x < 0 ∨ (h 401 0).toNatClampNeg ≤ x.toNatClampNeg then none else ev mL_law 560 L (.int (h 400 x.toNatClampNeg) :: S) h := g_iaX dL_law_559
theorem eL_law_560 {x : Nat} {T S : List Value} {h : Sto} : ev mL_law 560 (.ref x :: T) S h = ev mL_law 561 (.ref x :: T) (.ref x :: S) h := g_aload_n dL_law_560 rfl
theorem eL_law_561 {a0 a1 a2 : Value} {x : Int32} {T S : List Value} {h : Sto} : ev mL_law 561 (a0 :: a1 :: a2 :: .int x :: T) S h = ev mL_law 562 (a0 :: a1 :: a2 :: .int x :: T) (.int x :: S) h := g_iload_n dL_law_561 rfl
theorem eL_law_562  {L S : List Value} {h : Sto} : ev mL_law 562 L S h = ev mL_law 563 L (.int 2 :: S) h := g_iconst (v := 2) dL_law_562 (by decide)
theorem eL_law_563 {x y : Int32} {L S : List Value} {h : Sto} : ev mL_law 563 L (.int y :: .int x :: S) h = ev mL_law 564 L (.int (x + y) :: S) h := g_iadd dL_law_563
theorem eL_law_564 {x : Int32} {L S : List Value} {h : Sto} : ev mL_law 564 L (.int x :: .ref 400 :: S) h = if x < 0 ∨ (h 401 0).toNatClampNeg ≤ x.toNatClampNeg then none else ev mL_law 565 L (.int (h 400 x.toNatClampNeg) :: S) h := g_iaX dL_law_564
theorem eL_law_565 {s0 : Int32} {s1 : Int32} {L : List Value} {h : Sto} : ev mL_law 565 L [.int s0, .int s1, .ref 0] h = (ev mX6_out 0 [.ref 0, .int s1, .int s0] [] h).bind (fun q => ev mL_law 568 L (q.1.toList ++ []) q.2) := g_calV (i := 73) (n := 2) (cal := mX6_out) (A := [.ref 0, .int s1, .int s0]) (rest := []) dL_law_565 (by rfl) (by decide) ⟨by simp only [List.length_cons, List.length_nil]; omega, by simp only [List.drop, List.length_cons, List.length_nil]; omega, rfl⟩ rfl rfl rfl rfl
theorem eL_law_568 {a0 a1 : Value} {x : Nat} {T S : List Value} {h : Sto} : ev mL_law 568 (a0 :: a1 :: .ref x :: T) S h = ev mL_law 569 (a0 :: a1 :: .ref x :: T) (.ref x :: S) h := g_aload_n dL_law_568 rfl
theorem eL_law_569 {x : Nat} {T S : List Value} {h : Sto} : ev mL_law 569 (.ref x :: T) S h = ev mL_law 570 (.ref x :: T) (.ref x :: S) h := g_aload_n dL_law_569 rfl
theorem eL_law_570 {a0 a1 a2 : Value} {x : Int32} {T S : List Value} {h : Sto} : ev mL_law 570 (a0 :: a1 :: a2 :: .int x :: T) S h = ev mL_law 571 (a0 :: a1 :: a2 :: .int x :: T) (.int x :: S) h := g_iload_n dL_law_570 rfl
theorem eL_law_571  {L S : List Value} {h : Sto} : ev mL_law 571 L S h = ev mL_law 572 L (.int 1 :: S) h := g_iconst (v := 1) dL_law_571 (by decide)
theorem eL_law_572 {x y : Int32} {L S : List Value} {h : Sto} : ev mL_law 572 L (.int y :: .int x :: S) h = ev mL_law 573 L (.int (x + y) :: S) h := g_iadd dL_law_572
theorem eL_law_573 {x : Int32} {L S : List Value} {h : Sto} : ev mL_law 573 L (.int x :: .ref 400 :: S) h = if x < 0 ∨ (h 401 0).toNatClampNeg ≤ x.toNatClampNeg then none else ev mL_law 574 L (.int (h 400 x.toNatClampNeg) :: S) h := g_iaX dL_law_573
theorem eL_law_574 {x : Nat} {T S : List Value} {h : Sto} : ev mL_law 574 (.ref x :: T) S h = ev mL_law 575 (.ref x :: T) (.ref x :: S) h := g_aload_n dL_law_574 rfl
theorem eL_law_575 {a0 a1 a2 : Value} {x : Int32} {T S : List Value} {h : Sto} : ev mL_law 575 (a0 :: a1 :: a2 :: .int x :: T) S h = ev mL_law 576 (a0 :: a1 :: a2 :: .int x :: T) (.int x :: S) h := g_iload_n dL_law_575 rfl
theorem eL_law_576  {L S : List Value} {h : Sto} : ev mL_law 576 L S h = ev mL_law 577 L (.int 2 :: S) h := g_iconst (v := 2) dL_law_576 (by decide)
theorem eL_law_577 {x y : Int32} {L S : List Value} {h : Sto} : ev mL_law 577 L (.int y :: .int x :: S) h = ev mL_law 578 L (.int (x + y) :: S) h := g_iadd dL_law_577
theorem eL_law_578 {x : Int32} {L S : List Value} {h : Sto} : ev mL_law 578 L (.int x :: .ref 400 :: S) h = if x < 0 ∨ (h 401 0).toNatClampNeg ≤ x.toNatClampNeg then none else ev mL_law 579 L (.int (h 400 x.toNatClampNeg) :: S) h := g_iaX dL_law_578
theorem eL_law_579 {s0 : Int32} {s1 : Int32} {s3 : Int32} {L : List Value} {h : Sto} : ev mL_law 579 L [.int s0, .int s1, .ref 17, .int s3] h = (ev mX7_out 0 [.ref 17, .int s1, .int s0, .null] [] h).bind (fun q => ev mL_law 582 L (q.1.toList ++ [.int s3]) q.2) := g_calV (i := 76) (n := 2) (cal := mX7_out) (A := [.ref 17, .int s1, .int s0]) (rest := [.int s3]) dL_law_579 (by rfl) (by decide) ⟨by simp only [List.length_cons, List.length_nil]; omega, by simp only [List.drop, List.length_cons, List.length_nil]; omega, rfl⟩ rfl rfl rfl rfl
theorem eL_law_582 {x y : Int32} {L S : List Value} {h : Sto} : ev mL_law 582 L (.int y :: .int x :: S) h = if x = y then ev mL_law 1060 L S h else ev mL_law 585 L S h := g_icmpeq (tgt := 1060) dL_law_582 (by decide)
theorem eL_law_585  {L S : List Value} {h : Sto} : ev mL_law 585 L S h = ev mL_law 586 L (.int 0 :: S) h := g_iconst (v := 0) dL_law_585 (by decide)
theorem eL_law_586 {L : List Value} {h : Sto} {v : Int32} : ev mL_law 586 L [.int v] h = if v = 0 ∨ v = 1 then some (some (.int v), h) else none := g_iretZ dL_law_586 rfl
theorem eL_law_587 {a0 : Value} {x : Nat} {T S : List Value} {h : Sto} : ev mL_law 587 (a0 :: .ref x :: T) S h = ev mL_law 588 (a0 :: .ref x :: T) (.ref x :: S) h := g_aload_n dL_law_587 rfl
theorem eL_law_588 {L : List Value} {h : Sto} : ev mL_law 588 L [.ref 0] h = (ev mX6_soonest 0 [.ref 0, .null, .null] [] h).bind (fun q => ev mL_law 591 L (q.1.toList ++ []) q.2) := g_calV (i := 77) (n := 0) (cal := mX6_soonest) (A := [.ref 0]) (rest := []) dL_law_588 (by rfl) (by decide) ⟨by simp only [List.length_cons, List.length_nil]; omega, by simp only [List.drop, List.length_cons, List.length_nil]; omega, rfl⟩ rfl rfl rfl rfl
theorem eL_law_591 {a0 a1 : Value} {x : Nat} {T S : List Value} {h : Sto} : ev mL_law 591 (a0 :: a1 :: .ref x :: T) S h = ev mL_law 592 (a0 :: a1 :: .ref x :: T) (.ref x :: S) h := g_aload_n dL_law_591 rfl
theorem eL_law_592 {s1 : Int32} {L : List Value} {h : Sto} : ev mL_law 592 L [.ref 17, .int s1] h = (ev mX7_soonest 0 [.ref 17, .null, .null] [] h).bind (fun q => ev mL_law 595 L (q.1.toList ++ [.int s1]) q.2) := g_calV (i := 80) (n := 0) (cal := mX7_soonest) (A := [.ref 17]) (rest := [.int s1]) dL_law_592 (by rfl) (by decide) ⟨by simp only [List.length_cons, List.length_nil]; omega, by simp only [List.drop, List.length_cons, List.length_nil]; omega, rfl⟩ rfl rfl rfl rfl
theorem eL_law_595 {x y : Int32} {L S : List Value} {h : Sto} : ev mL_law 595 L (.int y :: .int x :: S) h = if x = y then ev mL_law 1060 L S h else ev mL_law 598 L S h := g_icmpeq (tgt := 1060) dL_law_595 (by decide)
theorem eL_law_598  {L S : List Value} {h : Sto} : ev mL_law 598 L S h = ev mL_law 599 L (.int 0 :: S) h := g_iconst (v := 0) dL_law_598 (by decide)
theorem eL_law_599 {L : List Value} {h : Sto} {v : Int32} : ev mL_law 599 L [.int v] h = if v = 0 ∨ v = 1 then some (some (.int v), h) else none := g_iretZ dL_law_599 rfl
theorem eL_law_600 {a0 : Value} {x : Nat} {T S : List Value} {h : Sto} : ev mL_law 600 (a0 :: .ref x :: T) S h = ev mL_law 601 (a0 :: .ref x :: T) (.ref x :: S) h := g_aload_n dL_law_600 rfl
theorem eL_law_601 {x : Nat} {T S : List Value} {h : Sto} : ev mL_law 601 (.ref x :: T) S h = ev mL_law 602 (.ref x :: T) (.ref x :: S) h := g_aload_n dL_law_601 rfl
theorem eL_law_602 {a0 a1 a2 : Value} {x : Int32} {T S : List Value} {h : Sto} : ev mL_law 602 (a0 :: a1 :: a2 :: .int x :: T) S h = ev mL_law 603 (a0 :: a1 :: a2 :: .int x :: T) (.int x :: S) h := g_iload_n dL_law_602 rfl
theorem eL_law_603  {L S : List Value} {h : Sto} : ev mL_law 603 L S h = ev mL_law 604 L (.int 1 :: S) h := g_iconst (v := 1) dL_law_603 (by decide)
theorem eL_law_604 {x y : Int32} {L S : List Value} {h : Sto} : ev mL_law 604 L (.int y :: .int x :: S) h = ev mL_law 605 L (.int (x + y) :: S) h := g_iadd dL_law_604
theorem eL_law_605 {x : Int32} {L S : List Value} {h : Sto} : ev mL_law 605 L (.int x :: .ref 400 :: S) h = if x < 0 ∨ (h 401 0).toNatClampNeg ≤ x.toNatClampNeg then none else ev mL_law 606 L (.int (h 400 x.toNatClampNeg) :: S) h := g_iaX dL_law_605
theorem eL_law_606 {s0 : Int32} {L : List Value} {h : Sto} : ev mL_law 606 L [.int s0, .ref 0] h = (ev mX6_better 0 [.ref 0, .int s0, .null, .null] [] h).bind (fun q => ev mL_law 609 L (q.1.toList ++ []) q.2) := g_calV (i := 81) (n := 1) (cal := mX6_better) (A := [.ref 0, .int s0]) (rest := []) dL_law_606 (by rfl) (by decide) ⟨by simp only [List.length_cons, List.length_nil]; omega, by simp only [List.drop, List.length_cons, List.length_nil]; omega, rfl⟩ rfl rfl rfl rfl
theorem eL_law_609 {a0 a1 : Value} {x : Nat} {T S : List Value} {h : Sto} : ev mL_law 609 (a0 :: a1 :: .ref x :: T) S h = ev mL_law 610 (a0 :: a1 :: .ref x :: T) (.ref x :: S) h := g_aload_n dL_law_609 rfl
theorem eL_law_610 {x : Nat} {T S : List Value} {h : Sto} : ev mL_law 610 (.ref x :: T) S h = ev mL_law 611 (.ref x :: T) (.ref x :: S) h := g_aload_n dL_law_610 rfl
theorem eL_law_611 {a0 a1 a2 : Value} {x : Int32} {T S : List Value} {h : Sto} : ev mL_law 611 (a0 :: a1 :: a2 :: .int x :: T) S h = ev mL_law 612 (a0 :: a1 :: a2 :: .int x :: T) (.int x :: S) h := g_iload_n dL_law_611 rfl
theorem eL_law_612  {L S : List Value} {h : Sto} : ev mL_law 612 L S h = ev mL_law 613 L (.int 1 :: S) h := g_iconst (v := 1) dL_law_612 (by decide)
theorem eL_law_613 {x y : Int32} {L S : List Value} {h : Sto} : ev mL_law 613 L (.int y :: .int x :: S) h = ev mL_law 614 L (.int (x + y) :: S) h := g_iadd dL_law_613
theorem eL_law_614 {x : Int32} {L S : List Value} {h : Sto} : ev mL_law 614 L (.int x :: .ref 400 :: S) h = if x < 0 ∨ (h 401 0).toNatClampNeg ≤ x.toNatClampNeg then none else ev mL_law 615 L (.int (h 400 x.toNatClampNeg) :: S) h := g_iaX dL_law_614
theorem eL_law_615 {s0 : Int32} {s2 : Int32} {L : List Value} {h : Sto} : ev mL_law 615 L [.int s0, .ref 17, .int s2] h = (ev mX7_better 0 [.ref 17, .int s0, .null, .null] [] h).bind (fun q => ev mL_law 618 L (q.1.toList ++ [.int s2]) q.2) := g_calV (i := 84) (n := 1) (cal := mX7_better) (A := [.ref 17, .int s0]) (rest := [.int s2]) dL_law_615 (by rfl) (by decide) ⟨by simp only [List.length_cons, List.length_nil]; omega, by simp only [List.drop, List.length_cons, List.length_nil]; omega, rfl⟩ rfl rfl rfl rfl
theorem eL_law_618 {x y : Int32} {L S : List Value} {h : Sto} : ev mL_law 618 L (.int y :: .int x :: S) h = if x = y then ev mL_law 1060 L S h else ev mL_law 621 L S h := g_icmpeq (tgt := 1060) dL_law_618 (by decide)
theorem eL_law_621  {L S : List Value} {h : Sto} : ev mL_law 621 L S h = ev mL_law 622 L (.int 0 :: S) h := g_iconst (v := 0) dL_law_621 (by decide)
theorem eL_law_622 {L : List Value} {h : Sto} {v : Int32} : ev mL_law 622 L [.int v] h = if v = 0 ∨ v = 1 then some (some (.int v), h) else none := g_iretZ dL_law_622 rfl
theorem eL_law_623 {a0 : Value} {x : Nat} {T S : List Value} {h : Sto} : ev mL_law 623 (a0 :: .ref x :: T) S h = ev mL_law 624 (a0 :: .ref x :: T) (.ref x :: S) h := g_aload_n dL_law_623 rfl
theorem eL_law_624 {x : Nat} {T S : List Value} {h : Sto} : ev mL_law 624 (.ref x :: T) S h = ev mL_law 625 (.ref x :: T) (.ref x :: S) h := g_aload_n dL_law_624 rfl
theorem eL_law_625 {a0 a1 a2 : Value} {x : Int32} {T S : List Value} {h : Sto} : ev mL_law 625 (a0 :: a1 :: a2 :: .int x :: T) S h = ev mL_law 626 (a0 :: a1 :: a2 :: .int x :: T) (.int x :: S) h := g_iload_n dL_law_625 rfl
theorem eL_law_626  {L S : List Value} {h : Sto} : ev mL_law 626 L S h = ev mL_law 627 L (.int 1 :: S) h := g_iconst (v := 1) dL_law_626 (by decide)
theorem eL_law_627 {x y : Int32} {L S : List Value} {h : Sto} : ev mL_law 627 L (.int y :: .int x :: S) h = ev mL_law 628 L (.int (x + y) :: S) h := g_iadd dL_law_627
theorem eL_law_628 {x : Int32} {L S : List Value} {h : Sto} : ev mL_law 628 L (.int x :: .ref 400 :: S) h = if x < 0 ∨ (h 401 0).toNatClampNeg ≤ x.toNatClampNeg then none else ev mL_law 629 L (.int (h 400 x.toNatClampNeg) :: S) h := g_iaX dL_law_628
theorem eL_law_629 {x : Nat} {T S : List Value} {h : Sto} : ev mL_law 629 (.ref x :: T) S h = ev mL_law 630 (.ref x :: T) (.ref x :: S) h := g_aload_n dL_law_629 rfl
theorem eL_law_630 {a0 a1 a2 : Value} {x : Int32} {T S : List Value} {h : Sto} : ev mL_law 630 (a0 :: a1 :: a2 :: .int x :: T) S h = ev mL_law 631 (a0 :: a1 :: a2 :: .int x :: T) (.int x :: S) h := g_iload_n dL_law_630 rfl
theorem eL_law_631  {L S : List Value} {h : Sto} : ev mL_law 631 L S h = ev mL_law 632 L (.int 2 :: S) h := g_iconst (v := 2) dL_law_631 (by decide)
theorem eL_law_632 {x y : Int32} {L S : List Value} {h : Sto} : ev mL_law 632 L (.int y :: .int x :: S) h = ev mL_law 633 L (.int (x + y) :: S) h := g_iadd dL_law_632
theorem eL_law_633 {x : Int32} {L S : List Value} {h : Sto} : ev mL_law 633 L (.int x :: .ref 400 :: S) h = if x < 0 ∨ (h 401 0).toNatClampNeg ≤ x.toNatClampNeg then none else ev mL_law 634 L (.int (h 400 x.toNatClampNeg) :: S) h := g_iaX dL_law_633
theorem eL_law_634 {s0 : Int32} {s1 : Int32} {L : List Value} {h : Sto} : ev mL_law 634 L [.int s0, .int s1, .ref 0] h = (ev mX6_inIn 0 [.ref 0, .int s1, .int s0, .null] [] h).bind (fun q => ev mL_law 637 L (q.1.toList ++ []) q.2) := g_calV (i := 85) (n := 2) (cal := mX6_inIn) (A := [.ref 0, .int s1, .int s0]) (rest := []) dL_law_634 (by rfl) (by decide) ⟨by simp only [List.length_cons, List.length_nil]; omega, by simp only [List.drop, List.length_cons, List.length_nil]; omega, rfl⟩ rfl rfl rfl rfl
theorem eL_law_637 {a0 a1 : Value} {x : Nat} {T S : List Value} {h : Sto} : ev mL_law 637 (a0 :: a1 :: .ref x :: T) S h = ev mL_law 638 (a0 :: a1 :: .ref x :: T) (.ref x :: S) h := g_aload_n dL_law_637 rfl
theorem eL_law_638 {x : Nat} {T S : List Value} {h : Sto} : ev mL_law 638 (.ref x :: T) S h = ev mL_law 639 (.ref x :: T) (.ref x :: S) h := g_aload_n dL_law_638 rfl
theorem eL_law_639 {a0 a1 a2 : Value} {x : Int32} {T S : List Value} {h : Sto} : ev mL_law 639 (a0 :: a1 :: a2 :: .int x :: T) S h = ev mL_law 640 (a0 :: a1 :: a2 :: .int x :: T) (.int x :: S) h := g_iload_n dL_law_639 rfl
theorem eL_law_640  {L S : List Value} {h : Sto} : ev mL_law 640 L S h = ev mL_law 641 L (.int 1 :: S) h := g_iconst (v := 1) dL_law_640 (by decide)
theorem eL_law_641 {x y : Int32} {L S : List Value} {h : Sto} : ev mL_law 641 L (.int y :: .int x :: S) h = ev mL_law 642 L (.int (x + y) :: S) h := g_iadd dL_law_641
theorem eL_law_642 {x : Int32} {L S : List Value} {h : Sto} : ev mL_law 642 L (.int x :: .ref 400 :: S) h = if x < 0 ∨ (h 401 0).toNatClampNeg ≤ x.toNatClampNeg then none else ev mL_law 643 L (.int (h 400 x.toNatClampNeg) :: S) h := g_iaX dL_law_642
theorem eL_law_643 {x : Nat} {T S : List Value} {h : Sto} : ev mL_law 643 (.ref x :: T) S h = ev mL_law 644 (.ref x :: T) (.ref x :: S) h := g_aload_n dL_law_643 rfl
theorem eL_law_644 {a0 a1 a2 : Value} {x : Int32} {T S : List Value} {h : Sto} : ev mL_law 644 (a0 :: a1 :: a2 :: .int x :: T) S h = ev mL_law 645 (a0 :: a1 :: a2 :: .int x :: T) (.int x :: S) h := g_iload_n dL_law_644 rfl
theorem eL_law_645  {L S : List Value} {h : Sto} : ev mL_law 645 L S h = ev mL_law 646 L (.int 2 :: S) h := g_iconst (v := 2) dL_law_645 (by decide)
theorem eL_law_646 {x y : Int32} {L S : List Value} {h : Sto} : ev mL_law 646 L (.int y :: .int x :: S) h = ev mL_law 647 L (.int (x + y) :: S) h := g_iadd dL_law_646
theorem eL_law_647 {x : Int32} {L S : List Value} {h : Sto} : ev mL_law 647 L (.int x :: .ref 400 :: S) h = if x < 0 ∨ (h 401 0).toNatClampNeg ≤ x.toNatClampNeg then none else ev mL_law 648 L (.int (h 400 x.toNatClampNeg) :: S) h := g_iaX dL_law_647
theorem eL_law_648 {s0 : Int32} {s1 : Int32} {s3 : Int32} {L : List Value} {h : Sto} : ev mL_law 648 L [.int s0, .int s1, .ref 17, .int s3] h = (ev mX7_inIn 0 [.ref 17, .int s1, .int s0, .null] [] h).bind (fun q => ev mL_law 651 L (q.1.toList ++ [.int s3]) q.2) := g_calV (i := 88) (n := 2) (cal := mX7_inIn) (A := [.ref 17, .int s1, .int s0]) (rest := [.int s3]) dL_law_648 (by rfl) (by decide) ⟨by simp only [List.length_cons, List.length_nil]; omega, by simp only [List.drop, List.length_cons, List.length_nil]; omega, rfl⟩ rfl rfl rfl rfl
theorem eL_law_651 {x y : Int32} {L S : List Value} {h : Sto} : ev mL_law 651 L (.int y :: .int x :: S) h = if x = y then ev mL_law 1060 L S h else ev mL_law 654 L S h := g_icmpeq (tgt := 1060) dL_law_651 (by decide)
theorem eL_law_654  {L S : List Value} {h : Sto} : ev mL_law 654 L S h = ev mL_law 655 L (.int 0 :: S) h := g_iconst (v := 0) dL_law_654 (by decide)
theorem eL_law_655 {L : List Value} {h : Sto} {v : Int32} : ev mL_law 655 L [.int v] h = if v = 0 ∨ v = 1 then some (some (.int v), h) else none := g_iretZ dL_law_655 rfl
theorem eL_law_656 {a0 : Value} {x : Nat} {T S : List Value} {h : Sto} : ev mL_law 656 (a0 :: .ref x :: T) S h = ev mL_law 657 (a0 :: .ref x :: T) (.ref x :: S) h := g_aload_n dL_law_656 rfl
theorem eL_law_657 {x : Nat} {T S : List Value} {h : Sto} : ev mL_law 657 (.ref x :: T) S h = ev mL_law 658 (.ref x :: T) (.ref x :: S) h := g_aload_n dL_law_657 rfl
theorem eL_law_658 {a0 a1 a2 : Value} {x : Int32} {T S : List Value} {h : Sto} : ev mL_law 658 (a0 :: a1 :: a2 :: .int x :: T) S h = ev mL_law 659 (a0 :: a1 :: a2 :: .int x :: T) (.int x :: S) h := g_iload_n dL_law_658 rfl
theorem eL_law_659  {L S : List Value} {h : Sto} : ev mL_law 659 L S h = ev mL_law 660 L (.int 1 :: S) h := g_iconst (v := 1) dL_law_659 (by decide)
theorem eL_law_660 {x y : Int32} {L S : List Value} {h : Sto} : ev mL_law 660 L (.int y :: .int x :: S) h = ev mL_law 661 L (.int (x + y) :: S) h := g_iadd dL_law_660
theorem eL_law_661 {x : Int32} {L S : List Value} {h : Sto} : ev mL_law 661 L (.int x :: .ref 400 :: S) h = if x < 0 ∨ (h 401 0).toNatClampNeg ≤ x.toNatClampNeg then none else ev mL_law 662 L (.int (h 400 x.toNatClampNeg) :: S) h := g_iaX dL_law_661
theorem eL_law_662 {s0 : Int32} {L : List Value} {h : Sto} : ev mL_law 662 L [.int s0, .ref 0] h = (ev mX6_lost 0 [.ref 0, .int s0, .null] [] h).bind (fun q => ev mL_law 665 L (q.1.toList ++ []) q.2) := g_calV (i := 89) (n := 1) (cal := mX6_lost) (A := [.ref 0, .int s0]) (rest := []) dL_law_662 (by rfl) (by decide) ⟨by simp only [List.length_cons, List.length_nil]; omega, by simp only [List.drop, List.length_cons, List.length_nil]; omega, rfl⟩ rfl rfl rfl rfl
theorem eL_law_665 {a0 a1 : Value} {x : Nat} {T S : List Value} {h : Sto} : ev mL_law 665 (a0 :: a1 :: .ref x :: T) S h = ev mL_law 666 (a0 :: a1 :: .ref x :: T) (.ref x :: S) h := g_aload_n dL_law_665 rfl
theorem eL_law_666 {x : Nat} {T S : List Value} {h : Sto} : ev mL_law 666 (.ref x :: T) S h = ev mL_law 667 (.ref x :: T) (.ref x :: S) h := g_aload_n dL_law_666 rfl
theorem eL_law_667 {a0 a1 a2 : Value} {x : Int32} {T S : List Value} {h : Sto} : ev mL_law 667 (a0 :: a1 :: a2 :: .int x :: T) S h = ev mL_law 668 (a0 :: a1 :: a2 :: .int x :: T) (.int x :: S) h := g_iload_n dL_law_667 rfl
theorem eL_law_668  {L S : List Value} {h : Sto} : ev mL_law 668 L S h = ev mL_law 669 L (.int 1 :: S) h := g_iconst (v := 1) dL_law_668 (by decide)
theorem eL_law_669 {x y : Int32} {L S : List Value} {h : Sto} : ev mL_law 669 L (.int y :: .int x :: S) h = ev mL_law 670 L (.int (x + y) :: S) h := g_iadd dL_law_669
theorem eL_law_670 {x : Int32} {L S : List Value} {h : Sto} : ev mL_law 670 L (.int x :: .ref 400 :: S) h = if x < 0 ∨ (h 401 0).toNatClampNeg ≤ x.toNatClampNeg then none else ev mL_law 671 L (.int (h 400 x.toNatClampNeg) :: S) h := g_iaX dL_law_670
theorem eL_law_671 {s0 : Int32} {s2 : Int32} {L : List Value} {h : Sto} : ev mL_law 671 L [.int s0, .ref 17, .int s2] h = (ev mX7_lost 0 [.ref 17, .int s0, .null, .null] [] h).bind (fun q => ev mL_law 674 L (q.1.toList ++ [.int s2]) q.2) := g_calV (i := 92) (n := 1) (cal := mX7_lost) (A := [.ref 17, .int s0]) (rest := [.int s2]) dL_law_671 (by rfl) (by decide) ⟨by simp only [List.length_cons, List.length_nil]; omega, by simp only [List.drop, List.length_cons, List.length_nil]; omega, rfl⟩ rfl rfl rfl rfl
theorem eL_law_674 {x y : Int32} {L S : List Value} {h : Sto} : ev mL_law 674 L (.int y :: .int x :: S) h = if x = y then ev mL_law 1060 L S h else ev mL_law 677 L S h := g_icmpeq (tgt := 1060) dL_law_674 (by decide)
theorem eL_law_677  {L S : List Value} {h : Sto} : ev mL_law 677 L S h = ev mL_law 678 L (.int 0 :: S) h := g_iconst (v := 0) dL_law_677 (by decide)
theorem eL_law_678 {L : List Value} {h : Sto} {v : Int32} : ev mL_law 678 L [.int v] h = if v = 0 ∨ v = 1 then some (some (.int v), h) else none := g_iretZ dL_law_678 rfl
theorem eL_law_679 {a0 : Value} {x : Nat} {T S : List Value} {h : Sto} : ev mL_law 679 (a0 :: .ref x :: T) S h = ev mL_law 680 (a0 :: .ref x :: T) (.ref x :: S) h := g_aload_n dL_law_679 rfl
theorem eL_law_680 {L : List Value} {h : Sto} : ev mL_law 680 L [.ref 0] h = (ev mX6_still 0 [.ref 0, .null] [] h).bind (fun q => ev mL_law 683 L (q.1.toList ++ []) q.2) := g_calV (i := 93) (n := 0) (cal := mX6_still) (A := [.ref 0]) (rest := []) dL_law_680 (by rfl) (by decide) ⟨by simp only [List.length_cons, List.length_nil]; omega, by simp only [List.drop, List.length_cons, List.length_nil]; omega, rfl⟩ rfl rfl rfl rfl
theorem eL_law_683 {a0 a1 : Value} {x : Nat} {T S : List Value} {h : Sto} : ev mL_law 683 (a0 :: a1 :: .ref x :: T) S h = ev mL_law 684 (a0 :: a1 :: .ref x :: T) (.ref x :: S) h := g_aload_n dL_law_683 rfl
theorem eL_law_684 {s1 : Int32} {L : List Value} {h : Sto} : ev mL_law 684 L [.ref 17, .int s1] h = (ev mX7_still 0 [.ref 17, .null] [] h).bind (fun q => ev mL_law 687 L (q.1.toList ++ [.int s1]) q.2) := g_calV (i := 96) (n := 0) (cal := mX7_still) (A := [.ref 17]) (rest := [.int s1]) dL_law_684 (by rfl) (by decide) ⟨by simp only [List.length_cons, List.length_nil]; omega, by simp only [List.drop, List.length_cons, List.length_nil]; omega, rfl⟩ rfl rfl rfl rfl
theorem eL_law_687 {x y : Int32} {L S : List Value} {h : Sto} : ev mL_law 687 L (.int y :: .int x :: S) h = if x = y then ev mL_law 1060 L S h else ev mL_law 690 L S h := g_icmpeq (tgt := 1060) dL_law_687 (by decide)
theorem eL_law_690  {L S : List Value} {h : Sto} : ev mL_law 690 L S h = ev mL_law 691 L (.int 0 :: S) h := g_iconst (v := 0) dL_law_690 (by decide)
theorem eL_law_691 {L : List Value} {h : Sto} {v : Int32} : ev mL_law 691 L [.int v] h = if v = 0 ∨ v = 1 then some (some (.int v), h) else none := g_iretZ dL_law_691 rfl
theorem eL_law_692 {a0 : Value} {x : Nat} {T S : List Value} {h : Sto} : ev mL_law 692 (a0 :: .ref x :: T) S h = ev mL_law 693 (a0 :: .ref x :: T) (.ref x :: S) h := g_aload_n dL_law_692 rfl
theorem eL_law_693 {x : Nat} {T S : List Value} {h : Sto} : ev mL_law 693 (.ref x :: T) S h = ev mL_law 694 (.ref x :: T) (.ref x :: S) h := g_aload_n dL_law_693 rfl
theorem eL_law_694 {a0 a1 a2 : Value} {x : Int32} {T S : List Value} {h : Sto} : ev mL_law 694 (a0 :: a1 :: a2 :: .int x :: T) S h = ev mL_law 695 (a0 :: a1 :: a2 :: .int x :: T) (.int x :: S) h := g_iload_n dL_law_694 rfl
theorem eL_law_695  {L S : List Value} {h : Sto} : ev mL_law 695 L S h = ev mL_law 696 L (.int 1 :: S) h := g_iconst (v := 1) dL_law_695 (by decide)
theorem eL_law_696 {x y : Int32} {L S : List Value} {h : Sto} : ev mL_law 696 L (.int y :: .int x :: S) h = ev mL_law 697 L (.int (x + y) :: S) h := g_iadd dL_law_696
theorem eL_law_697 {x : Int32} {L S : List Value} {h : Sto} : ev mL_law 697 L (.int x :: .ref 400 :: S) h = if x < 0 ∨ (h 401 0).toNatClampNeg ≤ x.toNatClampNeg then none else ev mL_law 698 L (.int (h 400 x.toNatClampNeg) :: S) h := g_iaX dL_law_697
theorem eL_law_698 {s0 : Int32} {L : List Value} {h : Sto} : ev mL_law 698 L [.int s0, .ref 0] h = (ev mX6_keep 0 [.ref 0, .int s0, .null, .null, .null] [] h).bind (fun q => ev mL_law 701 L (q.1.toList ++ []) q.2) := g_calV (i := 97) (n := 1) (cal := mX6_keep) (A := [.ref 0, .int s0]) (rest := []) dL_law_698 (by rfl) (by decide) ⟨by simp only [List.length_cons, List.length_nil]; omega, by simp only [List.drop, List.length_cons, List.length_nil]; omega, rfl⟩ rfl rfl rfl rfl
theorem eL_law_701 {a0 a1 : Value} {x : Nat} {T S : List Value} {h : Sto} : ev mL_law 701 (a0 :: a1 :: .ref x :: T) S h = ev mL_law 702 (a0 :: a1 :: .ref x :: T) (.ref x :: S) h := g_aload_n dL_law_701 rfl
theorem eL_law_702 {x : Nat} {T S : List Value} {h : Sto} : ev mL_law 702 (.ref x :: T) S h = ev mL_law 703 (.ref x :: T) (.ref x :: S) h := g_aload_n dL_law_702 rfl
theorem eL_law_703 {a0 a1 a2 : Value} {x : Int32} {T S : List Value} {h : Sto} : ev mL_law 703 (a0 :: a1 :: a2 :: .int x :: T) S h = ev mL_law 704 (a0 :: a1 :: a2 :: .int x :: T) (.int x :: S) h := g_iload_n dL_law_703 rfl
theorem eL_law_704  {L S : List Value} {h : Sto} : ev mL_law 704 L S h = ev mL_law 705 L (.int 1 :: S) h := g_iconst (v := 1) dL_law_704 (by decide)
theorem eL_law_705 {x y : Int32} {L S : List Value} {h : Sto} : ev mL_law 705 L (.int y :: .int x :: S) h = ev mL_law 706 L (.int (x + y) :: S) h := g_iadd dL_law_705
theorem eL_law_706 {x : Int32} {L S : List Value} {h : Sto} : ev mL_law 706 L (.int x :: .ref 400 :: S) h = if x < 0 ∨ (h 401 0).toNatClampNeg ≤ x.toNatClampNeg then none else ev mL_law 707 L (.int (h 400 x.toNatClampNeg) :: S) h := g_iaX dL_law_706
theorem eL_law_707 {s0 : Int32} {s2 : Int32} {L : List Value} {h : Sto} : ev mL_law 707 L [.int s0, .ref 17, .int s2] h = (ev mX7_keep 0 [.ref 17, .int s0, .null, .null, .null, .null] [] h).bind (fun q => ev mL_law 710 L (q.1.toList ++ [.int s2]) q.2) := g_calV (i := 100) (n := 1) (cal := mX7_keep) (A := [.ref 17, .int s0]) (rest := [.int s2]) dL_law_707 (by rfl) (by decide) ⟨by simp only [List.length_cons, List.length_nil]; omega, by simp only [List.drop, List.length_cons, List.length_nil]; omega, rfl⟩ rfl rfl rfl rfl
theorem eL_law_710 {x y : Int32} {L S : List Value} {h : Sto} : ev mL_law 710 L (.int y :: .int x :: S) h = if x = y then ev mL_law 1060 L S h else ev mL_law 713 L S h := g_icmpeq (tgt := 1060) dL_law_710 (by decide)
theorem eL_law_713  {L S : List Value} {h : Sto} : ev mL_law 713 L S h = ev mL_law 714 L (.int 0 :: S) h := g_iconst (v := 0) dL_law_713 (by decide)
theorem eL_law_714 {L : List Value} {h : Sto} {v : Int32} : ev mL_law 714 L [.int v] h = if v = 0 ∨ v = 1 then some (some (.int v), h) else none := g_iretZ dL_law_714 rfl
theorem eL_law_715 {a0 : Value} {x : Nat} {T S : List Value} {h : Sto} : ev mL_law 715 (a0 :: .ref x :: T) S h = ev mL_law 716 (a0 :: .ref x :: T) (.ref x :: S) h := g_aload_n dL_law_715 rfl
theorem eL_law_716 {x : Nat} {T S : List Value} {h : Sto} : ev mL_law 716 (.ref x :: T) S h = ev mL_law 717 (.ref x :: T) (.ref x :: S) h := g_aload_n dL_law_716 rfl
theorem eL_law_717 {a0 a1 a2 : Value} {x : Int32} {T S : List Value} {h : Sto} : ev mL_law 717 (a0 :: a1 :: a2 :: .int x :: T) S h = ev mL_law 718 (a0 :: a1 :: a2 :: .int x :: T) (.int x :: S) h := g_iload_n dL_law_717 rfl
theorem eL_law_718  {L S : List Value} {h : Sto} : ev mL_law 718 L S h = ev mL_law 719 L (.int 1 :: S) h := g_iconst (v := 1) dL_law_718 (by decide)
theorem eL_law_719 {x y : Int32} {L S : List Value} {h : Sto} : ev mL_law 719 L (.int y :: .int x :: S) h = ev mL_law 720 L (.int (x + y) :: S) h := g_iadd dL_law_719
theorem eL_law_720 {x : Int32} {L S : List Value} {h : Sto} : ev mL_law 720 L (.int x :: .ref 400 :: S) h = if x < 0 ∨ (h 401 0).toNatClampNeg ≤ x.toNatClampNeg then none else ev mL_law 721 L (.int (h 400 x.toNatClampNeg) :: S) h := g_iaX dL_law_720
theorem eL_law_721 {x : Nat} {T S : List Value} {h : Sto} : ev mL_law 721 (.ref x :: T) S h = ev mL_law 722 (.ref x :: T) (.ref x :: S) h := g_aload_n dL_law_721 rfl
theorem eL_law_722 {a0 a1 a2 : Value} {x : Int32} {T S : List Value} {h : Sto} : ev mL_law 722 (a0 :: a1 :: a2 :: .int x :: T) S h = ev mL_law 723 (a0 :: a1 :: a2 :: .int x :: T) (.int x :: S) h := g_iload_n dL_law_722 rfl
theorem eL_law_723  {L S : List Value} {h : Sto} : ev mL_law 723 L S h = ev mL_law 724 L (.int 2 :: S) h := g_iconst (v := 2) dL_law_723 (by decide)
theorem eL_law_724 {x y : Int32} {L S : List Value} {h : Sto} : ev mL_law 724 L (.int y :: .int x :: S) h = ev mL_law 725 L (.int (x + y) :: S) h := g_iadd dL_law_724
theorem eL_law_725 {x : Int32} {L S : List Value} {h : Sto} : ev mL_law 725 L (.int x :: .ref 400 :: S) h = if x < 0 ∨ (h 401 0).toNatClampNeg ≤ x.toNatClampNeg then none else ev mL_law 726 L (.int (h 400 x.toNatClampNeg) :: S) h := g_iaX dL_law_725
theorem eL_law_726 {s0 : Int32} {s1 : Int32} {L : List Value} {h : Sto} : ev mL_law 726 L [.int s0, .int s1, .ref 0] h = (ev mX6_deep 0 [.ref 0, .int s1, .int s0, .null, .null] [] h).bind (fun q => ev mL_law 729 L (q.1.toList ++ []) q.2) := g_calV (i := 101) (n := 2) (cal := mX6_deep) (A := [.ref 0, .int s1, .int s0]) (rest := []) dL_law_726 (by rfl) (by decide) ⟨by simp only [List.length_cons, List.length_nil]; omega, by simp only [List.drop, List.length_cons, List.length_nil]; omega, rfl⟩ rfl rfl rfl rfl
theorem eL_law_729 {a0 a1 : Value} {x : Nat} {T S : List Value} {h : Sto} : ev mL_law 729 (a0 :: a1 :: .ref x :: T) S h = ev mL_law 730 (a0 :: a1 :: .ref x :: T) (.ref x :: S) h := g_aload_n dL_law_729 rfl
theorem eL_law_730 {x : Nat} {T S : List Value} {h : Sto} : ev mL_law 730 (.ref x :: T) S h = ev mL_law 731 (.ref x :: T) (.ref x :: S) h := g_aload_n dL_law_730 rfl
theorem eL_law_731 {a0 a1 a2 : Value} {x : Int32} {T S : List Value} {h : Sto} : ev mL_law 731 (a0 :: a1 :: a2 :: .int x :: T) S h = ev mL_law 732 (a0 :: a1 :: a2 :: .int x :: T) (.int x :: S) h := g_iload_n dL_law_731 rfl
theorem eL_law_732  {L S : List Value} {h : Sto} : ev mL_law 732 L S h = ev mL_law 733 L (.int 1 :: S) h := g_iconst (v := 1) dL_law_732 (by decide)
theorem eL_law_733 {x y : Int32} {L S : List Value} {h : Sto} : ev mL_law 733 L (.int y :: .int x :: S) h = ev mL_law 734 L (.int (x + y) :: S) h := g_iadd dL_law_733
theorem eL_law_734 {x : Int32} {L S : List Value} {h : Sto} : ev mL_law 734 L (.int x :: .ref 400 :: S) h = if x < 0 ∨ (h 401 0).toNatClampNeg ≤ x.toNatClampNeg then none else ev mL_law 735 L (.int (h 400 x.toNatClampNeg) :: S) h := g_iaX dL_law_734
theorem eL_law_735 {x : Nat} {T S : List Value} {h : Sto} : ev mL_law 735 (.ref x :: T) S h = ev mL_law 736 (.ref x :: T) (.ref x :: S) h := g_aload_n dL_law_735 rfl
theorem eL_law_736 {a0 a1 a2 : Value} {x : Int32} {T S : List Value} {h : Sto} : ev mL_law 736 (a0 :: a1 :: a2 :: .int x :: T) S h = ev mL_law 737 (a0 :: a1 :: a2 :: .int x :: T) (.int x :: S) h := g_iload_n dL_law_736 rfl
theorem eL_law_737  {L S : List Value} {h : Sto} : ev mL_law 737 L S h = ev mL_law 738 L (.int 2 :: S) h := g_iconst (v := 2) dL_law_737 (by decide)
theorem eL_law_738 {x y : Int32} {L S : List Value} {h : Sto} : ev mL_law 738 L (.int y :: .int x :: S) h = ev mL_law 739 L (.int (x + y) :: S) h := g_iadd dL_law_738
theorem eL_law_739 {x : Int32} {L S : List Value} {h : Sto} : ev mL_law 739 L (.int x :: .ref 400 :: S) h = if x < 0 ∨ (h 401 0).toNatClampNeg ≤ x.toNatClampNeg then none else ev mL_law 740 L (.int (h 400 x.toNatClampNeg) :: S) h := g_iaX dL_law_739
theorem eL_law_740 {s0 : Int32} {s1 : Int32} {s3 : Int32} {L : List Value} {h : Sto} : ev mL_law 740 L [.int s0, .int s1, .ref 17, .int s3] h = (ev mX7_deep 0 [.ref 17, .int s1, .int s0, .null, .null, .null] [] h).bind (fun q => ev mL_law 743 L (q.1.toList ++ [.int s3]) q.2) := g_calV (i := 104) (n := 2) (cal := mX7_deep) (A := [.ref 17, .int s1, .int s0]) (rest := [.int s3]) dL_law_740 (by rfl) (by decide) ⟨by simp only [List.length_cons, List.length_nil]; omega, by simp only [List.drop, List.length_cons, List.length_nil]; omega, rfl⟩ rfl rfl rfl rfl
theorem eL_law_743 {x y : Int32} {L S : List Value} {h : Sto} : ev mL_law 743 L (.int y :: .int x :: S) h = if x = y then ev mL_law 1060 L S h else ev mL_law 746 L S h := g_icmpeq (tgt := 1060) dL_law_743 (by decide)
theorem eL_law_746  {L S : List Value} {h : Sto} : ev mL_law 746 L S h = ev mL_law 747 L (.int 0 :: S) h := g_iconst (v := 0) dL_law_746 (by decide)
theorem eL_law_747 {L : List Value} {h : Sto} {v : Int32} : ev mL_law 747 L [.int v] h = if v = 0 ∨ v = 1 then some (some (.int v), h) else none := g_iretZ dL_law_747 rfl
theorem eL_law_748 {a0 : Value} {x : Nat} {T S : List Value} {h : Sto} : ev mL_law 748 (a0 :: .ref x :: T) S h = ev mL_law 749 (a0 :: .ref x :: T) (.ref x :: S) h := g_aload_n dL_law_748 rfl
theorem eL_law_749 {x : Nat} {T S : List Value} {h : Sto} : ev mL_law 749 (.ref x :: T) S h = ev mL_law 750 (.ref x :: T) (.ref x :: S) h := g_aload_n dL_law_749 rfl
theorem eL_law_750 {a0 a1 a2 : Value} {x : Int32} {T S : List Value} {h : Sto} : ev mL_law 750 (a0 :: a1 :: a2 :: .int x :: T) S h = ev mL_law 751 (a0 :: a1 :: a2 :: .int x :: T) (.int x :: S) h := g_iload_n dL_law_750 rfl
theorem eL_law_751  {L S : List Value} {h : Sto} : ev mL_law 751 L S h = ev mL_law 752 L (.int 1 :: S) h := g_iconst (v := 1) dL_law_751 (by decide)
theorem eL_law_752 {x y : Int32} {L S : List Value} {h : Sto} : ev mL_law 752 L (.int y :: .int x :: S) h = ev mL_law 753 L (.int (x + y) :: S) h := g_iadd dL_law_752
theorem eL_law_753 {x : Int32} {L S : List Value} {h : Sto} : ev mL_law 753 L (.int x :: .ref 400 :: S) h = if x < 0 ∨ (h 401 0).toNatClampNeg ≤ x.toNatClampNeg then none else ev mL_law 754 L (.int (h 400 x.toNatClampNeg) :: S) h := g_iaX dL_law_753
theorem eL_law_754 {x : Nat} {T S : List Value} {h : Sto} : ev mL_law 754 (.ref x :: T) S h = ev mL_law 755 (.ref x :: T) (.ref x :: S) h := g_aload_n dL_law_754 rfl
theorem eL_law_755 {a0 a1 a2 : Value} {x : Int32} {T S : List Value} {h : Sto} : ev mL_law 755 (a0 :: a1 :: a2 :: .int x :: T) S h = ev mL_law 756 (a0 :: a1 :: a2 :: .int x :: T) (.int x :: S) h := g_iload_n dL_law_755 rfl
theorem eL_law_756  {L S : List Value} {h : Sto} : ev mL_law 756 L S h = ev mL_law 757 L (.int 2 :: S) h := g_iconst (v := 2) dL_law_756 (by decide)
theorem eL_law_757 {x y : Int32} {L S : List Value} {h : Sto} : ev mL_law 757 L (.int y :: .int x :: S) h = ev mL_law 758 L (.int (x + y) :: S) h := g_iadd dL_law_757
theorem eL_law_758 {x : Int32} {L S : List Value} {h : Sto} : ev mL_law 758 L (.int x :: .ref 400 :: S) h = if x < 0 ∨ (h 401 0).toNatClampNeg ≤ x.toNatClampNeg then none else ev mL_law 759 L (.int (h 400 x.toNatClampNeg) :: S) h := g_iaX dL_law_758
theorem eL_law_759 {s0 : Int32} {s1 : Int32} {L : List Value} {h : Sto} : ev mL_law 759 L [.int s0, .int s1, .ref 0] h = (ev mX6_stops 0 [.ref 0, .int s1, .int s0, .null, .null, .null, .null, .null] [] h).bind (fun q => ev mL_law 762 L (q.1.toList ++ []) q.2) := g_calV (i := 105) (n := 2) (cal := mX6_stops) (A := [.ref 0, .int s1, .int s0]) (rest := []) dL_law_759 (by rfl) (by decide) ⟨by simp only [List.length_cons, List.length_nil]; omega, by simp only [List.drop, List.length_cons, List.length_nil]; omega, rfl⟩ rfl rfl rfl rfl
theorem eL_law_762 {a0 a1 : Value} {x : Nat} {T S : List Value} {h : Sto} : ev mL_law 762 (a0 :: a1 :: .ref x :: T) S h = ev mL_law 763 (a0 :: a1 :: .ref x :: T) (.ref x :: S) h := g_aload_n dL_law_762 rfl
theorem eL_law_763 {x : Nat} {T S : List Value} {h : Sto} : ev mL_law 763 (.ref x :: T) S h = ev mL_law 764 (.ref x :: T) (.ref x :: S) h := g_aload_n dL_law_763 rfl
theorem eL_law_764 {a0 a1 a2 : Value} {x : Int32} {T S : List Value} {h : Sto} : ev mL_law 764 (a0 :: a1 :: a2 :: .int x :: T) S h = ev mL_law 765 (a0 :: a1 :: a2 :: .int x :: T) (.int x :: S) h := g_iload_n dL_law_764 rfl
theorem eL_law_765  {L S : List Value} {h : Sto} : ev mL_law 765 L S h = ev mL_law 766 L (.int 1 :: S) h := g_iconst (v := 1) dL_law_765 (by decide)
theorem eL_law_766 {x y : Int32} {L S : List Value} {h : Sto} : ev mL_law 766 L (.int y :: .int x :: S) h = ev mL_law 767 L (.int (x + y) :: S) h := g_iadd dL_law_766
theorem eL_law_767 {x : Int32} {L S : List Value} {h : Sto} : ev mL_law 767 L (.int x :: .ref 400 :: S) h = if x < 0 ∨ (h 401 0).toNatClampNeg ≤ x.toNatClampNeg then none else ev mL_law 768 L (.int (h 400 x.toNatClampNeg) :: S) h := g_iaX dL_law_767
theorem eL_law_768 {x : Nat} {T S : List Value} {h : Sto} : ev mL_law 768 (.ref x :: T) S h = ev mL_law 769 (.ref x :: T) (.ref x :: S) h := g_aload_n dL_law_768 rfl
theorem eL_law_769 {a0 a1 a2 : Value} {x : Int32} {T S : List Value} {h : Sto} : ev mL_law 769 (a0 :: a1 :: a2 :: .int x :: T) S h = ev mL_law 770 (a0 :: a1 :: a2 :: .int x :: T) (.int x :: S) h := g_iload_n dL_law_769 rfl
theorem eL_law_770  {L S : List Value} {h : Sto} : ev mL_law 770 L S h = ev mL_law 771 L (.int 2 :: S) h := g_iconst (v := 2) dL_law_770 (by decide)
theorem eL_law_771 {x y : Int32} {L S : List Value} {h : Sto} : ev mL_law 771 L (.int y :: .int x :: S) h = ev mL_law 772 L (.int (x + y) :: S) h := g_iadd dL_law_771
theorem eL_law_772 {x : Int32} {L S : List Value} {h : Sto} : ev mL_law 772 L (.int x :: .ref 400 :: S) h = if x < 0 ∨ (h 401 0).toNatClampNeg ≤ x.toNatClampNeg then none else ev mL_law 773 L (.int (h 400 x.toNatClampNeg) :: S) h := g_iaX dL_law_772
theorem eL_law_773 {s0 : Int32} {s1 : Int32} {s3 : Int32} {L : List Value} {h : Sto} : ev mL_law 773 L [.int s0, .int s1, .ref 17, .int s3] h = (ev mX7_stops 0 [.ref 17, .int s1, .int s0, .null, .null, .null, .null, .null] [] h).bind (fun q => ev mL_law 776 L (q.1.toList ++ [.int s3]) q.2) := g_calV (i := 108) (n := 2) (cal := mX7_stops) (A := [.ref 17, .int s1, .int s0]) (rest := [.int s3]) dL_law_773 (by rfl) (by decide) ⟨by simp only [List.length_cons, List.length_nil]; omega, by simp only [List.drop, List.length_cons, List.length_nil]; omega, rfl⟩ rfl rfl rfl rfl
theorem eL_law_776 {x y : Int32} {L S : List Value} {h : Sto} : ev mL_law 776 L (.int y :: .int x :: S) h = if x = y then ev mL_law 1060 L S h else ev mL_law 779 L S h := g_icmpeq (tgt := 1060) dL_law_776 (by decide)
theorem eL_law_779  {L S : List Value} {h : Sto} : ev mL_law 779 L S h = ev mL_law 780 L (.int 0 :: S) h := g_iconst (v := 0) dL_law_779 (by decide)
theorem eL_law_780 {L : List Value} {h : Sto} {v : Int32} : ev mL_law 780 L [.int v] h = if v = 0 ∨ v = 1 then some (some (.int v), h) else none := g_iretZ dL_law_780 rfl
theorem eL_law_781 {a0 : Value} {x : Nat} {T S : List Value} {h : Sto} : ev mL_law 781 (a0 :: .ref x :: T) S h = ev mL_law 782 (a0 :: .ref x :: T) (.ref x :: S) h := g_aload_n dL_law_781 rfl
theorem eL_law_782 {x : Nat} {T S : List Value} {h : Sto} : ev mL_law 782 (.ref x :: T) S h = ev mL_law 783 (.ref x :: T) (.ref x :: S) h := g_aload_n dL_law_782 rfl
theorem eL_law_783 {a0 a1 a2 : Value} {x : Int32} {T S : List Value} {h : Sto} : ev mL_law 783 (a0 :: a1 :: a2 :: .int x :: T) S h = ev mL_law 784 (a0 :: a1 :: a2 :: .int x :: T) (.int x :: S) h := g_iload_n dL_law_783 rfl
theorem eL_law_784  {L S : List Value} {h : Sto} : ev mL_law 784 L S h = ev mL_law 785 L (.int 1 :: S) h := g_iconst (v := 1) dL_law_784 (by decide)
theorem eL_law_785 {x y : Int32} {L S : List Value} {h : Sto} : ev mL_law 785 L (.int y :: .int x :: S) h = ev mL_law 786 L (.int (x + y) :: S) h := g_iadd dL_law_785
theorem eL_law_786 {x : Int32} {L S : List Value} {h : Sto} : ev mL_law 786 L (.int x :: .ref 400 :: S) h = if x < 0 ∨ (h 401 0).toNatClampNeg ≤ x.toNatClampNeg then none else ev mL_law 787 L (.int (h 400 x.toNatClampNeg) :: S) h := g_iaX dL_law_786
theorem eL_law_787 {s0 : Int32} {L : List Value} {h : Sto} : ev mL_law 787 L [.int s0, .ref 0] h = (ev mX6_care 0 [.ref 0, .int s0, .null] [] h).bind (fun q => ev mL_law 790 L (q.1.toList ++ []) q.2) := g_calV (i := 109) (n := 1) (cal := mX6_care) (A := [.ref 0, .int s0]) (rest := []) dL_law_787 (by rfl) (by decide) ⟨by simp only [List.length_cons, List.length_nil]; omega, by simp only [List.drop, List.length_cons, List.length_nil]; omega, rfl⟩ rfl rfl rfl rfl
theorem eL_law_790 {a0 a1 : Value} {x : Nat} {T S : List Value} {h : Sto} : ev mL_law 790 (a0 :: a1 :: .ref x :: T) S h = ev mL_law 791 (a0 :: a1 :: .ref x :: T) (.ref x :: S) h := g_aload_n dL_law_790 rfl
theorem eL_law_791 {x : Nat} {T S : List Value} {h : Sto} : ev mL_law 791 (.ref x :: T) S h = ev mL_law 792 (.ref x :: T) (.ref x :: S) h := g_aload_n dL_law_791 rfl
theorem eL_law_792 {a0 a1 a2 : Value} {x : Int32} {T S : List Value} {h : Sto} : ev mL_law 792 (a0 :: a1 :: a2 :: .int x :: T) S h = ev mL_law 793 (a0 :: a1 :: a2 :: .int x :: T) (.int x :: S) h := g_iload_n dL_law_792 rfl
theorem eL_law_793  {L S : List Value} {h : Sto} : ev mL_law 793 L S h = ev mL_law 794 L (.int 1 :: S) h := g_iconst (v := 1) dL_law_793 (by decide)
theorem eL_law_794 {x y : Int32} {L S : List Value} {h : Sto} : ev mL_law 794 L (.int y :: .int x :: S) h = ev mL_law 795 L (.int (x + y) :: S) h := g_iadd dL_law_794
theorem eL_law_795 {x : Int32} {L S : List Value} {h : Sto} : ev mL_law 795 L (.int x :: .ref 400 :: S) h = if x < 0 ∨ (h 401 0).toNatClampNeg ≤ x.toNatClampNeg then none else ev mL_law 796 L (.int (h 400 x.toNatClampNeg) :: S) h := g_iaX dL_law_795
theorem eL_law_796 {s0 : Int32} {s2 : Int32} {L : List Value} {h : Sto} : ev mL_law 796 L [.int s0, .ref 17, .int s2] h = (ev mX7_care 0 [.ref 17, .int s0, .null, .null] [] h).bind (fun q => ev mL_law 799 L (q.1.toList ++ [.int s2]) q.2) := g_calV (i := 112) (n := 1) (cal := mX7_care) (A := [.ref 17, .int s0]) (rest := [.int s2]) dL_law_796 (by rfl) (by decide) ⟨by simp only [List.length_cons, List.length_nil]; omega, by simp only [List.drop, List.length_cons, List.length_nil]; omega, rfl⟩ rfl rfl rfl rfl
theorem eL_law_799 {x y : Int32} {L S : List Value} {h : Sto} : ev mL_law 799 L (.int y :: .int x :: S) h = if x = y then ev mL_law 1060 L S h else ev mL_law 802 L S h := g_icmpeq (tgt := 1060) dL_law_799 (by decide)
theorem eL_law_802  {L S : List Value} {h : Sto} : ev mL_law 802 L S h = ev mL_law 803 L (.int 0 :: S) h := g_iconst (v := 0) dL_law_802 (by decide)
theorem eL_law_803 {L : List Value} {h : Sto} {v : Int32} : ev mL_law 803 L [.int v] h = if v = 0 ∨ v = 1 then some (some (.int v), h) else none := g_iretZ dL_law_803 rfl
theorem eL_law_804 {a0 : Value} {x : Nat} {T S : List Value} {h : Sto} : ev mL_law 804 (a0 :: .ref x :: T) S h = ev mL_law 805 (a0 :: .ref x :: T) (.ref x :: S) h := g_aload_n dL_law_804 rfl
theorem eL_law_805 {x : Nat} {T S : List Value} {h : Sto} : ev mL_law 805 (.ref x :: T) S h = ev mL_law 806 (.ref x :: T) (.ref x :: S) h := g_aload_n dL_law_805 rfl
theorem eL_law_806 {a0 a1 a2 : Value} {x : Int32} {T S : List Value} {h : Sto} : ev mL_law 806 (a0 :: a1 :: a2 :: .int x :: T) S h = ev mL_law 807 (a0 :: a1 :: a2 :: .int x :: T) (.int x :: S) h := g_iload_n dL_law_806 rfl
theorem eL_law_807  {L S : List Value} {h : Sto} : ev mL_law 807 L S h = ev mL_law 808 L (.int 1 :: S) h := g_iconst (v := 1) dL_law_807 (by decide)
theorem eL_law_808 {x y : Int32} {L S : List Value} {h : Sto} : ev mL_law 808 L (.int y :: .int x :: S) h = ev mL_law 809 L (.int (x + y) :: S) h := g_iadd dL_law_808
theorem eL_law_809 {x : Int32} {L S : List Value} {h : Sto} : ev mL_law 809 L (.int x :: .ref 400 :: S) h = if x < 0 ∨ (h 401 0).toNatClampNeg ≤ x.toNatClampNeg then none else ev mL_law 810 L (.int (h 400 x.toNatClampNeg) :: S) h := g_iaX dL_law_809
theorem eL_law_810 {s0 : Int32} {L : List Value} {h : Sto} : ev mL_law 810 L [.int s0, .ref 0] h = (ev mX6_holdsUp 0 [.ref 0, .int s0, .null, .null, .null, .null] [] h).bind (fun q => ev mL_law 813 L (q.1.toList ++ []) q.2) := g_calV (i := 113) (n := 1) (cal := mX6_holdsUp) (A := [.ref 0, .int s0]) (rest := []) dL_law_810 (by rfl) (by decide) ⟨by simp only [List.length_cons, List.length_nil]; omega, by simp only [List.drop, List.length_cons, List.length_nil]; omega, rfl⟩ rfl rfl rfl rfl
theorem eL_law_813 {a0 a1 : Value} {x : Nat} {T S : List Value} {h : Sto} : ev mL_law 813 (a0 :: a1 :: .ref x :: T) S h = ev mL_law 814 (a0 :: a1 :: .ref x :: T) (.ref x :: S) h := g_aload_n dL_law_813 rfl
theorem eL_law_814 {x : Nat} {T S : List Value} {h : Sto} : ev mL_law 814 (.ref x :: T) S h = ev mL_law 815 (.ref x :: T) (.ref x :: S) h := g_aload_n dL_law_814 rfl
theorem eL_law_815 {a0 a1 a2 : Value} {x : Int32} {T S : List Value} {h : Sto} : ev mL_law 815 (a0 :: a1 :: a2 :: .int x :: T) S h = ev mL_law 816 (a0 :: a1 :: a2 :: .int x :: T) (.int x :: S) h := g_iload_n dL_law_815 rfl
theorem eL_law_816  {L S : List Value} {h : Sto} : ev mL_law 816 L S h = ev mL_law 817 L (.int 1 :: S) h := g_iconst (v := 1) dL_law_816 (by decide)
theorem eL_law_817 {x y : Int32} {L S : List Value} {h : Sto} : ev mL_law 817 L (.int y :: .int x :: S) h = ev mL_law 818 L (.int (x + y) :: S) h := g_iadd dL_law_817
theorem eL_law_818 {x : Int32} {L S : List Value} {h : Sto} : ev mL_law 818 L (.int x :: .ref 400 :: S) h = if x < 0 ∨ (h 401 0).toNatClampNeg ≤ x.toNatClampNeg then none else ev mL_law 819 L (.int (h 400 x.toNatClampNeg) :: S) h := g_iaX dL_law_818
theorem eL_law_819 {s0 : Int32} {s2 : Int32} {L : List Value} {h : Sto} : ev mL_law 819 L [.int s0, .ref 17, .int s2] h = (ev mX7_holdsUp 0 [.ref 17, .int s0, .null, .null, .null, .null] [] h).bind (fun q => ev mL_law 822 L (q.1.toList ++ [.int s2]) q.2) := g_calV (i := 116) (n := 1) (cal := mX7_holdsUp) (A := [.ref 17, .int s0]) (rest := [.int s2]) dL_law_819 (by rfl) (by decide) ⟨by simp only [List.length_cons, List.length_nil]; omega, by simp only [List.drop, List.length_cons, List.length_nil]; omega, rfl⟩ rfl rfl rfl rfl
theorem eL_law_822 {x y : Int32} {L S : List Value} {h : Sto} : ev mL_law 822 L (.int y :: .int x :: S) h = if x = y then ev mL_law 1060 L S h else ev mL_law 825 L S h := g_icmpeq (tgt := 1060) dL_law_822 (by decide)
theorem eL_law_825  {L S : List Value} {h : Sto} : ev mL_law 825 L S h = ev mL_law 826 L (.int 0 :: S) h := g_iconst (v := 0) dL_law_825 (by decide)
theorem eL_law_826 {L : List Value} {h : Sto} {v : Int32} : ev mL_law 826 L [.int v] h = if v = 0 ∨ v = 1 then some (some (.int v), h) else none := g_iretZ dL_law_826 rfl
theorem eL_law_827 {a0 : Value} {x : Nat} {T S : List Value} {h : Sto} : ev mL_law 827 (a0 :: .ref x :: T) S h = ev mL_law 828 (a0 :: .ref x :: T) (.ref x :: S) h := g_aload_n dL_law_827 rfl
theorem eL_law_828 {L : List Value} {h : Sto} : ev mL_law 828 L [.ref 0] h = (ev mX6_middle 0 [.ref 0, .null, .null, .null] [] h).bind (fun q => ev mL_law 831 L (q.1.toList ++ []) q.2) := g_calV (i := 117) (n := 0) (cal := mX6_middle) (A := [.ref 0]) (rest := []) dL_law_828 (by rfl) (by decide) ⟨by simp only [List.length_cons, List.length_nil]; omega, by simp only [List.drop, List.length_cons, List.length_nil]; omega, rfl⟩ rfl rfl rfl rfl
theorem eL_law_831 {a0 a1 : Value} {x : Nat} {T S : List Value} {h : Sto} : ev mL_law 831 (a0 :: a1 :: .ref x :: T) S h = ev mL_law 832 (a0 :: a1 :: .ref x :: T) (.ref x :: S) h := g_aload_n dL_law_831 rfl
theorem eL_law_832 {s1 : Int32} {L : List Value} {h : Sto} : ev mL_law 832 L [.ref 17, .int s1] h = (ev mX7_middle 0 [.ref 17, .null, .null] [] h).bind (fun q => ev mL_law 835 L (q.1.toList ++ [.int s1]) q.2) := g_calV (i := 120) (n := 0) (cal := mX7_middle) (A := [.ref 17]) (rest := [.int s1]) dL_law_832 (by rfl) (by decide) ⟨by simp only [List.length_cons, List.length_nil]; omega, by simp only [List.drop, List.length_cons, List.length_nil]; omega, rfl⟩ rfl rfl rfl rfl
theorem eL_law_835 {x y : Int32} {L S : List Value} {h : Sto} : ev mL_law 835 L (.int y :: .int x :: S) h = if x = y then ev mL_law 1060 L S h else ev mL_law 838 L S h := g_icmpeq (tgt := 1060) dL_law_835 (by decide)
theorem eL_law_838  {L S : List Value} {h : Sto} : ev mL_law 838 L S h = ev mL_law 839 L (.int 0 :: S) h := g_iconst (v := 0) dL_law_838 (by decide)
theorem eL_law_839 {L : List Value} {h : Sto} {v : Int32} : ev mL_law 839 L [.int v] h = if v = 0 ∨ v = 1 then some (some (.int v), h) else none := g_iretZ dL_law_839 rfl
theorem eL_law_840 {a0 : Value} {x : Nat} {T S : List Value} {h : Sto} : ev mL_law 840 (a0 :: .ref x :: T) S h = ev mL_law 841 (a0 :: .ref x :: T) (.ref x :: S) h := g_aload_n dL_law_840 rfl
theorem eL_law_841 {L : List Value} {h : Sto} : ev mL_law 841 L [.ref 0] h = (ev mX6_cutOff 0 [.ref 0] [] h).bind (fun q => ev mL_law 844 L (q.1.toList ++ []) q.2) := g_calV (i := 121) (n := 0) (cal := mX6_cutOff) (A := [.ref 0]) (rest := []) dL_law_841 (by rfl) (by decide) ⟨by simp only [List.length_cons, List.length_nil]; omega, by simp only [List.drop, List.length_cons, List.length_nil]; omega, rfl⟩ rfl rfl rfl rfl
theorem eL_law_844 {a0 a1 : Value} {x : Nat} {T S : List Value} {h : Sto} : ev mL_law 844 (a0 :: a1 :: .ref x :: T) S h = ev mL_law 845 (a0 :: a1 :: .ref x :: T) (.ref x :: S) h := g_aload_n dL_law_844 rfl
theorem eL_law_845 {s1 : Int32} {L : List Value} {h : Sto} : ev mL_law 845 L [.ref 17, .int s1] h = (ev mX7_cutOff 0 [.ref 17] [] h).bind (fun q => ev mL_law 848 L (q.1.toList ++ [.int s1]) q.2) := g_calV (i := 124) (n := 0) (cal := mX7_cutOff) (A := [.ref 17]) (rest := [.int s1]) dL_law_845 (by rfl) (by decide) ⟨by simp only [List.length_cons, List.length_nil]; omega, by simp only [List.drop, List.length_cons, List.length_nil]; omega, rfl⟩ rfl rfl rfl rfl
theorem eL_law_848 {x y : Int32} {L S : List Value} {h : Sto} : ev mL_law 848 L (.int y :: .int x :: S) h = if x = y then ev mL_law 1060 L S h else ev mL_law 851 L S h := g_icmpeq (tgt := 1060) dL_law_848 (by decide)
theorem eL_law_851  {L S : List Value} {h : Sto} : ev mL_law 851 L S h = ev mL_law 852 L (.int 0 :: S) h := g_iconst (v := 0) dL_law_851 (by decide)
theorem eL_law_852 {L : List Value} {h : Sto} {v : Int32} : ev mL_law 852 L [.int v] h = if v = 0 ∨ v = 1 then some (some (.int v), h) else none := g_iretZ dL_law_852 rfl
theorem eL_law_853 {a0 : Value} {x : Nat} {T S : List Value} {h : Sto} : ev mL_law 853 (a0 :: .ref x :: T) S h = ev mL_law 854 (a0 :: .ref x :: T) (.ref x :: S) h := g_aload_n dL_law_853 rfl
theorem eL_law_854 {x : Nat} {T S : List Value} {h : Sto} : ev mL_law 854 (.ref x :: T) S h = ev mL_law 855 (.ref x :: T) (.ref x :: S) h := g_aload_n dL_law_854 rfl
theorem eL_law_855 {a0 a1 a2 : Value} {x : Int32} {T S : List Value} {h : Sto} : ev mL_law 855 (a0 :: a1 :: a2 :: .int x :: T) S h = ev mL_law 856 (a0 :: a1 :: a2 :: .int x :: T) (.int x :: S) h := g_iload_n dL_law_855 rfl
theorem eL_law_856  {L S : List Value} {h : Sto} : ev mL_law 856 L S h = ev mL_law 857 L (.int 1 :: S) h := g_iconst (v := 1) dL_law_856 (by decide)
theorem eL_law_857 {x y : Int32} {L S : List Value} {h : Sto} : ev mL_law 857 L (.int y :: .int x :: S) h = ev mL_law 858 L (.int (x + y) :: S) h := g_iadd dL_law_857
theorem eL_law_858 {x : Int32} {L S : List Value} {h : Sto} : ev mL_law 858 L (.int x :: .ref 400 :: S) h = if x < 0 ∨ (h 401 0).toNatClampNeg ≤ x.toNatClampNeg then none else ev mL_law 859 L (.int (h 400 x.toNatClampNeg) :: S) h := g_iaX dL_law_858
theorem eL_law_859 {s0 : Int32} {L : List Value} {h : Sto} : ev mL_law 859 L [.int s0, .ref 0] h = (ev mX6_bestPin 0 [.ref 0, .int s0, .null, .null] [] h).bind (fun q => ev mL_law 862 L (q.1.toList ++ []) q.2) := g_calV (i := 125) (n := 1) (cal := mX6_bestPin) (A := [.ref 0, .int s0]) (rest := []) dL_law_859 (by rfl) (by decide) ⟨by simp only [List.length_cons, List.length_nil]; omega, by simp only [List.drop, List.length_cons, List.length_nil]; omega, rfl⟩ rfl rfl rfl rfl
theorem eL_law_862 {a0 a1 : Value} {x : Nat} {T S : List Value} {h : Sto} : ev mL_law 862 (a0 :: a1 :: .ref x :: T) S h = ev mL_law 863 (a0 :: a1 :: .ref x :: T) (.ref x :: S) h := g_aload_n dL_law_862 rfl
theorem eL_law_863 {x : Nat} {T S : List Value} {h : Sto} : ev mL_law 863 (.ref x :: T) S h = ev mL_law 864 (.ref x :: T) (.ref x :: S) h := g_aload_n dL_law_863 rfl
theorem eL_law_864 {a0 a1 a2 : Value} {x : Int32} {T S : List Value} {h : Sto} : ev mL_law 864 (a0 :: a1 :: a2 :: .int x :: T) S h = ev mL_law 865 (a0 :: a1 :: a2 :: .int x :: T) (.int x :: S) h := g_iload_n dL_law_864 rfl
theorem eL_law_865  {L S : List Value} {h : Sto} : ev mL_law 865 L S h = ev mL_law 866 L (.int 1 :: S) h := g_iconst (v := 1) dL_law_865 (by decide)
theorem eL_law_866 {x y : Int32} {L S : List Value} {h : Sto} : ev mL_law 866 L (.int y :: .int x :: S) h = ev mL_law 867 L (.int (x + y) :: S) h := g_iadd dL_law_866
theorem eL_law_867 {x : Int32} {L S : List Value} {h : Sto} : ev mL_law 867 L (.int x :: .ref 400 :: S) h = if x < 0 ∨ (h 401 0).toNatClampNeg ≤ x.toNatClampNeg then none else ev mL_law 868 L (.int (h 400 x.toNatClampNeg) :: S) h := g_iaX dL_law_867
theorem eL_law_868 {s0 : Int32} {s2 : Int32} {L : List Value} {h : Sto} : ev mL_law 868 L [.int s0, .ref 17, .int s2] h = (ev mX7_bestPin 0 [.ref 17, .int s0, .null, .null] [] h).bind (fun q => ev mL_law 871 L (q.1.toList ++ [.int s2]) q.2) := g_calV (i := 128) (n := 1) (cal := mX7_bestPin) (A := [.ref 17, .int s0]) (rest := [.int s2]) dL_law_868 (by rfl) (by decide) ⟨by simp only [List.length_cons, List.length_nil]; omega, by simp only [List.drop, List.length_cons, List.length_nil]; omega, rfl⟩ rfl rfl rfl rfl
theorem eL_law_871 {x y : Int32} {L S : List Value} {h : Sto} : ev mL_law 871 L (.int y :: .int x :: S) h = if x = y then ev mL_law 1060 L S h else ev mL_law 874 L S h := g_icmpeq (tgt := 1060) dL_law_871 (by decide)
theorem eL_law_874  {L S : List Value} {h : Sto} : ev mL_law 874 L S h = ev mL_law 875 L (.int 0 :: S) h := g_iconst (v := 0) dL_law_874 (by decide)
theorem eL_law_875 {L : List Value} {h : Sto} {v : Int32} : ev mL_law 875 L [.int v] h = if v = 0 ∨ v = 1 then some (some (.int v), h) else none := g_iretZ dL_law_875 rfl
theorem eL_law_876 {a0 : Value} {x : Nat} {T S : List Value} {h : Sto} : ev mL_law 876 (a0 :: .ref x :: T) S h = ev mL_law 877 (a0 :: .ref x :: T) (.ref x :: S) h := g_aload_n dL_law_876 rfl
theorem eL_law_877 {L : List Value} {h : Sto} : ev mL_law 877 L [.ref 0] h = (ev mX6_worst 0 [.ref 0, .null, .null] [] h).bind (fun q => ev mL_law 880 L (q.1.toList ++ []) q.2) := g_calV (i := 129) (n := 0) (cal := mX6_worst) (A := [.ref 0]) (rest := []) dL_law_877 (by rfl) (by decide) ⟨by simp only [List.length_cons, List.length_nil]; omega, by simp only [List.drop, List.length_cons, List.length_nil]; omega, rfl⟩ rfl rfl rfl rfl
theorem eL_law_880 {a0 a1 : Value} {x : Nat} {T S : List Value} {h : Sto} : ev mL_law 880 (a0 :: a1 :: .ref x :: T) S h = ev mL_law 881 (a0 :: a1 :: .ref x :: T) (.ref x :: S) h := g_aload_n dL_law_880 rfl
theorem eL_law_881 {s1 : Int32} {L : List Value} {h : Sto} : ev mL_law 881 L [.ref 17, .int s1] h = (ev mX7_worst 0 [.ref 17, .null, .null] [] h).bind (fun q => ev mL_law 884 L (q.1.toList ++ [.int s1]) q.2) := g_calV (i := 132) (n := 0) (cal := mX7_worst) (A := [.ref 17]) (rest := [.int s1]) dL_law_881 (by rfl) (by decide) ⟨by simp only [List.length_cons, List.length_nil]; omega, by simp only [List.drop, List.length_cons, List.length_nil]; omega, rfl⟩ rfl rfl rfl rfl
theorem eL_law_884 {x y : Int32} {L S : List Value} {h : Sto} : ev mL_law 884 L (.int y :: .int x :: S) h = if x = y then ev mL_law 1060 L S h else ev mL_law 887 L S h := g_icmpeq (tgt := 1060) dL_law_884 (by decide)
theorem eL_law_887  {L S : List Value} {h : Sto} : ev mL_law 887 L S h = ev mL_law 888 L (.int 0 :: S) h := g_iconst (v := 0) dL_law_887 (by decide)
theorem eL_law_888 {L : List Value} {h : Sto} {v : Int32} : ev mL_law 888 L [.int v] h = if v = 0 ∨ v = 1 then some (some (.int v), h) else none := g_iretZ dL_law_888 rfl
theorem eL_law_889 {a0 : Value} {x : Nat} {T S : List Value} {h : Sto} : ev mL_law 889 (a0 :: .ref x :: T) S h = ev mL_law 890 (a0 :: .ref x :: T) (.ref x :: S) h := g_aload_n dL_law_889 rfl
theorem eL_law_890 {x : Nat} {T S : List Value} {h : Sto} : ev mL_law 890 (.ref x :: T) S h = ev mL_law 891 (.ref x :: T) (.ref x :: S) h := g_aload_n dL_law_890 rfl
theorem eL_law_891 {a0 a1 a2 : Value} {x : Int32} {T S : List Value} {h : Sto} : ev mL_law 891 (a0 :: a1 :: a2 :: .int x :: T) S h = ev mL_law 892 (a0 :: a1 :: a2 :: .int x :: T) (.int x :: S) h := g_iload_n dL_law_891 rfl
theorem eL_law_892  {L S : List Value} {h : Sto} : ev mL_law 892 L S h = ev mL_law 893 L (.int 1 :: S) h := g_iconst (v := 1) dL_law_892 (by decide)
theorem eL_law_893 {x y : Int32} {L S : List Value} {h : Sto} : ev mL_law 893 L (.int y :: .int x :: S) h = ev mL_law 894 L (.int (x + y) :: S) h := g_iadd dL_law_893
theorem eL_law_894 {x : Int32} {L S : List Value} {h : Sto} : ev mL_law 894 L (.int x :: .ref 400 :: S) h = if x < 0 ∨ (h 401 0).toNatClampNeg ≤ x.toNatClampNeg then none else ev mL_law 895 L (.int (h 400 x.toNatClampNeg) :: S) h := g_iaX dL_law_894
theorem eL_law_895 {x : Nat} {T S : List Value} {h : Sto} : ev mL_law 895 (.ref x :: T) S h = ev mL_law 896 (.ref x :: T) (.ref x :: S) h := g_aload_n dL_law_895 rfl
theorem eL_law_896 {a0 a1 a2 : Value} {x : Int32} {T S : List Value} {h : Sto} : ev mL_law 896 (a0 :: a1 :: a2 :: .int x :: T) S h = ev mL_law 897 (a0 :: a1 :: a2 :: .int x :: T) (.int x :: S) h := g_iload_n dL_law_896 rfl
theorem eL_law_897  {L S : List Value} {h : Sto} : ev mL_law 897 L S h = ev mL_law 898 L (.int 2 :: S) h := g_iconst (v := 2) dL_law_897 (by decide)
theorem eL_law_898 {x y : Int32} {L S : List Value} {h : Sto} : ev mL_law 898 L (.int y :: .int x :: S) h = ev mL_law 899 L (.int (x + y) :: S) h := g_iadd dL_law_898
theorem eL_law_899 {x : Int32} {L S : List Value} {h : Sto} : ev mL_law 899 L (.int x :: .ref 400 :: S) h = if x < 0 ∨ (h 401 0).toNatClampNeg ≤ x.toNatClampNeg then none else ev mL_law 900 L (.int (h 400 x.toNatClampNeg) :: S) h := g_iaX dL_law_899
theorem eL_law_900 {s0 : Int32} {s1 : Int32} {L : List Value} {h : Sto} : ev mL_law 900 L [.int s0, .int s1, .ref 0] h = (ev mX6_which 0 [.ref 0, .int s1, .int s0] [] h).bind (fun q => ev mL_law 903 L (q.1.toList ++ []) q.2) := g_calV (i := 133) (n := 2) (cal := mX6_which) (A := [.ref 0, .int s1, .int s0]) (rest := []) dL_law_900 (by rfl) (by decide) ⟨by simp only [List.length_cons, List.length_nil]; omega, by simp only [List.drop, List.length_cons, List.length_nil]; omega, rfl⟩ rfl rfl rfl rfl
theorem eL_law_903 {a0 a1 : Value} {x : Nat} {T S : List Value} {h : Sto} : ev mL_law 903 (a0 :: a1 :: .ref x :: T) S h = ev mL_law 904 (a0 :: a1 :: .ref x :: T) (.ref x :: S) h := g_aload_n dL_law_903 rfl
theorem eL_law_904 {x : Nat} {T S : List Value} {h : Sto} : ev mL_law 904 (.ref x :: T) S h = ev mL_law 905 (.ref x :: T) (.ref x :: S) h := g_aload_n dL_law_904 rfl
theorem eL_law_905 {a0 a1 a2 : Value} {x : Int32} {T S : List Value} {h : Sto} : ev mL_law 905 (a0 :: a1 :: a2 :: .int x :: T) S h = ev mL_law 906 (a0 :: a1 :: a2 :: .int x :: T) (.int x :: S) h := g_iload_n dL_law_905 rfl
theorem eL_law_906  {L S : List Value} {h : Sto} : ev mL_law 906 L S h = ev mL_law 907 L (.int 1 :: S) h := g_iconst (v := 1) dL_law_906 (by decide)
theorem eL_law_907 {x y : Int32} {L S : List Value} {h : Sto} : ev mL_law 907 L (.int y :: .int x :: S) h = ev mL_law 908 L (.int (x + y) :: S) h := g_iadd dL_law_907
theorem eL_law_908 {x : Int32} {L S : List Value} {h : Sto} : ev mL_law 908 L (.int x :: .ref 400 :: S) h = if x < 0 ∨ (h 401 0).toNatClampNeg ≤ x.toNatClampNeg then none else ev mL_law 909 L (.int (h 400 x.toNatClampNeg) :: S) h := g_iaX dL_law_908
theorem eL_law_909 {x : Nat} {T S : List Value} {h : Sto} : ev mL_law 909 (.ref x :: T) S h = ev mL_law 910 (.ref x :: T) (.ref x :: S) h := g_aload_n dL_law_909 rfl
theorem eL_law_910 {a0 a1 a2 : Value} {x : Int32} {T S : List Value} {h : Sto} : ev mL_law 910 (a0 :: a1 :: a2 :: .int x :: T) S h = ev mL_law 911 (a0 :: a1 :: a2 :: .int x :: T) (.int x :: S) h := g_iload_n dL_law_910 rfl
theorem eL_law_911  {L S : List Value} {h : Sto} : ev mL_law 911 L S h = ev mL_law 912 L (.int 2 :: S) h := g_iconst (v := 2) dL_law_911 (by decide)
theorem eL_law_912 {x y : Int32} {L S : List Value} {h : Sto} : ev mL_law 912 L (.int y :: .int x :: S) h = ev mL_law 913 L (.int (x + y) :: S) h := g_iadd dL_law_912
theorem eL_law_913 {x : Int32} {L S : List Value} {h : Sto} : ev mL_law 913 L (.int x :: .ref 400 :: S) h = if x < 0 ∨ (h 401 0).toNatClampNeg ≤ x.toNatClampNeg then none else ev mL_law 914 L (.int (h 400 x.toNatClampNeg) :: S) h := g_iaX dL_law_913
theorem eL_law_914 {s0 : Int32} {s1 : Int32} {s3 : Int32} {L : List Value} {h : Sto} : ev mL_law 914 L [.int s0, .int s1, .ref 17, .int s3] h = (ev mX7_which 0 [.ref 17, .int s1, .int s0, .null, .null] [] h).bind (fun q => ev mL_law 917 L (q.1.toList ++ [.int s3]) q.2) := g_calV (i := 136) (n := 2) (cal := mX7_which) (A := [.ref 17, .int s1, .int s0]) (rest := [.int s3]) dL_law_914 (by rfl) (by decide) ⟨by simp only [List.length_cons, List.length_nil]; omega, by simp only [List.drop, List.length_cons, List.length_nil]; omega, rfl⟩ rfl rfl rfl rfl
theorem eL_law_917 {x y : Int32} {L S : List Value} {h : Sto} : ev mL_law 917 L (.int y :: .int x :: S) h = if x = y then ev mL_law 1060 L S h else ev mL_law 920 L S h := g_icmpeq (tgt := 1060) dL_law_917 (by decide)
theorem eL_law_920  {L S : List Value} {h : Sto} : ev mL_law 920 L S h = ev mL_law 921 L (.int 0 :: S) h := g_iconst (v := 0) dL_law_920 (by decide)
theorem eL_law_921 {L : List Value} {h : Sto} {v : Int32} : ev mL_law 921 L [.int v] h = if v = 0 ∨ v = 1 then some (some (.int v), h) else none := g_iretZ dL_law_921 rfl
theorem eL_law_922 {a0 : Value} {x : Nat} {T S : List Value} {h : Sto} : ev mL_law 922 (a0 :: .ref x :: T) S h = ev mL_law 923 (a0 :: .ref x :: T) (.ref x :: S) h := g_aload_n dL_law_922 rfl
theorem eL_law_923 {x : Nat} {T S : List Value} {h : Sto} : ev mL_law 923 (.ref x :: T) S h = ev mL_law 924 (.ref x :: T) (.ref x :: S) h := g_aload_n dL_law_923 rfl
theorem eL_law_924 {a0 a1 a2 : Value} {x : Int32} {T S : List Value} {h : Sto} : ev mL_law 924 (a0 :: a1 :: a2 :: .int x :: T) S h = ev mL_law 925 (a0 :: a1 :: a2 :: .int x :: T) (.int x :: S) h := g_iload_n dL_law_924 rfl
theorem eL_law_925  {L S : List Value} {h : Sto} : ev mL_law 925 L S h = ev mL_law 926 L (.int 1 :: S) h := g_iconst (v := 1) dL_law_925 (by decide)
theorem eL_law_926 {x y : Int32} {L S : List Value} {h : Sto} : ev mL_law 926 L (.int y :: .int x :: S) h = ev mL_law 927 L (.int (x + y) :: S) h := g_iadd dL_law_926
theorem eL_law_927 {x : Int32} {L S : List Value} {h : Sto} : ev mL_law 927 L (.int x :: .ref 400 :: S) h = if x < 0 ∨ (h 401 0).toNatClampNeg ≤ x.toNatClampNeg then none else ev mL_law 928 L (.int (h 400 x.toNatClampNeg) :: S) h := g_iaX dL_law_927
theorem eL_law_928 {s0 : Int32} {L : List Value} {h : Sto} : ev mL_law 928 L [.int s0, .ref 0] h = (ev mX6_row 0 [.ref 0, .int s0, .null] [] h).bind (fun q => ev mL_law 931 L (q.1.toList ++ []) q.2) := g_calV (i := 137) (n := 1) (cal := mX6_row) (A := [.ref 0, .int s0]) (rest := []) dL_law_928 (by rfl) (by decide) ⟨by simp only [List.length_cons, List.length_nil]; omega, by simp only [List.drop, List.length_cons, List.length_nil]; omega, rfl⟩ rfl rfl rfl rfl
theorem eL_law_931 {a0 a1 : Value} {x : Nat} {T S : List Value} {h : Sto} : ev mL_law 931 (a0 :: a1 :: .ref x :: T) S h = ev mL_law 932 (a0 :: a1 :: .ref x :: T) (.ref x :: S) h := g_aload_n dL_law_931 rfl
theorem eL_law_932 {x : Nat} {T S : List Value} {h : Sto} : ev mL_law 932 (.ref x :: T) S h = ev mL_law 933 (.ref x :: T) (.ref x :: S) h := g_aload_n dL_law_932 rfl
theorem eL_law_933 {a0 a1 a2 : Value} {x : Int32} {T S : List Value} {h : Sto} : ev mL_law 933 (a0 :: a1 :: a2 :: .int x :: T) S h = ev mL_law 934 (a0 :: a1 :: a2 :: .int x :: T) (.int x :: S) h := g_iload_n dL_law_933 rfl
theorem eL_law_934  {L S : List Value} {h : Sto} : ev mL_law 934 L S h = ev mL_law 935 L (.int 1 :: S) h := g_iconst (v := 1) dL_law_934 (by decide)
theorem eL_law_935 {x y : Int32} {L S : List Value} {h : Sto} : ev mL_law 935 L (.int y :: .int x :: S) h = ev mL_law 936 L (.int (x + y) :: S) h := g_iadd dL_law_935
theorem eL_law_936 {x : Int32} {L S : List Value} {h : Sto} : ev mL_law 936 L (.int x :: .ref 400 :: S) h = if x < 0 ∨ (h 401 0).toNatClampNeg ≤ x.toNatClampNeg then none else ev mL_law 937 L (.int (h 400 x.toNatClampNeg) :: S) h := g_iaX dL_law_936
theorem eL_law_937 {s0 : Int32} {s2 : Int32} {L : List Value} {h : Sto} : ev mL_law 937 L [.int s0, .ref 17, .int s2] h = (ev mX7_row 0 [.ref 17, .int s0] [] h).bind (fun q => ev mL_law 940 L (q.1.toList ++ [.int s2]) q.2) := g_calV (i := 140) (n := 1) (cal := mX7_row) (A := [.ref 17, .int s0]) (rest := [.int s2]) dL_law_937 (by rfl) (by decide) ⟨by simp only [List.length_cons, List.length_nil]; omega, by simp only [List.drop, List.length_cons, List.length_nil]; omega, rfl⟩ rfl rfl rfl rfl
theorem eL_law_940 {x y : Int32} {L S : List Value} {h : Sto} : ev mL_law 940 L (.int y :: .int x :: S) h = if x = y then ev mL_law 1060 L S h else ev mL_law 943 L S h := g_icmpeq (tgt := 1060) dL_law_940 (by decide)
theorem eL_law_943  {L S : List Value} {h : Sto} : ev mL_law 943 L S h = ev mL_law 944 L (.int 0 :: S) h := g_iconst (v := 0) dL_law_943 (by decide)
theorem eL_law_944 {L : List Value} {h : Sto} {v : Int32} : ev mL_law 944 L [.int v] h = if v = 0 ∨ v = 1 then some (some (.int v), h) else none := g_iretZ dL_law_944 rfl
theorem eL_law_945 {a0 : Value} {x : Nat} {T S : List Value} {h : Sto} : ev mL_law 945 (a0 :: .ref x :: T) S h = ev mL_law 946 (a0 :: .ref x :: T) (.ref x :: S) h := g_aload_n dL_law_945 rfl
theorem eL_law_946 {x : Nat} {T S : List Value} {h : Sto} : ev mL_law 946 (.ref x :: T) S h = ev mL_law 947 (.ref x :: T) (.ref x :: S) h := g_aload_n dL_law_946 rfl
theorem eL_law_947 {a0 a1 a2 : Value} {x : Int32} {T S : List Value} {h : Sto} : ev mL_law 947 (a0 :: a1 :: a2 :: .int x :: T) S h = ev mL_law 948 (a0 :: a1 :: a2 :: .int x :: T) (.int x :: S) h := g_iload_n dL_law_947 rfl
theorem eL_law_948  {L S : List Value} {h : Sto} : ev mL_law 948 L S h = ev mL_law 949 L (.int 1 :: S) h := g_iconst (v := 1) dL_law_948 (by decide)
theorem eL_law_949 {x y : Int32} {L S : List Value} {h : Sto} : ev mL_law 949 L (.int y :: .int x :: S) h = ev mL_law 950 L (.int (x + y) :: S) h := g_iadd dL_law_949
theorem eL_law_950 {x : Int32} {L S : List Value} {h : Sto} : ev mL_law 950 L (.int x :: .ref 400 :: S) h = if x < 0 ∨ (h 401 0).toNatClampNeg ≤ x.toNatClampNeg then none else ev mL_law 951 L (.int (h 400 x.toNatClampNeg) :: S) h := g_iaX dL_law_950
theorem eL_law_951 {s0 : Int32} {L : List Value} {h : Sto} : ev mL_law 951 L [.int s0, .ref 0] h = (ev mX6_judge 0 [.ref 0, .int s0, .null] [] h).bind (fun q => ev mL_law 954 L (q.1.toList ++ []) q.2) := g_calV (i := 141) (n := 1) (cal := mX6_judge) (A := [.ref 0, .int s0]) (rest := []) dL_law_951 (by rfl) (by decide) ⟨by simp only [List.length_cons, List.length_nil]; omega, by simp only [List.drop, List.length_cons, List.length_nil]; omega, rfl⟩ rfl rfl rfl rfl
theorem eL_law_954 {a0 a1 : Value} {x : Nat} {T S : List Value} {h : Sto} : ev mL_law 954 (a0 :: a1 :: .ref x :: T) S h = ev mL_law 955 (a0 :: a1 :: .ref x :: T) (.ref x :: S) h := g_aload_n dL_law_954 rfl
theorem eL_law_955 {x : Nat} {T S : List Value} {h : Sto} : ev mL_law 955 (.ref x :: T) S h = ev mL_law 956 (.ref x :: T) (.ref x :: S) h := g_aload_n dL_law_955 rfl
theorem eL_law_956 {a0 a1 a2 : Value} {x : Int32} {T S : List Value} {h : Sto} : ev mL_law 956 (a0 :: a1 :: a2 :: .int x :: T) S h = ev mL_law 957 (a0 :: a1 :: a2 :: .int x :: T) (.int x :: S) h := g_iload_n dL_law_956 rfl
theorem eL_law_957  {L S : List Value} {h : Sto} : ev mL_law 957 L S h = ev mL_law 958 L (.int 1 :: S) h := g_iconst (v := 1) dL_law_957 (by decide)
theorem eL_law_958 {x y : Int32} {L S : List Value} {h : Sto} : ev mL_law 958 L (.int y :: .int x :: S) h = ev mL_law 959 L (.int (x + y) :: S) h := g_iadd dL_law_958
theorem eL_law_959 {x : Int32} {L S : List Value} {h : Sto} : ev mL_law 959 L (.int x :: .ref 400 :: S) h = if x < 0 ∨ (h 401 0).toNatClampNeg ≤ x.toNatClampNeg then none else ev mL_law 960 L (.int (h 400 x.toNatClampNeg) :: S) h := g_iaX dL_law_959
theorem eL_law_960 {s0 : Int32} {s2 : Int32} {L : List Value} {h : Sto} : ev mL_law 960 L [.int s0, .ref 17, .int s2] h = (ev mX7_judge 0 [.ref 17, .int s0, .null] [] h).bind (fun q => ev mL_law 963 L (q.1.toList ++ [.int s2]) q.2) := g_calV (i := 144) (n := 1) (cal := mX7_judge) (A := [.ref 17, .int s0]) (rest := [.int s2]) dL_law_960 (by rfl) (by decide) ⟨by simp only [List.length_cons, List.length_nil]; omega, by simp only [List.drop, List.length_cons, List.length_nil]; omega, rfl⟩ rfl rfl rfl rfl
theorem eL_law_963 {x y : Int32} {L S : List Value} {h : Sto} : ev mL_law 963 L (.int y :: .int x :: S) h = if x = y then ev mL_law 1060 L S h else ev mL_law 966 L S h := g_icmpeq (tgt := 1060) dL_law_963 (by decide)
theorem eL_law_966  {L S : List Value} {h : Sto} : ev mL_law 966 L S h = ev mL_law 967 L (.int 0 :: S) h := g_iconst (v := 0) dL_law_966 (by decide)
theorem eL_law_967 {L : List Value} {h : Sto} {v : Int32} : ev mL_law 967 L [.int v] h = if v = 0 ∨ v = 1 then some (some (.int v), h) else none := g_iretZ dL_law_967 rfl
theorem eL_law_968 {a0 : Value} {x : Nat} {T S : List Value} {h : Sto} : ev mL_law 968 (a0 :: .ref x :: T) S h = ev mL_law 969 (a0 :: .ref x :: T) (.ref x :: S) h := g_aload_n dL_law_968 rfl
theorem eL_law_969 {x : Nat} {T S : List Value} {h : Sto} : ev mL_law 969 (.ref x :: T) S h = ev mL_law 970 (.ref x :: T) (.ref x :: S) h := g_aload_n dL_law_969 rfl
theorem eL_law_970 {a0 a1 a2 : Value} {x : Int32} {T S : List Value} {h : Sto} : ev mL_law 970 (a0 :: a1 :: a2 :: .int x :: T) S h = ev mL_law 971 (a0 :: a1 :: a2 :: .int x :: T) (.int x :: S) h := g_iload_n dL_law_970 rfl
theorem eL_law_971  {L S : List Value} {h : Sto} : ev mL_law 971 L S h = ev mL_law 972 L (.int 1 :: S) h := g_iconst (v := 1) dL_law_971 (by decide)
theorem eL_law_972 {x y : Int32} {L S : List Value} {h : Sto} : ev mL_law 972 L (.int y :: .int x :: S) h = ev mL_law 973 L (.int (x + y) :: S) h := g_iadd dL_law_972
theorem eL_law_973 {x : Int32} {L S : List Value} {h : Sto} : ev mL_law 973 L (.int x :: .ref 400 :: S) h = if x < 0 ∨ (h 401 0).toNatClampNeg ≤ x.toNatClampNeg then none else ev mL_law 974 L (.int (h 400 x.toNatClampNeg) :: S) h := g_iaX dL_law_973
theorem eL_law_974 {x : Nat} {T S : List Value} {h : Sto} : ev mL_law 974 (.ref x :: T) S h = ev mL_law 975 (.ref x :: T) (.ref x :: S) h := g_aload_n dL_law_974 rfl
theorem eL_law_975 {a0 a1 a2 : Value} {x : Int32} {T S : List Value} {h : Sto} : ev mL_law 975 (a0 :: a1 :: a2 :: .int x :: T) S h = ev mL_law 976 (a0 :: a1 :: a2 :: .int x :: T) (.int x :: S) h := g_iload_n dL_law_975 rfl
theorem eL_law_976  {L S : List Value} {h : Sto} : ev mL_law 976 L S h = ev mL_law 977 L (.int 2 :: S) h := g_iconst (v := 2) dL_law_976 (by decide)
theorem eL_law_977 {x y : Int32} {L S : List Value} {h : Sto} : ev mL_law 977 L (.int y :: .int x :: S) h = ev mL_law 978 L (.int (x + y) :: S) h := g_iadd dL_law_977
theorem eL_law_978 {x : Int32} {L S : List Value} {h : Sto} : ev mL_law 978 L (.int x :: .ref 400 :: S) h = if x < 0 ∨ (h 401 0).toNatClampNeg ≤ x.toNatClampNeg then none else ev mL_law 979 L (.int (h 400 x.toNatClampNeg) :: S) h := g_iaX dL_law_978
theorem eL_law_979 {x : Nat} {T S : List Value} {h : Sto} : ev mL_law 979 (.ref x :: T) S h = ev mL_law 980 (.ref x :: T) (.ref x :: S) h := g_aload_n dL_law_979 rfl
theorem eL_law_980 {a0 a1 a2 : Value} {x : Int32} {T S : List Value} {h : Sto} : ev mL_law 980 (a0 :: a1 :: a2 :: .int x :: T) S h = ev mL_law 981 (a0 :: a1 :: a2 :: .int x :: T) (.int x :: S) h := g_iload_n dL_law_980 rfl
theorem eL_law_981  {L S : List Value} {h : Sto} : ev mL_law 981 L S h = ev mL_law 982 L (.int 3 :: S) h := g_iconst (v := 3) dL_law_981 (by decide)
theorem eL_law_982 {x y : Int32} {L S : List Value} {h : Sto} : ev mL_law 982 L (.int y :: .int x :: S) h = ev mL_law 983 L (.int (x + y) :: S) h := g_iadd dL_law_982
theorem eL_law_983 {x : Int32} {L S : List Value} {h : Sto} : ev mL_law 983 L (.int x :: .ref 400 :: S) h = if x < 0 ∨ (h 401 0).toNatClampNeg ≤ x.toNatClampNeg then none else ev mL_law 984 L (.int (h 400 x.toNatClampNeg) :: S) h := g_iaX dL_law_983
theorem eL_law_984 {s0 : Int32} {s1 : Int32} {s2 : Int32} {L : List Value} {h : Sto} : ev mL_law 984 L [.int s0, .int s1, .int s2, .ref 0] h = (ev mX6_lots 0 [.ref 0, .int s2, .int s1, .int s0, .null, .null, .null, .null, .null] [] h).bind (fun q => ev mL_law 987 L (q.1.toList ++ []) q.2) := g_calV (i := 145) (n := 3) (cal := mX6_lots) (A := [.ref 0, .int s2, .int s1, .int s0]) (rest := []) dL_law_984 (by rfl) (by decide) ⟨by simp only [List.length_cons, List.length_nil]; omega, by simp only [List.drop, List.length_cons, List.length_nil]; omega, rfl⟩ rfl rfl rfl rfl
theorem eL_law_987 {a0 a1 : Value} {x : Nat} {T S : List Value} {h : Sto} : ev mL_law 987 (a0 :: a1 :: .ref x :: T) S h = ev mL_law 988 (a0 :: a1 :: .ref x :: T) (.ref x :: S) h := g_aload_n dL_law_987 rfl
theorem eL_law_988 {x : Nat} {T S : List Value} {h : Sto} : ev mL_law 988 (.ref x :: T) S h = ev mL_law 989 (.ref x :: T) (.ref x :: S) h := g_aload_n dL_law_988 rfl
theorem eL_law_989 {a0 a1 a2 : Value} {x : Int32} {T S : List Value} {h : Sto} : ev mL_law 989 (a0 :: a1 :: a2 :: .int x :: T) S h = ev mL_law 990 (a0 :: a1 :: a2 :: .int x :: T) (.int x :: S) h := g_iload_n dL_law_989 rfl
theorem eL_law_990  {L S : List Value} {h : Sto} : ev mL_law 990 L S h = ev mL_law 991 L (.int 1 :: S) h := g_iconst (v := 1) dL_law_990 (by decide)
theorem eL_law_991 {x y : Int32} {L S : List Value} {h : Sto} : ev mL_law 991 L (.int y :: .int x :: S) h = ev mL_law 992 L (.int (x + y) :: S) h := g_iadd dL_law_991
theorem eL_law_992 {x : Int32} {L S : List Value} {h : Sto} : ev mL_law 992 L (.int x :: .ref 400 :: S) h = if x < 0 ∨ (h 401 0).toNatClampNeg ≤ x.toNatClampNeg then none else ev mL_law 993 L (.int (h 400 x.toNatClampNeg) :: S) h := g_iaX dL_law_992
theorem eL_law_993 {x : Nat} {T S : List Value} {h : Sto} : ev mL_law 993 (.ref x :: T) S h = ev mL_law 994 (.ref x :: T) (.ref x :: S) h := g_aload_n dL_law_993 rfl
theorem eL_law_994 {a0 a1 a2 : Value} {x : Int32} {T S : List Value} {h : Sto} : ev mL_law 994 (a0 :: a1 :: a2 :: .int x :: T) S h = ev mL_law 995 (a0 :: a1 :: a2 :: .int x :: T) (.int x :: S) h := g_iload_n dL_law_994 rfl
theorem eL_law_995  {L S : List Value} {h : Sto} : ev mL_law 995 L S h = ev mL_law 996 L (.int 2 :: S) h := g_iconst (v := 2) dL_law_995 (by decide)
theorem eL_law_996 {x y : Int32} {L S : List Value} {h : Sto} : ev mL_law 996 L (.int y :: .int x :: S) h = ev mL_law 997 L (.int (x + y) :: S) h := g_iadd dL_law_996
theorem eL_law_997 {x : Int32} {L S : List Value} {h : Sto} : ev mL_law 997 L (.int x :: .ref 400 :: S) h = if x < 0 ∨ (h 401 0).toNatClampNeg ≤ x.toNatClampNeg then none else ev mL_law 998 L (.int (h 400 x.toNatClampNeg) :: S) h := g_iaX dL_law_997
theorem eL_law_998 {x : Nat} {T S : List Value} {h : Sto} : ev mL_law 998 (.ref x :: T) S h = ev mL_law 999 (.ref x :: T) (.ref x :: S) h := g_aload_n dL_law_998 rfl
theorem eL_law_999 {a0 a1 a2 : Value} {x : Int32} {T S : List Value} {h : Sto} : ev mL_law 999 (a0 :: a1 :: a2 :: .int x :: T) S h = ev mL_law 1000 (a0 :: a1 :: a2 :: .int x :: T) (.int x :: S) h := g_iload_n dL_law_999 rfl
theorem eL_law_1000  {L S : List Value} {h : Sto} : ev mL_law 1000 L S h = ev mL_law 1001 L (.int 3 :: S) h := g_iconst (v := 3) dL_law_1000 (by decide)
theorem eL_law_1001 {x y : Int32} {L S : List Value} {h : Sto} : ev mL_law 1001 L (.int y :: .int x :: S) h = ev mL_law 1002 L (.int (x + y) :: S) h := g_iadd dL_law_1001
theorem eL_law_1002 {x : Int32} {L S : List Value} {h : Sto} : ev mL_law 1002 L (.int x :: .ref 400 :: S) h = if x < 0 ∨ (h 401 0).toNatClampNeg ≤ x.toNatClampNeg then none else ev mL_law 1003 L (.int (h 400 x.toNatClampNeg) :: S) h := g_iaX dL_law_1002
theorem eL_law_1003 {s0 : Int32} {s1 : Int32} {s2 : Int32} {s4 : Int32} {L : List Value} {h : Sto} : ev mL_law 1003 L [.int s0, .int s1, .int s2, .ref 17, .int s4] h = (ev mX7_lots 0 [.ref 17, .int s2, .int s1, .int s0, .null, .null, .null] [] h).bind (fun q => ev mL_law 1006 L (q.1.toList ++ [.int s4]) q.2) := g_calV (i := 148) (n := 3) (cal := mX7_lots) (A := [.ref 17, .int s2, .int s1, .int s0]) (rest := [.int s4]) dL_law_1003 (by rfl) (by decide) ⟨by simp only [List.length_cons, List.length_nil]; omega, by simp only [List.drop, List.length_cons, List.length_nil]; omega, rfl⟩ rfl rfl rfl rfl
theorem eL_law_1006 {x y : Int32} {L S : List Value} {h : Sto} : ev mL_law 1006 L (.int y :: .int x :: S) h = if x = y then ev mL_law 1060 L S h else ev mL_law 1009 L S h := g_icmpeq (tgt := 1060) dL_law_1006 (by decide)
theorem eL_law_1009  {L S : List Value} {h : Sto} : ev mL_law 1009 L S h = ev mL_law 1010 L (.int 0 :: S) h := g_iconst (v := 0) dL_law_1009 (by decide)
theorem eL_law_1010 {L : List Value} {h : Sto} {v : Int32} : ev mL_law 1010 L [.int v] h = if v = 0 ∨ v = 1 then some (some (.int v), h) else none := g_iretZ dL_law_1010 rfl
theorem eL_law_1011 {a0 : Value} {x : Nat} {T S : List Value} {h : Sto} : ev mL_law 1011 (a0 :: .ref x :: T) S h = ev mL_law 1012 (a0 :: .ref x :: T) (.ref x :: S) h := g_aload_n dL_law_1011 rfl
theorem eL_law_1012 {L : List Value} {h : Sto} : ev mL_law 1012 L [.ref 0] h = (ev mX6_image 0 [.ref 0] [] h).bind (fun q => ev mL_law 1015 L (q.1.toList ++ []) q.2) := g_calV (i := 149) (n := 0) (cal := mX6_image) (A := [.ref 0]) (rest := []) dL_law_1012 (by rfl) (by decide) ⟨by simp only [List.length_cons, List.length_nil]; omega, by simp only [List.drop, List.length_cons, List.length_nil]; omega, rfl⟩ rfl rfl rfl rfl
theorem eL_law_1015 {a0 a1 : Value} {x : Nat} {T S : List Value} {h : Sto} : ev mL_law 1015 (a0 :: a1 :: .ref x :: T) S h = ev mL_law 1016 (a0 :: a1 :: .ref x :: T) (.ref x :: S) h := g_aload_n dL_law_1015 rfl
theorem eL_law_1016 {s1 : Int32} {L : List Value} {h : Sto} : ev mL_law 1016 L [.ref 17, .int s1] h = (ev mX7_image 0 [.ref 17] [] h).bind (fun q => ev mL_law 1019 L (q.1.toList ++ [.int s1]) q.2) := g_calV (i := 152) (n := 0) (cal := mX7_image) (A := [.ref 17]) (rest := [.int s1]) dL_law_1016 (by rfl) (by decide) ⟨by simp only [List.length_cons, List.length_nil]; omega, by simp only [List.drop, List.length_cons, List.length_nil]; omega, rfl⟩ rfl rfl rfl rfl
theorem eL_law_1019 {x y : Int32} {L S : List Value} {h : Sto} : ev mL_law 1019 L (.int y :: .int x :: S) h = if x = y then ev mL_law 1060 L S h else ev mL_law 1022 L S h := g_icmpeq (tgt := 1060) dL_law_1019 (by decide)
theorem eL_law_1022  {L S : List Value} {h : Sto} : ev mL_law 1022 L S h = ev mL_law 1023 L (.int 0 :: S) h := g_iconst (v := 0) dL_law_1022 (by decide)
theorem eL_law_1023 {L : List Value} {h : Sto} {v : Int32} : ev mL_law 1023 L [.int v] h = if v = 0 ∨ v = 1 then some (some (.int v), h) else none := g_iretZ dL_law_1023 rfl
theorem eL_law_1024 {a0 : Value} {x : Nat} {T S : List Value} {h : Sto} : ev mL_law 1024 (a0 :: .ref x :: T) S h = ev mL_law 1025 (a0 :: .ref x :: T) (.ref x :: S) h := g_aload_n dL_law_1024 rfl
theorem eL_law_1025 {L : List Value} {h : Sto} : ev mL_law 1025 L [.ref 0] h = (ev mX6_on 0 [.ref 0] [] h).bind (fun q => ev mL_law 1028 L (q.1.toList ++ []) q.2) := g_calV (i := 153) (n := 0) (cal := mX6_on) (A := [.ref 0]) (rest := []) dL_law_1025 (by rfl) (by decide) ⟨by simp only [List.length_cons, List.length_nil]; omega, by simp only [List.drop, List.length_cons, List.length_nil]; omega, rfl⟩ rfl rfl rfl rfl
theorem eL_law_1028 {a0 a1 : Value} {x : Nat} {T S : List Value} {h : Sto} : ev mL_law 1028 (a0 :: a1 :: .ref x :: T) S h = ev mL_law 1029 (a0 :: a1 :: .ref x :: T) (.ref x :: S) h := g_aload_n dL_law_1028 rfl
theorem eL_law_1029 {s1 : Int32} {L : List Value} {h : Sto} : ev mL_law 1029 L [.ref 17, .int s1] h = (ev mX7_on 0 [.ref 17] [] h).bind (fun q => ev mL_law 1032 L (q.1.toList ++ [.int s1]) q.2) := g_calV (i := 156) (n := 0) (cal := mX7_on) (A := [.ref 17]) (rest := [.int s1]) dL_law_1029 (by rfl) (by decide) ⟨by simp only [List.length_cons, List.length_nil]; omega, by simp only [List.drop, List.length_cons, List.length_nil]; omega, rfl⟩ rfl rfl rfl rfl
theorem eL_law_1032 {x y : Int32} {L S : List Value} {h : Sto} : ev mL_law 1032 L (.int y :: .int x :: S) h = if x = y then ev mL_law 1060 L S h else ev mL_law 1035 L S h := g_icmpeq (tgt := 1060) dL_law_1032 (by decide)
theorem eL_law_1035  {L S : List Value} {h : Sto} : ev mL_law 1035 L S h = ev mL_law 1036 L (.int 0 :: S) h := g_iconst (v := 0) dL_law_1035 (by decide)
theorem eL_law_1036 {L : List Value} {h : Sto} {v : Int32} : ev mL_law 1036 L [.int v] h = if v = 0 ∨ v = 1 then some (some (.int v), h) else none := g_iretZ dL_law_1036 rfl
theorem eL_law_1037 {a0 : Value} {x : Nat} {T S : List Value} {h : Sto} : ev mL_law 1037 (a0 :: .ref x :: T) S h = ev mL_law 1038 (a0 :: .ref x :: T) (.ref x :: S) h := g_aload_n dL_law_1037 rfl
theorem eL_law_1038 {x : Nat} {T S : List Value} {h : Sto} : ev mL_law 1038 (.ref x :: T) S h = ev mL_law 1039 (.ref x :: T) (.ref x :: S) h := g_aload_n dL_law_1038 rfl
theorem eL_law_1039 {a0 a1 a2 : Value} {x : Int32} {T S : List Value} {h : Sto} : ev mL_law 1039 (a0 :: a1 :: a2 :: .int x :: T) S h = ev mL_law 1040 (a0 :: a1 :: a2 :: .int x :: T) (.int x :: S) h := g_iload_n dL_law_1039 rfl
theorem eL_law_1040  {L S : List Value} {h : Sto} : ev mL_law 1040 L S h = ev mL_law 1041 L (.int 1 :: S) h := g_iconst (v := 1) dL_law_1040 (by decide)
theorem eL_law_1041 {x y : Int32} {L S : List Value} {h : Sto} : ev mL_law 1041 L (.int y :: .int x :: S) h = ev mL_law 1042 L (.int (x + y) :: S) h := g_iadd dL_law_1041
theorem eL_law_1042 {x : Int32} {L S : List Value} {h : Sto} : ev mL_law 1042 L (.int x :: .ref 400 :: S) h = if x < 0 ∨ (h 401 0).toNatClampNeg ≤ x.toNatClampNeg then none else ev mL_law 1043 L (.int (h 400 x.toNatClampNeg) :: S) h := g_iaX dL_law_1042
theorem eL_law_1043 {s0 : Int32} {L : List Value} {h : Sto} : ev mL_law 1043 L [.int s0, .ref 0] h = (ev mX6_count 0 [.ref 0, .int s0] [] h).bind (fun q => ev mL_law 1046 L (q.1.toList ++ []) q.2) := g_calV (i := 157) (n := 1) (cal := mX6_count) (A := [.ref 0, .int s0]) (rest := []) dL_law_1043 (by rfl) (by decide) ⟨by simp only [List.length_cons, List.length_nil]; omega, by simp only [List.drop, List.length_cons, List.length_nil]; omega, rfl⟩ rfl rfl rfl rfl
theorem eL_law_1046 {a0 a1 : Value} {x : Nat} {T S : List Value} {h : Sto} : ev mL_law 1046 (a0 :: a1 :: .ref x :: T) S h = ev mL_law 1047 (a0 :: a1 :: .ref x :: T) (.ref x :: S) h := g_aload_n dL_law_1046 rfl
theorem eL_law_1047 {x : Nat} {T S : List Value} {h : Sto} : ev mL_law 1047 (.ref x :: T) S h = ev mL_law 1048 (.ref x :: T) (.ref x :: S) h := g_aload_n dL_law_1047 rfl
theorem eL_law_1048 {a0 a1 a2 : Value} {x : Int32} {T S : List Value} {h : Sto} : ev mL_law 1048 (a0 :: a1 :: a2 :: .int x :: T) S h = ev mL_law 1049 (a0 :: a1 :: a2 :: .int x :: T) (.int x :: S) h := g_iload_n dL_law_1048 rfl
theorem eL_law_1049  {L S : List Value} {h : Sto} : ev mL_law 1049 L S h = ev mL_law 1050 L (.int 1 :: S) h := g_iconst (v := 1) dL_law_1049 (by decide)
theorem eL_law_1050 {x y : Int32} {L S : List Value} {h : Sto} : ev mL_law 1050 L (.int y :: .int x :: S) h = ev mL_law 1051 L (.int (x + y) :: S) h := g_iadd dL_law_1050
theorem eL_law_1051 {x : Int32} {L S : List Value} {h : Sto} : ev mL_law 1051 L (.int x :: .ref 400 :: S) h = if x < 0 ∨ (h 401 0).toNatClampNeg ≤ x.toNatClampNeg then none else ev mL_law 1052 L (.int (h 400 x.toNatClampNeg) :: S) h := g_iaX dL_law_1051
theorem eL_law_1052 {s0 : Int32} {s2 : Int32} {L : List Value} {h : Sto} : ev mL_law 1052 L [.int s0, .ref 17, .int s2] h = (ev mX7_count 0 [.ref 17, .int s0, .null, .null] [] h).bind (fun q => ev mL_law 1055 L (q.1.toList ++ [.int s2]) q.2) := g_calV (i := 160) (n := 1) (cal := mX7_count) (A := [.ref 17, .int s0]) (rest := [.int s2]) dL_law_1052 (by rfl) (by decide) ⟨by simp only [List.length_cons, List.length_nil]; omega, by simp only [List.drop, List.length_cons, List.length_nil]; omega, rfl⟩ rfl rfl rfl rfl
theorem eL_law_1055 {x y : Int32} {L S : List Value} {h : Sto} : ev mL_law 1055 L (.int y :: .int x :: S) h = if x = y then ev mL_law 1060 L S h else ev mL_law 1058 L S h := g_icmpeq (tgt := 1060) dL_law_1055 (by decide)
theorem eL_law_1058  {L S : List Value} {h : Sto} : ev mL_law 1058 L S h = ev mL_law 1059 L (.int 0 :: S) h := g_iconst (v := 0) dL_law_1058 (by decide)
theorem eL_law_1059 {L : List Value} {h : Sto} {v : Int32} : ev mL_law 1059 L [.int v] h = if v = 0 ∨ v = 1 then some (some (.int v), h) else none := g_iretZ dL_law_1059 rfl
theorem eL_law_1060 {a0 a1 a2 : Value} {x : Int32} {T S : List Value} {h : Sto} : ev mL_law 1060 (a0 :: a1 :: a2 :: .int x :: T) S h = ev mL_law 1063 (a0 :: a1 :: a2 :: .int (x + 4) :: T) S h := g_iinc (v := 4) dL_law_1060 rfl (by decide) rfl
theorem eL_law_1063  {L S : List Value} {h : Sto} : ev mL_law 1063 L S h = ev mL_law 18 L S h := g_goto (tgt := 18) dL_law_1063 (by decide)
theorem eL_law_1066  {L S : List Value} {h : Sto} : ev mL_law 1066 L S h = ev mL_law 1067 L (.int 1 :: S) h := g_iconst (v := 1) dL_law_1066 (by decide)
theorem eL_law_1067 {L : List Value} {h : Sto} {v : Int32} : ev mL_law 1067 L [.int v] h = if v = 0 ∨ v = 1 then some (some (.int v), h) else none := g_iretZ dL_law_1067 rfl

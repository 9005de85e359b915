/-! LETTERS: strings of the class, and how a STATEMENT is read -/
section STRS
variable {h h' : Sto} {e n : Int32}
theorem rc100 {s : Nat} (hs : s < 7) : rcv (100 + s) = 10 := by
  unfold rcv
  rw [if_neg (by omega), if_pos (by omega)]
theorem j_coder {s : Nat} (hs : s < 7) : ev mJ0_coder_7d493 0 [.ref (100 + s)] [] h = some (some (.int 0), h) := by
  rw [eJ0_coder_7d493_0, eJ0_coder_7d493_3, if_neg (by decide), eJ0_coder_7d493_6, eJ0_coder_7d493_7 ⟨by omega, by omega⟩, eJ0_coder_7d493_10, eJ0_coder_7d493_14 rfl]
theorem j_latin {s : Nat} (hs : s < 7) : ev mJ0_isLatin1_aae02 0 [.ref (100 + s)] [] h = some (some (.int 1), h) := by
  rw [eJ0_isLatin1_aae02_0, eJ0_isLatin1_aae02_3, if_neg (by decide), eJ0_isLatin1_aae02_6, eJ0_isLatin1_aae02_7 ⟨by omega, by omega⟩, eJ0_isLatin1_aae02_10, if_pos rfl, eJ0_isLatin1_aae02_13, eJ0_isLatin1_aae02_14, eJ0_isLatin1_aae02_18, if_pos (Or.inr rfl)]
theorem c200 {s : Nat} : 100 + s + 100 = 200 + s := by omega
theorem sl_lt {s : Nat} : sLen.getD s 0 < 7 := by
  unfold sLen
  match s with
  | 0 => decide
  | 1 => decide
  | 2 => decide
  | 3 => decide
  | 4 => decide
  | 5 => decide
  | 6 => decide
  | s + 7 => simp
theorem j_len {s : Nat} (hs : s < 7) : ev mJ0_length_8abf5 0 [.ref (100 + s)] [] h = some (some (.int (nI (sLen.getD s 0))), h) := by
  have l := sl_lt (s := s)
  have z : nI (sLen.getD s 0) >>> ((0 : Int32) &&& 31) = nI (sLen.getD s 0) := by
    rw [pk_shrN (by omega) ((0 : Int32) &&& 31) 0 (by decide)]
    simp
  rw [eJ0_length_8abf5_0, eJ0_length_8abf5_1 ⟨by omega, by omega⟩, c200, eJ0_length_8abf5_4 hs, eJ0_length_8abf5_5, eJ0_length_8abf5_6 (rc100 hs), j_coder hs]
  simp only [Option.bind_some, Option.toList_some, List.cons_append, List.nil_append]
  rw [eJ0_length_8abf5_9, eJ0_length_8abf5_10]
  exact congrArg (fun z => some (some (Value.int z), h)) z
theorem j_empty {s : Nat} (hs : s < 7) : ev mJ0_isEmpty_aae02 0 [.ref (100 + s)] [] h = some (some (.int (if sLen.getD s 0 = 0 then 1 else 0)), h) := by
  have l := sl_lt (s := s)
  rw [eJ0_isEmpty_aae02_0, eJ0_isEmpty_aae02_1 ⟨by omega, by omega⟩, c200, eJ0_isEmpty_aae02_4 hs, eJ0_isEmpty_aae02_5]
  by_cases z : sLen.getD s 0 = 0
  · rw [if_pos z, z, if_pos (by decide), eJ0_isEmpty_aae02_8, eJ0_isEmpty_aae02_9, eJ0_isEmpty_aae02_13, if_pos (Or.inr rfl)]
  · have nz : ¬ Int32.ofNat (sLen.getD s 0) = 0 := nI_ne0 (by omega) (by omega)
    rw [if_neg z, if_neg nz, eJ0_isEmpty_aae02_12, eJ0_isEmpty_aae02_13, if_pos (Or.inl rfl)]
theorem sb_chr : ∀ s, s < 7 → ∀ i, i < sLen.getD s 0 → ((((sByt.getD s []).getD i 0) &&& 255).toUInt32 % 65536).toInt32 = (sByt.getD s []).getD i 0 := by decide +kernel
theorem j_charAt {s i : Nat} (hs : s < 7) (hi : i < sLen.getD s 0) : ev mJ0_charAt_5068e 0 [.ref (100 + s), .int (nI i)] [] h = some (some (.int ((sByt.getD s []).getD i 0)), h) := by
  have l := sl_lt (s := s)
  have e1 : ¬ nI i < 0 := nI_pos (by omega)
  have e2 : nI i < Int32.ofNat (sLen.getD s 0) := nI_lt hi (by omega)
  have e3 : (nI i).toNatClampNeg = i := nI_clamp (by omega)
  have k3 : ∀ M : Int32, nI i < M → ev mJ3_checkIndex_8e157 0 [.int (nI i), .int M, .ref 300] [] h = some (some (.int (nI i)), h) := by
    intro M e2
    simp [le_nl, -Int32.not_lt, eJ3_checkIndex_8e157_0, eJ3_checkIndex_8e157_1, eJ3_checkIndex_8e157_4, eJ3_checkIndex_8e157_5, eJ3_checkIndex_8e157_6, eJ3_checkIndex_8e157_9, eJ3_checkIndex_8e157_10, eJ3_checkIndex_8e157_11, eJ3_checkIndex_8e157_16, eJ3_checkIndex_8e157_17, e1, e2]
  have k0 : ev mJ0_checkIndex_df160 0 [.int (nI i), .int (Int32.ofNat (sLen.getD s 0))] [] h = some (none, h) := by
    generalize Int32.ofNat (sLen.getD s 0) = M at e2
    simp [eJ0_checkIndex_df160_0, eJ0_checkIndex_df160_1, eJ0_checkIndex_df160_2, eJ0_checkIndex_df160_5, eJ0_checkIndex_df160_8, eJ0_checkIndex_df160_9, k3 M e2]
  have c1 : ev mJ1_charAt_3b067 0 [.ref (200 + s), .int (nI i)] [] h = some (some (.int ((sByt.getD s []).getD i 0)), h) := by
    rw [eJ1_charAt_3b067_0, eJ1_charAt_3b067_1, eJ1_charAt_3b067_2 hs, eJ1_charAt_3b067_3, k0]
    simp only [Option.bind_some, Option.toList_none, List.nil_append]
    rw [eJ1_charAt_3b067_6, eJ1_charAt_3b067_7, eJ1_charAt_3b067_8 hs, e3, if_neg (by rintro (z | z); exact e1 z; omega), eJ1_charAt_3b067_9, eJ1_charAt_3b067_12, eJ1_charAt_3b067_13, eJ1_charAt_3b067_14 (pk_nc _), sb_chr s hs i hi]
  rw [eJ0_charAt_5068e_0, eJ0_charAt_5068e_1 (rc100 hs), j_latin hs]
  simp only [Option.bind_some, Option.toList_some, List.cons_append, List.nil_append]
  rw [eJ0_charAt_5068e_4, if_neg (by decide), eJ0_charAt_5068e_7, eJ0_charAt_5068e_8 ⟨by omega, by omega⟩, c200, eJ0_charAt_5068e_11, eJ0_charAt_5068e_12, c1]
  simp only [Option.bind_some, Option.toList_some, List.cons_append, List.nil_append]
  rw [eJ0_charAt_5068e_15]
  rw [← sb_chr s hs i hi]
  exact pk_nc _
def kdN (x : Int32) : Int32 := if x = 98 then 5 else if x = 99 then 0 else if x = 101 then 2 else if x = 108 then 3 else if x = 115 then 1 else if x = 118 then 4 else -9
theorem kd_all : ∀ k, k < 256 → ((99 = (nI k).toInt8.toInt32 ↔ nI k = 99) ∧ (115 = (nI k).toInt8.toInt32 ↔ nI k = 115) ∧ (101 = (nI k).toInt8.toInt32 ↔ nI k = 101)) ∧ (108 = (nI k).toInt8.toInt32 ↔ nI k = 108) ∧ (118 = (nI k).toInt8.toInt32 ↔ nI k = 118) ∧ (98 = (nI k).toInt8.toInt32 ↔ nI k = 98) := by decide +kernel
theorem kd_chr : ∀ k, k < 256 → ((nI k).toUInt32 % 65536).toInt32 = nI k := by decide +kernel
theorem j_indexOf {k : Nat} (hk : k < 256) : ev mJ0_indexOf_0f7a4 0 [.ref 106, .int (nI k)] [] h = some (some (.int (if kdN (nI k) = -9 then -1 else kdN (nI k))), h) := by
  obtain ⟨⟨b1, b2, b3⟩, b4, b5, b6⟩ := kd_all k hk
  have e1 : ¬ nI k < 0 := nI_pos (by omega)
  have e2 : ¬ (255 : Int32) < nI k := by
    rw [t_lt, t_nI (by omega)]
    show ¬ (255 : Int) < _
    omega
  have lt := j_latin (s := 6) (h := h) (by omega)
  have cn : ev mJ1_canEncode_9a6ad 0 [.int (nI k)] [] h = some (some (.int 1), h) := by simp [eJ1_canEncode_9a6ad_0, eJ1_canEncode_9a6ad_1, eJ1_canEncode_9a6ad_4, eJ1_canEncode_9a6ad_5, eJ1_canEncode_9a6ad_8, eJ1_canEncode_9a6ad_11, eJ1_canEncode_9a6ad_12, eJ1_canEncode_9a6ad_15, eJ1_canEncode_9a6ad_16, e1, e2]
  have q : ∀ (L S : List Value) (x : Int32), ev mJ1_indexOfChar_4cfef 16 L (.int x :: .ref 206 :: S) h = if x < 0 ∨ 6 ≤ x.toNatClampNeg then none else ev mJ1_indexOfChar_4cfef 17 L (.int ([99, 115, 101, 108, 118, 98].getD x.toNatClampNeg 0) :: S) h := fun L S x => eJ1_indexOfChar_4cfef_16 (i := 6) (by omega)
  have q2 : ∀ (L S : List Value), ev mJ1_indexOf_4cfef 17 L (.ref 206 :: S) h = ev mJ1_indexOf_4cfef 18 L (.int 6 :: S) h := fun L S => eJ1_indexOf_4cfef_17 (i := 6) (by omega)
  have lp : ev mJ1_indexOfChar_4cfef 0 [.ref 206, .int (nI k), .int 0, .int 6, .null, .null] [] h = some (some (.int (if kdN (nI k) = -9 then -1 else kdN (nI k))), h) := by
    generalize hx : nI k = x at *
    by_cases z1 : x = 99
    · have := b1.mpr z1
      simp [eJ1_indexOfChar_4cfef_0, eJ1_indexOfChar_4cfef_1, eJ1_indexOfChar_4cfef_2, eJ1_indexOfChar_4cfef_4, eJ1_indexOfChar_4cfef_5, eJ1_indexOfChar_4cfef_7, eJ1_indexOfChar_4cfef_9, eJ1_indexOfChar_4cfef_10, eJ1_indexOfChar_4cfef_13, eJ1_indexOfChar_4cfef_14, eJ1_indexOfChar_4cfef_17, eJ1_indexOfChar_4cfef_19, eJ1_indexOfChar_4cfef_22, eJ1_indexOfChar_4cfef_24, eJ1_indexOfChar_4cfef_25, eJ1_indexOfChar_4cfef_28, eJ1_indexOfChar_4cfef_31, eJ1_indexOfChar_4cfef_32, q, ← this, z1, kdN]
    · have n1 : ¬ 99 = x.toInt8.toInt32 := fun y => z1 (b1.mp y)
      by_cases z2 : x = 115
      · have := b2.mpr z2
        simp [eJ1_indexOfChar_4cfef_0, eJ1_indexOfChar_4cfef_1, eJ1_indexOfChar_4cfef_2, eJ1_indexOfChar_4cfef_4, eJ1_indexOfChar_4cfef_5, eJ1_indexOfChar_4cfef_7, eJ1_indexOfChar_4cfef_9, eJ1_indexOfChar_4cfef_10, eJ1_indexOfChar_4cfef_13, eJ1_indexOfChar_4cfef_14, eJ1_indexOfChar_4cfef_17, eJ1_indexOfChar_4cfef_19, eJ1_indexOfChar_4cfef_22, eJ1_indexOfChar_4cfef_24, eJ1_indexOfChar_4cfef_25, eJ1_indexOfChar_4cfef_28, eJ1_indexOfChar_4cfef_31, eJ1_indexOfChar_4cfef_32, q, ← this, z2, kdN]
      · have n2 : ¬ 115 = x.toInt8.toInt32 := fun y => z2 (b2.mp y)
        by_cases z3 : x = 101
        · have := b3.mpr z3
          simp [eJ1_indexOfChar_4cfef_0, eJ1_indexOfChar_4cfef_1, eJ1_indexOfChar_4cfef_2, eJ1_indexOfChar_4cfef_4, eJ1_indexOfChar_4cfef_5, eJ1_indexOfChar_4cfef_7, eJ1_indexOfChar_4cfef_9, eJ1_indexOfChar_4cfef_10, eJ1_indexOfChar_4cfef_13, eJ1_indexOfChar_4cfef_14, eJ1_indexOfChar_4cfef_17, eJ1_indexOfChar_4cfef_19, eJ1_indexOfChar_4cfef_22, eJ1_indexOfChar_4cfef_24, eJ1_indexOfChar_4cfef_25, eJ1_indexOfChar_4cfef_28, eJ1_indexOfChar_4cfef_31, eJ1_indexOfChar_4cfef_32, q, ← this, z3, kdN]
        · have n3 : ¬ 101 = x.toInt8.toInt32 := fun y => z3 (b3.mp y)
          by_cases z4 : x = 108
          · have := b4.mpr z4
            simp [eJ1_indexOfChar_4cfef_0, eJ1_indexOfChar_4cfef_1, eJ1_indexOfChar_4cfef_2, eJ1_indexOfChar_4cfef_4, eJ1_indexOfChar_4cfef_5, eJ1_indexOfChar_4cfef_7, eJ1_indexOfChar_4cfef_9, eJ1_indexOfChar_4cfef_10, eJ1_indexOfChar_4cfef_13, eJ1_indexOfChar_4cfef_14, eJ1_indexOfChar_4cfef_17, eJ1_indexOfChar_4cfef_19, eJ1_indexOfChar_4cfef_22, eJ1_indexOfChar_4cfef_24, eJ1_indexOfChar_4cfef_25, eJ1_indexOfChar_4cfef_28, eJ1_indexOfChar_4cfef_31, eJ1_indexOfChar_4cfef_32, q, ← this, z4, kdN]
          · have n4 : ¬ 108 = x.toInt8.toInt32 := fun y => z4 (b4.mp y)
            by_cases z5 : x = 118
            · have := b5.mpr z5
              simp [eJ1_indexOfChar_4cfef_0, eJ1_indexOfChar_4cfef_1, eJ1_indexOfChar_4cfef_2, eJ1_indexOfChar_4cfef_4, eJ1_indexOfChar_4cfef_5, eJ1_indexOfChar_4cfef_7, eJ1_indexOfChar_4cfef_9, eJ1_indexOfChar_4cfef_10, eJ1_indexOfChar_4cfef_13, eJ1_indexOfChar_4cfef_14, eJ1_indexOfChar_4cfef_17, eJ1_indexOfChar_4cfef_19, eJ1_indexOfChar_4cfef_22, eJ1_indexOfChar_4cfef_24, eJ1_indexOfChar_4cfef_25, eJ1_indexOfChar_4cfef_28, eJ1_indexOfChar_4cfef_31, eJ1_indexOfChar_4cfef_32, q, ← this, z5, kdN]
            · have n5 : ¬ 118 = x.toInt8.toInt32 := fun y => z5 (b5.mp y)
              by_cases z6 : x = 98
              · have := b6.mpr z6
                simp [eJ1_indexOfChar_4cfef_0, eJ1_indexOfChar_4cfef_1, eJ1_indexOfChar_4cfef_2, eJ1_indexOfChar_4cfef_4, eJ1_indexOfChar_4cfef_5, eJ1_indexOfChar_4cfef_7, eJ1_indexOfChar_4cfef_9, eJ1_indexOfChar_4cfef_10, eJ1_indexOfChar_4cfef_13, eJ1_indexOfChar_4cfef_14, eJ1_indexOfChar_4cfef_17, eJ1_indexOfChar_4cfef_19, eJ1_indexOfChar_4cfef_22, eJ1_indexOfChar_4cfef_24, eJ1_indexOfChar_4cfef_25, eJ1_indexOfChar_4cfef_28, eJ1_indexOfChar_4cfef_31, eJ1_indexOfChar_4cfef_32, q, ← this, z6, kdN]
              · have n6 : ¬ 98 = x.toInt8.toInt32 := fun y => z6 (b6.mp y)
                simp [eJ1_indexOfChar_4cfef_0, eJ1_indexOfChar_4cfef_1, eJ1_indexOfChar_4cfef_2, eJ1_indexOfChar_4cfef_4, eJ1_indexOfChar_4cfef_5, eJ1_indexOfChar_4cfef_7, eJ1_indexOfChar_4cfef_9, eJ1_indexOfChar_4cfef_10, eJ1_indexOfChar_4cfef_13, eJ1_indexOfChar_4cfef_14, eJ1_indexOfChar_4cfef_17, eJ1_indexOfChar_4cfef_19, eJ1_indexOfChar_4cfef_22, eJ1_indexOfChar_4cfef_24, eJ1_indexOfChar_4cfef_25, eJ1_indexOfChar_4cfef_28, eJ1_indexOfChar_4cfef_31, eJ1_indexOfChar_4cfef_32, q, n1, n2, n3, n4, n5, n6, z1, z2, z3, z4, z5, z6, kdN]
  have i1 : ev mJ1_indexOf_4cfef 0 [.ref 206, .int (nI k), .int 0, .int 6] [] h = some (some (.int (if kdN (nI k) = -9 then -1 else kdN (nI k))), h) := by
    simp [eJ1_indexOf_4cfef_0, eJ1_indexOf_4cfef_1, eJ1_indexOf_4cfef_4, eJ1_indexOf_4cfef_7, eJ1_indexOf_4cfef_8, eJ1_indexOf_4cfef_9, eJ1_indexOf_4cfef_10, eJ1_indexOf_4cfef_11, eJ1_indexOf_4cfef_14, eJ1_indexOf_4cfef_15, eJ1_indexOf_4cfef_16, eJ1_indexOf_4cfef_18, eJ1_indexOf_4cfef_21, eJ1_indexOf_4cfef_22, eJ1_indexOf_4cfef_23, eJ1_indexOf_4cfef_24, eJ1_indexOf_4cfef_27, eJ1_indexOf_4cfef_28, eJ1_indexOf_4cfef_29, eJ1_indexOf_4cfef_30, eJ1_indexOf_4cfef_31, eJ1_indexOf_4cfef_32, eJ1_indexOf_4cfef_33, eJ1_indexOf_4cfef_36, cn, q2, lp]
  have i2 : ev mJ0_indexOf_7cf53 0 [.ref 106, .int (nI k), .int 0] [] h = some (some (.int (if kdN (nI k) = -9 then -1 else kdN (nI k))), h) := by
    have ln := j_len (s := 6) (h := h) (by omega)
    rw [show 100 + 6 = 106 from rfl] at lt ln
    rw [show nI (sLen.getD 6 0) = 6 from rfl] at ln
    simp [eJ0_indexOf_7cf53_0, eJ0_indexOf_7cf53_1, eJ0_indexOf_7cf53_4, eJ0_indexOf_7cf53_7, eJ0_indexOf_7cf53_8, eJ0_indexOf_7cf53_11, eJ0_indexOf_7cf53_12, eJ0_indexOf_7cf53_13, eJ0_indexOf_7cf53_14, eJ0_indexOf_7cf53_17, eJ0_indexOf_7cf53_20, eJ0_indexOf_7cf53_23, eJ0_indexOf_7cf53_24, eJ0_indexOf_7cf53_27, eJ0_indexOf_7cf53_28, eJ0_indexOf_7cf53_29, eJ0_indexOf_7cf53_30, eJ0_indexOf_7cf53_36, lt, ln, i1, show rcv 106 = 10 from rfl]
  simp [eJ0_indexOf_0f7a4_0, eJ0_indexOf_0f7a4_1, eJ0_indexOf_0f7a4_2, eJ0_indexOf_0f7a4_3, eJ0_indexOf_0f7a4_6, i2, show rcv 106 = 10 from rfl]
theorem f_isSign {k : Nat} (hk : k < 256) : ev mX1_isSign 0 [.int (nI k)] [] h = some (some (.int (if kdN (nI k) = -9 then 0 else 1)), h) := by
  have ix := j_indexOf (h := h) hk
  have nn : ¬ kdN (nI k) = -9 → ¬ kdN (nI k) < 0 := by
    unfold kdN
    repeat' split
    all_goals first | (intro; decide) | (intro z; exact absurd rfl z)
  by_cases c : kdN (nI k) = -9
  · rw [if_pos c] at ix
    simp [eX1_isSign_0, eX1_isSign_2, eX1_isSign_3, eX1_isSign_4, eX1_isSign_7, eX1_isSign_10, eX1_isSign_11, eX1_isSign_14, eX1_isSign_15, kd_chr k hk, ix, c, show rcv 106 = 10 from rfl]
  · rw [if_neg c] at ix
    simp [eX1_isSign_0, eX1_isSign_2, eX1_isSign_3, eX1_isSign_4, eX1_isSign_7, eX1_isSign_10, eX1_isSign_11, eX1_isSign_14, eX1_isSign_15, kd_chr k hk, ix, c, nn c, show rcv 106 = 10 from rfl]
theorem f_ofSign {k : Nat} (hk : k < 256) (c : ¬ kdN (nI k) = -9) : ev mX1_ofSign 0 [.int (nI k)] [] h = some (some (.int (kdN (nI k))), h) := by
  have ix := j_indexOf (h := h) hk
  have nn : ¬ kdN (nI k) = -9 → (if (0 : Int32) < kdN (nI k) then kdN (nI k) else 0) = kdN (nI k) := by
    unfold kdN
    repeat' split
    all_goals first | (intro; rfl) | (intro z; exact absurd rfl z) | simp_all
  rw [if_neg c] at ix
  simp [eX1_ofSign_0, eX1_ofSign_1, eX1_ofSign_3, eX1_ofSign_4, eX1_ofSign_5, eX1_ofSign_8, eX1_ofSign_11, kd_chr k hk, ix, nn c, show rcv 106 = 10 from rfl]
/-- which form is behind a letter -/
def fiN (c : Int32) : Nat := if c = 101 then 2 else if c = 105 then 1 else if c = 107 then 3 else if c = 110 then 0 else if c = 112 then 0 else if c = 115 then 4 else if c = 119 then 0 else 5
theorem fi_lt (c : Int32) : fiN c < 6 := by
  unfold fiN
  repeat' split
  all_goals omega
theorem f_form {x : Int32} : ev mX2_formBehind 0 [.int x] [] h = some (some (.ref (100 + fiN x)), h) := by
  unfold fiN
  rw [eX2_formBehind_0, eX2_formBehind_1]
  repeat' split
  all_goals first | (rw [eX2_formBehind_92, eX2_formBehind_94 ⟨by omega, by omega⟩]; done) | (rw [eX2_formBehind_95, eX2_formBehind_97 ⟨by omega, by omega⟩]; done) | (rw [eX2_formBehind_98, eX2_formBehind_100 ⟨by omega, by omega⟩]; done) | (rw [eX2_formBehind_101, eX2_formBehind_103 ⟨by omega, by omega⟩]; done) | (rw [eX2_formBehind_104, eX2_formBehind_106 ⟨by omega, by omega⟩]; done) | (rw [eX2_formBehind_107, eX2_formBehind_109 ⟨by omega, by omega⟩]; done) | simp_all
def tsB (c x : Int32) : Bool := if c = 35 then decide (¬ x < 48 ∧ ¬ 57 < x) else if c = 107 then decide (¬ kdN x = -9) else if c = 43 then decide (x = 43 ∨ x = 45) else decide (x = c)
theorem f_fits {c : Int32} {k : Nat} (hk : k < 256) : ev mX2_fits 0 [.int c, .int (nI k)] [] h = some (some (.int (if tsB c (nI k) = true then 1 else 0)), h) := by
  have is := f_isSign (h := h) hk
  unfold tsB
  by_cases c1 : c = 35
  · by_cases d1 : nI k < 48
    · simp [eX2_fits_0, eX2_fits_1, eX2_fits_36, eX2_fits_37, eX2_fits_39, eX2_fits_42, eX2_fits_43, eX2_fits_45, eX2_fits_48, eX2_fits_49, eX2_fits_52, eX2_fits_53, eX2_fits_54, eX2_fits_55, eX2_fits_58, eX2_fits_59, eX2_fits_60, eX2_fits_62, eX2_fits_65, eX2_fits_66, eX2_fits_68, eX2_fits_71, eX2_fits_72, eX2_fits_75, eX2_fits_76, eX2_fits_77, eX2_fits_78, eX2_fits_79, eX2_fits_82, eX2_fits_83, eX2_fits_86, eX2_fits_87, c1, d1]
    · by_cases d2 : 57 < nI k
      · simp [eX2_fits_0, eX2_fits_1, eX2_fits_36, eX2_fits_37, eX2_fits_39, eX2_fits_42, eX2_fits_43, eX2_fits_45, eX2_fits_48, eX2_fits_49, eX2_fits_52, eX2_fits_53, eX2_fits_54, eX2_fits_55, eX2_fits_58, eX2_fits_59, eX2_fits_60, eX2_fits_62, eX2_fits_65, eX2_fits_66, eX2_fits_68, eX2_fits_71, eX2_fits_72, eX2_fits_75, eX2_fits_76, eX2_fits_77, eX2_fits_78, eX2_fits_79, eX2_fits_82, eX2_fits_83, eX2_fits_86, eX2_fits_87, c1, d1, d2]
      · have d2' : nI k ≤ 57 := Int32.not_lt.mp d2
        have d1' : 48 ≤ nI k := Int32.not_lt.mp d1
        simp [eX2_fits_0, eX2_fits_1, eX2_fits_36, eX2_fits_37, eX2_fits_39, eX2_fits_42, eX2_fits_43, eX2_fits_45, eX2_fits_48, eX2_fits_49, eX2_fits_52, eX2_fits_53, eX2_fits_54, eX2_fits_55, eX2_fits_58, eX2_fits_59, eX2_fits_60, eX2_fits_62, eX2_fits_65, eX2_fits_66, eX2_fits_68, eX2_fits_71, eX2_fits_72, eX2_fits_75, eX2_fits_76, eX2_fits_77, eX2_fits_78, eX2_fits_79, eX2_fits_82, eX2_fits_83, eX2_fits_86, eX2_fits_87, c1, d1, d2, d1', d2']
  · by_cases c2 : c = 107
    · by_cases d1 : kdN (nI k) = -9
      · rw [if_pos d1] at is
        simp [eX2_fits_0, eX2_fits_1, eX2_fits_36, eX2_fits_37, eX2_fits_39, eX2_fits_42, eX2_fits_43, eX2_fits_45, eX2_fits_48, eX2_fits_49, eX2_fits_52, eX2_fits_53, eX2_fits_54, eX2_fits_55, eX2_fits_58, eX2_fits_59, eX2_fits_60, eX2_fits_62, eX2_fits_65, eX2_fits_66, eX2_fits_68, eX2_fits_71, eX2_fits_72, eX2_fits_75, eX2_fits_76, eX2_fits_77, eX2_fits_78, eX2_fits_79, eX2_fits_82, eX2_fits_83, eX2_fits_86, eX2_fits_87, c2, d1, is]
      · rw [if_neg d1] at is
        simp [eX2_fits_0, eX2_fits_1, eX2_fits_36, eX2_fits_37, eX2_fits_39, eX2_fits_42, eX2_fits_43, eX2_fits_45, eX2_fits_48, eX2_fits_49, eX2_fits_52, eX2_fits_53, eX2_fits_54, eX2_fits_55, eX2_fits_58, eX2_fits_59, eX2_fits_60, eX2_fits_62, eX2_fits_65, eX2_fits_66, eX2_fits_68, eX2_fits_71, eX2_fits_72, eX2_fits_75, eX2_fits_76, eX2_fits_77, eX2_fits_78, eX2_fits_79, eX2_fits_82, eX2_fits_83, eX2_fits_86, eX2_fits_87, c2, d1, is]
    · by_cases c3 : c = 43
      · by_cases d1 : nI k = 43
        · simp [eX2_fits_0, eX2_fits_1, eX2_fits_36, eX2_fits_37, eX2_fits_39, eX2_fits_42, eX2_fits_43, eX2_fits_45, eX2_fits_48, eX2_fits_49, eX2_fits_52, eX2_fits_53, eX2_fits_54, eX2_fits_55, eX2_fits_58, eX2_fits_59, eX2_fits_60, eX2_fits_62, eX2_fits_65, eX2_fits_66, eX2_fits_68, eX2_fits_71, eX2_fits_72, eX2_fits_75, eX2_fits_76, eX2_fits_77, eX2_fits_78, eX2_fits_79, eX2_fits_82, eX2_fits_83, eX2_fits_86, eX2_fits_87, c3, d1]
        · by_cases d2 : nI k = 45 <;> simp [eX2_fits_0, eX2_fits_1, eX2_fits_36, eX2_fits_37, eX2_fits_39, eX2_fits_42, eX2_fits_43, eX2_fits_45, eX2_fits_48, eX2_fits_49, eX2_fits_52, eX2_fits_53, eX2_fits_54, eX2_fits_55, eX2_fits_58, eX2_fits_59, eX2_fits_60, eX2_fits_62, eX2_fits_65, eX2_fits_66, eX2_fits_68, eX2_fits_71, eX2_fits_72, eX2_fits_75, eX2_fits_76, eX2_fits_77, eX2_fits_78, eX2_fits_79, eX2_fits_82, eX2_fits_83, eX2_fits_86, eX2_fits_87, c3, d1, d2]
      · by_cases d1 : nI k = c
        · simp [eX2_fits_0, eX2_fits_1, eX2_fits_36, eX2_fits_37, eX2_fits_39, eX2_fits_42, eX2_fits_43, eX2_fits_45, eX2_fits_48, eX2_fits_49, eX2_fits_52, eX2_fits_53, eX2_fits_54, eX2_fits_55, eX2_fits_58, eX2_fits_59, eX2_fits_60, eX2_fits_62, eX2_fits_65, eX2_fits_66, eX2_fits_68, eX2_fits_71, eX2_fits_72, eX2_fits_75, eX2_fits_76, eX2_fits_77, eX2_fits_78, eX2_fits_79, eX2_fits_82, eX2_fits_83, eX2_fits_86, eX2_fits_87, c1, c2, c3, d1]
        · simp [eX2_fits_0, eX2_fits_1, eX2_fits_36, eX2_fits_37, eX2_fits_39, eX2_fits_42, eX2_fits_43, eX2_fits_45, eX2_fits_48, eX2_fits_49, eX2_fits_52, eX2_fits_53, eX2_fits_54, eX2_fits_55, eX2_fits_58, eX2_fits_59, eX2_fits_60, eX2_fits_62, eX2_fits_65, eX2_fits_66, eX2_fits_68, eX2_fits_71, eX2_fits_72, eX2_fits_75, eX2_fits_76, eX2_fits_77, eX2_fits_78, eX2_fits_79, eX2_fits_82, eX2_fits_83, eX2_fits_86, eX2_fits_87, c1, c2, c3, d1]
end STRS

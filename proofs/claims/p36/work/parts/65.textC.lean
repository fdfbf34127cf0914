/-! the class: tellStatement -/
def tw (h : Nat → Int32) (a : Nat) : Int32 := 10 * (h a - 48) + (h (a + 1) - 48)
def tv0 (h : Nat → Int32) (b : Int32) (a : Nat) : Int32 := if b = 105 then kinC (h (a + 1)) else if b = 121 then tw h (a + 1) else h (a + 1) - 48
def tv1 (h : Nat → Int32) (b : Int32) (a : Nat) : Int32 := if b = 114 then tw h (a + 2) else h (a + 2) - 48
noncomputable def tsA (σ : St) (n y : Nat) (b v0 v1 : Int32) : Int32 := if b = 105 then hAddA n v1 else if b = 109 then hCarA σ 27 n v0 v1 else if b = 115 then hWidA σ 27 v0 v1 else if b = 114 then hSizA σ 27 n v0 v1 else if b = 121 then hYeaA σ 27 n y v0 else if b = 104 then hHeiA σ 27 v0 else hPolA σ 27 n v0
noncomputable def tsS (σ : St) (n y : Nat) (b v0 v1 v2 v3 : Int32) : St := if b = 105 then hAddS σ 27 n v0 v1 v2 v3 else if b = 109 then hCarS σ 27 n v0 v1 else if b = 115 then hWidS σ 27 v0 v1 else if b = 114 then hSizS σ 27 n v0 v1 else if b = 121 then hYeaS σ 27 n y v0 else if b = 104 then hHeiS σ 27 v0 else hPolS σ 27 n v0
theorem kX4_tellStatement (a t n y : Nat) (σ : St) (hT : σ 43 1 = nI t) (h96 : t ≤ 96) (ha : a < 500) (hn : σ 27 7 = nI n) (h7 : n ≤ 7) (hy : σ 27 9 = nI y) (hy9 : y ≤ 999) (hb : letP (hx (σ 44) t a)) : Ct yX4_tellStatement cX4_tellStatement 3 (some .int) 6 [.ref 43, .ref 27, .int (nI a)] σ (fI (tsA σ n y (hx (σ 44) t a) (tv0 (hx (σ 44) t) (hx (σ 44) t a) a) (tv1 (hx (σ 44) t) (hx (σ 44) t a) a)) (tsS σ n y (hx (σ 44) t a) (tv0 (hx (σ 44) t) (hx (σ 44) t a) a) (tv1 (hx (σ 44) t) (hx (σ 44) t a) a) (hx (σ 44) t (a + 3) - 48) (tw (hx (σ 44) t) (a + 4)))) := by
  refine ct_of plX4 rfl (Nat.le_of_ble_eq_true rfl) (fun X hX C => ?_)
  show V X 0 [(0, .ref 43), (1, .ref 27), (2, .int (nI a))] [] σ
  refine v_aload_n C dX4_tellStatement_0 rfl rfl rfl ?_
  refine v_iload_n C dX4_tellStatement_1 rfl rfl rfl ?_
  refine v_callV C (Nat.le_of_ble_eq_true rfl) rfl rfl (As := [.int (nI a)]) (rest := []) (kX4_letterAt a t σ hT h96 (by omega)) rfl (Nat.le_of_ble_eq_true rfl) (Nat.le_of_ble_eq_true rfl) ⟨mlX4_27, mfX4_letterAt⟩ dkX4_letterAt (Nat.le_of_ble_eq_true rfl) dX4_tellStatement_2 rfl (kI ?_)
  by_cases s5_104 : hx (σ 44) t a = 104
  · refine V.tp s5_104 ?_
    refine v_tableIn (off := 180) (tgt := 185) C dX4_tellStatement_5 (by decide) (by decide) rfl (by decide) ?_
    refine v_aload_n C dX4_tellStatement_185 rfl rfl rfl ?_
    refine v_aload_n C dX4_tellStatement_186 rfl rfl rfl ?_
    refine v_iload_n C dX4_tellStatement_187 rfl rfl rfl ?_
    refine v_iconst (v := 1) C dX4_tellStatement_188 (by decide) rfl ?_
    refine v_iadd C dX4_tellStatement_189 rfl ?_
    refine V.tp (nI_add a 1) ?_
    refine v_callV C (Nat.le_of_ble_eq_true rfl) rfl rfl (As := [.int (nI (a + 1))]) (rest := [.ref 27]) (kX4_digitAt (a + 1) t σ hT h96 (by omega)) rfl (Nat.le_of_ble_eq_true rfl) (Nat.le_of_ble_eq_true rfl) ⟨mlX4_64, mfX4_digitAt⟩ dkX4_digitAt (Nat.le_of_ble_eq_true rfl) dX4_tellStatement_190 rfl (kI ?_)
    refine v_callVN C (Nat.le_of_ble_eq_true rfl) rfl rfl (As := [.int (hx (σ 44) t (a + 1) - 48)]) (rest := []) (kX0_nameHeirs (hx (σ 44) t (a + 1) - 48) 27 hh27 σ) rfl (Nat.le_of_ble_eq_true rfl) (Nat.le_of_ble_eq_true rfl) ⟨mlX4_86, mfX0_nameHeirs⟩ dkX0_nameHeirs (Nat.le_of_ble_eq_true rfl) dX4_tellStatement_193 rfl (kI ?_)
    exact v_iret C dX4_tellStatement_196 (by rw [hX]; exact fI_of (by rw [s5_104]; simp [tsA, tv0, tv1, tw]) (by rw [s5_104]; simp [tsS, tv0, tv1, tw]))
  by_cases s5_105 : hx (σ 44) t a = 105
  · refine V.tp s5_105 ?_
    refine v_tableIn (off := 87) (tgt := 92) C dX4_tellStatement_5 (by decide) (by decide) rfl (by decide) ?_
    refine v_aload_n C dX4_tellStatement_92 rfl rfl rfl ?_
    refine v_aload_n C dX4_tellStatement_93 rfl rfl rfl ?_
    refine v_iload_n C dX4_tellStatement_94 rfl rfl rfl ?_
    refine v_iconst (v := 1) C dX4_tellStatement_95 (by decide) rfl ?_
    refine v_iadd C dX4_tellStatement_96 rfl ?_
    refine V.tp (nI_add a 1) ?_
    refine v_callV C (Nat.le_of_ble_eq_true rfl) rfl rfl (As := [.int (nI (a + 1))]) (rest := [.ref 27]) (kX4_letterAt (a + 1) t σ hT h96 (by omega)) rfl (Nat.le_of_ble_eq_true rfl) (Nat.le_of_ble_eq_true rfl) ⟨mlX4_27, mfX4_letterAt⟩ dkX4_letterAt (Nat.le_of_ble_eq_true rfl) dX4_tellStatement_97 rfl (kI ?_)
    refine v_callS C (As := [.int (hx (σ 44) t (a + 1))]) (rest := [.ref 27]) (kX4_kindOfLetter (hx (σ 44) t (a + 1)) σ) rfl (Nat.le_of_ble_eq_true rfl) (Nat.le_of_ble_eq_true rfl) ⟨mlX4_61, mfX4_kindOfLetter⟩ dkX4_kindOfLetter (Nat.le_of_ble_eq_true rfl) dX4_tellStatement_100 rfl (kI ?_)
    refine v_aload_n C dX4_tellStatement_103 rfl rfl rfl ?_
    refine v_iload_n C dX4_tellStatement_104 rfl rfl rfl ?_
    refine v_iconst (v := 2) C dX4_tellStatement_105 (by decide) rfl ?_
    refine v_iadd C dX4_tellStatement_106 rfl ?_
    refine V.tp (nI_add a 2) ?_
    refine v_callV C (Nat.le_of_ble_eq_true rfl) rfl rfl (As := [.int (nI (a + 2))]) (rest := [.int (kinC (hx (σ 44) t (a + 1))), .ref 27]) (kX4_digitAt (a + 2) t σ hT h96 (by omega)) rfl (Nat.le_of_ble_eq_true rfl) (Nat.le_of_ble_eq_true rfl) ⟨mlX4_64, mfX4_digitAt⟩ dkX4_digitAt (Nat.le_of_ble_eq_true rfl) dX4_tellStatement_107 rfl (kI ?_)
    refine v_aload_n C dX4_tellStatement_110 rfl rfl rfl ?_
    refine v_iload_n C dX4_tellStatement_111 rfl rfl rfl ?_
    refine v_iconst (v := 3) C dX4_tellStatement_112 (by decide) rfl ?_
    refine v_iadd C dX4_tellStatement_113 rfl ?_
    refine V.tp (nI_add a 3) ?_
    refine v_callV C (Nat.le_of_ble_eq_true rfl) rfl rfl (As := [.int (nI (a + 3))]) (rest := [.int (hx (σ 44) t (a + 2) - 48), .int (kinC (hx (σ 44) t (a + 1))), .ref 27]) (kX4_digitAt (a + 3) t σ hT h96 (by omega)) rfl (Nat.le_of_ble_eq_true rfl) (Nat.le_of_ble_eq_true rfl) ⟨mlX4_64, mfX4_digitAt⟩ dkX4_digitAt (Nat.le_of_ble_eq_true rfl) dX4_tellStatement_114 rfl (kI ?_)
    refine v_aload_n C dX4_tellStatement_117 rfl rfl rfl ?_
    refine v_iload_n C dX4_tellStatement_118 rfl rfl rfl ?_
    refine v_iconst (v := 4) C dX4_tellStatement_119 (by decide) rfl ?_
    refine v_iadd C dX4_tellStatement_120 rfl ?_
    refine V.tp (nI_add a 4) ?_
    refine v_callV C (Nat.le_of_ble_eq_true rfl) rfl rfl (As := [.int (nI (a + 4))]) (rest := [.int (hx (σ 44) t (a + 3) - 48), .int (hx (σ 44) t (a + 2) - 48), .int (kinC (hx (σ 44) t (a + 1))), .ref 27]) (kX4_numberAt (a + 4) t σ hT h96 (by omega)) rfl (Nat.le_of_ble_eq_true rfl) (Nat.le_of_ble_eq_true rfl) ⟨mlX4_67, mfX4_numberAt⟩ dkX4_numberAt (Nat.le_of_ble_eq_true rfl) dX4_tellStatement_121 rfl (kI ?_)
    refine v_callVN C (Nat.le_of_ble_eq_true rfl) rfl rfl (As := [.int (kinC (hx (σ 44) t (a + 1))), .int (hx (σ 44) t (a + 2) - 48), .int (hx (σ 44) t (a + 3) - 48), .int (10 * (hx (σ 44) t (a + 4) - 48) + (hx (σ 44) t ((a + 4) + 1) - 48))]) (rest := []) (kX0_addPiece (kinC (hx (σ 44) t (a + 1))) (hx (σ 44) t (a + 2) - 48) (hx (σ 44) t (a + 3) - 48) (10 * (hx (σ 44) t (a + 4) - 48) + (hx (σ 44) t ((a + 4) + 1) - 48)) 27 n hh27 σ hn h7) rfl (Nat.le_of_ble_eq_true rfl) (Nat.le_of_ble_eq_true rfl) ⟨mlX4_70, mfX0_addPiece⟩ dkX0_addPiece (Nat.le_of_ble_eq_true rfl) dX4_tellStatement_124 rfl (kI ?_)
    exact v_iret C dX4_tellStatement_127 (by rw [hX]; exact fI_of (by rw [s5_105]; simp [tsA, tv0, tv1, tw]) (by rw [s5_105]; simp [tsS, tv0, tv1, tw]))
  by_cases s5_106 : hx (σ 44) t a = 106
  · refine V.tp s5_106 ?_
    refine v_tableIn (off := 216) (tgt := 221) C dX4_tellStatement_5 (by decide) (by decide) rfl (by decide) ?_
    refine v_bipush (v := -2) C dX4_tellStatement_221 (by decide) rfl ?_
    exact v_iret C dX4_tellStatement_223 (by rw [hX]; exact absurd hb (by simp [letP, s5_104, s5_105, s5_106]))
  by_cases s5_107 : hx (σ 44) t a = 107
  · refine V.tp s5_107 ?_
    refine v_tableIn (off := 216) (tgt := 221) C dX4_tellStatement_5 (by decide) (by decide) rfl (by decide) ?_
    refine v_bipush (v := -2) C dX4_tellStatement_221 (by decide) rfl ?_
    exact v_iret C dX4_tellStatement_223 (by rw [hX]; exact absurd hb (by simp [letP, s5_104, s5_105, s5_106, s5_107]))
  by_cases s5_108 : hx (σ 44) t a = 108
  · refine V.tp s5_108 ?_
    refine v_tableIn (off := 216) (tgt := 221) C dX4_tellStatement_5 (by decide) (by decide) rfl (by decide) ?_
    refine v_bipush (v := -2) C dX4_tellStatement_221 (by decide) rfl ?_
    exact v_iret C dX4_tellStatement_223 (by rw [hX]; exact absurd hb (by simp [letP, s5_104, s5_105, s5_106, s5_107, s5_108]))
  by_cases s5_109 : hx (σ 44) t a = 109
  · refine V.tp s5_109 ?_
    refine v_tableIn (off := 123) (tgt := 128) C dX4_tellStatement_5 (by decide) (by decide) rfl (by decide) ?_
    refine v_aload_n C dX4_tellStatement_128 rfl rfl rfl ?_
    refine v_aload_n C dX4_tellStatement_129 rfl rfl rfl ?_
    refine v_iload_n C dX4_tellStatement_130 rfl rfl rfl ?_
    refine v_iconst (v := 1) C dX4_tellStatement_131 (by decide) rfl ?_
    refine v_iadd C dX4_tellStatement_132 rfl ?_
    refine V.tp (nI_add a 1) ?_
    refine v_callV C (Nat.le_of_ble_eq_true rfl) rfl rfl (As := [.int (nI (a + 1))]) (rest := [.ref 27]) (kX4_digitAt (a + 1) t σ hT h96 (by omega)) rfl (Nat.le_of_ble_eq_true rfl) (Nat.le_of_ble_eq_true rfl) ⟨mlX4_64, mfX4_digitAt⟩ dkX4_digitAt (Nat.le_of_ble_eq_true rfl) dX4_tellStatement_133 rfl (kI ?_)
    refine v_aload_n C dX4_tellStatement_136 rfl rfl rfl ?_
    refine v_iload_n C dX4_tellStatement_137 rfl rfl rfl ?_
    refine v_iconst (v := 2) C dX4_tellStatement_138 (by decide) rfl ?_
    refine v_iadd C dX4_tellStatement_139 rfl ?_
    refine V.tp (nI_add a 2) ?_
    refine v_callV C (Nat.le_of_ble_eq_true rfl) rfl rfl (As := [.int (nI (a + 2))]) (rest := [.int (hx (σ 44) t (a + 1) - 48), .ref 27]) (kX4_digitAt (a + 2) t σ hT h96 (by omega)) rfl (Nat.le_of_ble_eq_true rfl) (Nat.le_of_ble_eq_true rfl) ⟨mlX4_64, mfX4_digitAt⟩ dkX4_digitAt (Nat.le_of_ble_eq_true rfl) dX4_tellStatement_140 rfl (kI ?_)
    refine v_callVN C (Nat.le_of_ble_eq_true rfl) rfl rfl (As := [.int (hx (σ 44) t (a + 1) - 48), .int (hx (σ 44) t (a + 2) - 48)]) (rest := []) (kX0_carryTo (hx (σ 44) t (a + 1) - 48) (hx (σ 44) t (a + 2) - 48) 27 n hh27 σ hn h7) rfl (Nat.le_of_ble_eq_true rfl) (Nat.le_of_ble_eq_true rfl) ⟨mlX4_76, mfX0_carryTo⟩ dkX0_carryTo (Nat.le_of_ble_eq_true rfl) dX4_tellStatement_143 rfl (kI ?_)
    exact v_iret C dX4_tellStatement_146 (by rw [hX]; exact fI_of (by rw [s5_109]; simp [tsA, tv0, tv1, tw]) (by rw [s5_109]; simp [tsS, tv0, tv1, tw]))
  by_cases s5_110 : hx (σ 44) t a = 110
  · refine V.tp s5_110 ?_
    refine v_tableIn (off := 216) (tgt := 221) C dX4_tellStatement_5 (by decide) (by decide) rfl (by decide) ?_
    refine v_bipush (v := -2) C dX4_tellStatement_221 (by decide) rfl ?_
    exact v_iret C dX4_tellStatement_223 (by rw [hX]; exact absurd hb (by simp [letP, s5_104, s5_105, s5_106, s5_107, s5_108, s5_109, s5_110]))
  by_cases s5_111 : hx (σ 44) t a = 111
  · refine V.tp s5_111 ?_
    refine v_tableIn (off := 216) (tgt := 221) C dX4_tellStatement_5 (by decide) (by decide) rfl (by decide) ?_
    refine v_bipush (v := -2) C dX4_tellStatement_221 (by decide) rfl ?_
    exact v_iret C dX4_tellStatement_223 (by rw [hX]; exact absurd hb (by simp [letP, s5_104, s5_105, s5_106, s5_107, s5_108, s5_109, s5_110, s5_111]))
  by_cases s5_112 : hx (σ 44) t a = 112
  · refine V.tp s5_112 ?_
    refine v_tableIn (off := 204) (tgt := 209) C dX4_tellStatement_5 (by decide) (by decide) rfl (by decide) ?_
    refine v_aload_n C dX4_tellStatement_209 rfl rfl rfl ?_
    refine v_aload_n C dX4_tellStatement_210 rfl rfl rfl ?_
    refine v_iload_n C dX4_tellStatement_211 rfl rfl rfl ?_
    refine v_iconst (v := 1) C dX4_tellStatement_212 (by decide) rfl ?_
    refine v_iadd C dX4_tellStatement_213 rfl ?_
    refine V.tp (nI_add a 1) ?_
    refine v_callV C (Nat.le_of_ble_eq_true rfl) rfl rfl (As := [.int (nI (a + 1))]) (rest := [.ref 27]) (kX4_digitAt (a + 1) t σ hT h96 (by omega)) rfl (Nat.le_of_ble_eq_true rfl) (Nat.le_of_ble_eq_true rfl) ⟨mlX4_64, mfX4_digitAt⟩ dkX4_digitAt (Nat.le_of_ble_eq_true rfl) dX4_tellStatement_214 rfl (kI ?_)
    refine v_callVN C (Nat.le_of_ble_eq_true rfl) rfl rfl (As := [.int (hx (σ 44) t (a + 1) - 48)]) (rest := []) (kX0_polishPiece (hx (σ 44) t (a + 1) - 48) 27 n hh27 σ hn h7) rfl (Nat.le_of_ble_eq_true rfl) (Nat.le_of_ble_eq_true rfl) ⟨mlX4_92, mfX0_polishPiece⟩ dkX0_polishPiece (Nat.le_of_ble_eq_true rfl) dX4_tellStatement_217 rfl (kI ?_)
    exact v_iret C dX4_tellStatement_220 (by rw [hX]; exact fI_of (by rw [s5_112]; simp [tsA, tv0, tv1, tw]) (by rw [s5_112]; simp [tsS, tv0, tv1, tw]))
  by_cases s5_113 : hx (σ 44) t a = 113
  · refine V.tp s5_113 ?_
    refine v_tableIn (off := 216) (tgt := 221) C dX4_tellStatement_5 (by decide) (by decide) rfl (by decide) ?_
    refine v_bipush (v := -2) C dX4_tellStatement_221 (by decide) rfl ?_
    exact v_iret C dX4_tellStatement_223 (by rw [hX]; exact absurd hb (by simp [letP, s5_104, s5_105, s5_106, s5_107, s5_108, s5_109, s5_110, s5_111, s5_112, s5_113]))
  by_cases s5_114 : hx (σ 44) t a = 114
  · refine V.tp s5_114 ?_
    refine v_tableIn (off := 142) (tgt := 147) C dX4_tellStatement_5 (by decide) (by decide) rfl (by decide) ?_
    refine v_aload_n C dX4_tellStatement_147 rfl rfl rfl ?_
    refine v_aload_n C dX4_tellStatement_148 rfl rfl rfl ?_
    refine v_iload_n C dX4_tellStatement_149 rfl rfl rfl ?_
    refine v_iconst (v := 1) C dX4_tellStatement_150 (by decide) rfl ?_
    refine v_iadd C dX4_tellStatement_151 rfl ?_
    refine V.tp (nI_add a 1) ?_
    refine v_callV C (Nat.le_of_ble_eq_true rfl) rfl rfl (As := [.int (nI (a + 1))]) (rest := [.ref 27]) (kX4_digitAt (a + 1) t σ hT h96 (by omega)) rfl (Nat.le_of_ble_eq_true rfl) (Nat.le_of_ble_eq_true rfl) ⟨mlX4_64, mfX4_digitAt⟩ dkX4_digitAt (Nat.le_of_ble_eq_true rfl) dX4_tellStatement_152 rfl (kI ?_)
    refine v_aload_n C dX4_tellStatement_155 rfl rfl rfl ?_
    refine v_iload_n C dX4_tellStatement_156 rfl rfl rfl ?_
    refine v_iconst (v := 2) C dX4_tellStatement_157 (by decide) rfl ?_
    refine v_iadd C dX4_tellStatement_158 rfl ?_
    refine V.tp (nI_add a 2) ?_
    refine v_callV C (Nat.le_of_ble_eq_true rfl) rfl rfl (As := [.int (nI (a + 2))]) (rest := [.int (hx (σ 44) t (a + 1) - 48), .ref 27]) (kX4_numberAt (a + 2) t σ hT h96 (by omega)) rfl (Nat.le_of_ble_eq_true rfl) (Nat.le_of_ble_eq_true rfl) ⟨mlX4_67, mfX4_numberAt⟩ dkX4_numberAt (Nat.le_of_ble_eq_true rfl) dX4_tellStatement_159 rfl (kI ?_)
    refine v_callVN C (Nat.le_of_ble_eq_true rfl) rfl rfl (As := [.int (hx (σ 44) t (a + 1) - 48), .int (10 * (hx (σ 44) t (a + 2) - 48) + (hx (σ 44) t ((a + 2) + 1) - 48))]) (rest := []) (kX0_resize (hx (σ 44) t (a + 1) - 48) (10 * (hx (σ 44) t (a + 2) - 48) + (hx (σ 44) t ((a + 2) + 1) - 48)) 27 n hh27 σ hn h7) rfl (Nat.le_of_ble_eq_true rfl) (Nat.le_of_ble_eq_true rfl) ⟨mlX4_80, mfX0_resize⟩ dkX0_resize (Nat.le_of_ble_eq_true rfl) dX4_tellStatement_162 rfl (kI ?_)
    exact v_iret C dX4_tellStatement_165 (by rw [hX]; exact fI_of (by rw [s5_114]; simp [tsA, tv0, tv1, tw]) (by rw [s5_114]; simp [tsS, tv0, tv1, tw]))
  by_cases s5_115 : hx (σ 44) t a = 115
  · refine V.tp s5_115 ?_
    refine v_tableIn (off := 161) (tgt := 166) C dX4_tellStatement_5 (by decide) (by decide) rfl (by decide) ?_
    refine v_aload_n C dX4_tellStatement_166 rfl rfl rfl ?_
    refine v_aload_n C dX4_tellStatement_167 rfl rfl rfl ?_
    refine v_iload_n C dX4_tellStatement_168 rfl rfl rfl ?_
    refine v_iconst (v := 1) C dX4_tellStatement_169 (by decide) rfl ?_
    refine v_iadd C dX4_tellStatement_170 rfl ?_
    refine V.tp (nI_add a 1) ?_
    refine v_callV C (Nat.le_of_ble_eq_true rfl) rfl rfl (As := [.int (nI (a + 1))]) (rest := [.ref 27]) (kX4_digitAt (a + 1) t σ hT h96 (by omega)) rfl (Nat.le_of_ble_eq_true rfl) (Nat.le_of_ble_eq_true rfl) ⟨mlX4_64, mfX4_digitAt⟩ dkX4_digitAt (Nat.le_of_ble_eq_true rfl) dX4_tellStatement_171 rfl (kI ?_)
    refine v_aload_n C dX4_tellStatement_174 rfl rfl rfl ?_
    refine v_iload_n C dX4_tellStatement_175 rfl rfl rfl ?_
    refine v_iconst (v := 2) C dX4_tellStatement_176 (by decide) rfl ?_
    refine v_iadd C dX4_tellStatement_177 rfl ?_
    refine V.tp (nI_add a 2) ?_
    refine v_callV C (Nat.le_of_ble_eq_true rfl) rfl rfl (As := [.int (nI (a + 2))]) (rest := [.int (hx (σ 44) t (a + 1) - 48), .ref 27]) (kX4_digitAt (a + 2) t σ hT h96 (by omega)) rfl (Nat.le_of_ble_eq_true rfl) (Nat.le_of_ble_eq_true rfl) ⟨mlX4_64, mfX4_digitAt⟩ dkX4_digitAt (Nat.le_of_ble_eq_true rfl) dX4_tellStatement_178 rfl (kI ?_)
    refine v_callVN C (Nat.le_of_ble_eq_true rfl) rfl rfl (As := [.int (hx (σ 44) t (a + 1) - 48), .int (hx (σ 44) t (a + 2) - 48)]) (rest := []) (kX0_widen (hx (σ 44) t (a + 1) - 48) (hx (σ 44) t (a + 2) - 48) 27 hh27 σ) rfl (Nat.le_of_ble_eq_true rfl) (Nat.le_of_ble_eq_true rfl) ⟨mlX4_83, mfX0_widen⟩ dkX0_widen (Nat.le_of_ble_eq_true rfl) dX4_tellStatement_181 rfl (kI ?_)
    exact v_iret C dX4_tellStatement_184 (by rw [hX]; exact fI_of (by rw [s5_115]; simp [tsA, tv0, tv1, tw]) (by rw [s5_115]; simp [tsS, tv0, tv1, tw]))
  by_cases s5_116 : hx (σ 44) t a = 116
  · refine V.tp s5_116 ?_
    refine v_tableIn (off := 216) (tgt := 221) C dX4_tellStatement_5 (by decide) (by decide) rfl (by decide) ?_
    refine v_bipush (v := -2) C dX4_tellStatement_221 (by decide) rfl ?_
    exact v_iret C dX4_tellStatement_223 (by rw [hX]; exact absurd hb (by simp [letP, s5_104, s5_105, s5_106, s5_107, s5_108, s5_109, s5_110, s5_111, s5_112, s5_113, s5_114, s5_115, s5_116]))
  by_cases s5_117 : hx (σ 44) t a = 117
  · refine V.tp s5_117 ?_
    refine v_tableIn (off := 216) (tgt := 221) C dX4_tellStatement_5 (by decide) (by decide) rfl (by decide) ?_
    refine v_bipush (v := -2) C dX4_tellStatement_221 (by decide) rfl ?_
    exact v_iret C dX4_tellStatement_223 (by rw [hX]; exact absurd hb (by simp [letP, s5_104, s5_105, s5_106, s5_107, s5_108, s5_109, s5_110, s5_111, s5_112, s5_113, s5_114, s5_115, s5_116, s5_117]))
  by_cases s5_118 : hx (σ 44) t a = 118
  · refine V.tp s5_118 ?_
    refine v_tableIn (off := 216) (tgt := 221) C dX4_tellStatement_5 (by decide) (by decide) rfl (by decide) ?_
    refine v_bipush (v := -2) C dX4_tellStatement_221 (by decide) rfl ?_
    exact v_iret C dX4_tellStatement_223 (by rw [hX]; exact absurd hb (by simp [letP, s5_104, s5_105, s5_106, s5_107, s5_108, s5_109, s5_110, s5_111, s5_112, s5_113, s5_114, s5_115, s5_116, s5_117, s5_118]))
  by_cases s5_119 : hx (σ 44) t a = 119
  · refine V.tp s5_119 ?_
    refine v_tableIn (off := 216) (tgt := 221) C dX4_tellStatement_5 (by decide) (by decide) rfl (by decide) ?_
    refine v_bipush (v := -2) C dX4_tellStatement_221 (by decide) rfl ?_
    exact v_iret C dX4_tellStatement_223 (by rw [hX]; exact absurd hb (by simp [letP, s5_104, s5_105, s5_106, s5_107, s5_108, s5_109, s5_110, s5_111, s5_112, s5_113, s5_114, s5_115, s5_116, s5_117, s5_118, s5_119]))
  by_cases s5_120 : hx (σ 44) t a = 120
  · refine V.tp s5_120 ?_
    refine v_tableIn (off := 216) (tgt := 221) C dX4_tellStatement_5 (by decide) (by decide) rfl (by decide) ?_
    refine v_bipush (v := -2) C dX4_tellStatement_221 (by decide) rfl ?_
    exact v_iret C dX4_tellStatement_223 (by rw [hX]; exact absurd hb (by simp [letP, s5_104, s5_105, s5_106, s5_107, s5_108, s5_109, s5_110, s5_111, s5_112, s5_113, s5_114, s5_115, s5_116, s5_117, s5_118, s5_119, s5_120]))
  by_cases s5_121 : hx (σ 44) t a = 121
  · refine V.tp s5_121 ?_
    refine v_tableIn (off := 192) (tgt := 197) C dX4_tellStatement_5 (by decide) (by decide) rfl (by decide) ?_
    refine v_aload_n C dX4_tellStatement_197 rfl rfl rfl ?_
    refine v_aload_n C dX4_tellStatement_198 rfl rfl rfl ?_
    refine v_iload_n C dX4_tellStatement_199 rfl rfl rfl ?_
    refine v_iconst (v := 1) C dX4_tellStatement_200 (by decide) rfl ?_
    refine v_iadd C dX4_tellStatement_201 rfl ?_
    refine V.tp (nI_add a 1) ?_
    refine v_callV C (Nat.le_of_ble_eq_true rfl) rfl rfl (As := [.int (nI (a + 1))]) (rest := [.ref 27]) (kX4_numberAt (a + 1) t σ hT h96 (by omega)) rfl (Nat.le_of_ble_eq_true rfl) (Nat.le_of_ble_eq_true rfl) ⟨mlX4_67, mfX4_numberAt⟩ dkX4_numberAt (Nat.le_of_ble_eq_true rfl) dX4_tellStatement_202 rfl (kI ?_)
    refine v_callVN C (Nat.le_of_ble_eq_true rfl) rfl rfl (As := [.int (10 * (hx (σ 44) t (a + 1) - 48) + (hx (σ 44) t ((a + 1) + 1) - 48))]) (rest := []) (kX0_letYearsGoBy (10 * (hx (σ 44) t (a + 1) - 48) + (hx (σ 44) t ((a + 1) + 1) - 48)) y 27 n hh27 σ hn h7 hy hy9) rfl (Nat.le_of_ble_eq_true rfl) (Nat.le_of_ble_eq_true rfl) ⟨mlX4_89, mfX0_letYearsGoBy⟩ dkX0_letYearsGoBy (Nat.le_of_ble_eq_true rfl) dX4_tellStatement_205 rfl (kI ?_)
    exact v_iret C dX4_tellStatement_208 (by rw [hX]; exact fI_of (by rw [s5_121]; simp [tsA, tv0, tv1, tw]) (by rw [s5_121]; simp [tsS, tv0, tv1, tw]))
  refine v_tableOut (tgt := 221) C dX4_tellStatement_5 (by have e0 := lv_neT s5_104 (a := 104) (by decide); have e1 := lv_neT s5_105 (a := 105) (by decide); have e2 := lv_neT s5_106 (a := 106) (by decide); have e3 := lv_neT s5_107 (a := 107) (by decide); have e4 := lv_neT s5_108 (a := 108) (by decide); have e5 := lv_neT s5_109 (a := 109) (by decide); have e6 := lv_neT s5_110 (a := 110) (by decide); have e7 := lv_neT s5_111 (a := 111) (by decide); have e8 := lv_neT s5_112 (a := 112) (by decide); have e9 := lv_neT s5_113 (a := 113) (by decide); have e10 := lv_neT s5_114 (a := 114) (by decide); have e11 := lv_neT s5_115 (a := 115) (by decide); have e12 := lv_neT s5_116 (a := 116) (by decide); have e13 := lv_neT s5_117 (a := 117) (by decide); have e14 := lv_neT s5_118 (a := 118) (by decide); have e15 := lv_neT s5_119 (a := 119) (by decide); have e16 := lv_neT s5_120 (a := 120) (by decide); have e17 := lv_neT s5_121 (a := 121) (by decide); omega) (by decide) ?_
  refine v_bipush (v := -2) C dX4_tellStatement_221 (by decide) rfl ?_
  exact v_iret C dX4_tellStatement_223 (by rw [hX]; exact absurd hb (by simp [letP, s5_104, s5_105, s5_106, s5_107, s5_108, s5_109, s5_110, s5_111, s5_112, s5_113, s5_114, s5_115, s5_116, s5_117, s5_118, s5_119, s5_120, s5_121]))

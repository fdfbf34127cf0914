/-! the law: its links; what its loop needs -/
theorem ll_13 : Cond.methodLink RL 13 yX5_letter ∈ BIG := big_of (List.mem_of_getElem? (i := 295) (by decide +kernel)) (by decide +kernel)
theorem ll_17 : Cond.methodLink RL 17 yX6_letter ∈ BIG := big_of (List.mem_of_getElem? (i := 930) (by decide +kernel)) (by decide +kernel)
theorem ll_18 : Cond.methodLink RL 18 yX5_house ∈ BIG := big_of (List.mem_of_getElem? (i := 307) (by decide +kernel)) (by decide +kernel)
theorem ll_22 : Cond.methodLink RL 22 yX6_house ∈ BIG := big_of (List.mem_of_getElem? (i := 941) (by decide +kernel)) (by decide +kernel)
theorem ll_23 : Cond.methodLink RL 23 yX5_piece ∈ BIG := big_of (List.mem_of_getElem? (i := 493) (by decide +kernel)) (by decide +kernel)
theorem ll_27 : Cond.methodLink RL 27 yX6_piece ∈ BIG := big_of (List.mem_of_getElem? (i := 1028) (by decide +kernel)) (by decide +kernel)
theorem ll_28 : Cond.methodLink RL 28 yX5_carry ∈ BIG := big_of (List.mem_of_getElem? (i := 517) (by decide +kernel)) (by decide +kernel)
theorem ll_31 : Cond.methodLink RL 31 yX6_carry ∈ BIG := big_of (List.mem_of_getElem? (i := 1044) (by decide +kernel)) (by decide +kernel)
theorem ll_32 : Cond.methodLink RL 32 yX5_stands ∈ BIG := big_of (List.mem_of_getElem? (i := 522) (by decide +kernel)) (by decide +kernel)
theorem ll_35 : Cond.methodLink RL 35 yX6_stands ∈ BIG := big_of (List.mem_of_getElem? (i := 1048) (by decide +kernel)) (by decide +kernel)
theorem ll_36 : Cond.methodLink RL 36 yX5_polish ∈ BIG := big_of (List.mem_of_getElem? (i := 529) (by decide +kernel)) (by decide +kernel)
theorem ll_39 : Cond.methodLink RL 39 yX6_polish ∈ BIG := big_of (List.mem_of_getElem? (i := 1052) (by decide +kernel)) (by decide +kernel)
theorem ll_40 : Cond.methodLink RL 40 yX5_size ∈ BIG := big_of (List.mem_of_getElem? (i := 534) (by decide +kernel)) (by decide +kernel)
theorem ll_43 : Cond.methodLink RL 43 yX6_size ∈ BIG := big_of (List.mem_of_getElem? (i := 1056) (by decide +kernel)) (by decide +kernel)
theorem ll_44 : Cond.methodLink RL 44 yX5_wide ∈ BIG := big_of (List.mem_of_getElem? (i := 539) (by decide +kernel)) (by decide +kernel)
theorem ll_47 : Cond.methodLink RL 47 yX6_wide ∈ BIG := big_of (List.mem_of_getElem? (i := 1060) (by decide +kernel)) (by decide +kernel)
theorem ll_48 : Cond.methodLink RL 48 yX5_heirs ∈ BIG := big_of (List.mem_of_getElem? (i := 544) (by decide +kernel)) (by decide +kernel)
theorem ll_51 : Cond.methodLink RL 51 yX6_heirs ∈ BIG := big_of (List.mem_of_getElem? (i := 1067) (by decide +kernel)) (by decide +kernel)
theorem ll_52 : Cond.methodLink RL 52 yX5_years ∈ BIG := big_of (List.mem_of_getElem? (i := 549) (by decide +kernel)) (by decide +kernel)
theorem ll_55 : Cond.methodLink RL 55 yX6_years ∈ BIG := big_of (List.mem_of_getElem? (i := 1071) (by decide +kernel)) (by decide +kernel)
theorem ll_56 : Cond.methodLink RL 56 yX5_blame ∈ BIG := big_of (List.mem_of_getElem? (i := 554) (by decide +kernel)) (by decide +kernel)
theorem ll_59 : Cond.methodLink RL 59 yX6_blame ∈ BIG := big_of (List.mem_of_getElem? (i := 1075) (by decide +kernel)) (by decide +kernel)
theorem ll_60 : Cond.methodLink RL 60 yX5_worst ∈ BIG := big_of (List.mem_of_getElem? (i := 566) (by decide +kernel)) (by decide +kernel)
theorem ll_63 : Cond.methodLink RL 63 yX6_worst ∈ BIG := big_of (List.mem_of_getElem? (i := 1083) (by decide +kernel)) (by decide +kernel)
theorem ll_64 : Cond.methodLink RL 64 yX5_crowded ∈ BIG := big_of (List.mem_of_getElem? (i := 575) (by decide +kernel)) (by decide +kernel)
theorem ll_67 : Cond.methodLink RL 67 yX6_crowded ∈ BIG := big_of (List.mem_of_getElem? (i := 1087) (by decide +kernel)) (by decide +kernel)
theorem ll_68 : Cond.methodLink RL 68 yX5_placing ∈ BIG := big_of (List.mem_of_getElem? (i := 580) (by decide +kernel)) (by decide +kernel)
theorem ll_72 : Cond.methodLink RL 72 yX6_placing ∈ BIG := big_of (List.mem_of_getElem? (i := 1091) (by decide +kernel)) (by decide +kernel)
theorem ll_73 : Cond.methodLink RL 73 yX5_innocent ∈ BIG := big_of (List.mem_of_getElem? (i := 620) (by decide +kernel)) (by decide +kernel)
theorem ll_76 : Cond.methodLink RL 76 yX6_innocent ∈ BIG := big_of (List.mem_of_getElem? (i := 1117) (by decide +kernel)) (by decide +kernel)
theorem ll_77 : Cond.methodLink RL 77 yX5_shares ∈ BIG := big_of (List.mem_of_getElem? (i := 624) (by decide +kernel)) (by decide +kernel)
theorem ll_80 : Cond.methodLink RL 80 yX6_shares ∈ BIG := big_of (List.mem_of_getElem? (i := 1121) (by decide +kernel)) (by decide +kernel)
theorem ll_81 : Cond.methodLink RL 81 yX5_dealt ∈ BIG := big_of (List.mem_of_getElem? (i := 684) (by decide +kernel)) (by decide +kernel)
theorem ll_84 : Cond.methodLink RL 84 yX6_dealt ∈ BIG := big_of (List.mem_of_getElem? (i := 1145) (by decide +kernel)) (by decide +kernel)
theorem ll_85 : Cond.methodLink RL 85 yX5_envy ∈ BIG := big_of (List.mem_of_getElem? (i := 692) (by decide +kernel)) (by decide +kernel)
theorem ll_88 : Cond.methodLink RL 88 yX6_envy ∈ BIG := big_of (List.mem_of_getElem? (i := 1157) (by decide +kernel)) (by decide +kernel)
theorem ll_89 : Cond.methodLink RL 89 yX5_choice ∈ BIG := big_of (List.mem_of_getElem? (i := 700) (by decide +kernel)) (by decide +kernel)
theorem ll_92 : Cond.methodLink RL 92 yX6_choice ∈ BIG := big_of (List.mem_of_getElem? (i := 1161) (by decide +kernel)) (by decide +kernel)
theorem ll_93 : Cond.methodLink RL 93 yX5_sell ∈ BIG := big_of (List.mem_of_getElem? (i := 716) (by decide +kernel)) (by decide +kernel)
theorem ll_96 : Cond.methodLink RL 96 yX6_sell ∈ BIG := big_of (List.mem_of_getElem? (i := 1169) (by decide +kernel)) (by decide +kernel)
theorem ll_97 : Cond.methodLink RL 97 yX5_burn ∈ BIG := big_of (List.mem_of_getElem? (i := 728) (by decide +kernel)) (by decide +kernel)
theorem ll_100 : Cond.methodLink RL 100 yX6_burn ∈ BIG := big_of (List.mem_of_getElem? (i := 1181) (by decide +kernel)) (by decide +kernel)
theorem ll_101 : Cond.methodLink RL 101 yX5_heavier ∈ BIG := big_of (List.mem_of_getElem? (i := 736) (by decide +kernel)) (by decide +kernel)
theorem ll_104 : Cond.methodLink RL 104 yX6_heavier ∈ BIG := big_of (List.mem_of_getElem? (i := 1185) (by decide +kernel)) (by decide +kernel)
theorem ll_105 : Cond.methodLink RL 105 yX5_later ∈ BIG := big_of (List.mem_of_getElem? (i := 744) (by decide +kernel)) (by decide +kernel)
theorem ll_108 : Cond.methodLink RL 108 yX6_later ∈ BIG := big_of (List.mem_of_getElem? (i := 1193) (by decide +kernel)) (by decide +kernel)
theorem ll_109 : Cond.methodLink RL 109 yX5_gone ∈ BIG := big_of (List.mem_of_getElem? (i := 750) (by decide +kernel)) (by decide +kernel)
theorem ll_112 : Cond.methodLink RL 112 yX6_gone ∈ BIG := big_of (List.mem_of_getElem? (i := 1201) (by decide +kernel)) (by decide +kernel)
theorem ll_113 : Cond.methodLink RL 113 yX5_whose ∈ BIG := big_of (List.mem_of_getElem? (i := 754) (by decide +kernel)) (by decide +kernel)
theorem ll_116 : Cond.methodLink RL 116 yX6_whose ∈ BIG := big_of (List.mem_of_getElem? (i := 1205) (by decide +kernel)) (by decide +kernel)
theorem ll_117 : Cond.methodLink RL 117 yX5_ask ∈ BIG := big_of (List.mem_of_getElem? (i := 762) (by decide +kernel)) (by decide +kernel)
theorem ll_120 : Cond.methodLink RL 120 yX6_ask ∈ BIG := big_of (List.mem_of_getElem? (i := 1213) (by decide +kernel)) (by decide +kernel)
theorem ll_121 : Cond.methodLink RL 121 yX5_wider ∈ BIG := big_of (List.mem_of_getElem? (i := 771) (by decide +kernel)) (by decide +kernel)
theorem ll_124 : Cond.methodLink RL 124 yX6_wider ∈ BIG := big_of (List.mem_of_getElem? (i := 1221) (by decide +kernel)) (by decide +kernel)
theorem ll_125 : Cond.methodLink RL 125 yX5_bigger ∈ BIG := big_of (List.mem_of_getElem? (i := 776) (by decide +kernel)) (by decide +kernel)
theorem ll_128 : Cond.methodLink RL 128 yX6_bigger ∈ BIG := big_of (List.mem_of_getElem? (i := 1225) (by decide +kernel)) (by decide +kernel)
theorem ll_129 : Cond.methodLink RL 129 yX5_guest ∈ BIG := big_of (List.mem_of_getElem? (i := 780) (by decide +kernel)) (by decide +kernel)
theorem ll_132 : Cond.methodLink RL 132 yX6_guest ∈ BIG := big_of (List.mem_of_getElem? (i := 1229) (by decide +kernel)) (by decide +kernel)
theorem ll_133 : Cond.methodLink RL 133 yX5_row ∈ BIG := big_of (List.mem_of_getElem? (i := 785) (by decide +kernel)) (by decide +kernel)
theorem ll_136 : Cond.methodLink RL 136 yX6_row ∈ BIG := big_of (List.mem_of_getElem? (i := 1233) (by decide +kernel)) (by decide +kernel)
theorem ll_137 : Cond.methodLink RL 137 yX5_fits ∈ BIG := big_of (List.mem_of_getElem? (i := 793) (by decide +kernel)) (by decide +kernel)
theorem ll_140 : Cond.methodLink RL 140 yX6_fits ∈ BIG := big_of (List.mem_of_getElem? (i := 1237) (by decide +kernel)) (by decide +kernel)
theorem ll_141 : Cond.methodLink RL 141 yX5_judge ∈ BIG := big_of (List.mem_of_getElem? (i := 804) (by decide +kernel)) (by decide +kernel)
theorem ll_144 : Cond.methodLink RL 144 yX6_judge ∈ BIG := big_of (List.mem_of_getElem? (i := 1245) (by decide +kernel)) (by decide +kernel)
theorem ll_145 : Cond.methodLink RL 145 yX5_lots ∈ BIG := big_of (List.mem_of_getElem? (i := 812) (by decide +kernel)) (by decide +kernel)
theorem ll_148 : Cond.methodLink RL 148 yX6_lots ∈ BIG := big_of (List.mem_of_getElem? (i := 1249) (by decide +kernel)) (by decide +kernel)
theorem ll_149 : Cond.methodLink RL 149 yX5_image ∈ BIG := big_of (List.mem_of_getElem? (i := 825) (by decide +kernel)) (by decide +kernel)
theorem ll_152 : Cond.methodLink RL 152 yX6_image ∈ BIG := big_of (List.mem_of_getElem? (i := 1020) (by decide +kernel)) (by decide +kernel)
theorem ll_153 : Cond.methodLink RL 153 yX5_on ∈ BIG := big_of (List.mem_of_getElem? (i := 829) (by decide +kernel)) (by decide +kernel)
theorem ll_156 : Cond.methodLink RL 156 yX6_on ∈ BIG := big_of (List.mem_of_getElem? (i := 1024) (by decide +kernel)) (by decide +kernel)
theorem ll_157 : Cond.methodLink RL 157 yX5_count ∈ BIG := big_of (List.mem_of_getElem? (i := 833) (by decide +kernel)) (by decide +kernel)
theorem ll_160 : Cond.methodLink RL 160 yX6_count ∈ BIG := big_of (List.mem_of_getElem? (i := 1256) (by decide +kernel)) (by decide +kernel)
theorem km_3 {σ τ : St} {a b : Nat} {P Q Q2 P' Q' : Prop} (h : (P ∧ τ = noS σ a) ∨ (Q ∧ P' ∧ τ = noS σ b) ∨ (Q2 ∧ Q' ∧ Sm σ τ)) : Km σ τ := by
  rcases h with ⟨_, e⟩ | ⟨_, _, e⟩ | ⟨_, _, e⟩
  · rw [e]; exact Km.no σ a
  · rw [e]; exact Km.no σ b
  · exact Km.sm e
abbrev LVS (i : Nat) : List (Nat × Value) := [(3, .int (nI i)), (2, .ref 0), (1, .ref 18), (0, .ref 400)]
theorem rel_0 : RelB σ0 := by
  refine ⟨0, 2, 0, 0, 0, ⟨⟨rfl, by decide, rfl, by decide, by decide, rfl, by decide, rfl, by decide, rfl, by decide⟩, rfl, rfl, rfl, rfl, rfl, ⟨fun p hp => absurd hp (Nat.not_lt_zero _), by decide, by decide⟩⟩, ⟨fun _ _ => rfl, fun _ _ => rfl, fun _ _ => rfl, fun _ _ => rfl, fun _ _ => rfl, ?_, ⟨by decide, by decide⟩, fun _ _ => rfl, fun _ _ => rfl⟩, ⟨fun p hp => absurd hp (Nat.not_lt_zero _), ?_⟩, ⟨rfl, Or.inl rfl⟩⟩
  · intro j hj
    rcases (by omega : j = 0 ∨ j = 1 ∨ j = 2 ∨ j = 3 ∨ j = 4 ∨ j = 5) with rfl | rfl | rfl | rfl | rfl | rfl <;> decide
  · intro r hr
    rcases (by omega : r = 0 ∨ r = 1 ∨ r = 2 ∨ r = 3 ∨ r = 4 ∨ r = 5) with rfl | rfl | rfl | rfl | rfl | rfl <;> decide
theorem l_arg {X : LxT} (C : Lx X) {d : Nat} {di : Int} {i pc pc' : Nat} {st : List Value} {σ : St} (h0 : decode code pc = .ok (.aload_n 0, 1)) (h1 : decode code (pc + 1) = .ok (.iload_n 3, 1)) (h2 : decode code (pc + 1 + 1) = .ok (.iconst di, 1)) (h3 : decode code (pc + 1 + 1 + 1) = .ok (.iadd, 1)) (h4 : decode code (pc + 1 + 1 + 1 + 1) = .ok (.iaload, 1)) (hd : Int32.ofInt di = nI d) (hi : i + d < lenX X) (hL : lenX X ≤ 2048) (hn : pc + 5 = pc') (kk : LV X pc' (LVS i) (.int (scrX X (i + d)) :: st) σ) : LV X pc (LVS i) st σ := by
  subst hn
  refine l_aload_n C h0 rfl rfl rfl ?_
  refine l_iload_n C h1 rfl rfl rfl ?_
  refine l_iconst (v := nI d) C h2 hd rfl ?_
  refine l_iadd C h3 rfl ?_
  exact l_sld C (i := i + d) (nI_add i d) hi (by omega) h4 rfl kk

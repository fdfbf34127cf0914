def wX0 (cI : ClassId) (a : Nat) (u : Nat → Nat) : va_W := [(a, .inr (1, [.ref (u 1), .ref (u 2), .ref (u 3), .ref (u 4), .ref (u 5), .ref (u 6), .ref (u 7), .int 0, .int 2, .int 0])), ((u 1), .inl (cI, 7, .inl (fun _ => 0))), ((u 2), .inl (cI, 7, .inl (fun _ => 0))), ((u 3), .inl (cI, 7, .inl (fun _ => 0))), ((u 4), .inl (cI, 7, .inl (fun _ => 0))), ((u 5), .inl (cI, 7, .inl (fun _ => 0))), ((u 6), .inl (cI, 6, .inl (pre 6 (fun _ => 9) (fun _ => 0)))), ((u 7), .inl (cI, 3, .inl (pre 3 (fun _ => 6) (fun _ => 0))))]
set_option maxRecDepth 20000 in
theorem cgX0_init (cI : ClassId) (D : va_G) (a : Nat) : Cg yX0_init cX0_init 1 { frames := 1, cells := 7, slots := 44, locals := 60 } [.ref a] cI D [(a, .inr (1, [.null, .null, .null, .null, .null, .null, .null, .int 0, .int 0, .int 0]))] (wX0 cI a) := by
  refine cg_of plX0 (Nat.le_of_ble_eq_true rfl) (fun X hcI hret C hI => ?_)
  subst hcI
  show U X 0 [(0, .ref a)] [] [(a, .inr (1, [.null, .null, .null, .null, .null, .null, .null, .int 0, .int 0, .int 0]))] 0 0
  refine u_aload_n C dX0_init_0 rfl rfl rfl ?_
  refine u_obj C uoX0 uw_oi uw_oc (by decide) (by decide) dX0_init_1 rfl ?_
  refine u_aload_n C dX0_init_4 rfl rfl rfl ?_
  refine u_bipush (v := 7) C dX0_init_5 (by decide) rfl ?_
  refine u_newa (N := 7) C (by decide) uw_ac (by decide) (by decide) rfl dX0_init_7 rfl (fun q7 => ?_)
  refine U.wso (ws' := [(a, .inr (1, [.null, .null, .null, .null, .null, .null, .null, .int 0, .int 0, .int 0])), (q7, .inl (UcI X, 7, .inl (fun _ => 0)))]) rfl ?_
  refine u_putF (q0 := 0) (ws' := [(a, .inr (1, [.ref q7, .null, .null, .null, .null, .null, .null, .int 0, .int 0, .int 0])), (q7, .inl (UcI X, 7, .inl (fun _ => 0)))]) C (hI rfl) rfl rfl hinX0 tyX0_ok nmX0 0 (Nat.le_of_ble_eq_true rfl) lkX0_9 rfl rfl rfl rfl (Nat.le_of_ble_eq_true rfl) dX0_init_9 rfl rfl ?_
  refine u_aload_n C dX0_init_12 rfl rfl rfl ?_
  refine u_bipush (v := 7) C dX0_init_13 (by decide) rfl ?_
  refine u_newa (N := 7) C (by decide) uw_ac (by decide) (by decide) rfl dX0_init_15 rfl (fun q15 => ?_)
  refine U.wso (ws' := [(a, .inr (1, [.ref q7, .null, .null, .null, .null, .null, .null, .int 0, .int 0, .int 0])), (q7, .inl (UcI X, 7, .inl (fun _ => 0))), (q15, .inl (UcI X, 7, .inl (fun _ => 0)))]) rfl ?_
  refine u_putF (q0 := 0) (ws' := [(a, .inr (1, [.ref q7, .ref q15, .null, .null, .null, .null, .null, .int 0, .int 0, .int 0])), (q7, .inl (UcI X, 7, .inl (fun _ => 0))), (q15, .inl (UcI X, 7, .inl (fun _ => 0)))]) C (hI rfl) rfl rfl hinX0 tyX0_ok nmX0 1 (Nat.le_of_ble_eq_true rfl) lkX0_15 rfl rfl rfl rfl (Nat.le_of_ble_eq_true rfl) dX0_init_17 rfl rfl ?_
  refine u_aload_n C dX0_init_20 rfl rfl rfl ?_
  refine u_bipush (v := 7) C dX0_init_21 (by decide) rfl ?_
  refine u_newa (N := 7) C (by decide) uw_ac (by decide) (by decide) rfl dX0_init_23 rfl (fun q23 => ?_)
  refine U.wso (ws' := [(a, .inr (1, [.ref q7, .ref q15, .null, .null, .null, .null, .null, .int 0, .int 0, .int 0])), (q7, .inl (UcI X, 7, .inl (fun _ => 0))), (q15, .inl (UcI X, 7, .inl (fun _ => 0))), (q23, .inl (UcI X, 7, .inl (fun _ => 0)))]) rfl ?_
  refine u_putF (q0 := 0) (ws' := [(a, .inr (1, [.ref q7, .ref q15, .ref q23, .null, .null, .null, .null, .int 0, .int 0, .int 0])), (q7, .inl (UcI X, 7, .inl (fun _ => 0))), (q15, .inl (UcI X, 7, .inl (fun _ => 0))), (q23, .inl (UcI X, 7, .inl (fun _ => 0)))]) C (hI rfl) rfl rfl hinX0 tyX0_ok nmX0 2 (Nat.le_of_ble_eq_true rfl) lkX0_18 rfl rfl rfl rfl (Nat.le_of_ble_eq_true rfl) dX0_init_25 rfl rfl ?_
  refine u_aload_n C dX0_init_28 rfl rfl rfl ?_
  refine u_bipush (v := 7) C dX0_init_29 (by decide) rfl ?_
  refine u_newa (N := 7) C (by decide) uw_ac (by decide) (by decide) rfl dX0_init_31 rfl (fun q31 => ?_)
  refine U.wso (ws' := [(a, .inr (1, [.ref q7, .ref q15, .ref q23, .null, .null, .null, .null, .int 0, .int 0, .int 0])), (q7, .inl (UcI X, 7, .inl (fun _ => 0))), (q15, .inl (UcI X, 7, .inl (fun _ => 0))), (q23, .inl (UcI X, 7, .inl (fun _ => 0))), (q31, .inl (UcI X, 7, .inl (fun _ => 0)))]) rfl ?_
  refine u_putF (q0 := 0) (ws' := [(a, .inr (1, [.ref q7, .ref q15, .ref q23, .ref q31, .null, .null, .null, .int 0, .int 0, .int 0])), (q7, .inl (UcI X, 7, .inl (fun _ => 0))), (q15, .inl (UcI X, 7, .inl (fun _ => 0))), (q23, .inl (UcI X, 7, .inl (fun _ => 0))), (q31, .inl (UcI X, 7, .inl (fun _ => 0)))]) C (hI rfl) rfl rfl hinX0 tyX0_ok nmX0 3 (Nat.le_of_ble_eq_true rfl) lkX0_21 rfl rfl rfl rfl (Nat.le_of_ble_eq_true rfl) dX0_init_33 rfl rfl ?_
  refine u_aload_n C dX0_init_36 rfl rfl rfl ?_
  refine u_bipush (v := 7) C dX0_init_37 (by decide) rfl ?_
  refine u_newa (N := 7) C (by decide) uw_ac (by decide) (by decide) rfl dX0_init_39 rfl (fun q39 => ?_)
  refine U.wso (ws' := [(a, .inr (1, [.ref q7, .ref q15, .ref q23, .ref q31, .null, .null, .null, .int 0, .int 0, .int 0])), (q7, .inl (UcI X, 7, .inl (fun _ => 0))), (q15, .inl (UcI X, 7, .inl (fun _ => 0))), (q23, .inl (UcI X, 7, .inl (fun _ => 0))), (q31, .inl (UcI X, 7, .inl (fun _ => 0))), (q39, .inl (UcI X, 7, .inl (fun _ => 0)))]) rfl ?_
  refine u_putF (q0 := 0) (ws' := [(a, .inr (1, [.ref q7, .ref q15, .ref q23, .ref q31, .ref q39, .null, .null, .int 0, .int 0, .int 0])), (q7, .inl (UcI X, 7, .inl (fun _ => 0))), (q15, .inl (UcI X, 7, .inl (fun _ => 0))), (q23, .inl (UcI X, 7, .inl (fun _ => 0))), (q31, .inl (UcI X, 7, .inl (fun _ => 0))), (q39, .inl (UcI X, 7, .inl (fun _ => 0)))]) C (hI rfl) rfl rfl hinX0 tyX0_ok nmX0 4 (Nat.le_of_ble_eq_true rfl) lkX0_24 rfl rfl rfl rfl (Nat.le_of_ble_eq_true rfl) dX0_init_41 rfl rfl ?_
  refine u_aload_n C dX0_init_44 rfl rfl rfl ?_
  refine u_bipush (v := 6) C dX0_init_45 (by decide) rfl ?_
  refine u_newa (N := 6) C (by decide) uw_ac (by decide) (by decide) rfl dX0_init_47 rfl (fun q47 => ?_)
  refine U.wso (ws' := [(a, .inr (1, [.ref q7, .ref q15, .ref q23, .ref q31, .ref q39, .null, .null, .int 0, .int 0, .int 0])), (q7, .inl (UcI X, 7, .inl (fun _ => 0))), (q15, .inl (UcI X, 7, .inl (fun _ => 0))), (q23, .inl (UcI X, 7, .inl (fun _ => 0))), (q31, .inl (UcI X, 7, .inl (fun _ => 0))), (q39, .inl (UcI X, 7, .inl (fun _ => 0))), (q47, .inl (UcI X, 6, .inl (fun _ => 0)))]) rfl ?_
  refine u_putF (q0 := 0) (ws' := [(a, .inr (1, [.ref q7, .ref q15, .ref q23, .ref q31, .ref q39, .ref q47, .null, .int 0, .int 0, .int 0])), (q7, .inl (UcI X, 7, .inl (fun _ => 0))), (q15, .inl (UcI X, 7, .inl (fun _ => 0))), (q23, .inl (UcI X, 7, .inl (fun _ => 0))), (q31, .inl (UcI X, 7, .inl (fun _ => 0))), (q39, .inl (UcI X, 7, .inl (fun _ => 0))), (q47, .inl (UcI X, 6, .inl (fun _ => 0)))]) C (hI rfl) rfl rfl hinX0 tyX0_ok nmX0 5 (Nat.le_of_ble_eq_true rfl) lkX0_27 rfl rfl rfl rfl (Nat.le_of_ble_eq_true rfl) dX0_init_49 rfl rfl ?_
  refine u_aload_n C dX0_init_52 rfl rfl rfl ?_
  refine u_iconst (v := 3) C dX0_init_53 (by decide) rfl ?_
  refine u_newa (N := 3) C (by decide) uw_ac (by decide) (by decide) rfl dX0_init_54 rfl (fun q54 => ?_)
  refine U.wso (ws' := [(a, .inr (1, [.ref q7, .ref q15, .ref q23, .ref q31, .ref q39, .ref q47, .null, .int 0, .int 0, .int 0])), (q7, .inl (UcI X, 7, .inl (fun _ => 0))), (q15, .inl (UcI X, 7, .inl (fun _ => 0))), (q23, .inl (UcI X, 7, .inl (fun _ => 0))), (q31, .inl (UcI X, 7, .inl (fun _ => 0))), (q39, .inl (UcI X, 7, .inl (fun _ => 0))), (q47, .inl (UcI X, 6, .inl (fun _ => 0))), (q54, .inl (UcI X, 3, .inl (fun _ => 0)))]) rfl ?_
  refine u_putF (q0 := 0) (ws' := [(a, .inr (1, [.ref q7, .ref q15, .ref q23, .ref q31, .ref q39, .ref q47, .ref q54, .int 0, .int 0, .int 0])), (q7, .inl (UcI X, 7, .inl (fun _ => 0))), (q15, .inl (UcI X, 7, .inl (fun _ => 0))), (q23, .inl (UcI X, 7, .inl (fun _ => 0))), (q31, .inl (UcI X, 7, .inl (fun _ => 0))), (q39, .inl (UcI X, 7, .inl (fun _ => 0))), (q47, .inl (UcI X, 6, .inl (fun _ => 0))), (q54, .inl (UcI X, 3, .inl (fun _ => 0)))]) C (hI rfl) rfl rfl hinX0 tyX0_ok nmX0 6 (Nat.le_of_ble_eq_true rfl) lkX0_30 rfl rfl rfl rfl (Nat.le_of_ble_eq_true rfl) dX0_init_56 rfl rfl ?_
  refine u_aload_n C dX0_init_59 rfl rfl rfl ?_
  refine u_iconst (v := 0) C dX0_init_60 (by decide) rfl ?_
  refine u_put (q0 := 0) (ws' := [(a, .inr (1, [.ref q7, .ref q15, .ref q23, .ref q31, .ref q39, .ref q47, .ref q54, .int 0, .int 0, .int 0])), (q7, .inl (UcI X, 7, .inl (fun _ => 0))), (q15, .inl (UcI X, 7, .inl (fun _ => 0))), (q23, .inl (UcI X, 7, .inl (fun _ => 0))), (q31, .inl (UcI X, 7, .inl (fun _ => 0))), (q39, .inl (UcI X, 7, .inl (fun _ => 0))), (q47, .inl (UcI X, 6, .inl (fun _ => 0))), (q54, .inl (UcI X, 3, .inl (fun _ => 0)))]) C rfl rfl hinX0 tyX0_ok nmX0 7 (Nat.le_of_ble_eq_true rfl) lkX0_33 rfl rfl rfl (Nat.le_of_ble_eq_true rfl) dX0_init_61 rfl rfl ?_
  refine u_aload_n C dX0_init_64 rfl rfl rfl ?_
  refine u_iconst (v := 2) C dX0_init_65 (by decide) rfl ?_
  refine u_put (q0 := 0) (ws' := [(a, .inr (1, [.ref q7, .ref q15, .ref q23, .ref q31, .ref q39, .ref q47, .ref q54, .int 0, .int 2, .int 0])), (q7, .inl (UcI X, 7, .inl (fun _ => 0))), (q15, .inl (UcI X, 7, .inl (fun _ => 0))), (q23, .inl (UcI X, 7, .inl (fun _ => 0))), (q31, .inl (UcI X, 7, .inl (fun _ => 0))), (q39, .inl (UcI X, 7, .inl (fun _ => 0))), (q47, .inl (UcI X, 6, .inl (fun _ => 0))), (q54, .inl (UcI X, 3, .inl (fun _ => 0)))]) C rfl rfl hinX0 tyX0_ok nmX0 8 (Nat.le_of_ble_eq_true rfl) lkX0_37 rfl rfl rfl (Nat.le_of_ble_eq_true rfl) dX0_init_66 rfl rfl ?_
  refine u_aload_n C dX0_init_69 rfl rfl rfl ?_
  refine u_iconst (v := 0) C dX0_init_70 (by decide) rfl ?_
  refine u_put (q0 := 0) (ws' := [(a, .inr (1, [.ref q7, .ref q15, .ref q23, .ref q31, .ref q39, .ref q47, .ref q54, .int 0, .int 2, .int 0])), (q7, .inl (UcI X, 7, .inl (fun _ => 0))), (q15, .inl (UcI X, 7, .inl (fun _ => 0))), (q23, .inl (UcI X, 7, .inl (fun _ => 0))), (q31, .inl (UcI X, 7, .inl (fun _ => 0))), (q39, .inl (UcI X, 7, .inl (fun _ => 0))), (q47, .inl (UcI X, 6, .inl (fun _ => 0))), (q54, .inl (UcI X, 3, .inl (fun _ => 0)))]) C rfl rfl hinX0 tyX0_ok nmX0 9 (Nat.le_of_ble_eq_true rfl) lkX0_40 rfl rfl rfl (Nat.le_of_ble_eq_true rfl) dX0_init_71 rfl rfl ?_
  refine u_aload_n C dX0_init_74 rfl rfl rfl ?_
  refine u_get (q0 := 0) C rfl rfl hinX0 5 (Nat.le_of_ble_eq_true rfl) lkX0_27 rfl dX0_init_75 rfl ?_
  refine u_bipush (v := 9) C dX0_init_78 (by decide) rfl ?_
  refine u_callS (rm := { frames := 0, cells := 0, slots := 0, locals := 0 }) (As := [.ref q47, .int 9]) (rest := []) (wc := [(q47, .inl (UcI X, 6, .inl (fun _ => 0)))]) (wr := [(a, .inr (1, [.ref q7, .ref q15, .ref q23, .ref q31, .ref q39, .ref q47, .ref q54, .int 0, .int 2, .int 0])), (q7, .inl (UcI X, 7, .inl (fun _ => 0))), (q15, .inl (UcI X, 7, .inl (fun _ => 0))), (q23, .inl (UcI X, 7, .inl (fun _ => 0))), (q31, .inl (UcI X, 7, .inl (fun _ => 0))), (q39, .inl (UcI X, 7, .inl (fun _ => 0))), (q54, .inl (UcI X, 3, .inl (fun _ => 0)))]) (S := Unit) (out := fun _ => [(q47, .inl (UcI X, 6, .inl (pre 6 (fun _ => 9) (fun _ => 0))))]) C [6] [0, 1, 2, 3, 4, 5, 7] (by decide) (fun D => cg_fill (UcI X) D q47 6 (by decide) 9 (fun _ => 0)) rfl rfl (by decide) (by decide) rfl (by decide) (by decide) (by decide) (by decide) ⟨ufill, mfJ7_fill_53178⟩ dkJ7_fill_53178 (Nat.le_of_ble_eq_true rfl) dX0_init_80 rfl (fun _ => ?_)
  refine U.wso (ws' := [(a, .inr (1, [.ref q7, .ref q15, .ref q23, .ref q31, .ref q39, .ref q47, .ref q54, .int 0, .int 2, .int 0])), (q7, .inl (UcI X, 7, .inl (fun _ => 0))), (q15, .inl (UcI X, 7, .inl (fun _ => 0))), (q23, .inl (UcI X, 7, .inl (fun _ => 0))), (q31, .inl (UcI X, 7, .inl (fun _ => 0))), (q39, .inl (UcI X, 7, .inl (fun _ => 0))), (q54, .inl (UcI X, 3, .inl (fun _ => 0))), (q47, .inl (UcI X, 6, .inl (pre 6 (fun _ => 9) (fun _ => 0))))]) rfl ?_
  refine u_aload_n C dX0_init_83 rfl rfl rfl ?_
  refine u_get (q0 := 0) C rfl rfl hinX0 6 (Nat.le_of_ble_eq_true rfl) lkX0_30 rfl dX0_init_84 rfl ?_
  refine u_bipush (v := 6) C dX0_init_87 (by decide) rfl ?_
  refine u_callS (rm := { frames := 0, cells := 0, slots := 0, locals := 0 }) (As := [.ref q54, .int 6]) (rest := []) (wc := [(q54, .inl (UcI X, 3, .inl (fun _ => 0)))]) (wr := [(a, .inr (1, [.ref q7, .ref q15, .ref q23, .ref q31, .ref q39, .ref q47, .ref q54, .int 0, .int 2, .int 0])), (q7, .inl (UcI X, 7, .inl (fun _ => 0))), (q15, .inl (UcI X, 7, .inl (fun _ => 0))), (q23, .inl (UcI X, 7, .inl (fun _ => 0))), (q31, .inl (UcI X, 7, .inl (fun _ => 0))), (q39, .inl (UcI X, 7, .inl (fun _ => 0))), (q47, .inl (UcI X, 6, .inl (pre 6 (fun _ => 9) (fun _ => 0))))]) (S := Unit) (out := fun _ => [(q54, .inl (UcI X, 3, .inl (pre 3 (fun _ => 6) (fun _ => 0))))]) C [6] [0, 1, 2, 3, 4, 5, 7] (by decide) (fun D => cg_fill (UcI X) D q54 3 (by decide) 6 (fun _ => 0)) rfl rfl (by decide) (by decide) rfl (by decide) (by decide) (by decide) (by decide) ⟨ufill, mfJ7_fill_53178⟩ dkJ7_fill_53178 (Nat.le_of_ble_eq_true rfl) dX0_init_89 rfl (fun _ => ?_)
  refine U.wso (ws' := [(a, .inr (1, [.ref q7, .ref q15, .ref q23, .ref q31, .ref q39, .ref q47, .ref q54, .int 0, .int 2, .int 0])), (q7, .inl (UcI X, 7, .inl (fun _ => 0))), (q15, .inl (UcI X, 7, .inl (fun _ => 0))), (q23, .inl (UcI X, 7, .inl (fun _ => 0))), (q31, .inl (UcI X, 7, .inl (fun _ => 0))), (q39, .inl (UcI X, 7, .inl (fun _ => 0))), (q47, .inl (UcI X, 6, .inl (pre 6 (fun _ => 9) (fun _ => 0)))), (q54, .inl (UcI X, 3, .inl (pre 3 (fun _ => 6) (fun _ => 0))))]) rfl ?_
  exact hret 92 _ (fun j => [a, q7, q15, q23, q31, q39, q47, q54].getD j 0) dX0_init_92
def wX2 (cI : ClassId) (a : Nat) (u : Nat → Nat) : va_W := [(a, .inr (3, [.ref (u 1), .int 0])), ((u 1), .inl (cI, 12, .inl (fun _ => 0)))]
set_option maxRecDepth 20000 in
theorem cgX2_init (cI : ClassId) (D : va_G) (a : Nat) : Cg yX2_init cX2_init 1 { frames := 1, cells := 1, slots := 12, locals := 40 } [.ref a] cI D [(a, .inr (3, [.null, .int 0]))] (wX2 cI a) := by
  refine cg_of plX2 (Nat.le_of_ble_eq_true rfl) (fun X hcI hret C hI => ?_)
  subst hcI
  show U X 0 [(0, .ref a)] [] [(a, .inr (3, [.null, .int 0]))] 0 0
  refine u_aload_n C dX2_init_0 rfl rfl rfl ?_
  refine u_obj C uoX2 uw_oi uw_oc (by decide) (by decide) dX2_init_1 rfl ?_
  refine u_aload_n C dX2_init_4 rfl rfl rfl ?_
  refine u_bipush (v := 12) C dX2_init_5 (by decide) rfl ?_
  refine u_newa (N := 12) C (by decide) uw_ac (by decide) (by decide) rfl dX2_init_7 rfl (fun q7 => ?_)
  refine U.wso (ws' := [(a, .inr (3, [.null, .int 0])), (q7, .inl (UcI X, 12, .inl (fun _ => 0)))]) rfl ?_
  refine u_putF (q0 := 0) (ws' := [(a, .inr (3, [.ref q7, .int 0])), (q7, .inl (UcI X, 12, .inl (fun _ => 0)))]) C (hI rfl) rfl rfl hinX2 tyX2_ok nmX2 0 (Nat.le_of_ble_eq_true rfl) lkX2_9 rfl rfl rfl rfl (Nat.le_of_ble_eq_true rfl) dX2_init_9 rfl rfl ?_
  refine u_aload_n C dX2_init_12 rfl rfl rfl ?_
  refine u_iconst (v := 0) C dX2_init_13 (by decide) rfl ?_
  refine u_put (q0 := 0) (ws' := [(a, .inr (3, [.ref q7, .int 0])), (q7, .inl (UcI X, 12, .inl (fun _ => 0)))]) C rfl rfl hinX2 tyX2_ok nmX2 1 (Nat.le_of_ble_eq_true rfl) lkX2_15 rfl rfl rfl (Nat.le_of_ble_eq_true rfl) dX2_init_14 rfl rfl ?_
  exact hret 17 _ (fun j => [a, q7].getD j 0) dX2_init_17
def wX4 (cI : ClassId) (a : Nat) (u : Nat → Nat) : va_W := [(a, .inr (5, [.ref (u 1), .int 0])), ((u 1), .inl (cI, 96, .inl (fun _ => 0)))]
set_option maxRecDepth 20000 in
theorem cgX4_init (cI : ClassId) (D : va_G) (a : Nat) : Cg yX4_init cX4_init 1 { frames := 1, cells := 1, slots := 96, locals := 40 } [.ref a] cI D [(a, .inr (5, [.null, .int 0]))] (wX4 cI a) := by
  refine cg_of plX4 (Nat.le_of_ble_eq_true rfl) (fun X hcI hret C hI => ?_)
  subst hcI
  show U X 0 [(0, .ref a)] [] [(a, .inr (5, [.null, .int 0]))] 0 0
  refine u_aload_n C dX4_init_0 rfl rfl rfl ?_
  refine u_obj C uoX4 uw_oi uw_oc (by decide) (by decide) dX4_init_1 rfl ?_
  refine u_aload_n C dX4_init_4 rfl rfl rfl ?_
  refine u_bipush (v := 96) C dX4_init_5 (by decide) rfl ?_
  refine u_newa (N := 96) C (by decide) uw_ac (by decide) (by decide) rfl dX4_init_7 rfl (fun q7 => ?_)
  refine U.wso (ws' := [(a, .inr (5, [.null, .int 0])), (q7, .inl (UcI X, 96, .inl (fun _ => 0)))]) rfl ?_
  refine u_putF (q0 := 0) (ws' := [(a, .inr (5, [.ref q7, .int 0])), (q7, .inl (UcI X, 96, .inl (fun _ => 0)))]) C (hI rfl) rfl rfl hinX4 tyX4_ok nmX4 0 (Nat.le_of_ble_eq_true rfl) lkX4_9 rfl rfl rfl rfl (Nat.le_of_ble_eq_true rfl) dX4_init_9 rfl rfl ?_
  refine u_aload_n C dX4_init_12 rfl rfl rfl ?_
  refine u_iconst (v := 0) C dX4_init_13 (by decide) rfl ?_
  refine u_put (q0 := 0) (ws' := [(a, .inr (5, [.ref q7, .int 0])), (q7, .inl (UcI X, 96, .inl (fun _ => 0)))]) C rfl rfl hinX4 tyX4_ok nmX4 1 (Nat.le_of_ble_eq_true rfl) lkX4_15 rfl rfl rfl (Nat.le_of_ble_eq_true rfl) dX4_init_14 rfl rfl ?_
  exact hret 17 _ (fun j => [a, q7].getD j 0) dX4_init_17
def wX1 (cI : ClassId) (a h9 : Nat) (u : Nat → Nat) : va_W := [(a, .inr (2, [.ref h9, .ref (u 1), .int 0, .int 0, .int 1000000])), ((u 1), .inl (cI, 7, .inl (fun _ => 0)))]
set_option maxRecDepth 20000 in
theorem cgX1_init (cI : ClassId) (D : va_G) (a h9 : Nat) : Cg yX1_init cX1_init 2 { frames := 1, cells := 1, slots := 7, locals := 40 } [.ref a, .ref h9] cI D [(a, .inr (2, [.null, .null, .int 0, .int 0, .int 0]))] (wX1 cI a h9) := by
  refine cg_of plX1 (Nat.le_of_ble_eq_true rfl) (fun X hcI hret C hI => ?_)
  subst hcI
  show U X 0 [(0, .ref a), (1, .ref h9)] [] [(a, .inr (2, [.null, .null, .int 0, .int 0, .int 0]))] 0 0
  refine u_aload_n C dX1_init_0 rfl rfl rfl ?_
  refine u_obj C uoX1 uw_oi uw_oc (by decide) (by decide) dX1_init_1 rfl ?_
  refine u_aload_n C dX1_init_4 rfl rfl rfl ?_
  refine u_bipush (v := 7) C dX1_init_5 (by decide) rfl ?_
  refine u_newa (N := 7) C (by decide) uw_ac (by decide) (by decide) rfl dX1_init_7 rfl (fun q7 => ?_)
  refine U.wso (ws' := [(a, .inr (2, [.null, .null, .int 0, .int 0, .int 0])), (q7, .inl (UcI X, 7, .inl (fun _ => 0)))]) rfl ?_
  refine u_putF (q0 := 0) (ws' := [(a, .inr (2, [.null, .ref q7, .int 0, .int 0, .int 0])), (q7, .inl (UcI X, 7, .inl (fun _ => 0)))]) C (hI rfl) rfl rfl hinX1 tyX1_ok nmX1 1 (Nat.le_of_ble_eq_true rfl) lkX1_9 rfl rfl rfl rfl (Nat.le_of_ble_eq_true rfl) dX1_init_9 rfl rfl ?_
  refine u_aload_n C dX1_init_12 rfl rfl rfl ?_
  refine u_iconst (v := 0) C dX1_init_13 (by decide) rfl ?_
  refine u_put (q0 := 0) (ws' := [(a, .inr (2, [.null, .ref q7, .int 0, .int 0, .int 0])), (q7, .inl (UcI X, 7, .inl (fun _ => 0)))]) C rfl rfl hinX1 tyX1_ok nmX1 2 (Nat.le_of_ble_eq_true rfl) lkX1_15 rfl rfl rfl (Nat.le_of_ble_eq_true rfl) dX1_init_14 rfl rfl ?_
  refine u_aload_n C dX1_init_17 rfl rfl rfl ?_
  refine u_iconst (v := 0) C dX1_init_18 (by decide) rfl ?_
  refine u_put (q0 := 0) (ws' := [(a, .inr (2, [.null, .ref q7, .int 0, .int 0, .int 0])), (q7, .inl (UcI X, 7, .inl (fun _ => 0)))]) C rfl rfl hinX1 tyX1_ok nmX1 3 (Nat.le_of_ble_eq_true rfl) lkX1_19 rfl rfl rfl (Nat.le_of_ble_eq_true rfl) dX1_init_19 rfl rfl ?_
  refine u_aload_n C dX1_init_22 rfl rfl rfl ?_
  refine u_ldc C kcX1_23 dX1_init_23 rfl ?_
  refine u_put (q0 := 0) (ws' := [(a, .inr (2, [.null, .ref q7, .int 0, .int 0, .int 1000000])), (q7, .inl (UcI X, 7, .inl (fun _ => 0)))]) C rfl rfl hinX1 tyX1_ok nmX1 4 (Nat.le_of_ble_eq_true rfl) lkX1_24 rfl rfl rfl (Nat.le_of_ble_eq_true rfl) dX1_init_25 rfl rfl ?_
  refine u_aload_n C dX1_init_28 rfl rfl rfl ?_
  refine u_aload_n C dX1_init_29 rfl rfl rfl ?_
  refine u_putF (q0 := 0) (ws' := [(a, .inr (2, [.ref h9, .ref q7, .int 0, .int 0, .int 1000000])), (q7, .inl (UcI X, 7, .inl (fun _ => 0)))]) C (hI rfl) rfl rfl hinX1 tyX1_ok nmX1 0 (Nat.le_of_ble_eq_true rfl) lkX1_27 rfl rfl rfl rfl (Nat.le_of_ble_eq_true rfl) dX1_init_30 rfl rfl ?_
  exact hret 33 _ (fun j => [a, q7].getD j 0) dX1_init_33
def wX3 (cI : ClassId) (a : Nat) (u : Nat → Nat) : va_W := [(a, .inr (4, [.ref (u 1), .ref (u 2), .ref (u 3), .ref (u 4), .int 0, .int 0, .int 0, .int 1000000, .int (-9)])), ((u 1), .inl (cI, 7, .inl (fun _ => 0))), ((u 2), .inl (cI, 7, .inl (fun _ => 0))), ((u 3), .inl (cI, 7, .inl (fun _ => 0))), ((u 4), .inl (cI, 4, .inl (fun _ => 0)))]
set_option maxRecDepth 20000 in
theorem cgX3_init (cI : ClassId) (D : va_G) (a : Nat) : Cg yX3_init cX3_init 1 { frames := 1, cells := 4, slots := 25, locals := 40 } [.ref a] cI D [(a, .inr (4, [.null, .null, .null, .null, .int 0, .int 0, .int 0, .int 0, .int 0]))] (wX3 cI a) := by
  refine cg_of plX3 (Nat.le_of_ble_eq_true rfl) (fun X hcI hret C hI => ?_)
  subst hcI
  show U X 0 [(0, .ref a)] [] [(a, .inr (4, [.null, .null, .null, .null, .int 0, .int 0, .int 0, .int 0, .int 0]))] 0 0
  refine u_aload_n C dX3_init_0 rfl rfl rfl ?_
  refine u_obj C uoX3 uw_oi uw_oc (by decide) (by decide) dX3_init_1 rfl ?_
  refine u_aload_n C dX3_init_4 rfl rfl rfl ?_
  refine u_bipush (v := 7) C dX3_init_5 (by decide) rfl ?_
  refine u_newa (N := 7) C (by decide) uw_ac (by decide) (by decide) rfl dX3_init_7 rfl (fun q7 => ?_)
  refine U.wso (ws' := [(a, .inr (4, [.null, .null, .null, .null, .int 0, .int 0, .int 0, .int 0, .int 0])), (q7, .inl (UcI X, 7, .inl (fun _ => 0)))]) rfl ?_
  refine u_putF (q0 := 0) (ws' := [(a, .inr (4, [.ref q7, .null, .null, .null, .int 0, .int 0, .int 0, .int 0, .int 0])), (q7, .inl (UcI X, 7, .inl (fun _ => 0)))]) C (hI rfl) rfl rfl hinX3 tyX3_ok nmX3 0 (Nat.le_of_ble_eq_true rfl) lkX3_9 rfl rfl rfl rfl (Nat.le_of_ble_eq_true rfl) dX3_init_9 rfl rfl ?_
  refine u_aload_n C dX3_init_12 rfl rfl rfl ?_
  refine u_bipush (v := 7) C dX3_init_13 (by decide) rfl ?_
  refine u_newa (N := 7) C (by decide) uw_ac (by decide) (by decide) rfl dX3_init_15 rfl (fun q15 => ?_)
  refine U.wso (ws' := [(a, .inr (4, [.ref q7, .null, .null, .null, .int 0, .int 0, .int 0, .int 0, .int 0])), (q7, .inl (UcI X, 7, .inl (fun _ => 0))), (q15, .inl (UcI X, 7, .inl (fun _ => 0)))]) rfl ?_
  refine u_putF (q0 := 0) (ws' := [(a, .inr (4, [.ref q7, .ref q15, .null, .null, .int 0, .int 0, .int 0, .int 0, .int 0])), (q7, .inl (UcI X, 7, .inl (fun _ => 0))), (q15, .inl (UcI X, 7, .inl (fun _ => 0)))]) C (hI rfl) rfl rfl hinX3 tyX3_ok nmX3 1 (Nat.le_of_ble_eq_true rfl) lkX3_15 rfl rfl rfl rfl (Nat.le_of_ble_eq_true rfl) dX3_init_17 rfl rfl ?_
  refine u_aload_n C dX3_init_20 rfl rfl rfl ?_
  refine u_bipush (v := 7) C dX3_init_21 (by decide) rfl ?_
  refine u_newa (N := 7) C (by decide) uw_ac (by decide) (by decide) rfl dX3_init_23 rfl (fun q23 => ?_)
  refine U.wso (ws' := [(a, .inr (4, [.ref q7, .ref q15, .null, .null, .int 0, .int 0, .int 0, .int 0, .int 0])), (q7, .inl (UcI X, 7, .inl (fun _ => 0))), (q15, .inl (UcI X, 7, .inl (fun _ => 0))), (q23, .inl (UcI X, 7, .inl (fun _ => 0)))]) rfl ?_
  refine u_putF (q0 := 0) (ws' := [(a, .inr (4, [.ref q7, .ref q15, .ref q23, .null, .int 0, .int 0, .int 0, .int 0, .int 0])), (q7, .inl (UcI X, 7, .inl (fun _ => 0))), (q15, .inl (UcI X, 7, .inl (fun _ => 0))), (q23, .inl (UcI X, 7, .inl (fun _ => 0)))]) C (hI rfl) rfl rfl hinX3 tyX3_ok nmX3 2 (Nat.le_of_ble_eq_true rfl) lkX3_18 rfl rfl rfl rfl (Nat.le_of_ble_eq_true rfl) dX3_init_25 rfl rfl ?_
  refine u_aload_n C dX3_init_28 rfl rfl rfl ?_
  refine u_iconst (v := 4) C dX3_init_29 (by decide) rfl ?_
  refine u_newa (N := 4) C (by decide) uw_ac (by decide) (by decide) rfl dX3_init_30 rfl (fun q30 => ?_)
  refine U.wso (ws' := [(a, .inr (4, [.ref q7, .ref q15, .ref q23, .null, .int 0, .int 0, .int 0, .int 0, .int 0])), (q7, .inl (UcI X, 7, .inl (fun _ => 0))), (q15, .inl (UcI X, 7, .inl (fun _ => 0))), (q23, .inl (UcI X, 7, .inl (fun _ => 0))), (q30, .inl (UcI X, 4, .inl (fun _ => 0)))]) rfl ?_
  refine u_putF (q0 := 0) (ws' := [(a, .inr (4, [.ref q7, .ref q15, .ref q23, .ref q30, .int 0, .int 0, .int 0, .int 0, .int 0])), (q7, .inl (UcI X, 7, .inl (fun _ => 0))), (q15, .inl (UcI X, 7, .inl (fun _ => 0))), (q23, .inl (UcI X, 7, .inl (fun _ => 0))), (q30, .inl (UcI X, 4, .inl (fun _ => 0)))]) C (hI rfl) rfl rfl hinX3 tyX3_ok nmX3 3 (Nat.le_of_ble_eq_true rfl) lkX3_21 rfl rfl rfl rfl (Nat.le_of_ble_eq_true rfl) dX3_init_32 rfl rfl ?_
  refine u_aload_n C dX3_init_35 rfl rfl rfl ?_
  refine u_iconst (v := 0) C dX3_init_36 (by decide) rfl ?_
  refine u_put (q0 := 0) (ws' := [(a, .inr (4, [.ref q7, .ref q15, .ref q23, .ref q30, .int 0, .int 0, .int 0, .int 0, .int 0])), (q7, .inl (UcI X, 7, .inl (fun _ => 0))), (q15, .inl (UcI X, 7, .inl (fun _ => 0))), (q23, .inl (UcI X, 7, .inl (fun _ => 0))), (q30, .inl (UcI X, 4, .inl (fun _ => 0)))]) C rfl rfl hinX3 tyX3_ok nmX3 4 (Nat.le_of_ble_eq_true rfl) lkX3_24 rfl rfl rfl (Nat.le_of_ble_eq_true rfl) dX3_init_37 rfl rfl ?_
  refine u_aload_n C dX3_init_40 rfl rfl rfl ?_
  refine u_iconst (v := 0) C dX3_init_41 (by decide) rfl ?_
  refine u_put (q0 := 0) (ws' := [(a, .inr (4, [.ref q7, .ref q15, .ref q23, .ref q30, .int 0, .int 0, .int 0, .int 0, .int 0])), (q7, .inl (UcI X, 7, .inl (fun _ => 0))), (q15, .inl (UcI X, 7, .inl (fun _ => 0))), (q23, .inl (UcI X, 7, .inl (fun _ => 0))), (q30, .inl (UcI X, 4, .inl (fun _ => 0)))]) C rfl rfl hinX3 tyX3_ok nmX3 5 (Nat.le_of_ble_eq_true rfl) lkX3_28 rfl rfl rfl (Nat.le_of_ble_eq_true rfl) dX3_init_42 rfl rfl ?_
  refine u_aload_n C dX3_init_45 rfl rfl rfl ?_
  refine u_iconst (v := 0) C dX3_init_46 (by decide) rfl ?_
  refine u_put (q0 := 0) (ws' := [(a, .inr (4, [.ref q7, .ref q15, .ref q23, .ref q30, .int 0, .int 0, .int 0, .int 0, .int 0])), (q7, .inl (UcI X, 7, .inl (fun _ => 0))), (q15, .inl (UcI X, 7, .inl (fun _ => 0))), (q23, .inl (UcI X, 7, .inl (fun _ => 0))), (q30, .inl (UcI X, 4, .inl (fun _ => 0)))]) C rfl rfl hinX3 tyX3_ok nmX3 6 (Nat.le_of_ble_eq_true rfl) lkX3_31 rfl rfl rfl (Nat.le_of_ble_eq_true rfl) dX3_init_47 rfl rfl ?_
  refine u_aload_n C dX3_init_50 rfl rfl rfl ?_
  refine u_ldc C kcX3_34 dX3_init_51 rfl ?_
  refine u_put (q0 := 0) (ws' := [(a, .inr (4, [.ref q7, .ref q15, .ref q23, .ref q30, .int 0, .int 0, .int 0, .int 1000000, .int 0])), (q7, .inl (UcI X, 7, .inl (fun _ => 0))), (q15, .inl (UcI X, 7, .inl (fun _ => 0))), (q23, .inl (UcI X, 7, .inl (fun _ => 0))), (q30, .inl (UcI X, 4, .inl (fun _ => 0)))]) C rfl rfl hinX3 tyX3_ok nmX3 7 (Nat.le_of_ble_eq_true rfl) lkX3_35 rfl rfl rfl (Nat.le_of_ble_eq_true rfl) dX3_init_53 rfl rfl ?_
  refine u_aload_n C dX3_init_56 rfl rfl rfl ?_
  refine u_bipush (v := (-9)) C dX3_init_57 (by decide) rfl ?_
  refine u_put (q0 := 0) (ws' := [(a, .inr (4, [.ref q7, .ref q15, .ref q23, .ref q30, .int 0, .int 0, .int 0, .int 1000000, .int (-9)])), (q7, .inl (UcI X, 7, .inl (fun _ => 0))), (q15, .inl (UcI X, 7, .inl (fun _ => 0))), (q23, .inl (UcI X, 7, .inl (fun _ => 0))), (q30, .inl (UcI X, 4, .inl (fun _ => 0)))]) C rfl rfl hinX3 tyX3_ok nmX3 8 (Nat.le_of_ble_eq_true rfl) lkX3_38 rfl rfl rfl (Nat.le_of_ble_eq_true rfl) dX3_init_59 rfl rfl ?_
  exact hret 62 _ (fun j => [a, q7, q15, q23, q30].getD j 0) dX3_init_62

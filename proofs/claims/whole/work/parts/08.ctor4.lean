abbrev rm_X6_init : Room := { frames := 1, cells := 13, slots := 2264, locals := 40 }
set_option maxHeartbeats 16000000 in
set_option maxRecDepth 100000 in
theorem c_X6_init {l : Launch} {D : va_G} {K : Nat → ClassId} {ad0 : Nat → Nat} {ct0 : Nat → va_E} {W S : Nat} {w0 s0 : Int32} {a0 : Nat} (hw : clampI w0 (nI 2) (nI 8) = nI W) (hs : clampI s0 (nI 1) (nI 4) = nI S) (h0 : ad0 36 = a0) (hf : ct0 36 = .inr (6, [.int 0, .int 0, .null, .null, .null, .null, .null, .null, .int 0, .null, .null, .null, .null, .null, .null, .null, .int 0, .int 0, .int 0])) : MC l yX6_init cX6_init 4 none rm_X6_init D (TY K) (36 + 1) ad0 ct0 [.ref a0, .int w0, .int s0] (CB 36 14 ad0 ct0 (fun ad' ct' => ∃ σ0 : Nat → Nat → Int32, (∀ r, 36 ≤ r → r < 50 → ct' r = CE K W S 0 0 ad' (fun _ => none) r (σ0 r)) ∧ (∀ j, j < 4 → σ0 37 j = nI 1 ∧ σ0 38 j = nI 60 ∧ σ0 39 j = nI 5) ∧ ∀ r j, r ≠ 37 → r ≠ 38 → r ≠ 39 → σ0 r j = 0)) := by
  refine MC.of (by decide) (Nat.le_of_ble_eq_true rfl) (fun p e s m args below meth c Q A H0 C X => ?_)
  replace C : Cx p s m args meth c cX6_init RX6 4 D (TY K) A H0 := C
  refine j_ww (ad' := adL [a0] 36 ad0) (ct' := ctL [.inr (6, [.int 0, .int 0, .null, .null, .null, .null, .null, .null, .int 0, .null, .null, .null, .null, .null, .null, .null, .int 0, .int 0, .int 0])] 36 ct0) rfl (fun r hr => ad_in h0 hr) (fun r hr => ct_in hf hr) ?_
  show J p l e rm_X6_init s m args below meth c Q D A H0 4 0 0 37 (adL [a0] 36 ad0) (ctL [.inr (6, [.int 0, .int 0, .null, .null, .null, .null, .null, .null, .int 0, .null, .null, .null, .null, .null, .null, .null, .int 0, .int 0, .int 0])] 36 ct0) 0 [(0, .ref a0), (1, .int w0), (2, .int s0)] []
  refine j_aload_n 1 C dX6_init_0 rfl rfl 0 rfl ?_
  refine j_objInit 4 C wl_X6_3 dX6_init_1 rfl (Nat.le_of_ble_eq_true rfl) (Nat.le_of_ble_eq_true rfl) ?_
  refine j_aload_n 5 C dX6_init_4 rfl rfl 0 rfl ?_
  refine j_iconst 6 C (x := nI 4) dX6_init_5 rfl (by decide) ?_
  refine c_newa 8 38 C (ty := .int) rfl wa_int 0 (cA := K 0) rfl (z := 4) rfl (fun cA => arr0I cA _) (by decide) (by decide) dX6_init_6 rfl (Nat.le_of_ble_eq_true rfl) (Nat.le_of_ble_eq_true rfl) rfl rfl rfl 1 4 rfl rfl (fun a1 la cl ela ecl => ?_)
  replace ela : la = [a0, a1] := ela
  replace ecl : cl = [.inr (6, [.int 0, .int 0, .null, .null, .null, .null, .null, .null, .int 0, .null, .null, .null, .null, .null, .null, .null, .int 0, .int 0, .int 0]), .inl (K 0, 4, .inl (fun _ => 0))] := ecl
  subst ela; subst ecl
  refine c_putF 11 C fl_X6_9 fp_X6 rfl (X.2.2.2.trans rfl) rfl dX6_init_8 rfl 0 (by omega) rfl rfl rfl rfl (Nat.le_of_ble_eq_true rfl) [.inr (6, [.int 0, .int 0, .ref a1, .null, .null, .null, .null, .null, .int 0, .null, .null, .null, .null, .null, .null, .null, .int 0, .int 0, .int 0]), .inl (K 0, 4, .inl (fun _ => 0))] rfl ?_
  refine j_aload_n 12 C dX6_init_11 rfl rfl 0 rfl ?_
  refine j_iconst 13 C (x := nI 4) dX6_init_12 rfl (by decide) ?_
  refine c_newa 15 39 C (ty := .int) rfl wa_int 0 (cA := K 0) rfl (z := 4) rfl (fun cA => arr0I cA _) (by decide) (by decide) dX6_init_13 rfl (Nat.le_of_ble_eq_true rfl) (Nat.le_of_ble_eq_true rfl) rfl rfl rfl 2 8 rfl rfl (fun a2 la cl ela ecl => ?_)
  replace ela : la = [a0, a1, a2] := ela
  replace ecl : cl = [.inr (6, [.int 0, .int 0, .ref a1, .null, .null, .null, .null, .null, .int 0, .null, .null, .null, .null, .null, .null, .null, .int 0, .int 0, .int 0]), .inl (K 0, 4, .inl (fun _ => 0)), .inl (K 0, 4, .inl (fun _ => 0))] := ecl
  subst ela; subst ecl
  refine c_putF 18 C fl_X6_13 fp_X6 rfl (X.2.2.2.trans rfl) rfl dX6_init_15 rfl 0 (by omega) rfl rfl rfl rfl (Nat.le_of_ble_eq_true rfl) [.inr (6, [.int 0, .int 0, .ref a1, .ref a2, .null, .null, .null, .null, .int 0, .null, .null, .null, .null, .null, .null, .null, .int 0, .int 0, .int 0]), .inl (K 0, 4, .inl (fun _ => 0)), .inl (K 0, 4, .inl (fun _ => 0))] rfl ?_
  refine j_aload_n 19 C dX6_init_18 rfl rfl 0 rfl ?_
  refine j_iconst 20 C (x := nI 4) dX6_init_19 rfl (by decide) ?_
  refine c_newa 22 40 C (ty := .int) rfl wa_int 0 (cA := K 0) rfl (z := 4) rfl (fun cA => arr0I cA _) (by decide) (by decide) dX6_init_20 rfl (Nat.le_of_ble_eq_true rfl) (Nat.le_of_ble_eq_true rfl) rfl rfl rfl 3 12 rfl rfl (fun a3 la cl ela ecl => ?_)
  replace ela : la = [a0, a1, a2, a3] := ela
  replace ecl : cl = [.inr (6, [.int 0, .int 0, .ref a1, .ref a2, .null, .null, .null, .null, .int 0, .null, .null, .null, .null, .null, .null, .null, .int 0, .int 0, .int 0]), .inl (K 0, 4, .inl (fun _ => 0)), .inl (K 0, 4, .inl (fun _ => 0)), .inl (K 0, 4, .inl (fun _ => 0))] := ecl
  subst ela; subst ecl
  refine c_putF 25 C fl_X6_16 fp_X6 rfl (X.2.2.2.trans rfl) rfl dX6_init_22 rfl 0 (by omega) rfl rfl rfl rfl (Nat.le_of_ble_eq_true rfl) [.inr (6, [.int 0, .int 0, .ref a1, .ref a2, .ref a3, .null, .null, .null, .int 0, .null, .null, .null, .null, .null, .null, .null, .int 0, .int 0, .int 0]), .inl (K 0, 4, .inl (fun _ => 0)), .inl (K 0, 4, .inl (fun _ => 0)), .inl (K 0, 4, .inl (fun _ => 0))] rfl ?_
  refine j_aload_n 26 C dX6_init_25 rfl rfl 0 rfl ?_
  refine j_bipush 28 C (x := nI 8) dX6_init_26 rfl (by decide) ?_
  refine c_newa 30 41 C (ty := .boolean) rfl wa_boolean 1 (cA := K 1) rfl (z := 8) rfl (fun cA => arr0Z cA _) (by decide) (by decide) dX6_init_28 rfl (Nat.le_of_ble_eq_true rfl) (Nat.le_of_ble_eq_true rfl) rfl rfl rfl 4 20 rfl rfl (fun a4 la cl ela ecl => ?_)
  replace ela : la = [a0, a1, a2, a3, a4] := ela
  replace ecl : cl = [.inr (6, [.int 0, .int 0, .ref a1, .ref a2, .ref a3, .null, .null, .null, .int 0, .null, .null, .null, .null, .null, .null, .null, .int 0, .int 0, .int 0]), .inl (K 0, 4, .inl (fun _ => 0)), .inl (K 0, 4, .inl (fun _ => 0)), .inl (K 0, 4, .inl (fun _ => 0)), .inl (K 1, 8, .inl (fun _ => 0))] := ecl
  subst ela; subst ecl
  refine c_putF 33 C fl_X6_19 fp_X6 rfl (X.2.2.2.trans rfl) rfl dX6_init_30 rfl 0 (by omega) rfl rfl rfl rfl (Nat.le_of_ble_eq_true rfl) [.inr (6, [.int 0, .int 0, .ref a1, .ref a2, .ref a3, .ref a4, .null, .null, .int 0, .null, .null, .null, .null, .null, .null, .null, .int 0, .int 0, .int 0]), .inl (K 0, 4, .inl (fun _ => 0)), .inl (K 0, 4, .inl (fun _ => 0)), .inl (K 0, 4, .inl (fun _ => 0)), .inl (K 1, 8, .inl (fun _ => 0))] rfl ?_
  refine j_aload_n 34 C dX6_init_33 rfl rfl 0 rfl ?_
  refine j_bipush 36 C (x := nI 8) dX6_init_34 rfl (by decide) ?_
  refine c_newa 38 42 C (ty := .int) rfl wa_int 0 (cA := K 0) rfl (z := 8) rfl (fun cA => arr0I cA _) (by decide) (by decide) dX6_init_36 rfl (Nat.le_of_ble_eq_true rfl) (Nat.le_of_ble_eq_true rfl) rfl rfl rfl 5 28 rfl rfl (fun a5 la cl ela ecl => ?_)
  replace ela : la = [a0, a1, a2, a3, a4, a5] := ela
  replace ecl : cl = [.inr (6, [.int 0, .int 0, .ref a1, .ref a2, .ref a3, .ref a4, .null, .null, .int 0, .null, .null, .null, .null, .null, .null, .null, .int 0, .int 0, .int 0]), .inl (K 0, 4, .inl (fun _ => 0)), .inl (K 0, 4, .inl (fun _ => 0)), .inl (K 0, 4, .inl (fun _ => 0)), .inl (K 1, 8, .inl (fun _ => 0)), .inl (K 0, 8, .inl (fun _ => 0))] := ecl
  subst ela; subst ecl
  refine c_putF 41 C fl_X6_23 fp_X6 rfl (X.2.2.2.trans rfl) rfl dX6_init_38 rfl 0 (by omega) rfl rfl rfl rfl (Nat.le_of_ble_eq_true rfl) [.inr (6, [.int 0, .int 0, .ref a1, .ref a2, .ref a3, .ref a4, .ref a5, .null, .int 0, .null, .null, .null, .null, .null, .null, .null, .int 0, .int 0, .int 0]), .inl (K 0, 4, .inl (fun _ => 0)), .inl (K 0, 4, .inl (fun _ => 0)), .inl (K 0, 4, .inl (fun _ => 0)), .inl (K 1, 8, .inl (fun _ => 0)), .inl (K 0, 8, .inl (fun _ => 0))] rfl ?_
  refine j_aload_n 42 C dX6_init_41 rfl rfl 0 rfl ?_
  refine j_bipush 44 C (x := nI 8) dX6_init_42 rfl (by decide) ?_
  refine c_newa 46 43 C (ty := .int) rfl wa_int 0 (cA := K 0) rfl (z := 8) rfl (fun cA => arr0I cA _) (by decide) (by decide) dX6_init_44 rfl (Nat.le_of_ble_eq_true rfl) (Nat.le_of_ble_eq_true rfl) rfl rfl rfl 6 36 rfl rfl (fun a6 la cl ela ecl => ?_)
  replace ela : la = [a0, a1, a2, a3, a4, a5, a6] := ela
  replace ecl : cl = [.inr (6, [.int 0, .int 0, .ref a1, .ref a2, .ref a3, .ref a4, .ref a5, .null, .int 0, .null, .null, .null, .null, .null, .null, .null, .int 0, .int 0, .int 0]), .inl (K 0, 4, .inl (fun _ => 0)), .inl (K 0, 4, .inl (fun _ => 0)), .inl (K 0, 4, .inl (fun _ => 0)), .inl (K 1, 8, .inl (fun _ => 0)), .inl (K 0, 8, .inl (fun _ => 0)), .inl (K 0, 8, .inl (fun _ => 0))] := ecl
  subst ela; subst ecl
  refine c_putF 49 C fl_X6_26 fp_X6 rfl (X.2.2.2.trans rfl) rfl dX6_init_46 rfl 0 (by omega) rfl rfl rfl rfl (Nat.le_of_ble_eq_true rfl) [.inr (6, [.int 0, .int 0, .ref a1, .ref a2, .ref a3, .ref a4, .ref a5, .ref a6, .int 0, .null, .null, .null, .null, .null, .null, .null, .int 0, .int 0, .int 0]), .inl (K 0, 4, .inl (fun _ => 0)), .inl (K 0, 4, .inl (fun _ => 0)), .inl (K 0, 4, .inl (fun _ => 0)), .inl (K 1, 8, .inl (fun _ => 0)), .inl (K 0, 8, .inl (fun _ => 0)), .inl (K 0, 8, .inl (fun _ => 0))] rfl ?_
  refine j_aload_n 50 C dX6_init_49 rfl rfl 0 rfl ?_
  refine j_bipush 52 C (x := nI 10) dX6_init_50 rfl (by decide) ?_
  refine c_newa 54 44 C (ty := .int) rfl wa_int 0 (cA := K 0) rfl (z := 10) rfl (fun cA => arr0I cA _) (by decide) (by decide) dX6_init_52 rfl (Nat.le_of_ble_eq_true rfl) (Nat.le_of_ble_eq_true rfl) rfl rfl rfl 7 46 rfl rfl (fun a7 la cl ela ecl => ?_)
  replace ela : la = [a0, a1, a2, a3, a4, a5, a6, a7] := ela
  replace ecl : cl = [.inr (6, [.int 0, .int 0, .ref a1, .ref a2, .ref a3, .ref a4, .ref a5, .ref a6, .int 0, .null, .null, .null, .null, .null, .null, .null, .int 0, .int 0, .int 0]), .inl (K 0, 4, .inl (fun _ => 0)), .inl (K 0, 4, .inl (fun _ => 0)), .inl (K 0, 4, .inl (fun _ => 0)), .inl (K 1, 8, .inl (fun _ => 0)), .inl (K 0, 8, .inl (fun _ => 0)), .inl (K 0, 8, .inl (fun _ => 0)), .inl (K 0, 10, .inl (fun _ => 0))] := ecl
  subst ela; subst ecl
  refine c_putF 57 C fl_X6_29 fp_X6 rfl (X.2.2.2.trans rfl) rfl dX6_init_54 rfl 0 (by omega) rfl rfl rfl rfl (Nat.le_of_ble_eq_true rfl) [.inr (6, [.int 0, .int 0, .ref a1, .ref a2, .ref a3, .ref a4, .ref a5, .ref a6, .int 0, .ref a7, .null, .null, .null, .null, .null, .null, .int 0, .int 0, .int 0]), .inl (K 0, 4, .inl (fun _ => 0)), .inl (K 0, 4, .inl (fun _ => 0)), .inl (K 0, 4, .inl (fun _ => 0)), .inl (K 1, 8, .inl (fun _ => 0)), .inl (K 0, 8, .inl (fun _ => 0)), .inl (K 0, 8, .inl (fun _ => 0)), .inl (K 0, 10, .inl (fun _ => 0))] rfl ?_
  refine j_aload_n 58 C dX6_init_57 rfl rfl 0 rfl ?_
  refine j_bipush 60 C (x := nI 10) dX6_init_58 rfl (by decide) ?_
  refine c_newa 62 45 C (ty := .int) rfl wa_int 0 (cA := K 0) rfl (z := 10) rfl (fun cA => arr0I cA _) (by decide) (by decide) dX6_init_60 rfl (Nat.le_of_ble_eq_true rfl) (Nat.le_of_ble_eq_true rfl) rfl rfl rfl 8 56 rfl rfl (fun a8 la cl ela ecl => ?_)
  replace ela : la = [a0, a1, a2, a3, a4, a5, a6, a7, a8] := ela
  replace ecl : cl = [.inr (6, [.int 0, .int 0, .ref a1, .ref a2, .ref a3, .ref a4, .ref a5, .ref a6, .int 0, .ref a7, .null, .null, .null, .null, .null, .null, .int 0, .int 0, .int 0]), .inl (K 0, 4, .inl (fun _ => 0)), .inl (K 0, 4, .inl (fun _ => 0)), .inl (K 0, 4, .inl (fun _ => 0)), .inl (K 1, 8, .inl (fun _ => 0)), .inl (K 0, 8, .inl (fun _ => 0)), .inl (K 0, 8, .inl (fun _ => 0)), .inl (K 0, 10, .inl (fun _ => 0)), .inl (K 0, 10, .inl (fun _ => 0))] := ecl
  subst ela; subst ecl
  refine c_putF 65 C fl_X6_32 fp_X6 rfl (X.2.2.2.trans rfl) rfl dX6_init_62 rfl 0 (by omega) rfl rfl rfl rfl (Nat.le_of_ble_eq_true rfl) [.inr (6, [.int 0, .int 0, .ref a1, .ref a2, .ref a3, .ref a4, .ref a5, .ref a6, .int 0, .ref a7, .ref a8, .null, .null, .null, .null, .null, .int 0, .int 0, .int 0]), .inl (K 0, 4, .inl (fun _ => 0)), .inl (K 0, 4, .inl (fun _ => 0)), .inl (K 0, 4, .inl (fun _ => 0)), .inl (K 1, 8, .inl (fun _ => 0)), .inl (K 0, 8, .inl (fun _ => 0)), .inl (K 0, 8, .inl (fun _ => 0)), .inl (K 0, 10, .inl (fun _ => 0)), .inl (K 0, 10, .inl (fun _ => 0))] rfl ?_
  refine j_aload_n 66 C dX6_init_65 rfl rfl 0 rfl ?_
  refine j_bipush 68 C (x := nI 10) dX6_init_66 rfl (by decide) ?_
  refine c_newa 70 46 C (ty := .int) rfl wa_int 0 (cA := K 0) rfl (z := 10) rfl (fun cA => arr0I cA _) (by decide) (by decide) dX6_init_68 rfl (Nat.le_of_ble_eq_true rfl) (Nat.le_of_ble_eq_true rfl) rfl rfl rfl 9 66 rfl rfl (fun a9 la cl ela ecl => ?_)
  replace ela : la = [a0, a1, a2, a3, a4, a5, a6, a7, a8, a9] := ela
  replace ecl : cl = [.inr (6, [.int 0, .int 0, .ref a1, .ref a2, .ref a3, .ref a4, .ref a5, .ref a6, .int 0, .ref a7, .ref a8, .null, .null, .null, .null, .null, .int 0, .int 0, .int 0]), .inl (K 0, 4, .inl (fun _ => 0)), .inl (K 0, 4, .inl (fun _ => 0)), .inl (K 0, 4, .inl (fun _ => 0)), .inl (K 1, 8, .inl (fun _ => 0)), .inl (K 0, 8, .inl (fun _ => 0)), .inl (K 0, 8, .inl (fun _ => 0)), .inl (K 0, 10, .inl (fun _ => 0)), .inl (K 0, 10, .inl (fun _ => 0)), .inl (K 0, 10, .inl (fun _ => 0))] := ecl
  subst ela; subst ecl
  refine c_putF 73 C fl_X6_35 fp_X6 rfl (X.2.2.2.trans rfl) rfl dX6_init_70 rfl 0 (by omega) rfl rfl rfl rfl (Nat.le_of_ble_eq_true rfl) [.inr (6, [.int 0, .int 0, .ref a1, .ref a2, .ref a3, .ref a4, .ref a5, .ref a6, .int 0, .ref a7, .ref a8, .ref a9, .null, .null, .null, .null, .int 0, .int 0, .int 0]), .inl (K 0, 4, .inl (fun _ => 0)), .inl (K 0, 4, .inl (fun _ => 0)), .inl (K 0, 4, .inl (fun _ => 0)), .inl (K 1, 8, .inl (fun _ => 0)), .inl (K 0, 8, .inl (fun _ => 0)), .inl (K 0, 8, .inl (fun _ => 0)), .inl (K 0, 10, .inl (fun _ => 0)), .inl (K 0, 10, .inl (fun _ => 0)), .inl (K 0, 10, .inl (fun _ => 0))] rfl ?_
  refine j_aload_n 74 C dX6_init_73 rfl rfl 0 rfl ?_
  refine j_bipush 76 C (x := nI 10) dX6_init_74 rfl (by decide) ?_
  refine c_newa 78 47 C (ty := .boolean) rfl wa_boolean 1 (cA := K 1) rfl (z := 10) rfl (fun cA => arr0Z cA _) (by decide) (by decide) dX6_init_76 rfl (Nat.le_of_ble_eq_true rfl) (Nat.le_of_ble_eq_true rfl) rfl rfl rfl 10 76 rfl rfl (fun a10 la cl ela ecl => ?_)
  replace ela : la = [a0, a1, a2, a3, a4, a5, a6, a7, a8, a9, a10] := ela
  replace ecl : cl = [.inr (6, [.int 0, .int 0, .ref a1, .ref a2, .ref a3, .ref a4, .ref a5, .ref a6, .int 0, .ref a7, .ref a8, .ref a9, .null, .null, .null, .null, .int 0, .int 0, .int 0]), .inl (K 0, 4, .inl (fun _ => 0)), .inl (K 0, 4, .inl (fun _ => 0)), .inl (K 0, 4, .inl (fun _ => 0)), .inl (K 1, 8, .inl (fun _ => 0)), .inl (K 0, 8, .inl (fun _ => 0)), .inl (K 0, 8, .inl (fun _ => 0)), .inl (K 0, 10, .inl (fun _ => 0)), .inl (K 0, 10, .inl (fun _ => 0)), .inl (K 0, 10, .inl (fun _ => 0)), .inl (K 1, 10, .inl (fun _ => 0))] := ecl
  subst ela; subst ecl
  refine c_putF 81 C fl_X6_38 fp_X6 rfl (X.2.2.2.trans rfl) rfl dX6_init_78 rfl 0 (by omega) rfl rfl rfl rfl (Nat.le_of_ble_eq_true rfl) [.inr (6, [.int 0, .int 0, .ref a1, .ref a2, .ref a3, .ref a4, .ref a5, .ref a6, .int 0, .ref a7, .ref a8, .ref a9, .ref a10, .null, .null, .null, .int 0, .int 0, .int 0]), .inl (K 0, 4, .inl (fun _ => 0)), .inl (K 0, 4, .inl (fun _ => 0)), .inl (K 0, 4, .inl (fun _ => 0)), .inl (K 1, 8, .inl (fun _ => 0)), .inl (K 0, 8, .inl (fun _ => 0)), .inl (K 0, 8, .inl (fun _ => 0)), .inl (K 0, 10, .inl (fun _ => 0)), .inl (K 0, 10, .inl (fun _ => 0)), .inl (K 0, 10, .inl (fun _ => 0)), .inl (K 1, 10, .inl (fun _ => 0))] rfl ?_
  refine j_aload_n 82 C dX6_init_81 rfl rfl 0 rfl ?_
  refine j_sipush 85 C (x := nI 1089) dX6_init_82 rfl (by decide) ?_
  refine c_newa 87 48 C (ty := .int) rfl wa_int 0 (cA := K 0) rfl (z := 1089) rfl (fun cA => arr0I cA _) (by decide) (by decide) dX6_init_85 rfl (Nat.le_of_ble_eq_true rfl) (Nat.le_of_ble_eq_true rfl) rfl rfl rfl 11 1165 rfl rfl (fun a11 la cl ela ecl => ?_)
  replace ela : la = [a0, a1, a2, a3, a4, a5, a6, a7, a8, a9, a10, a11] := ela
  replace ecl : cl = [.inr (6, [.int 0, .int 0, .ref a1, .ref a2, .ref a3, .ref a4, .ref a5, .ref a6, .int 0, .ref a7, .ref a8, .ref a9, .ref a10, .null, .null, .null, .int 0, .int 0, .int 0]), .inl (K 0, 4, .inl (fun _ => 0)), .inl (K 0, 4, .inl (fun _ => 0)), .inl (K 0, 4, .inl (fun _ => 0)), .inl (K 1, 8, .inl (fun _ => 0)), .inl (K 0, 8, .inl (fun _ => 0)), .inl (K 0, 8, .inl (fun _ => 0)), .inl (K 0, 10, .inl (fun _ => 0)), .inl (K 0, 10, .inl (fun _ => 0)), .inl (K 0, 10, .inl (fun _ => 0)), .inl (K 1, 10, .inl (fun _ => 0)), .inl (K 0, 1089, .inl (fun _ => 0))] := ecl
  subst ela; subst ecl
  refine c_putF 90 C fl_X6_41 fp_X6 rfl (X.2.2.2.trans rfl) rfl dX6_init_87 rfl 0 (by omega) rfl rfl rfl rfl (Nat.le_of_ble_eq_true rfl) [.inr (6, [.int 0, .int 0, .ref a1, .ref a2, .ref a3, .ref a4, .ref a5, .ref a6, .int 0, .ref a7, .ref a8, .ref a9, .ref a10, .ref a11, .null, .null, .int 0, .int 0, .int 0]), .inl (K 0, 4, .inl (fun _ => 0)), .inl (K 0, 4, .inl (fun _ => 0)), .inl (K 0, 4, .inl (fun _ => 0)), .inl (K 1, 8, .inl (fun _ => 0)), .inl (K 0, 8, .inl (fun _ => 0)), .inl (K 0, 8, .inl (fun _ => 0)), .inl (K 0, 10, .inl (fun _ => 0)), .inl (K 0, 10, .inl (fun _ => 0)), .inl (K 0, 10, .inl (fun _ => 0)), .inl (K 1, 10, .inl (fun _ => 0)), .inl (K 0, 1089, .inl (fun _ => 0))] rfl ?_
  refine j_aload_n 91 C dX6_init_90 rfl rfl 0 rfl ?_
  refine j_sipush 94 C (x := nI 1089) dX6_init_91 rfl (by decide) ?_
  refine c_newa 96 49 C (ty := .int) rfl wa_int 0 (cA := K 0) rfl (z := 1089) rfl (fun cA => arr0I cA _) (by decide) (by decide) dX6_init_94 rfl (Nat.le_of_ble_eq_true rfl) (Nat.le_of_ble_eq_true rfl) rfl rfl rfl 12 2254 rfl rfl (fun a12 la cl ela ecl => ?_)
  replace ela : la = [a0, a1, a2, a3, a4, a5, a6, a7, a8, a9, a10, a11, a12] := ela
  replace ecl : cl = [.inr (6, [.int 0, .int 0, .ref a1, .ref a2, .ref a3, .ref a4, .ref a5, .ref a6, .int 0, .ref a7, .ref a8, .ref a9, .ref a10, .ref a11, .null, .null, .int 0, .int 0, .int 0]), .inl (K 0, 4, .inl (fun _ => 0)), .inl (K 0, 4, .inl (fun _ => 0)), .inl (K 0, 4, .inl (fun _ => 0)), .inl (K 1, 8, .inl (fun _ => 0)), .inl (K 0, 8, .inl (fun _ => 0)), .inl (K 0, 8, .inl (fun _ => 0)), .inl (K 0, 10, .inl (fun _ => 0)), .inl (K 0, 10, .inl (fun _ => 0)), .inl (K 0, 10, .inl (fun _ => 0)), .inl (K 1, 10, .inl (fun _ => 0)), .inl (K 0, 1089, .inl (fun _ => 0)), .inl (K 0, 1089, .inl (fun _ => 0))] := ecl
  subst ela; subst ecl
  refine c_putF 99 C fl_X6_44 fp_X6 rfl (X.2.2.2.trans rfl) rfl dX6_init_96 rfl 0 (by omega) rfl rfl rfl rfl (Nat.le_of_ble_eq_true rfl) [.inr (6, [.int 0, .int 0, .ref a1, .ref a2, .ref a3, .ref a4, .ref a5, .ref a6, .int 0, .ref a7, .ref a8, .ref a9, .ref a10, .ref a11, .ref a12, .null, .int 0, .int 0, .int 0]), .inl (K 0, 4, .inl (fun _ => 0)), .inl (K 0, 4, .inl (fun _ => 0)), .inl (K 0, 4, .inl (fun _ => 0)), .inl (K 1, 8, .inl (fun _ => 0)), .inl (K 0, 8, .inl (fun _ => 0)), .inl (K 0, 8, .inl (fun _ => 0)), .inl (K 0, 10, .inl (fun _ => 0)), .inl (K 0, 10, .inl (fun _ => 0)), .inl (K 0, 10, .inl (fun _ => 0)), .inl (K 1, 10, .inl (fun _ => 0)), .inl (K 0, 1089, .inl (fun _ => 0)), .inl (K 0, 1089, .inl (fun _ => 0))] rfl ?_
  refine j_aload_n 100 C dX6_init_99 rfl rfl 0 rfl ?_
  refine j_bipush 102 C (x := nI 10) dX6_init_100 rfl (by decide) ?_
  refine c_newa 104 50 C (ty := .int) rfl wa_int 0 (cA := K 0) rfl (z := 10) rfl (fun cA => arr0I cA _) (by decide) (by decide) dX6_init_102 rfl (Nat.le_of_ble_eq_true rfl) (Nat.le_of_ble_eq_true rfl) rfl rfl rfl 13 2264 rfl rfl (fun a13 la cl ela ecl => ?_)
  replace ela : la = [a0, a1, a2, a3, a4, a5, a6, a7, a8, a9, a10, a11, a12, a13] := ela
  replace ecl : cl = [.inr (6, [.int 0, .int 0, .ref a1, .ref a2, .ref a3, .ref a4, .ref a5, .ref a6, .int 0, .ref a7, .ref a8, .ref a9, .ref a10, .ref a11, .ref a12, .null, .int 0, .int 0, .int 0]), .inl (K 0, 4, .inl (fun _ => 0)), .inl (K 0, 4, .inl (fun _ => 0)), .inl (K 0, 4, .inl (fun _ => 0)), .inl (K 1, 8, .inl (fun _ => 0)), .inl (K 0, 8, .inl (fun _ => 0)), .inl (K 0, 8, .inl (fun _ => 0)), .inl (K 0, 10, .inl (fun _ => 0)), .inl (K 0, 10, .inl (fun _ => 0)), .inl (K 0, 10, .inl (fun _ => 0)), .inl (K 1, 10, .inl (fun _ => 0)), .inl (K 0, 1089, .inl (fun _ => 0)), .inl (K 0, 1089, .inl (fun _ => 0)), .inl (K 0, 10, .inl (fun _ => 0))] := ecl
  subst ela; subst ecl
  refine c_putF 107 C fl_X6_47 fp_X6 rfl (X.2.2.2.trans rfl) rfl dX6_init_104 rfl 0 (by omega) rfl rfl rfl rfl (Nat.le_of_ble_eq_true rfl) [.inr (6, [.int 0, .int 0, .ref a1, .ref a2, .ref a3, .ref a4, .ref a5, .ref a6, .int 0, .ref a7, .ref a8, .ref a9, .ref a10, .ref a11, .ref a12, .ref a13, .int 0, .int 0, .int 0]), .inl (K 0, 4, .inl (fun _ => 0)), .inl (K 0, 4, .inl (fun _ => 0)), .inl (K 0, 4, .inl (fun _ => 0)), .inl (K 1, 8, .inl (fun _ => 0)), .inl (K 0, 8, .inl (fun _ => 0)), .inl (K 0, 8, .inl (fun _ => 0)), .inl (K 0, 10, .inl (fun _ => 0)), .inl (K 0, 10, .inl (fun _ => 0)), .inl (K 0, 10, .inl (fun _ => 0)), .inl (K 1, 10, .inl (fun _ => 0)), .inl (K 0, 1089, .inl (fun _ => 0)), .inl (K 0, 1089, .inl (fun _ => 0)), .inl (K 0, 10, .inl (fun _ => 0))] rfl ?_
  refine j_aload_n 108 C dX6_init_107 rfl rfl 0 rfl ?_
  have LJ : J p l e rm_X6_init s m args below meth c Q D A H0 4 13 2264 50 (adL [a0, a1, a2, a3, a4, a5, a6, a7, a8, a9, a10, a11, a12, a13] 36 ad0) (ctL [.inr (6, [.int 0, .int 0, .ref a1, .ref a2, .ref a3, .ref a4, .ref a5, .ref a6, .int 0, .ref a7, .ref a8, .ref a9, .ref a10, .ref a11, .ref a12, .ref a13, .int 0, .int 0, .int 0]), .inl (K 0, 4, .inl (fun _ => 0)), .inl (K 0, 4, .inl (fun _ => 0)), .inl (K 0, 4, .inl (fun _ => 0)), .inl (K 1, 8, .inl (fun _ => 0)), .inl (K 0, 8, .inl (fun _ => 0)), .inl (K 0, 8, .inl (fun _ => 0)), .inl (K 0, 10, .inl (fun _ => 0)), .inl (K 0, 10, .inl (fun _ => 0)), .inl (K 0, 10, .inl (fun _ => 0)), .inl (K 1, 10, .inl (fun _ => 0)), .inl (K 0, 1089, .inl (fun _ => 0)), .inl (K 0, 1089, .inl (fun _ => 0)), .inl (K 0, 10, .inl (fun _ => 0))] 36 ct0) 129 [(0, .ref a0), (1, .int w0), (2, .int s0)] [.int (nI W), .ref a0] := by
    refine c_putF 132 C fl_X6_50 fp_X6 rfl (X.2.2.2.trans rfl) rfl dX6_init_129 rfl 0 (by omega) rfl rfl rfl rfl (Nat.le_of_ble_eq_true rfl) [.inr (6, [.int (nI W), .int 0, .ref a1, .ref a2, .ref a3, .ref a4, .ref a5, .ref a6, .int 0, .ref a7, .ref a8, .ref a9, .ref a10, .ref a11, .ref a12, .ref a13, .int 0, .int 0, .int 0]), .inl (K 0, 4, .inl (fun _ => 0)), .inl (K 0, 4, .inl (fun _ => 0)), .inl (K 0, 4, .inl (fun _ => 0)), .inl (K 1, 8, .inl (fun _ => 0)), .inl (K 0, 8, .inl (fun _ => 0)), .inl (K 0, 8, .inl (fun _ => 0)), .inl (K 0, 10, .inl (fun _ => 0)), .inl (K 0, 10, .inl (fun _ => 0)), .inl (K 0, 10, .inl (fun _ => 0)), .inl (K 1, 10, .inl (fun _ => 0)), .inl (K 0, 1089, .inl (fun _ => 0)), .inl (K 0, 1089, .inl (fun _ => 0)), .inl (K 0, 10, .inl (fun _ => 0))] rfl ?_
    refine j_aload_n 133 C dX6_init_132 rfl rfl 0 rfl ?_
    have LJ : J p l e rm_X6_init s m args below meth c Q D A H0 4 13 2264 50 (adL [a0, a1, a2, a3, a4, a5, a6, a7, a8, a9, a10, a11, a12, a13] 36 ad0) (ctL [.inr (6, [.int (nI W), .int 0, .ref a1, .ref a2, .ref a3, .ref a4, .ref a5, .ref a6, .int 0, .ref a7, .ref a8, .ref a9, .ref a10, .ref a11, .ref a12, .ref a13, .int 0, .int 0, .int 0]), .inl (K 0, 4, .inl (fun _ => 0)), .inl (K 0, 4, .inl (fun _ => 0)), .inl (K 0, 4, .inl (fun _ => 0)), .inl (K 1, 8, .inl (fun _ => 0)), .inl (K 0, 8, .inl (fun _ => 0)), .inl (K 0, 8, .inl (fun _ => 0)), .inl (K 0, 10, .inl (fun _ => 0)), .inl (K 0, 10, .inl (fun _ => 0)), .inl (K 0, 10, .inl (fun _ => 0)), .inl (K 1, 10, .inl (fun _ => 0)), .inl (K 0, 1089, .inl (fun _ => 0)), .inl (K 0, 1089, .inl (fun _ => 0)), .inl (K 0, 10, .inl (fun _ => 0))] 36 ct0) 152 [(0, .ref a0), (1, .int w0), (2, .int s0)] [.int (nI S), .ref a0] := by
      refine c_putF 155 C fl_X6_54 fp_X6 rfl (X.2.2.2.trans rfl) rfl dX6_init_152 rfl 0 (by omega) rfl rfl rfl rfl (Nat.le_of_ble_eq_true rfl) [.inr (6, [.int (nI W), .int (nI S), .ref a1, .ref a2, .ref a3, .ref a4, .ref a5, .ref a6, .int 0, .ref a7, .ref a8, .ref a9, .ref a10, .ref a11, .ref a12, .ref a13, .int 0, .int 0, .int 0]), .inl (K 0, 4, .inl (fun _ => 0)), .inl (K 0, 4, .inl (fun _ => 0)), .inl (K 0, 4, .inl (fun _ => 0)), .inl (K 1, 8, .inl (fun _ => 0)), .inl (K 0, 8, .inl (fun _ => 0)), .inl (K 0, 8, .inl (fun _ => 0)), .inl (K 0, 10, .inl (fun _ => 0)), .inl (K 0, 10, .inl (fun _ => 0)), .inl (K 0, 10, .inl (fun _ => 0)), .inl (K 1, 10, .inl (fun _ => 0)), .inl (K 0, 1089, .inl (fun _ => 0)), .inl (K 0, 1089, .inl (fun _ => 0)), .inl (K 0, 10, .inl (fun _ => 0))] rfl ?_
      refine j_iconst 156 C (x := nI 0) dX6_init_155 rfl (by decide) ?_
      refine j_istore_n 157 C [(3, .int (nI 0)), (0, .ref a0), (1, .int w0), (2, .int s0)] dX6_init_156 rfl rfl (by decide) rfl ?_
      refine j_iload_n 158 C dX6_init_157 rfl rfl 0 rfl ?_
      refine j_iconst 159 C (x := nI 4) dX6_init_158 rfl (by decide) ?_
      refine j_ic_ge 190 162 C dX6_init_159 rfl rfl (fun c9 => absurd c9 (by decide)) (fun _ => ?_)
      refine j_aload_n 163 C dX6_init_162 rfl rfl 1 rfl ?_
      refine c_get 166 C fl_X6_9 dX6_init_163 rfl 0 (by omega) rfl rfl (.ref a1) rfl ?_
      refine j_iload_n 167 C dX6_init_166 rfl rfl 0 rfl ?_
      refine j_iconst 168 C (x := nI 1) dX6_init_167 rfl (by decide) ?_
      refine c_iast 169 C dX6_init_168 rfl 1 (by omega) rfl rfl 0 rfl (vp_in_nI (by decide) (by decide)) (q := 0) (by decide) [.inr (6, [.int (nI W), .int (nI S), .ref a1, .ref a2, .ref a3, .ref a4, .ref a5, .ref a6, .int 0, .ref a7, .ref a8, .ref a9, .ref a10, .ref a11, .ref a12, .ref a13, .int 0, .int 0, .int 0]), .inl (K 0, 4, .inl (upd (fun _ => 0) 0 (nI 1))), .inl (K 0, 4, .inl (fun _ => 0)), .inl (K 0, 4, .inl (fun _ => 0)), .inl (K 1, 8, .inl (fun _ => 0)), .inl (K 0, 8, .inl (fun _ => 0)), .inl (K 0, 8, .inl (fun _ => 0)), .inl (K 0, 10, .inl (fun _ => 0)), .inl (K 0, 10, .inl (fun _ => 0)), .inl (K 0, 10, .inl (fun _ => 0)), .inl (K 1, 10, .inl (fun _ => 0)), .inl (K 0, 1089, .inl (fun _ => 0)), .inl (K 0, 1089, .inl (fun _ => 0)), .inl (K 0, 10, .inl (fun _ => 0))] rfl ?_
      refine j_aload_n 170 C dX6_init_169 rfl rfl 1 rfl ?_
      refine c_get 173 C fl_X6_13 dX6_init_170 rfl 0 (by omega) rfl rfl (.ref a2) rfl ?_
      refine j_iload_n 174 C dX6_init_173 rfl rfl 0 rfl ?_
      refine j_bipush 176 C (x := nI 60) dX6_init_174 rfl (by decide) ?_
      refine c_iast 177 C dX6_init_176 rfl 2 (by omega) rfl rfl 0 rfl (vp_in_nI (by decide) (by decide)) (q := 0) (by decide) [.inr (6, [.int (nI W), .int (nI S), .ref a1, .ref a2, .ref a3, .ref a4, .ref a5, .ref a6, .int 0, .ref a7, .ref a8, .ref a9, .ref a10, .ref a11, .ref a12, .ref a13, .int 0, .int 0, .int 0]), .inl (K 0, 4, .inl (upd (fun _ => 0) 0 (nI 1))), .inl (K 0, 4, .inl (upd (fun _ => 0) 0 (nI 60))), .inl (K 0, 4, .inl (fun _ => 0)), .inl (K 1, 8, .inl (fun _ => 0)), .inl (K 0, 8, .inl (fun _ => 0)), .inl (K 0, 8, .inl (fun _ => 0)), .inl (K 0, 10, .inl (fun _ => 0)), .inl (K 0, 10, .inl (fun _ => 0)), .inl (K 0, 10, .inl (fun _ => 0)), .inl (K 1, 10, .inl (fun _ => 0)), .inl (K 0, 1089, .inl (fun _ => 0)), .inl (K 0, 1089, .inl (fun _ => 0)), .inl (K 0, 10, .inl (fun _ => 0))] rfl ?_
      refine j_aload_n 178 C dX6_init_177 rfl rfl 1 rfl ?_
      refine c_get 181 C fl_X6_16 dX6_init_178 rfl 0 (by omega) rfl rfl (.ref a3) rfl ?_
      refine j_iload_n 182 C dX6_init_181 rfl rfl 0 rfl ?_
      refine j_iconst 183 C (x := nI 5) dX6_init_182 rfl (by decide) ?_
      refine c_iast 184 C dX6_init_183 rfl 3 (by omega) rfl rfl 0 rfl (vp_in_nI (by decide) (by decide)) (q := 0) (by decide) [.inr (6, [.int (nI W), .int (nI S), .ref a1, .ref a2, .ref a3, .ref a4, .ref a5, .ref a6, .int 0, .ref a7, .ref a8, .ref a9, .ref a10, .ref a11, .ref a12, .ref a13, .int 0, .int 0, .int 0]), .inl (K 0, 4, .inl (upd (fun _ => 0) 0 (nI 1))), .inl (K 0, 4, .inl (upd (fun _ => 0) 0 (nI 60))), .inl (K 0, 4, .inl (upd (fun _ => 0) 0 (nI 5))), .inl (K 1, 8, .inl (fun _ => 0)), .inl (K 0, 8, .inl (fun _ => 0)), .inl (K 0, 8, .inl (fun _ => 0)), .inl (K 0, 10, .inl (fun _ => 0)), .inl (K 0, 10, .inl (fun _ => 0)), .inl (K 0, 10, .inl (fun _ => 0)), .inl (K 1, 10, .inl (fun _ => 0)), .inl (K 0, 1089, .inl (fun _ => 0)), .inl (K 0, 1089, .inl (fun _ => 0)), .inl (K 0, 10, .inl (fun _ => 0))] rfl ?_
      refine j_iinc 187 C (x' := nI 1) [(3, .int (nI 1)), (0, .ref a0), (1, .int w0), (2, .int s0)] dX6_init_184 rfl 0 rfl (by decide) (by decide) rfl ?_
      refine j_goto 157 C dX6_init_187 rfl ?_
      refine j_iload_n 158 C dX6_init_157 rfl rfl 0 rfl ?_
      refine j_iconst 159 C (x := nI 4) dX6_init_158 rfl (by decide) ?_
      refine j_ic_ge 190 162 C dX6_init_159 rfl rfl (fun c9 => absurd c9 (by decide)) (fun _ => ?_)
      refine j_aload_n 163 C dX6_init_162 rfl rfl 1 rfl ?_
      refine c_get 166 C fl_X6_9 dX6_init_163 rfl 0 (by omega) rfl rfl (.ref a1) rfl ?_
      refine j_iload_n 167 C dX6_init_166 rfl rfl 0 rfl ?_
      refine j_iconst 168 C (x := nI 1) dX6_init_167 rfl (by decide) ?_
      refine c_iast 169 C dX6_init_168 rfl 1 (by omega) rfl rfl 0 rfl (vp_in_nI (by decide) (by decide)) (q := 1) (by decide) [.inr (6, [.int (nI W), .int (nI S), .ref a1, .ref a2, .ref a3, .ref a4, .ref a5, .ref a6, .int 0, .ref a7, .ref a8, .ref a9, .ref a10, .ref a11, .ref a12, .ref a13, .int 0, .int 0, .int 0]), .inl (K 0, 4, .inl (upd (upd (fun _ => 0) 0 (nI 1)) 1 (nI 1))), .inl (K 0, 4, .inl (upd (fun _ => 0) 0 (nI 60))), .inl (K 0, 4, .inl (upd (fun _ => 0) 0 (nI 5))), .inl (K 1, 8, .inl (fun _ => 0)), .inl (K 0, 8, .inl (fun _ => 0)), .inl (K 0, 8, .inl (fun _ => 0)), .inl (K 0, 10, .inl (fun _ => 0)), .inl (K 0, 10, .inl (fun _ => 0)), .inl (K 0, 10, .inl (fun _ => 0)), .inl (K 1, 10, .inl (fun _ => 0)), .inl (K 0, 1089, .inl (fun _ => 0)), .inl (K 0, 1089, .inl (fun _ => 0)), .inl (K 0, 10, .inl (fun _ => 0))] rfl ?_
      refine j_aload_n 170 C dX6_init_169 rfl rfl 1 rfl ?_
      refine c_get 173 C fl_X6_13 dX6_init_170 rfl 0 (by omega) rfl rfl (.ref a2) rfl ?_
      refine j_iload_n 174 C dX6_init_173 rfl rfl 0 rfl ?_
      refine j_bipush 176 C (x := nI 60) dX6_init_174 rfl (by decide) ?_
      refine c_iast 177 C dX6_init_176 rfl 2 (by omega) rfl rfl 0 rfl (vp_in_nI (by decide) (by decide)) (q := 1) (by decide) [.inr (6, [.int (nI W), .int (nI S), .ref a1, .ref a2, .ref a3, .ref a4, .ref a5, .ref a6, .int 0, .ref a7, .ref a8, .ref a9, .ref a10, .ref a11, .ref a12, .ref a13, .int 0, .int 0, .int 0]), .inl (K 0, 4, .inl (upd (upd (fun _ => 0) 0 (nI 1)) 1 (nI 1))), .inl (K 0, 4, .inl (upd (upd (fun _ => 0) 0 (nI 60)) 1 (nI 60))), .inl (K 0, 4, .inl (upd (fun _ => 0) 0 (nI 5))), .inl (K 1, 8, .inl (fun _ => 0)), .inl (K 0, 8, .inl (fun _ => 0)), .inl (K 0, 8, .inl (fun _ => 0)), .inl (K 0, 10, .inl (fun _ => 0)), .inl (K 0, 10, .inl (fun _ => 0)), .inl (K 0, 10, .inl (fun _ => 0)), .inl (K 1, 10, .inl (fun _ => 0)), .inl (K 0, 1089, .inl (fun _ => 0)), .inl (K 0, 1089, .inl (fun _ => 0)), .inl (K 0, 10, .inl (fun _ => 0))] rfl ?_
      refine j_aload_n 178 C dX6_init_177 rfl rfl 1 rfl ?_
      refine c_get 181 C fl_X6_16 dX6_init_178 rfl 0 (by omega) rfl rfl (.ref a3) rfl ?_
      refine j_iload_n 182 C dX6_init_181 rfl rfl 0 rfl ?_
      refine j_iconst 183 C (x := nI 5) dX6_init_182 rfl (by decide) ?_
      refine c_iast 184 C dX6_init_183 rfl 3 (by omega) rfl rfl 0 rfl (vp_in_nI (by decide) (by decide)) (q := 1) (by decide) [.inr (6, [.int (nI W), .int (nI S), .ref a1, .ref a2, .ref a3, .ref a4, .ref a5, .ref a6, .int 0, .ref a7, .ref a8, .ref a9, .ref a10, .ref a11, .ref a12, .ref a13, .int 0, .int 0, .int 0]), .inl (K 0, 4, .inl (upd (upd (fun _ => 0) 0 (nI 1)) 1 (nI 1))), .inl (K 0, 4, .inl (upd (upd (fun _ => 0) 0 (nI 60)) 1 (nI 60))), .inl (K 0, 4, .inl (upd (upd (fun _ => 0) 0 (nI 5)) 1 (nI 5))), .inl (K 1, 8, .inl (fun _ => 0)), .inl (K 0, 8, .inl (fun _ => 0)), .inl (K 0, 8, .inl (fun _ => 0)), .inl (K 0, 10, .inl (fun _ => 0)), .inl (K 0, 10, .inl (fun _ => 0)), .inl (K 0, 10, .inl (fun _ => 0)), .inl (K 1, 10, .inl (fun _ => 0)), .inl (K 0, 1089, .inl (fun _ => 0)), .inl (K 0, 1089, .inl (fun _ => 0)), .inl (K 0, 10, .inl (fun _ => 0))] rfl ?_
      refine j_iinc 187 C (x' := nI 2) [(3, .int (nI 2)), (0, .ref a0), (1, .int w0), (2, .int s0)] dX6_init_184 rfl 0 rfl (by decide) (by decide) rfl ?_
      refine j_goto 157 C dX6_init_187 rfl ?_
      refine j_iload_n 158 C dX6_init_157 rfl rfl 0 rfl ?_
      refine j_iconst 159 C (x := nI 4) dX6_init_158 rfl (by decide) ?_
      refine j_ic_ge 190 162 C dX6_init_159 rfl rfl (fun c9 => absurd c9 (by decide)) (fun _ => ?_)
      refine j_aload_n 163 C dX6_init_162 rfl rfl 1 rfl ?_
      refine c_get 166 C fl_X6_9 dX6_init_163 rfl 0 (by omega) rfl rfl (.ref a1) rfl ?_
      refine j_iload_n 167 C dX6_init_166 rfl rfl 0 rfl ?_
      refine j_iconst 168 C (x := nI 1) dX6_init_167 rfl (by decide) ?_
      refine c_iast 169 C dX6_init_168 rfl 1 (by omega) rfl rfl 0 rfl (vp_in_nI (by decide) (by decide)) (q := 2) (by decide) [.inr (6, [.int (nI W), .int (nI S), .ref a1, .ref a2, .ref a3, .ref a4, .ref a5, .ref a6, .int 0, .ref a7, .ref a8, .ref a9, .ref a10, .ref a11, .ref a12, .ref a13, .int 0, .int 0, .int 0]), .inl (K 0, 4, .inl (upd (upd (upd (fun _ => 0) 0 (nI 1)) 1 (nI 1)) 2 (nI 1))), .inl (K 0, 4, .inl (upd (upd (fun _ => 0) 0 (nI 60)) 1 (nI 60))), .inl (K 0, 4, .inl (upd (upd (fun _ => 0) 0 (nI 5)) 1 (nI 5))), .inl (K 1, 8, .inl (fun _ => 0)), .inl (K 0, 8, .inl (fun _ => 0)), .inl (K 0, 8, .inl (fun _ => 0)), .inl (K 0, 10, .inl (fun _ => 0)), .inl (K 0, 10, .inl (fun _ => 0)), .inl (K 0, 10, .inl (fun _ => 0)), .inl (K 1, 10, .inl (fun _ => 0)), .inl (K 0, 1089, .inl (fun _ => 0)), .inl (K 0, 1089, .inl (fun _ => 0)), .inl (K 0, 10, .inl (fun _ => 0))] rfl ?_
      refine j_aload_n 170 C dX6_init_169 rfl rfl 1 rfl ?_
      refine c_get 173 C fl_X6_13 dX6_init_170 rfl 0 (by omega) rfl rfl (.ref a2) rfl ?_
      refine j_iload_n 174 C dX6_init_173 rfl rfl 0 rfl ?_
      refine j_bipush 176 C (x := nI 60) dX6_init_174 rfl (by decide) ?_
      refine c_iast 177 C dX6_init_176 rfl 2 (by omega) rfl rfl 0 rfl (vp_in_nI (by decide) (by decide)) (q := 2) (by decide) [.inr (6, [.int (nI W), .int (nI S), .ref a1, .ref a2, .ref a3, .ref a4, .ref a5, .ref a6, .int 0, .ref a7, .ref a8, .ref a9, .ref a10, .ref a11, .ref a12, .ref a13, .int 0, .int 0, .int 0]), .inl (K 0, 4, .inl (upd (upd (upd (fun _ => 0) 0 (nI 1)) 1 (nI 1)) 2 (nI 1))), .inl (K 0, 4, .inl (upd (upd (upd (fun _ => 0) 0 (nI 60)) 1 (nI 60)) 2 (nI 60))), .inl (K 0, 4, .inl (upd (upd (fun _ => 0) 0 (nI 5)) 1 (nI 5))), .inl (K 1, 8, .inl (fun _ => 0)), .inl (K 0, 8, .inl (fun _ => 0)), .inl (K 0, 8, .inl (fun _ => 0)), .inl (K 0, 10, .inl (fun _ => 0)), .inl (K 0, 10, .inl (fun _ => 0)), .inl (K 0, 10, .inl (fun _ => 0)), .inl (K 1, 10, .inl (fun _ => 0)), .inl (K 0, 1089, .inl (fun _ => 0)), .inl (K 0, 1089, .inl (fun _ => 0)), .inl (K 0, 10, .inl (fun _ => 0))] rfl ?_
      refine j_aload_n 178 C dX6_init_177 rfl rfl 1 rfl ?_
      refine c_get 181 C fl_X6_16 dX6_init_178 rfl 0 (by omega) rfl rfl (.ref a3) rfl ?_
      refine j_iload_n 182 C dX6_init_181 rfl rfl 0 rfl ?_
      refine j_iconst 183 C (x := nI 5) dX6_init_182 rfl (by decide) ?_
      refine c_iast 184 C dX6_init_183 rfl 3 (by omega) rfl rfl 0 rfl (vp_in_nI (by decide) (by decide)) (q := 2) (by decide) [.inr (6, [.int (nI W), .int (nI S), .ref a1, .ref a2, .ref a3, .ref a4, .ref a5, .ref a6, .int 0, .ref a7, .ref a8, .ref a9, .ref a10, .ref a11, .ref a12, .ref a13, .int 0, .int 0, .int 0]), .inl (K 0, 4, .inl (upd (upd (upd (fun _ => 0) 0 (nI 1)) 1 (nI 1)) 2 (nI 1))), .inl (K 0, 4, .inl (upd (upd (upd (fun _ => 0) 0 (nI 60)) 1 (nI 60)) 2 (nI 60))), .inl (K 0, 4, .inl (upd (upd (upd (fun _ => 0) 0 (nI 5)) 1 (nI 5)) 2 (nI 5))), .inl (K 1, 8, .inl (fun _ => 0)), .inl (K 0, 8, .inl (fun _ => 0)), .inl (K 0, 8, .inl (fun _ => 0)), .inl (K 0, 10, .inl (fun _ => 0)), .inl (K 0, 10, .inl (fun _ => 0)), .inl (K 0, 10, .inl (fun _ => 0)), .inl (K 1, 10, .inl (fun _ => 0)), .inl (K 0, 1089, .inl (fun _ => 0)), .inl (K 0, 1089, .inl (fun _ => 0)), .inl (K 0, 10, .inl (fun _ => 0))] rfl ?_
      refine j_iinc 187 C (x' := nI 3) [(3, .int (nI 3)), (0, .ref a0), (1, .int w0), (2, .int s0)] dX6_init_184 rfl 0 rfl (by decide) (by decide) rfl ?_
      refine j_goto 157 C dX6_init_187 rfl ?_
      refine j_iload_n 158 C dX6_init_157 rfl rfl 0 rfl ?_
      refine j_iconst 159 C (x := nI 4) dX6_init_158 rfl (by decide) ?_
      refine j_ic_ge 190 162 C dX6_init_159 rfl rfl (fun c9 => absurd c9 (by decide)) (fun _ => ?_)
      refine j_aload_n 163 C dX6_init_162 rfl rfl 1 rfl ?_
      refine c_get 166 C fl_X6_9 dX6_init_163 rfl 0 (by omega) rfl rfl (.ref a1) rfl ?_
      refine j_iload_n 167 C dX6_init_166 rfl rfl 0 rfl ?_
      refine j_iconst 168 C (x := nI 1) dX6_init_167 rfl (by decide) ?_
      refine c_iast 169 C dX6_init_168 rfl 1 (by omega) rfl rfl 0 rfl (vp_in_nI (by decide) (by decide)) (q := 3) (by decide) [.inr (6, [.int (nI W), .int (nI S), .ref a1, .ref a2, .ref a3, .ref a4, .ref a5, .ref a6, .int 0, .ref a7, .ref a8, .ref a9, .ref a10, .ref a11, .ref a12, .ref a13, .int 0, .int 0, .int 0]), .inl (K 0, 4, .inl (upd (upd (upd (upd (fun _ => 0) 0 (nI 1)) 1 (nI 1)) 2 (nI 1)) 3 (nI 1))), .inl (K 0, 4, .inl (upd (upd (upd (fun _ => 0) 0 (nI 60)) 1 (nI 60)) 2 (nI 60))), .inl (K 0, 4, .inl (upd (upd (upd (fun _ => 0) 0 (nI 5)) 1 (nI 5)) 2 (nI 5))), .inl (K 1, 8, .inl (fun _ => 0)), .inl (K 0, 8, .inl (fun _ => 0)), .inl (K 0, 8, .inl (fun _ => 0)), .inl (K 0, 10, .inl (fun _ => 0)), .inl (K 0, 10, .inl (fun _ => 0)), .inl (K 0, 10, .inl (fun _ => 0)), .inl (K 1, 10, .inl (fun _ => 0)), .inl (K 0, 1089, .inl (fun _ => 0)), .inl (K 0, 1089, .inl (fun _ => 0)), .inl (K 0, 10, .inl (fun _ => 0))] rfl ?_
      refine j_aload_n 170 C dX6_init_169 rfl rfl 1 rfl ?_
      refine c_get 173 C fl_X6_13 dX6_init_170 rfl 0 (by omega) rfl rfl (.ref a2) rfl ?_
      refine j_iload_n 174 C dX6_init_173 rfl rfl 0 rfl ?_
      refine j_bipush 176 C (x := nI 60) dX6_init_174 rfl (by decide) ?_
      refine c_iast 177 C dX6_init_176 rfl 2 (by omega) rfl rfl 0 rfl (vp_in_nI (by decide) (by decide)) (q := 3) (by decide) [.inr (6, [.int (nI W), .int (nI S), .ref a1, .ref a2, .ref a3, .ref a4, .ref a5, .ref a6, .int 0, .ref a7, .ref a8, .ref a9, .ref a10, .ref a11, .ref a12, .ref a13, .int 0, .int 0, .int 0]), .inl (K 0, 4, .inl (upd (upd (upd (upd (fun _ => 0) 0 (nI 1)) 1 (nI 1)) 2 (nI 1)) 3 (nI 1))), .inl (K 0, 4, .inl (upd (upd (upd (upd (fun _ => 0) 0 (nI 60)) 1 (nI 60)) 2 (nI 60)) 3 (nI 60))), .inl (K 0, 4, .inl (upd (upd (upd (fun _ => 0) 0 (nI 5)) 1 (nI 5)) 2 (nI 5))), .inl (K 1, 8, .inl (fun _ => 0)), .inl (K 0, 8, .inl (fun _ => 0)), .inl (K 0, 8, .inl (fun _ => 0)), .inl (K 0, 10, .inl (fun _ => 0)), .inl (K 0, 10, .inl (fun _ => 0)), .inl (K 0, 10, .inl (fun _ => 0)), .inl (K 1, 10, .inl (fun _ => 0)), .inl (K 0, 1089, .inl (fun _ => 0)), .inl (K 0, 1089, .inl (fun _ => 0)), .inl (K 0, 10, .inl (fun _ => 0))] rfl ?_
      refine j_aload_n 178 C dX6_init_177 rfl rfl 1 rfl ?_
      refine c_get 181 C fl_X6_16 dX6_init_178 rfl 0 (by omega) rfl rfl (.ref a3) rfl ?_
      refine j_iload_n 182 C dX6_init_181 rfl rfl 0 rfl ?_
      refine j_iconst 183 C (x := nI 5) dX6_init_182 rfl (by decide) ?_
      refine c_iast 184 C dX6_init_183 rfl 3 (by omega) rfl rfl 0 rfl (vp_in_nI (by decide) (by decide)) (q := 3) (by decide) [.inr (6, [.int (nI W), .int (nI S), .ref a1, .ref a2, .ref a3, .ref a4, .ref a5, .ref a6, .int 0, .ref a7, .ref a8, .ref a9, .ref a10, .ref a11, .ref a12, .ref a13, .int 0, .int 0, .int 0]), .inl (K 0, 4, .inl (upd (upd (upd (upd (fun _ => 0) 0 (nI 1)) 1 (nI 1)) 2 (nI 1)) 3 (nI 1))), .inl (K 0, 4, .inl (upd (upd (upd (upd (fun _ => 0) 0 (nI 60)) 1 (nI 60)) 2 (nI 60)) 3 (nI 60))), .inl (K 0, 4, .inl (upd (upd (upd (upd (fun _ => 0) 0 (nI 5)) 1 (nI 5)) 2 (nI 5)) 3 (nI 5))), .inl (K 1, 8, .inl (fun _ => 0)), .inl (K 0, 8, .inl (fun _ => 0)), .inl (K 0, 8, .inl (fun _ => 0)), .inl (K 0, 10, .inl (fun _ => 0)), .inl (K 0, 10, .inl (fun _ => 0)), .inl (K 0, 10, .inl (fun _ => 0)), .inl (K 1, 10, .inl (fun _ => 0)), .inl (K 0, 1089, .inl (fun _ => 0)), .inl (K 0, 1089, .inl (fun _ => 0)), .inl (K 0, 10, .inl (fun _ => 0))] rfl ?_
      refine j_iinc 187 C (x' := nI 4) [(3, .int (nI 4)), (0, .ref a0), (1, .int w0), (2, .int s0)] dX6_init_184 rfl 0 rfl (by decide) (by decide) rfl ?_
      refine j_goto 157 C dX6_init_187 rfl ?_
      refine j_iload_n 158 C dX6_init_157 rfl rfl 0 rfl ?_
      refine j_iconst 159 C (x := nI 4) dX6_init_158 rfl (by decide) ?_
      refine j_ic_ge 190 162 C dX6_init_159 rfl rfl (fun _ => ?_) (fun c9 => absurd (by decide) c9)
      exact j_retV C X dX6_init_190 ⟨rfl, rfl, fun r hr => ad_out h0 hr, fun r hr => ctL_lo hr, ⟨fun r => if r = 37 then (upd (upd (upd (upd (fun _ => 0) 0 (nI 1)) 1 (nI 1)) 2 (nI 1)) 3 (nI 1)) else if r = 38 then (upd (upd (upd (upd (fun _ => 0) 0 (nI 60)) 1 (nI 60)) 2 (nI 60)) 3 (nI 60)) else if r = 39 then (upd (upd (upd (upd (fun _ => 0) 0 (nI 5)) 1 (nI 5)) 2 (nI 5)) 3 (nI 5)) else fun _ => 0, fun r h1 h7 => (by match r, h1, h7 with | 36, _, _ => rfl | 37, _, _ => rfl | 38, _, _ => rfl | 39, _, _ => rfl | 40, _, _ => rfl | 41, _, _ => rfl | 42, _, _ => rfl | 43, _, _ => rfl | 44, _, _ => rfl | 45, _, _ => rfl | 46, _, _ => rfl | 47, _, _ => rfl | 48, _, _ => rfl | 49, _, _ => rfl | r + 50, _, hh => exact absurd hh (by omega)), fun j hj => (by match j, hj with | 0, _ => exact ⟨rfl, rfl, rfl⟩ | 1, _ => exact ⟨rfl, rfl, rfl⟩ | 2, _ => exact ⟨rfl, rfl, rfl⟩ | 3, _ => exact ⟨rfl, rfl, rfl⟩), fun r j h7 h8 h9 => (by show (if r = 37 then _ else if r = 38 then _ else if r = 39 then _ else _ : Nat → Int32) j = 0; rw [if_neg h7, if_neg h8, if_neg h9])⟩⟩
    refine j_iload_n 134 C dX6_init_133 rfl rfl 2 rfl ?_
    refine j_iconst 135 C (x := nI 1) dX6_init_134 rfl (by decide) ?_
    refine j_ic_ge 142 138 C dX6_init_135 rfl rfl (fun c1 => ?_) (fun c1 => ?_)
    · skip
      refine j_iload_n 143 C dX6_init_142 rfl rfl 2 rfl ?_
      refine j_iconst 144 C (x := nI 4) dX6_init_143 rfl (by decide) ?_
      refine j_ic_le 151 147 C dX6_init_144 rfl rfl (fun c2 => ?_) (fun c2 => ?_)
      · skip
        refine j_iload_n 152 C dX6_init_151 rfl rfl 2 rfl ?_
        exact j_st (by rw [← hs, clampI, if_neg (Int32.not_lt.mpr c1), if_neg (Int32.not_lt.mpr c2)]) LJ
      · skip
        refine j_iconst 148 C (x := nI 4) dX6_init_147 rfl (by decide) ?_
        refine j_goto 152 C dX6_init_148 rfl ?_
        exact j_st (by rw [← hs, clampI, if_neg (Int32.not_lt.mpr c1), if_pos (Int32.not_le.mp c2)]) LJ
    · skip
      refine j_iconst 139 C (x := nI 1) dX6_init_138 rfl (by decide) ?_
      refine j_goto 152 C dX6_init_139 rfl ?_
      exact j_st (by rw [← hs, clampI, if_pos (Int32.not_le.mp c1)]) LJ
  refine j_iload_n 109 C dX6_init_108 rfl rfl 1 rfl ?_
  refine j_iconst 110 C (x := nI 2) dX6_init_109 rfl (by decide) ?_
  refine j_ic_ge 117 113 C dX6_init_110 rfl rfl (fun c1 => ?_) (fun c1 => ?_)
  · skip
    refine j_iload_n 118 C dX6_init_117 rfl rfl 1 rfl ?_
    refine j_bipush 120 C (x := nI 8) dX6_init_118 rfl (by decide) ?_
    refine j_ic_le 128 123 C dX6_init_120 rfl rfl (fun c2 => ?_) (fun c2 => ?_)
    · skip
      refine j_iload_n 129 C dX6_init_128 rfl rfl 1 rfl ?_
      exact j_st (by rw [← hw, clampI, if_neg (Int32.not_lt.mpr c1), if_neg (Int32.not_lt.mpr c2)]) LJ
    · skip
      refine j_bipush 125 C (x := nI 8) dX6_init_123 rfl (by decide) ?_
      refine j_goto 129 C dX6_init_125 rfl ?_
      exact j_st (by rw [← hw, clampI, if_neg (Int32.not_lt.mpr c1), if_pos (Int32.not_le.mp c2)]) LJ
  · skip
    refine j_iconst 114 C (x := nI 2) dX6_init_113 rfl (by decide) ?_
    refine j_goto 129 C dX6_init_114 rfl ?_
    exact j_st (by rw [← hw, clampI, if_pos (Int32.not_le.mp c1)]) LJ

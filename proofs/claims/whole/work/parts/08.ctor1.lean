theorem ad_in {ad : Nat → Nat} {n0 r a : Nat} (h : ad n0 = a) (hr : r < n0 + 1) : ad r = adL [a] n0 ad r := by
  rcases Nat.lt_or_ge r n0 with q | q
  · rw [adL_lo q]
  · have e : r = n0 := by omega
    subst e
    rw [h]
    exact (adL_hi (i := 0) (n0 := r) rfl).symm
theorem ct_in {ct : Nat → va_E} {n0 r : Nat} {x : va_E} (h : ct n0 = x) (hr : r < n0 + 1) : ct r = ctL [x] n0 ct r := by
  rcases Nat.lt_or_ge r n0 with q | q
  · rw [ctL_lo q]
  · have e : r = n0 := by omega
    subst e
    rw [h]
    exact (ctL_hi (i := 0) (n0 := r) rfl).symm
/-- a constructor's end: n more cells; what was there stays, but the object itself -/
def CB (n0 n : Nat) (ad0 : Nat → Nat) (ct0 : Nat → va_E) (P : (Nat → Nat) → (Nat → va_E) → Prop) : Option Value → Nat → (Nat → Nat) → (Nat → va_E) → Prop := fun v N' ad' ct' => v = none ∧ N' = n0 + n ∧ (∀ r, r < n0 + 1 → ad' r = ad0 r) ∧ (∀ r, r < n0 → ct' r = ct0 r) ∧ P ad' ct'
theorem ad_out {ad : Nat → Nat} {n0 r a : Nat} {la : List Nat} (h : ad n0 = a) (hr : r < n0 + 1) : adL (a :: la) n0 ad r = ad r := by
  rcases Nat.lt_or_ge r n0 with q | q
  · rw [adL_lo q]
  · have e : r = n0 := by omega
    subst e
    rw [h]
    exact adL_hi (i := 0) (n0 := r) rfl
theorem maxlo {a b : Nat} (ha : a < 2 ^ 31) (hb : b < 2 ^ 31) (h : b ≤ a) : (if nI a < nI b then nI b else nI a) = nI a := if_neg (fun q => by have := (nI_ltI ha hb).mp q; omega)
theorem min32 {pl : Nat} (h : pl ≤ 32) : (if nI 32 < nI pl then nI 32 else nI pl) = nI pl := if_neg (fun q => by have := (nI_ltI (by decide) (by omega)).mp q; omega)
theorem max0 {pl : Nat} (h : pl ≤ 32) : (if nI 0 < nI pl then nI pl else nI 0) = nI pl := by
  by_cases h1 : nI 0 < nI pl
  · exact if_pos h1
  · have h2 : pl = 0 := by
      have h3 : ¬ 0 < pl := fun q => h1 ((nI_ltI (by decide) (by omega)).mpr q)
      omega
    subst h2
    exact if_neg h1
abbrev rm_X1_init (pl : Nat) : Room := { frames := 1, cells := 1, slots := (pl + 1) * (pl + 1), locals := 40 }
set_option maxHeartbeats 8000000 in
set_option maxRecDepth 100000 in
theorem c_X1_init {l : Launch} {D : va_G} {K : Nat → ClassId} {ad0 : Nat → Nat} {ct0 : Nat → va_E} {n0 pl : Nat} {a0 : Nat} (h0 : ad0 n0 = a0) (hf : ct0 n0 = .inr (1, [.int 0, .null])) (hpl : pl ≤ 32) : MC l yX1_init cX1_init 2 none (rm_X1_init pl) D (TY K) (n0 + 1) ad0 ct0 (.ref a0 :: [.int (nI pl)]) (CB n0 2 ad0 ct0 (fun ad' ct' => ct' n0 = .inr (1, [.int (nI (pl + 1)), .ref (ad' (n0 + 1))]) ∧ ct' (n0 + 1) = .inl (K 0, (pl + 1) * (pl + 1), .inl (fun _ => 0)))) := by
  refine MC.of (by decide) (Nat.le_of_ble_eq_true rfl) (fun p e s m args below meth c Q A H0 C X => ?_)
  replace C : Cx p s m args meth c cX1_init RX1 2 D (TY K) A H0 := C
  refine j_ww (ad' := adL [a0] n0 ad0) (ct' := ctL [.inr (1, [.int 0, .null])] n0 ct0) rfl (fun r hr => ad_in h0 hr) (fun r hr => ct_in hf hr) ?_
  show J p l e (rm_X1_init pl) s m args below meth c Q D A H0 2 0 0 (n0 + 1) (adL [a0] n0 ad0) (ctL [.inr (1, [.int 0, .null])] n0 ct0) 0 [(0, .ref a0), (1, .int (nI pl))] []
  refine j_aload_n 1 C dX1_init_0 rfl rfl 0 rfl ?_
  refine j_objInit 4 C wl_X1_3 dX1_init_1 rfl (Nat.le_of_ble_eq_true rfl) (Nat.le_of_ble_eq_true rfl) ?_
  refine j_aload_n 5 C dX1_init_4 rfl rfl 0 rfl ?_
  refine j_iconst 6 C (x := nI 0) dX1_init_5 rfl (by decide) ?_
  refine j_iload_n 7 C dX1_init_6 rfl rfl 1 rfl ?_
  refine j_bipush 9 C (x := nI 32) dX1_init_7 rfl (by decide) ?_
  refine j_mmin 12 C wl_X1_11 (z := nI pl) (min32 hpl) dX1_init_9 rfl (Nat.le_of_ble_eq_true rfl) (Nat.le_of_ble_eq_true rfl) (by omega) (by omega) ?_
  refine j_mmax 15 C wl_X1_17 (z := nI pl) (max0 hpl) dX1_init_12 rfl (Nat.le_of_ble_eq_true rfl) (Nat.le_of_ble_eq_true rfl) (by omega) (by omega) ?_
  refine j_iconst 16 C (x := nI 1) dX1_init_15 rfl (by decide) ?_
  refine j_iadd 17 C (z := nI (pl + 1)) dX1_init_16 rfl (nI_add _ _) ?_
  refine c_putF 20 C fl_X1_20 fp_X1 rfl (X.2.2.2.trans rfl) rfl dX1_init_17 rfl 0 (by omega) rfl rfl rfl rfl (Nat.le_of_ble_eq_true rfl) [.inr (1, [.int (nI (pl + 1)), .null])] rfl ?_
  refine j_aload_n 21 C dX1_init_20 rfl rfl 0 rfl ?_
  refine j_aload_n 22 C dX1_init_21 rfl rfl 0 rfl ?_
  refine c_get 25 C fl_X1_20 dX1_init_22 rfl 0 (by omega) rfl rfl (.int (nI (pl + 1))) rfl ?_
  refine j_aload_n 26 C dX1_init_25 rfl rfl 0 rfl ?_
  refine c_get 29 C fl_X1_20 dX1_init_26 rfl 0 (by omega) rfl rfl (.int (nI (pl + 1))) rfl ?_
  refine j_imul 30 C (z := nI ((pl + 1) * (pl + 1))) dX1_init_29 rfl (pk_mul _ _) ?_
  refine c_newa 32 (n0 + 2) C (ty := .int) rfl wa_int 0 (cA := K 0) rfl (z := ((pl + 1) * (pl + 1))) rfl (fun cA => arr0I cA _) (zz31 (by omega)) (by have := Nat.mul_le_mul (show pl + 1 ≤ 33 by omega) (show pl + 1 ≤ 33 by omega); show _ * 4 ≤ _; omega) dX1_init_30 rfl (Nat.le_refl _) (by show 0 + (pl + 1) * (pl + 1) ≤ (pl + 1) * (pl + 1); omega) rfl rfl rfl 1 ((pl + 1) * (pl + 1)) rfl (Nat.zero_add _) (fun a1 la cl ela ecl => ?_)
  replace ela : la = [a0, a1] := ela
  replace ecl : cl = [.inr (1, [.int (nI (pl + 1)), .null]), .inl (K 0, ((pl + 1) * (pl + 1)), .inl (fun _ => 0))] := ecl
  subst ela; subst ecl
  refine c_putF 35 C fl_X1_24 fp_X1 rfl (X.2.2.2.trans rfl) rfl dX1_init_32 rfl 0 (by omega) rfl rfl rfl rfl (Nat.le_of_ble_eq_true rfl) [.inr (1, [.int (nI (pl + 1)), .ref a1]), .inl (K 0, ((pl + 1) * (pl + 1)), .inl (fun _ => 0))] rfl ?_
  exact j_retV C X dX1_init_35 ⟨rfl, rfl, fun r hr => ad_out h0 hr, fun r hr => ctL_lo hr, ⟨ctL_hi (i := 0) (n0 := n0) (by show (_ : Option va_E) = some (Sum.inr (1, [Value.int (nI (pl + 1)), Value.ref (adL [a0, a1] n0 ad0 (n0 + 1))])); rw [adL_hi (i := 1) (a := a1) rfl]; rfl), ctL_hi (i := 1) (n0 := n0) rfl⟩⟩
abbrev rm_X3_init : Room := { frames := 1, cells := 0, slots := 0, locals := 40 }
set_option maxHeartbeats 8000000 in
set_option maxRecDepth 100000 in
theorem c_X3_init {l : Launch} {D : va_G} {K : Nat → ClassId} {ad0 : Nat → Nat} {ct0 : Nat → va_E} {n0 : Nat} {x1 x2 x3 x4 x5 : Int32} {a0 : Nat} (h0 : ad0 n0 = a0) (hf : ct0 n0 = .inr (3, [.int 0, .int 0, .int 0, .int 0, .int 0]))  : MC l yX3_init cX3_init 6 none (rm_X3_init) D (TY K) (n0 + 1) ad0 ct0 (.ref a0 :: [.int x1, .int x2, .int x3, .int x4, .int x5]) (CB n0 1 ad0 ct0 (fun _ ct' => ct' n0 = .inr (3, [.int x1, .int x2, .int x3, .int x4, .int x5]))) := by
  refine MC.of (by decide) (Nat.le_of_ble_eq_true rfl) (fun p e s m args below meth c Q A H0 C X => ?_)
  replace C : Cx p s m args meth c cX3_init RX3 6 D (TY K) A H0 := C
  refine j_ww (ad' := adL [a0] n0 ad0) (ct' := ctL [.inr (3, [.int 0, .int 0, .int 0, .int 0, .int 0])] n0 ct0) rfl (fun r hr => ad_in h0 hr) (fun r hr => ct_in hf hr) ?_
  show J p l e (rm_X3_init) s m args below meth c Q D A H0 6 0 0 (n0 + 1) (adL [a0] n0 ad0) (ctL [.inr (3, [.int 0, .int 0, .int 0, .int 0, .int 0])] n0 ct0) 0 [(0, .ref a0), (1, .int x1), (2, .int x2), (3, .int x3), (4, .int x4), (5, .int x5)] []
  refine j_aload_n 1 C dX3_init_0 rfl rfl 0 rfl ?_
  refine j_objInit 4 C wl_X3_3 dX3_init_1 rfl (Nat.le_of_ble_eq_true rfl) (Nat.le_of_ble_eq_true rfl) ?_
  refine j_aload_n 5 C dX3_init_4 rfl rfl 0 rfl ?_
  refine j_iload_n 6 C dX3_init_5 rfl rfl 1 rfl ?_
  refine c_putF 9 C fl_X3_9 fp_X3 rfl (X.2.2.2.trans rfl) rfl dX3_init_6 rfl 0 (by omega) rfl rfl rfl rfl (Nat.le_of_ble_eq_true rfl) [.inr (3, [.int x1, .int 0, .int 0, .int 0, .int 0])] rfl ?_
  refine j_aload_n 10 C dX3_init_9 rfl rfl 0 rfl ?_
  refine j_iload_n 11 C dX3_init_10 rfl rfl 2 rfl ?_
  refine c_putF 14 C fl_X3_15 fp_X3 rfl (X.2.2.2.trans rfl) rfl dX3_init_11 rfl 0 (by omega) rfl rfl rfl rfl (Nat.le_of_ble_eq_true rfl) [.inr (3, [.int x1, .int x2, .int 0, .int 0, .int 0])] rfl ?_
  refine j_aload_n 15 C dX3_init_14 rfl rfl 0 rfl ?_
  refine j_iload_n 16 C dX3_init_15 rfl rfl 3 rfl ?_
  refine c_putF 19 C fl_X3_18 fp_X3 rfl (X.2.2.2.trans rfl) rfl dX3_init_16 rfl 0 (by omega) rfl rfl rfl rfl (Nat.le_of_ble_eq_true rfl) [.inr (3, [.int x1, .int x2, .int x3, .int 0, .int 0])] rfl ?_
  refine j_aload_n 20 C dX3_init_19 rfl rfl 0 rfl ?_
  refine j_iload 22 C dX3_init_20 rfl 4 rfl ?_
  refine c_putF 25 C fl_X3_21 fp_X3 rfl (X.2.2.2.trans rfl) rfl dX3_init_22 rfl 0 (by omega) rfl rfl rfl rfl (Nat.le_of_ble_eq_true rfl) [.inr (3, [.int x1, .int x2, .int x3, .int x4, .int 0])] rfl ?_
  refine j_aload_n 26 C dX3_init_25 rfl rfl 0 rfl ?_
  refine j_iload 28 C dX3_init_26 rfl 5 rfl ?_
  refine c_putF 31 C fl_X3_24 fp_X3 rfl (X.2.2.2.trans rfl) rfl dX3_init_28 rfl 0 (by omega) rfl rfl rfl rfl (Nat.le_of_ble_eq_true rfl) [.inr (3, [.int x1, .int x2, .int x3, .int x4, .int x5])] rfl ?_
  exact j_retV C X dX3_init_31 ⟨rfl, rfl, fun r hr => ad_out h0 hr, fun r hr => ctL_lo hr, ctL_hi (i := 0) (n0 := n0) rfl⟩
abbrev rm_X4_init : Room := { frames := 1, cells := 1, slots := 10, locals := 40 }
set_option maxHeartbeats 8000000 in
set_option maxRecDepth 100000 in
theorem c_X4_init {l : Launch} {D : va_G} {K : Nat → ClassId} {ad0 : Nat → Nat} {ct0 : Nat → va_E} {n0 : Nat} {a0 : Nat} (h0 : ad0 n0 = a0) (hf : ct0 n0 = .inr (4, [.null, .int 0]))  : MC l yX4_init cX4_init 1 none (rm_X4_init) D (TY K) (n0 + 1) ad0 ct0 (.ref a0 :: []) (CB n0 2 ad0 ct0 (fun ad' ct' => ct' n0 = .inr (4, [.ref (ad' (n0 + 1)), .int (nI 0)]) ∧ ct' (n0 + 1) = .inl (K 3, 10, .inr (.inr (.inr (.inr (fun _ => none))))))) := by
  refine MC.of (by decide) (Nat.le_of_ble_eq_true rfl) (fun p e s m args below meth c Q A H0 C X => ?_)
  replace C : Cx p s m args meth c cX4_init RX4 1 D (TY K) A H0 := C
  refine j_ww (ad' := adL [a0] n0 ad0) (ct' := ctL [.inr (4, [.null, .int 0])] n0 ct0) rfl (fun r hr => ad_in h0 hr) (fun r hr => ct_in hf hr) ?_
  show J p l e (rm_X4_init) s m args below meth c Q D A H0 1 0 0 (n0 + 1) (adL [a0] n0 ad0) (ctL [.inr (4, [.null, .int 0])] n0 ct0) 0 [(0, .ref a0)] []
  refine j_aload_n 1 C dX4_init_0 rfl rfl 0 rfl ?_
  refine j_objInit 4 C wl_X4_3 dX4_init_1 rfl (Nat.le_of_ble_eq_true rfl) (Nat.le_of_ble_eq_true rfl) ?_
  refine j_aload_n 5 C dX4_init_4 rfl rfl 0 rfl ?_
  refine j_bipush 7 C (x := nI 10) dX4_init_5 rfl (by decide) ?_
  refine c_newq 10 (n0 + 2) C wk_X4_9 C.2.1.2.2.1 3 (cA := K 3) rfl (z := 10) rfl (by decide) (by decide) dX4_init_7 rfl (Nat.le_refl _) (Nat.le_refl _) rfl rfl rfl 1 10 rfl rfl (fun a1 la cl ela ecl => ?_)
  replace ela : la = [a0, a1] := ela
  replace ecl : cl = [.inr (4, [.null, .int 0]), .inl (K 3, 10, .inr (.inr (.inr (.inr (fun _ => none)))))] := ecl
  subst ela; subst ecl
  refine c_putF 13 C fl_X4_11 fp_X4 rfl (X.2.2.2.trans rfl) rfl dX4_init_10 rfl 0 (by omega) rfl rfl rfl rfl (Nat.le_of_ble_eq_true rfl) [.inr (4, [.ref a1, .int 0]), .inl (K 3, 10, .inr (.inr (.inr (.inr (fun _ => none)))))] rfl ?_
  refine j_aload_n 14 C dX4_init_13 rfl rfl 0 rfl ?_
  refine j_iconst 15 C (x := nI 0) dX4_init_14 rfl (by decide) ?_
  refine c_put 18 C fl_X4_17 fp_X4 rfl dX4_init_15 rfl 0 (by omega) rfl rfl rfl rfl (Nat.le_of_ble_eq_true rfl) [.inr (4, [.ref a1, .int (nI 0)]), .inl (K 3, 10, .inr (.inr (.inr (.inr (fun _ => none)))))] rfl ?_
  exact j_retV C X dX4_init_18 ⟨rfl, rfl, fun r hr => ad_out h0 hr, fun r hr => ctL_lo hr, ⟨ctL_hi (i := 0) (n0 := n0) (by show (_ : Option va_E) = some (Sum.inr (4, [Value.ref (adL [a0, a1] n0 ad0 (n0 + 1)), Value.int (nI 0)])); rw [adL_hi (i := 1) (a := a1) rfl]; rfl), ctL_hi (i := 1) (n0 := n0) rfl⟩⟩

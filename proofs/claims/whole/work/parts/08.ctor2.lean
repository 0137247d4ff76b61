theorem cG_places {l : Launch} {D : va_G} {tys : List (ClassId × FieldType)} {W S N r a : Nat} {ad : Nat → Nat} {ct : Nat → va_E} {rest : List Value} (hr : r < N) (ha : ad r = a) (hc : ct r = .inr (2, .int (nI W) :: .int (nI S) :: rest)) : MC l yX2_places cX2_places 1 (some .int) rm_X2_places D tys N ad ct [.ref a] (BS (some (.int (nI (W * S)))) N ad ct True) := by
  refine MC.of (by decide) (Nat.le_of_ble_eq_true rfl) (fun p e s m args below meth c Q A H0 C X => ?_)
  replace C : Cx p s m args meth c cX2_places RX2 1 D tys A H0 := C
  show J p l e rm_X2_places s m args below meth c Q D A H0 1 0 0 N ad ct 0 [(0, .ref a)] []
  refine j_aload_n 1 C dX2_places_0 rfl rfl 0 rfl ?_
  refine j_get 4 C fl_X2_15 dX2_places_1 rfl r hr ha hc (v := .int (nI W)) rfl ?_
  refine j_aload_n 5 C dX2_places_4 rfl rfl 0 rfl ?_
  refine j_get 8 C fl_X2_21 dX2_places_5 rfl r hr ha hc (v := .int (nI S)) rfl ?_
  refine j_imul 9 C (z := nI (W * S)) dX2_places_8 rfl (pk_mul _ _) ?_
  exact j_retI C X dX2_places_9 rfl ⟨rfl, rfl, rfl, rfl, trivial⟩
theorem adL_more {la : List Nat} {n0 n a : Nat} {ad ad' : Nat → Nat} (hn : n = n0 + la.length) (hA : ∀ r, r < n → ad' r = adL la n0 ad r) (ha : ad' n = a) : ∀ r, r < n + 1 → ad' r = adL (la ++ [a]) n0 ad r := by
  intro r hr
  subst hn
  rw [← adL_push]
  by_cases h : r = n0 + la.length
  · subst h; rw [va_up_self, ha]
  · rw [va_up_ne _ _ h, hA r (by omega)]
theorem ctL_more {cl : List va_E} {n0 n : Nat} {x0 x1 x2 : va_E} {ct ct' : Nat → va_E} (hn : n = n0 + cl.length) (hC : ∀ r, r < n → ct' r = ctL (cl ++ [x0]) n0 ct r) (h1 : ct' n = x1) (h2 : ct' (n + 1) = x2) : ∀ r, r < n + 2 → ct' r = ctL (cl ++ [x1, x2]) n0 ct r := by
  intro r hr
  subst hn
  rcases Nat.lt_or_ge r (n0 + cl.length) with h | h
  · rw [hC r h]
    unfold ctL
    by_cases h0 : r < n0
    · rw [if_pos h0, if_pos h0]
    · rw [if_neg h0, if_neg h0, List.getD_eq_getElem?_getD, List.getD_eq_getElem?_getD, List.getElem?_append_left (by omega), List.getElem?_append_left (by omega)]
  · rcases (by omega : r = n0 + cl.length ∨ r = n0 + (cl.length + 1)) with e | e
    · subst e; rw [h1]; exact (ctL_hi (by simp)).symm
    · subst e; rw [← Nat.add_assoc, h2, Nat.add_assoc]; exact (ctL_hi (by simp)).symm
def clampI (w lo hi : Int32) : Int32 := if w < lo then lo else if hi < w then hi else w
abbrev rm_X2_init (W S : Nat) : Room := { frames := 1, cells := 5, slots := 3 * S + 2 * W, locals := 40 }
set_option maxHeartbeats 8000000 in
set_option maxRecDepth 100000 in
theorem c_X2_init {l : Launch} {D : va_G} {K : Nat → ClassId} {ad0 : Nat → Nat} {ct0 : Nat → va_E} {W S : Nat} {a0 : Nat} (hW : 2 ≤ W) (hW8 : W ≤ 8) (hS : 1 ≤ S) (hS4 : S ≤ 4) (h0 : ad0 1 = a0) (hf : ct0 1 = .inr (2, [.int 0, .int 0, .null, .null, .null, .null, .null])) : MC l yX2_init cX2_init 4 none (rm_X2_init W S) D (TY K) (1 + 1) ad0 ct0 [.ref a0, .int (nI W), .int (nI S)] (CB 1 6 ad0 ct0 (fun ad' ct' => ∃ σ0 : Nat → Nat → Int32, (∀ r, 1 ≤ r → r < 7 → ct' r = CE K W S 0 0 ad' (fun _ => none) r (σ0 r)) ∧ (∀ j, j < S → σ0 2 j = nI 1 ∧ σ0 3 j = nI 60 ∧ σ0 4 j = nI 5) ∧ ∀ j, σ0 5 j = 0 ∧ σ0 6 j = 0)) := by
  rcases (by omega : S = 1 ∨ S = 2 ∨ S = 3 ∨ S = 4) with rfl | rfl | rfl | rfl
  · skip
    refine MC.of (by decide) (Nat.le_of_ble_eq_true rfl) (fun p e s m args below meth c Q A H0 C X => ?_)
    replace C : Cx p s m args meth c cX2_init RX2 4 D (TY K) A H0 := C
    refine j_ww (ad' := adL [a0] 1 ad0) (ct' := ctL [.inr (2, [.int 0, .int 0, .null, .null, .null, .null, .null])] 1 ct0) rfl (fun r hr => ad_in h0 hr) (fun r hr => ct_in hf hr) ?_
    show J p l e (rm_X2_init W 1) s m args below meth c Q D A H0 4 0 0 2 (adL [a0] 1 ad0) (ctL [.inr (2, [.int 0, .int 0, .null, .null, .null, .null, .null])] 1 ct0) 0 [(0, .ref a0), (1, .int (nI W)), (2, .int (nI 1))] []
    refine j_aload_n 1 C dX2_init_0 rfl rfl 0 rfl ?_
    refine j_objInit 4 C wl_X2_3 dX2_init_1 rfl (Nat.le_of_ble_eq_true rfl) (Nat.le_of_ble_eq_true rfl) ?_
    refine j_aload_n 5 C dX2_init_4 rfl rfl 0 rfl ?_
    refine j_iload_n 6 C dX2_init_5 rfl rfl 1 rfl ?_
    refine j_iconst 7 C (x := nI 1) dX2_init_6 rfl (by decide) ?_
    refine j_mmax 10 C wl_X2_9 (z := nI W) (maxlo (by omega) (by omega) (by omega)) dX2_init_7 rfl (Nat.le_of_ble_eq_true rfl) (Nat.le_of_ble_eq_true rfl) (by omega) (by omega) ?_
    refine c_putF 13 C fl_X2_15 fp_X2 rfl (X.2.2.2.trans rfl) rfl dX2_init_10 rfl 0 (by omega) rfl rfl rfl rfl (Nat.le_of_ble_eq_true rfl) [.inr (2, [.int (nI W), .int 0, .null, .null, .null, .null, .null])] rfl ?_
    refine j_aload_n 14 C dX2_init_13 rfl rfl 0 rfl ?_
    refine j_iload_n 15 C dX2_init_14 rfl rfl 2 rfl ?_
    refine j_iconst 16 C (x := nI 1) dX2_init_15 rfl (by decide) ?_
    refine j_mmax 19 C wl_X2_9 (z := nI 1) (maxlo (by decide) (by decide) (by decide)) dX2_init_16 rfl (Nat.le_of_ble_eq_true rfl) (Nat.le_of_ble_eq_true rfl) (by omega) (by omega) ?_
    refine c_putF 22 C fl_X2_21 fp_X2 rfl (X.2.2.2.trans rfl) rfl dX2_init_19 rfl 0 (by omega) rfl rfl rfl rfl (Nat.le_of_ble_eq_true rfl) [.inr (2, [.int (nI W), .int (nI 1), .null, .null, .null, .null, .null])] rfl ?_
    refine j_aload_n 23 C dX2_init_22 rfl rfl 0 rfl ?_
    refine j_aload_n 24 C dX2_init_23 rfl rfl 0 rfl ?_
    refine c_get 27 C fl_X2_21 dX2_init_24 rfl 0 (by omega) rfl rfl (.int (nI 1)) rfl ?_
    refine c_newa 29 3 C (ty := .int) rfl wa_int 0 (cA := K 0) rfl (z := 1) rfl (fun cA => arr0I cA _) (by decide) (by decide) dX2_init_27 rfl (Nat.le_of_ble_eq_true rfl) (by show _ ≤ 3 * 1 + 2 * W; omega) rfl rfl rfl 1 1 rfl rfl (fun a1 la cl ela ecl => ?_)
    replace ela : la = [a0, a1] := ela
    replace ecl : cl = [.inr (2, [.int (nI W), .int (nI 1), .null, .null, .null, .null, .null]), .inl (K 0, 1, .inl (fun _ => 0))] := ecl
    subst ela; subst ecl
    refine c_putF 32 C fl_X2_24 fp_X2 rfl (X.2.2.2.trans rfl) rfl dX2_init_29 rfl 0 (by omega) rfl rfl rfl rfl (Nat.le_of_ble_eq_true rfl) [.inr (2, [.int (nI W), .int (nI 1), .ref a1, .null, .null, .null, .null]), .inl (K 0, 1, .inl (fun _ => 0))] rfl ?_
    refine j_aload_n 33 C dX2_init_32 rfl rfl 0 rfl ?_
    refine j_aload_n 34 C dX2_init_33 rfl rfl 0 rfl ?_
    refine c_get 37 C fl_X2_21 dX2_init_34 rfl 0 (by omega) rfl rfl (.int (nI 1)) rfl ?_
    refine c_newa 39 4 C (ty := .int) rfl wa_int 0 (cA := K 0) rfl (z := 1) rfl (fun cA => arr0I cA _) (by decide) (by decide) dX2_init_37 rfl (Nat.le_of_ble_eq_true rfl) (by show _ ≤ 3 * 1 + 2 * W; omega) rfl rfl rfl 2 2 rfl rfl (fun a2 la cl ela ecl => ?_)
    replace ela : la = [a0, a1, a2] := ela
    replace ecl : cl = [.inr (2, [.int (nI W), .int (nI 1), .ref a1, .null, .null, .null, .null]), .inl (K 0, 1, .inl (fun _ => 0)), .inl (K 0, 1, .inl (fun _ => 0))] := ecl
    subst ela; subst ecl
    refine c_putF 42 C fl_X2_28 fp_X2 rfl (X.2.2.2.trans rfl) rfl dX2_init_39 rfl 0 (by omega) rfl rfl rfl rfl (Nat.le_of_ble_eq_true rfl) [.inr (2, [.int (nI W), .int (nI 1), .ref a1, .ref a2, .null, .null, .null]), .inl (K 0, 1, .inl (fun _ => 0)), .inl (K 0, 1, .inl (fun _ => 0))] rfl ?_
    refine j_aload_n 43 C dX2_init_42 rfl rfl 0 rfl ?_
    refine j_aload_n 44 C dX2_init_43 rfl rfl 0 rfl ?_
    refine c_get 47 C fl_X2_21 dX2_init_44 rfl 0 (by omega) rfl rfl (.int (nI 1)) rfl ?_
    refine c_newa 49 5 C (ty := .int) rfl wa_int 0 (cA := K 0) rfl (z := 1) rfl (fun cA => arr0I cA _) (by decide) (by decide) dX2_init_47 rfl (Nat.le_of_ble_eq_true rfl) (by show _ ≤ 3 * 1 + 2 * W; omega) rfl rfl rfl 3 3 rfl rfl (fun a3 la cl ela ecl => ?_)
    replace ela : la = [a0, a1, a2, a3] := ela
    replace ecl : cl = [.inr (2, [.int (nI W), .int (nI 1), .ref a1, .ref a2, .null, .null, .null]), .inl (K 0, 1, .inl (fun _ => 0)), .inl (K 0, 1, .inl (fun _ => 0)), .inl (K 0, 1, .inl (fun _ => 0))] := ecl
    subst ela; subst ecl
    refine c_putF 52 C fl_X2_31 fp_X2 rfl (X.2.2.2.trans rfl) rfl dX2_init_49 rfl 0 (by omega) rfl rfl rfl rfl (Nat.le_of_ble_eq_true rfl) [.inr (2, [.int (nI W), .int (nI 1), .ref a1, .ref a2, .ref a3, .null, .null]), .inl (K 0, 1, .inl (fun _ => 0)), .inl (K 0, 1, .inl (fun _ => 0)), .inl (K 0, 1, .inl (fun _ => 0))] rfl ?_
    refine j_iconst 53 C (x := nI 0) dX2_init_52 rfl (by decide) ?_
    refine j_istore_n 54 C [(3, .int (nI 0)), (0, .ref a0), (1, .int (nI W)), (2, .int (nI 1))] dX2_init_53 rfl rfl (by decide) rfl ?_
    refine j_iload_n 55 C dX2_init_54 rfl rfl 0 rfl ?_
    refine j_aload_n 56 C dX2_init_55 rfl rfl 1 rfl ?_
    refine c_get 59 C fl_X2_21 dX2_init_56 rfl 0 (by omega) rfl rfl (.int (nI 1)) rfl ?_
    refine j_ic_ge 90 62 C dX2_init_59 rfl rfl (fun c9 => absurd c9 (by decide)) (fun _ => ?_)
    refine j_aload_n 63 C dX2_init_62 rfl rfl 1 rfl ?_
    refine c_get 66 C fl_X2_24 dX2_init_63 rfl 0 (by omega) rfl rfl (.ref a1) rfl ?_
    refine j_iload_n 67 C dX2_init_66 rfl rfl 0 rfl ?_
    refine j_iconst 68 C (x := nI 1) dX2_init_67 rfl (by decide) ?_
    refine c_iast 69 C dX2_init_68 rfl 1 (by omega) rfl rfl 0 rfl (vp_in_nI (by decide) (by decide)) (q := 0) (by decide) [.inr (2, [.int (nI W), .int (nI 1), .ref a1, .ref a2, .ref a3, .null, .null]), .inl (K 0, 1, .inl (upd (fun _ => 0) 0 (nI 1))), .inl (K 0, 1, .inl (fun _ => 0)), .inl (K 0, 1, .inl (fun _ => 0))] rfl ?_
    refine j_aload_n 70 C dX2_init_69 rfl rfl 1 rfl ?_
    refine c_get 73 C fl_X2_28 dX2_init_70 rfl 0 (by omega) rfl rfl (.ref a2) rfl ?_
    refine j_iload_n 74 C dX2_init_73 rfl rfl 0 rfl ?_
    refine j_bipush 76 C (x := nI 60) dX2_init_74 rfl (by decide) ?_
    refine c_iast 77 C dX2_init_76 rfl 2 (by omega) rfl rfl 0 rfl (vp_in_nI (by decide) (by decide)) (q := 0) (by decide) [.inr (2, [.int (nI W), .int (nI 1), .ref a1, .ref a2, .ref a3, .null, .null]), .inl (K 0, 1, .inl (upd (fun _ => 0) 0 (nI 1))), .inl (K 0, 1, .inl (upd (fun _ => 0) 0 (nI 60))), .inl (K 0, 1, .inl (fun _ => 0))] rfl ?_
    refine j_aload_n 78 C dX2_init_77 rfl rfl 1 rfl ?_
    refine c_get 81 C fl_X2_31 dX2_init_78 rfl 0 (by omega) rfl rfl (.ref a3) rfl ?_
    refine j_iload_n 82 C dX2_init_81 rfl rfl 0 rfl ?_
    refine j_iconst 83 C (x := nI 5) dX2_init_82 rfl (by decide) ?_
    refine c_iast 84 C dX2_init_83 rfl 3 (by omega) rfl rfl 0 rfl (vp_in_nI (by decide) (by decide)) (q := 0) (by decide) [.inr (2, [.int (nI W), .int (nI 1), .ref a1, .ref a2, .ref a3, .null, .null]), .inl (K 0, 1, .inl (upd (fun _ => 0) 0 (nI 1))), .inl (K 0, 1, .inl (upd (fun _ => 0) 0 (nI 60))), .inl (K 0, 1, .inl (upd (fun _ => 0) 0 (nI 5)))] rfl ?_
    refine j_iinc 87 C (x' := nI 1) [(3, .int (nI 1)), (0, .ref a0), (1, .int (nI W)), (2, .int (nI 1))] dX2_init_84 rfl 0 rfl (by decide) (by decide) rfl ?_
    refine j_goto 54 C dX2_init_87 rfl ?_
    refine j_iload_n 55 C dX2_init_54 rfl rfl 0 rfl ?_
    refine j_aload_n 56 C dX2_init_55 rfl rfl 1 rfl ?_
    refine c_get 59 C fl_X2_21 dX2_init_56 rfl 0 (by omega) rfl rfl (.int (nI 1)) rfl ?_
    refine j_ic_ge 90 62 C dX2_init_59 rfl rfl (fun _ => ?_) (fun c9 => absurd (by decide) c9)
    refine j_aload_n 91 C dX2_init_90 rfl rfl 1 rfl ?_
    refine j_aload_n 92 C dX2_init_91 rfl rfl 1 rfl ?_
    refine c_get 95 C fl_X2_15 dX2_init_92 rfl 0 (by omega) rfl rfl (.int (nI W)) rfl ?_
    refine c_newa 97 6 C (ty := .int) rfl wa_int 0 (cA := K 0) rfl (z := W) rfl (fun cA => arr0I cA _) (by omega) (by show W * _ ≤ _; exact Nat.le_trans (Nat.mul_le_mul_right _ hW8) (by decide)) dX2_init_95 rfl (Nat.le_of_ble_eq_true rfl) (by show _ ≤ 3 * 1 + 2 * W; omega) rfl rfl rfl 4 (3 + W) rfl rfl (fun a4 la cl ela ecl => ?_)
    replace ela : la = [a0, a1, a2, a3, a4] := ela
    replace ecl : cl = [.inr (2, [.int (nI W), .int (nI 1), .ref a1, .ref a2, .ref a3, .null, .null]), .inl (K 0, 1, .inl (upd (fun _ => 0) 0 (nI 1))), .inl (K 0, 1, .inl (upd (fun _ => 0) 0 (nI 60))), .inl (K 0, 1, .inl (upd (fun _ => 0) 0 (nI 5))), .inl (K 0, W, .inl (fun _ => 0))] := ecl
    subst ela; subst ecl
    refine c_putF 100 C fl_X2_34 fp_X2 rfl (X.2.2.2.trans rfl) rfl dX2_init_97 rfl 0 (by omega) rfl rfl rfl rfl (Nat.le_of_ble_eq_true rfl) [.inr (2, [.int (nI W), .int (nI 1), .ref a1, .ref a2, .ref a3, .ref a4, .null]), .inl (K 0, 1, .inl (upd (fun _ => 0) 0 (nI 1))), .inl (K 0, 1, .inl (upd (fun _ => 0) 0 (nI 60))), .inl (K 0, 1, .inl (upd (fun _ => 0) 0 (nI 5))), .inl (K 0, W, .inl (fun _ => 0))] rfl ?_
    refine j_aload_n 101 C dX2_init_100 rfl rfl 1 rfl ?_
    refine j_aload_n 102 C dX2_init_101 rfl rfl 1 rfl ?_
    refine c_get 105 C fl_X2_15 dX2_init_102 rfl 0 (by omega) rfl rfl (.int (nI W)) rfl ?_
    refine c_newa 107 7 C (ty := .boolean) rfl wa_boolean 1 (cA := K 1) rfl (z := W) rfl (fun cA => arr0Z cA _) (by omega) (by show W * _ ≤ _; exact Nat.le_trans (Nat.mul_le_mul_right _ hW8) (by decide)) dX2_init_105 rfl (Nat.le_of_ble_eq_true rfl) (by show _ ≤ 3 * 1 + 2 * W; omega) rfl rfl rfl 5 ((3 + W) + W) rfl rfl (fun a5 la cl ela ecl => ?_)
    replace ela : la = [a0, a1, a2, a3, a4, a5] := ela
    replace ecl : cl = [.inr (2, [.int (nI W), .int (nI 1), .ref a1, .ref a2, .ref a3, .ref a4, .null]), .inl (K 0, 1, .inl (upd (fun _ => 0) 0 (nI 1))), .inl (K 0, 1, .inl (upd (fun _ => 0) 0 (nI 60))), .inl (K 0, 1, .inl (upd (fun _ => 0) 0 (nI 5))), .inl (K 0, W, .inl (fun _ => 0)), .inl (K 1, W, .inl (fun _ => 0))] := ecl
    subst ela; subst ecl
    refine c_putF 110 C fl_X2_37 fp_X2 rfl (X.2.2.2.trans rfl) rfl dX2_init_107 rfl 0 (by omega) rfl rfl rfl rfl (Nat.le_of_ble_eq_true rfl) [.inr (2, [.int (nI W), .int (nI 1), .ref a1, .ref a2, .ref a3, .ref a4, .ref a5]), .inl (K 0, 1, .inl (upd (fun _ => 0) 0 (nI 1))), .inl (K 0, 1, .inl (upd (fun _ => 0) 0 (nI 60))), .inl (K 0, 1, .inl (upd (fun _ => 0) 0 (nI 5))), .inl (K 0, W, .inl (fun _ => 0)), .inl (K 1, W, .inl (fun _ => 0))] rfl ?_
    refine j_widen 5 (3 * 1 + 2 * W) (Nat.le_refl _) (by omega) ?_
    exact j_retV C X dX2_init_110 ⟨rfl, rfl, fun r hr => ad_out h0 hr, fun r hr => ctL_lo hr, ⟨fun r => if r = 2 then (upd (fun _ => 0) 0 (nI 1)) else if r = 3 then (upd (fun _ => 0) 0 (nI 60)) else if r = 4 then (upd (fun _ => 0) 0 (nI 5)) else fun _ => 0, fun r h1 h7 => (by match r, h1, h7 with | 1, _, _ => rfl | 2, _, _ => rfl | 3, _, _ => rfl | 4, _, _ => rfl | 5, _, _ => rfl | 6, _, _ => rfl), fun j hj => (by match j, hj with | 0, _ => exact ⟨rfl, rfl, rfl⟩), fun j => ⟨rfl, rfl⟩⟩⟩
  · skip
    refine MC.of (by decide) (Nat.le_of_ble_eq_true rfl) (fun p e s m args below meth c Q A H0 C X => ?_)
    replace C : Cx p s m args meth c cX2_init RX2 4 D (TY K) A H0 := C
    refine j_ww (ad' := adL [a0] 1 ad0) (ct' := ctL [.inr (2, [.int 0, .int 0, .null, .null, .null, .null, .null])] 1 ct0) rfl (fun r hr => ad_in h0 hr) (fun r hr => ct_in hf hr) ?_
    show J p l e (rm_X2_init W 2) s m args below meth c Q D A H0 4 0 0 2 (adL [a0] 1 ad0) (ctL [.inr (2, [.int 0, .int 0, .null, .null, .null, .null, .null])] 1 ct0) 0 [(0, .ref a0), (1, .int (nI W)), (2, .int (nI 2))] []
    refine j_aload_n 1 C dX2_init_0 rfl rfl 0 rfl ?_
    refine j_objInit 4 C wl_X2_3 dX2_init_1 rfl (Nat.le_of_ble_eq_true rfl) (Nat.le_of_ble_eq_true rfl) ?_
    refine j_aload_n 5 C dX2_init_4 rfl rfl 0 rfl ?_
    refine j_iload_n 6 C dX2_init_5 rfl rfl 1 rfl ?_
    refine j_iconst 7 C (x := nI 1) dX2_init_6 rfl (by decide) ?_
    refine j_mmax 10 C wl_X2_9 (z := nI W) (maxlo (by omega) (by omega) (by omega)) dX2_init_7 rfl (Nat.le_of_ble_eq_true rfl) (Nat.le_of_ble_eq_true rfl) (by omega) (by omega) ?_
    refine c_putF 13 C fl_X2_15 fp_X2 rfl (X.2.2.2.trans rfl) rfl dX2_init_10 rfl 0 (by omega) rfl rfl rfl rfl (Nat.le_of_ble_eq_true rfl) [.inr (2, [.int (nI W), .int 0, .null, .null, .null, .null, .null])] rfl ?_
    refine j_aload_n 14 C dX2_init_13 rfl rfl 0 rfl ?_
    refine j_iload_n 15 C dX2_init_14 rfl rfl 2 rfl ?_
    refine j_iconst 16 C (x := nI 1) dX2_init_15 rfl (by decide) ?_
    refine j_mmax 19 C wl_X2_9 (z := nI 2) (maxlo (by decide) (by decide) (by decide)) dX2_init_16 rfl (Nat.le_of_ble_eq_true rfl) (Nat.le_of_ble_eq_true rfl) (by omega) (by omega) ?_
    refine c_putF 22 C fl_X2_21 fp_X2 rfl (X.2.2.2.trans rfl) rfl dX2_init_19 rfl 0 (by omega) rfl rfl rfl rfl (Nat.le_of_ble_eq_true rfl) [.inr (2, [.int (nI W), .int (nI 2), .null, .null, .null, .null, .null])] rfl ?_
    refine j_aload_n 23 C dX2_init_22 rfl rfl 0 rfl ?_
    refine j_aload_n 24 C dX2_init_23 rfl rfl 0 rfl ?_
    refine c_get 27 C fl_X2_21 dX2_init_24 rfl 0 (by omega) rfl rfl (.int (nI 2)) rfl ?_
    refine c_newa 29 3 C (ty := .int) rfl wa_int 0 (cA := K 0) rfl (z := 2) rfl (fun cA => arr0I cA _) (by decide) (by decide) dX2_init_27 rfl (Nat.le_of_ble_eq_true rfl) (by show _ ≤ 3 * 2 + 2 * W; omega) rfl rfl rfl 1 2 rfl rfl (fun a1 la cl ela ecl => ?_)
    replace ela : la = [a0, a1] := ela
    replace ecl : cl = [.inr (2, [.int (nI W), .int (nI 2), .null, .null, .null, .null, .null]), .inl (K 0, 2, .inl (fun _ => 0))] := ecl
    subst ela; subst ecl
    refine c_putF 32 C fl_X2_24 fp_X2 rfl (X.2.2.2.trans rfl) rfl dX2_init_29 rfl 0 (by omega) rfl rfl rfl rfl (Nat.le_of_ble_eq_true rfl) [.inr (2, [.int (nI W), .int (nI 2), .ref a1, .null, .null, .null, .null]), .inl (K 0, 2, .inl (fun _ => 0))] rfl ?_
    refine j_aload_n 33 C dX2_init_32 rfl rfl 0 rfl ?_
    refine j_aload_n 34 C dX2_init_33 rfl rfl 0 rfl ?_
    refine c_get 37 C fl_X2_21 dX2_init_34 rfl 0 (by omega) rfl rfl (.int (nI 2)) rfl ?_
    refine c_newa 39 4 C (ty := .int) rfl wa_int 0 (cA := K 0) rfl (z := 2) rfl (fun cA => arr0I cA _) (by decide) (by decide) dX2_init_37 rfl (Nat.le_of_ble_eq_true rfl) (by show _ ≤ 3 * 2 + 2 * W; omega) rfl rfl rfl 2 4 rfl rfl (fun a2 la cl ela ecl => ?_)
    replace ela : la = [a0, a1, a2] := ela
    replace ecl : cl = [.inr (2, [.int (nI W), .int (nI 2), .ref a1, .null, .null, .null, .null]), .inl (K 0, 2, .inl (fun _ => 0)), .inl (K 0, 2, .inl (fun _ => 0))] := ecl
    subst ela; subst ecl
    refine c_putF 42 C fl_X2_28 fp_X2 rfl (X.2.2.2.trans rfl) rfl dX2_init_39 rfl 0 (by omega) rfl rfl rfl rfl (Nat.le_of_ble_eq_true rfl) [.inr (2, [.int (nI W), .int (nI 2), .ref a1, .ref a2, .null, .null, .null]), .inl (K 0, 2, .inl (fun _ => 0)), .inl (K 0, 2, .inl (fun _ => 0))] rfl ?_
    refine j_aload_n 43 C dX2_init_42 rfl rfl 0 rfl ?_
    refine j_aload_n 44 C dX2_init_43 rfl rfl 0 rfl ?_
    refine c_get 47 C fl_X2_21 dX2_init_44 rfl 0 (by omega) rfl rfl (.int (nI 2)) rfl ?_
    refine c_newa 49 5 C (ty := .int) rfl wa_int 0 (cA := K 0) rfl (z := 2) rfl (fun cA => arr0I cA _) (by decide) (by decide) dX2_init_47 rfl (Nat.le_of_ble_eq_true rfl) (by show _ ≤ 3 * 2 + 2 * W; omega) rfl rfl rfl 3 6 rfl rfl (fun a3 la cl ela ecl => ?_)
    replace ela : la = [a0, a1, a2, a3] := ela
    replace ecl : cl = [.inr (2, [.int (nI W), .int (nI 2), .ref a1, .ref a2, .null, .null, .null]), .inl (K 0, 2, .inl (fun _ => 0)), .inl (K 0, 2, .inl (fun _ => 0)), .inl (K 0, 2, .inl (fun _ => 0))] := ecl
    subst ela; subst ecl
    refine c_putF 52 C fl_X2_31 fp_X2 rfl (X.2.2.2.trans rfl) rfl dX2_init_49 rfl 0 (by omega) rfl rfl rfl rfl (Nat.le_of_ble_eq_true rfl) [.inr (2, [.int (nI W), .int (nI 2), .ref a1, .ref a2, .ref a3, .null, .null]), .inl (K 0, 2, .inl (fun _ => 0)), .inl (K 0, 2, .inl (fun _ => 0)), .inl (K 0, 2, .inl (fun _ => 0))] rfl ?_
    refine j_iconst 53 C (x := nI 0) dX2_init_52 rfl (by decide) ?_
    refine j_istore_n 54 C [(3, .int (nI 0)), (0, .ref a0), (1, .int (nI W)), (2, .int (nI 2))] dX2_init_53 rfl rfl (by decide) rfl ?_
    refine j_iload_n 55 C dX2_init_54 rfl rfl 0 rfl ?_
    refine j_aload_n 56 C dX2_init_55 rfl rfl 1 rfl ?_
    refine c_get 59 C fl_X2_21 dX2_init_56 rfl 0 (by omega) rfl rfl (.int (nI 2)) rfl ?_
    refine j_ic_ge 90 62 C dX2_init_59 rfl rfl (fun c9 => absurd c9 (by decide)) (fun _ => ?_)
    refine j_aload_n 63 C dX2_init_62 rfl rfl 1 rfl ?_
    refine c_get 66 C fl_X2_24 dX2_init_63 rfl 0 (by omega) rfl rfl (.ref a1) rfl ?_
    refine j_iload_n 67 C dX2_init_66 rfl rfl 0 rfl ?_
    refine j_iconst 68 C (x := nI 1) dX2_init_67 rfl (by decide) ?_
    refine c_iast 69 C dX2_init_68 rfl 1 (by omega) rfl rfl 0 rfl (vp_in_nI (by decide) (by decide)) (q := 0) (by decide) [.inr (2, [.int (nI W), .int (nI 2), .ref a1, .ref a2, .ref a3, .null, .null]), .inl (K 0, 2, .inl (upd (fun _ => 0) 0 (nI 1))), .inl (K 0, 2, .inl (fun _ => 0)), .inl (K 0, 2, .inl (fun _ => 0))] rfl ?_
    refine j_aload_n 70 C dX2_init_69 rfl rfl 1 rfl ?_
    refine c_get 73 C fl_X2_28 dX2_init_70 rfl 0 (by omega) rfl rfl (.ref a2) rfl ?_
    refine j_iload_n 74 C dX2_init_73 rfl rfl 0 rfl ?_
    refine j_bipush 76 C (x := nI 60) dX2_init_74 rfl (by decide) ?_
    refine c_iast 77 C dX2_init_76 rfl 2 (by omega) rfl rfl 0 rfl (vp_in_nI (by decide) (by decide)) (q := 0) (by decide) [.inr (2, [.int (nI W), .int (nI 2), .ref a1, .ref a2, .ref a3, .null, .null]), .inl (K 0, 2, .inl (upd (fun _ => 0) 0 (nI 1))), .inl (K 0, 2, .inl (upd (fun _ => 0) 0 (nI 60))), .inl (K 0, 2, .inl (fun _ => 0))] rfl ?_
    refine j_aload_n 78 C dX2_init_77 rfl rfl 1 rfl ?_
    refine c_get 81 C fl_X2_31 dX2_init_78 rfl 0 (by omega) rfl rfl (.ref a3) rfl ?_
    refine j_iload_n 82 C dX2_init_81 rfl rfl 0 rfl ?_
    refine j_iconst 83 C (x := nI 5) dX2_init_82 rfl (by decide) ?_
    refine c_iast 84 C dX2_init_83 rfl 3 (by omega) rfl rfl 0 rfl (vp_in_nI (by decide) (by decide)) (q := 0) (by decide) [.inr (2, [.int (nI W), .int (nI 2), .ref a1, .ref a2, .ref a3, .null, .null]), .inl (K 0, 2, .inl (upd (fun _ => 0) 0 (nI 1))), .inl (K 0, 2, .inl (upd (fun _ => 0) 0 (nI 60))), .inl (K 0, 2, .inl (upd (fun _ => 0) 0 (nI 5)))] rfl ?_
    refine j_iinc 87 C (x' := nI 1) [(3, .int (nI 1)), (0, .ref a0), (1, .int (nI W)), (2, .int (nI 2))] dX2_init_84 rfl 0 rfl (by decide) (by decide) rfl ?_
    refine j_goto 54 C dX2_init_87 rfl ?_
    refine j_iload_n 55 C dX2_init_54 rfl rfl 0 rfl ?_
    refine j_aload_n 56 C dX2_init_55 rfl rfl 1 rfl ?_
    refine c_get 59 C fl_X2_21 dX2_init_56 rfl 0 (by omega) rfl rfl (.int (nI 2)) rfl ?_
    refine j_ic_ge 90 62 C dX2_init_59 rfl rfl (fun c9 => absurd c9 (by decide)) (fun _ => ?_)
    refine j_aload_n 63 C dX2_init_62 rfl rfl 1 rfl ?_
    refine c_get 66 C fl_X2_24 dX2_init_63 rfl 0 (by omega) rfl rfl (.ref a1) rfl ?_
    refine j_iload_n 67 C dX2_init_66 rfl rfl 0 rfl ?_
    refine j_iconst 68 C (x := nI 1) dX2_init_67 rfl (by decide) ?_
    refine c_iast 69 C dX2_init_68 rfl 1 (by omega) rfl rfl 0 rfl (vp_in_nI (by decide) (by decide)) (q := 1) (by decide) [.inr (2, [.int (nI W), .int (nI 2), .ref a1, .ref a2, .ref a3, .null, .null]), .inl (K 0, 2, .inl (upd (upd (fun _ => 0) 0 (nI 1)) 1 (nI 1))), .inl (K 0, 2, .inl (upd (fun _ => 0) 0 (nI 60))), .inl (K 0, 2, .inl (upd (fun _ => 0) 0 (nI 5)))] rfl ?_
    refine j_aload_n 70 C dX2_init_69 rfl rfl 1 rfl ?_
    refine c_get 73 C fl_X2_28 dX2_init_70 rfl 0 (by omega) rfl rfl (.ref a2) rfl ?_
    refine j_iload_n 74 C dX2_init_73 rfl rfl 0 rfl ?_
    refine j_bipush 76 C (x := nI 60) dX2_init_74 rfl (by decide) ?_
    refine c_iast 77 C dX2_init_76 rfl 2 (by omega) rfl rfl 0 rfl (vp_in_nI (by decide) (by decide)) (q := 1) (by decide) [.inr (2, [.int (nI W), .int (nI 2), .ref a1, .ref a2, .ref a3, .null, .null]), .inl (K 0, 2, .inl (upd (upd (fun _ => 0) 0 (nI 1)) 1 (nI 1))), .inl (K 0, 2, .inl (upd (upd (fun _ => 0) 0 (nI 60)) 1 (nI 60))), .inl (K 0, 2, .inl (upd (fun _ => 0) 0 (nI 5)))] rfl ?_
    refine j_aload_n 78 C dX2_init_77 rfl rfl 1 rfl ?_
    refine c_get 81 C fl_X2_31 dX2_init_78 rfl 0 (by omega) rfl rfl (.ref a3) rfl ?_
    refine j_iload_n 82 C dX2_init_81 rfl rfl 0 rfl ?_
    refine j_iconst 83 C (x := nI 5) dX2_init_82 rfl (by decide) ?_
    refine c_iast 84 C dX2_init_83 rfl 3 (by omega) rfl rfl 0 rfl (vp_in_nI (by decide) (by decide)) (q := 1) (by decide) [.inr (2, [.int (nI W), .int (nI 2), .ref a1, .ref a2, .ref a3, .null, .null]), .inl (K 0, 2, .inl (upd (upd (fun _ => 0) 0 (nI 1)) 1 (nI 1))), .inl (K 0, 2, .inl (upd (upd (fun _ => 0) 0 (nI 60)) 1 (nI 60))), .inl (K 0, 2, .inl (upd (upd (fun _ => 0) 0 (nI 5)) 1 (nI 5)))] rfl ?_
    refine j_iinc 87 C (x' := nI 2) [(3, .int (nI 2)), (0, .ref a0), (1, .int (nI W)), (2, .int (nI 2))] dX2_init_84 rfl 0 rfl (by decide) (by decide) rfl ?_
    refine j_goto 54 C dX2_init_87 rfl ?_
    refine j_iload_n 55 C dX2_init_54 rfl rfl 0 rfl ?_
    refine j_aload_n 56 C dX2_init_55 rfl rfl 1 rfl ?_
    refine c_get 59 C fl_X2_21 dX2_init_56 rfl 0 (by omega) rfl rfl (.int (nI 2)) rfl ?_
    refine j_ic_ge 90 62 C dX2_init_59 rfl rfl (fun _ => ?_) (fun c9 => absurd (by decide) c9)
    refine j_aload_n 91 C dX2_init_90 rfl rfl 1 rfl ?_
    refine j_aload_n 92 C dX2_init_91 rfl rfl 1 rfl ?_
    refine c_get 95 C fl_X2_15 dX2_init_92 rfl 0 (by omega) rfl rfl (.int (nI W)) rfl ?_
    refine c_newa 97 6 C (ty := .int) rfl wa_int 0 (cA := K 0) rfl (z := W) rfl (fun cA => arr0I cA _) (by omega) (by show W * _ ≤ _; exact Nat.le_trans (Nat.mul_le_mul_right _ hW8) (by decide)) dX2_init_95 rfl (Nat.le_of_ble_eq_true rfl) (by show _ ≤ 3 * 2 + 2 * W; omega) rfl rfl rfl 4 (6 + W) rfl rfl (fun a4 la cl ela ecl => ?_)
    replace ela : la = [a0, a1, a2, a3, a4] := ela
    replace ecl : cl = [.inr (2, [.int (nI W), .int (nI 2), .ref a1, .ref a2, .ref a3, .null, .null]), .inl (K 0, 2, .inl (upd (upd (fun _ => 0) 0 (nI 1)) 1 (nI 1))), .inl (K 0, 2, .inl (upd (upd (fun _ => 0) 0 (nI 60)) 1 (nI 60))), .inl (K 0, 2, .inl (upd (upd (fun _ => 0) 0 (nI 5)) 1 (nI 5))), .inl (K 0, W, .inl (fun _ => 0))] := ecl
    subst ela; subst ecl
    refine c_putF 100 C fl_X2_34 fp_X2 rfl (X.2.2.2.trans rfl) rfl dX2_init_97 rfl 0 (by omega) rfl rfl rfl rfl (Nat.le_of_ble_eq_true rfl) [.inr (2, [.int (nI W), .int (nI 2), .ref a1, .ref a2, .ref a3, .ref a4, .null]), .inl (K 0, 2, .inl (upd (upd (fun _ => 0) 0 (nI 1)) 1 (nI 1))), .inl (K 0, 2, .inl (upd (upd (fun _ => 0) 0 (nI 60)) 1 (nI 60))), .inl (K 0, 2, .inl (upd (upd (fun _ => 0) 0 (nI 5)) 1 (nI 5))), .inl (K 0, W, .inl (fun _ => 0))] rfl ?_
    refine j_aload_n 101 C dX2_init_100 rfl rfl 1 rfl ?_
    refine j_aload_n 102 C dX2_init_101 rfl rfl 1 rfl ?_
    refine c_get 105 C fl_X2_15 dX2_init_102 rfl 0 (by omega) rfl rfl (.int (nI W)) rfl ?_
    refine c_newa 107 7 C (ty := .boolean) rfl wa_boolean 1 (cA := K 1) rfl (z := W) rfl (fun cA => arr0Z cA _) (by omega) (by show W * _ ≤ _; exact Nat.le_trans (Nat.mul_le_mul_right _ hW8) (by decide)) dX2_init_105 rfl (Nat.le_of_ble_eq_true rfl) (by show _ ≤ 3 * 2 + 2 * W; omega) rfl rfl rfl 5 ((6 + W) + W) rfl rfl (fun a5 la cl ela ecl => ?_)
    replace ela : la = [a0, a1, a2, a3, a4, a5] := ela
    replace ecl : cl = [.inr (2, [.int (nI W), .int (nI 2), .ref a1, .ref a2, .ref a3, .ref a4, .null]), .inl (K 0, 2, .inl (upd (upd (fun _ => 0) 0 (nI 1)) 1 (nI 1))), .inl (K 0, 2, .inl (upd (upd (fun _ => 0) 0 (nI 60)) 1 (nI 60))), .inl (K 0, 2, .inl (upd (upd (fun _ => 0) 0 (nI 5)) 1 (nI 5))), .inl (K 0, W, .inl (fun _ => 0)), .inl (K 1, W, .inl (fun _ => 0))] := ecl
    subst ela; subst ecl
    refine c_putF 110 C fl_X2_37 fp_X2 rfl (X.2.2.2.trans rfl) rfl dX2_init_107 rfl 0 (by omega) rfl rfl rfl rfl (Nat.le_of_ble_eq_true rfl) [.inr (2, [.int (nI W), .int (nI 2), .ref a1, .ref a2, .ref a3, .ref a4, .ref a5]), .inl (K 0, 2, .inl (upd (upd (fun _ => 0) 0 (nI 1)) 1 (nI 1))), .inl (K 0, 2, .inl (upd (upd (fun _ => 0) 0 (nI 60)) 1 (nI 60))), .inl (K 0, 2, .inl (upd (upd (fun _ => 0) 0 (nI 5)) 1 (nI 5))), .inl (K 0, W, .inl (fun _ => 0)), .inl (K 1, W, .inl (fun _ => 0))] rfl ?_
    refine j_widen 5 (3 * 2 + 2 * W) (Nat.le_refl _) (by omega) ?_
    exact j_retV C X dX2_init_110 ⟨rfl, rfl, fun r hr => ad_out h0 hr, fun r hr => ctL_lo hr, ⟨fun r => if r = 2 then (upd (upd (fun _ => 0) 0 (nI 1)) 1 (nI 1)) else if r = 3 then (upd (upd (fun _ => 0) 0 (nI 60)) 1 (nI 60)) else if r = 4 then (upd (upd (fun _ => 0) 0 (nI 5)) 1 (nI 5)) else fun _ => 0, fun r h1 h7 => (by match r, h1, h7 with | 1, _, _ => rfl | 2, _, _ => rfl | 3, _, _ => rfl | 4, _, _ => rfl | 5, _, _ => rfl | 6, _, _ => rfl), fun j hj => (by match j, hj with | 0, _ => exact ⟨rfl, rfl, rfl⟩ | 1, _ => exact ⟨rfl, rfl, rfl⟩), fun j => ⟨rfl, rfl⟩⟩⟩
  · skip
    refine MC.of (by decide) (Nat.le_of_ble_eq_true rfl) (fun p e s m args below meth c Q A H0 C X => ?_)
    replace C : Cx p s m args meth c cX2_init RX2 4 D (TY K) A H0 := C
    refine j_ww (ad' := adL [a0] 1 ad0) (ct' := ctL [.inr (2, [.int 0, .int 0, .null, .null, .null, .null, .null])] 1 ct0) rfl (fun r hr => ad_in h0 hr) (fun r hr => ct_in hf hr) ?_
    show J p l e (rm_X2_init W 3) s m args below meth c Q D A H0 4 0 0 2 (adL [a0] 1 ad0) (ctL [.inr (2, [.int 0, .int 0, .null, .null, .null, .null, .null])] 1 ct0) 0 [(0, .ref a0), (1, .int (nI W)), (2, .int (nI 3))] []
    refine j_aload_n 1 C dX2_init_0 rfl rfl 0 rfl ?_
    refine j_objInit 4 C wl_X2_3 dX2_init_1 rfl (Nat.le_of_ble_eq_true rfl) (Nat.le_of_ble_eq_true rfl) ?_
    refine j_aload_n 5 C dX2_init_4 rfl rfl 0 rfl ?_
    refine j_iload_n 6 C dX2_init_5 rfl rfl 1 rfl ?_
    refine j_iconst 7 C (x := nI 1) dX2_init_6 rfl (by decide) ?_
    refine j_mmax 10 C wl_X2_9 (z := nI W) (maxlo (by omega) (by omega) (by omega)) dX2_init_7 rfl (Nat.le_of_ble_eq_true rfl) (Nat.le_of_ble_eq_true rfl) (by omega) (by omega) ?_
    refine c_putF 13 C fl_X2_15 fp_X2 rfl (X.2.2.2.trans rfl) rfl dX2_init_10 rfl 0 (by omega) rfl rfl rfl rfl (Nat.le_of_ble_eq_true rfl) [.inr (2, [.int (nI W), .int 0, .null, .null, .null, .null, .null])] rfl ?_
    refine j_aload_n 14 C dX2_init_13 rfl rfl 0 rfl ?_
    refine j_iload_n 15 C dX2_init_14 rfl rfl 2 rfl ?_
    refine j_iconst 16 C (x := nI 1) dX2_init_15 rfl (by decide) ?_
    refine j_mmax 19 C wl_X2_9 (z := nI 3) (maxlo (by decide) (by decide) (by decide)) dX2_init_16 rfl (Nat.le_of_ble_eq_true rfl) (Nat.le_of_ble_eq_true rfl) (by omega) (by omega) ?_
    refine c_putF 22 C fl_X2_21 fp_X2 rfl (X.2.2.2.trans rfl) rfl dX2_init_19 rfl 0 (by omega) rfl rfl rfl rfl (Nat.le_of_ble_eq_true rfl) [.inr (2, [.int (nI W), .int (nI 3), .null, .null, .null, .null, .null])] rfl ?_
    refine j_aload_n 23 C dX2_init_22 rfl rfl 0 rfl ?_
    refine j_aload_n 24 C dX2_init_23 rfl rfl 0 rfl ?_
    refine c_get 27 C fl_X2_21 dX2_init_24 rfl 0 (by omega) rfl rfl (.int (nI 3)) rfl ?_
    refine c_newa 29 3 C (ty := .int) rfl wa_int 0 (cA := K 0) rfl (z := 3) rfl (fun cA => arr0I cA _) (by decide) (by decide) dX2_init_27 rfl (Nat.le_of_ble_eq_true rfl) (by show _ ≤ 3 * 3 + 2 * W; omega) rfl rfl rfl 1 3 rfl rfl (fun a1 la cl ela ecl => ?_)
    replace ela : la = [a0, a1] := ela
    replace ecl : cl = [.inr (2, [.int (nI W), .int (nI 3), .null, .null, .null, .null, .null]), .inl (K 0, 3, .inl (fun _ => 0))] := ecl
    subst ela; subst ecl
    refine c_putF 32 C fl_X2_24 fp_X2 rfl (X.2.2.2.trans rfl) rfl dX2_init_29 rfl 0 (by omega) rfl rfl rfl rfl (Nat.le_of_ble_eq_true rfl) [.inr (2, [.int (nI W), .int (nI 3), .ref a1, .null, .null, .null, .null]), .inl (K 0, 3, .inl (fun _ => 0))] rfl ?_
    refine j_aload_n 33 C dX2_init_32 rfl rfl 0 rfl ?_
    refine j_aload_n 34 C dX2_init_33 rfl rfl 0 rfl ?_
    refine c_get 37 C fl_X2_21 dX2_init_34 rfl 0 (by omega) rfl rfl (.int (nI 3)) rfl ?_
    refine c_newa 39 4 C (ty := .int) rfl wa_int 0 (cA := K 0) rfl (z := 3) rfl (fun cA => arr0I cA _) (by decide) (by decide) dX2_init_37 rfl (Nat.le_of_ble_eq_true rfl) (by show _ ≤ 3 * 3 + 2 * W; omega) rfl rfl rfl 2 6 rfl rfl (fun a2 la cl ela ecl => ?_)
    replace ela : la = [a0, a1, a2] := ela
    replace ecl : cl = [.inr (2, [.int (nI W), .int (nI 3), .ref a1, .null, .null, .null, .null]), .inl (K 0, 3, .inl (fun _ => 0)), .inl (K 0, 3, .inl (fun _ => 0))] := ecl
    subst ela; subst ecl
    refine c_putF 42 C fl_X2_28 fp_X2 rfl (X.2.2.2.trans rfl) rfl dX2_init_39 rfl 0 (by omega) rfl rfl rfl rfl (Nat.le_of_ble_eq_true rfl) [.inr (2, [.int (nI W), .int (nI 3), .ref a1, .ref a2, .null, .null, .null]), .inl (K 0, 3, .inl (fun _ => 0)), .inl (K 0, 3, .inl (fun _ => 0))] rfl ?_
    refine j_aload_n 43 C dX2_init_42 rfl rfl 0 rfl ?_
    refine j_aload_n 44 C dX2_init_43 rfl rfl 0 rfl ?_
    refine c_get 47 C fl_X2_21 dX2_init_44 rfl 0 (by omega) rfl rfl (.int (nI 3)) rfl ?_
    refine c_newa 49 5 C (ty := .int) rfl wa_int 0 (cA := K 0) rfl (z := 3) rfl (fun cA => arr0I cA _) (by decide) (by decide) dX2_init_47 rfl (Nat.le_of_ble_eq_true rfl) (by show _ ≤ 3 * 3 + 2 * W; omega) rfl rfl rfl 3 9 rfl rfl (fun a3 la cl ela ecl => ?_)
    replace ela : la = [a0, a1, a2, a3] := ela
    replace ecl : cl = [.inr (2, [.int (nI W), .int (nI 3), .ref a1, .ref a2, .null, .null, .null]), .inl (K 0, 3, .inl (fun _ => 0)), .inl (K 0, 3, .inl (fun _ => 0)), .inl (K 0, 3, .inl (fun _ => 0))] := ecl
    subst ela; subst ecl
    refine c_putF 52 C fl_X2_31 fp_X2 rfl (X.2.2.2.trans rfl) rfl dX2_init_49 rfl 0 (by omega) rfl rfl rfl rfl (Nat.le_of_ble_eq_true rfl) [.inr (2, [.int (nI W), .int (nI 3), .ref a1, .ref a2, .ref a3, .null, .null]), .inl (K 0, 3, .inl (fun _ => 0)), .inl (K 0, 3, .inl (fun _ => 0)), .inl (K 0, 3, .inl (fun _ => 0))] rfl ?_
    refine j_iconst 53 C (x := nI 0) dX2_init_52 rfl (by decide) ?_
    refine j_istore_n 54 C [(3, .int (nI 0)), (0, .ref a0), (1, .int (nI W)), (2, .int (nI 3))] dX2_init_53 rfl rfl (by decide) rfl ?_
    refine j_iload_n 55 C dX2_init_54 rfl rfl 0 rfl ?_
    refine j_aload_n 56 C dX2_init_55 rfl rfl 1 rfl ?_
    refine c_get 59 C fl_X2_21 dX2_init_56 rfl 0 (by omega) rfl rfl (.int (nI 3)) rfl ?_
    refine j_ic_ge 90 62 C dX2_init_59 rfl rfl (fun c9 => absurd c9 (by decide)) (fun _ => ?_)
    refine j_aload_n 63 C dX2_init_62 rfl rfl 1 rfl ?_
    refine c_get 66 C fl_X2_24 dX2_init_63 rfl 0 (by omega) rfl rfl (.ref a1) rfl ?_
    refine j_iload_n 67 C dX2_init_66 rfl rfl 0 rfl ?_
    refine j_iconst 68 C (x := nI 1) dX2_init_67 rfl (by decide) ?_
    refine c_iast 69 C dX2_init_68 rfl 1 (by omega) rfl rfl 0 rfl (vp_in_nI (by decide) (by decide)) (q := 0) (by decide) [.inr (2, [.int (nI W), .int (nI 3), .ref a1, .ref a2, .ref a3, .null, .null]), .inl (K 0, 3, .inl (upd (fun _ => 0) 0 (nI 1))), .inl (K 0, 3, .inl (fun _ => 0)), .inl (K 0, 3, .inl (fun _ => 0))] rfl ?_
    refine j_aload_n 70 C dX2_init_69 rfl rfl 1 rfl ?_
    refine c_get 73 C fl_X2_28 dX2_init_70 rfl 0 (by omega) rfl rfl (.ref a2) rfl ?_
    refine j_iload_n 74 C dX2_init_73 rfl rfl 0 rfl ?_
    refine j_bipush 76 C (x := nI 60) dX2_init_74 rfl (by decide) ?_
    refine c_iast 77 C dX2_init_76 rfl 2 (by omega) rfl rfl 0 rfl (vp_in_nI (by decide) (by decide)) (q := 0) (by decide) [.inr (2, [.int (nI W), .int (nI 3), .ref a1, .ref a2, .ref a3, .null, .null]), .inl (K 0, 3, .inl (upd (fun _ => 0) 0 (nI 1))), .inl (K 0, 3, .inl (upd (fun _ => 0) 0 (nI 60))), .inl (K 0, 3, .inl (fun _ => 0))] rfl ?_
    refine j_aload_n 78 C dX2_init_77 rfl rfl 1 rfl ?_
    refine c_get 81 C fl_X2_31 dX2_init_78 rfl 0 (by omega) rfl rfl (.ref a3) rfl ?_
    refine j_iload_n 82 C dX2_init_81 rfl rfl 0 rfl ?_
    refine j_iconst 83 C (x := nI 5) dX2_init_82 rfl (by decide) ?_
    refine c_iast 84 C dX2_init_83 rfl 3 (by omega) rfl rfl 0 rfl (vp_in_nI (by decide) (by decide)) (q := 0) (by decide) [.inr (2, [.int (nI W), .int (nI 3), .ref a1, .ref a2, .ref a3, .null, .null]), .inl (K 0, 3, .inl (upd (fun _ => 0) 0 (nI 1))), .inl (K 0, 3, .inl (upd (fun _ => 0) 0 (nI 60))), .inl (K 0, 3, .inl (upd (fun _ => 0) 0 (nI 5)))] rfl ?_
    refine j_iinc 87 C (x' := nI 1) [(3, .int (nI 1)), (0, .ref a0), (1, .int (nI W)), (2, .int (nI 3))] dX2_init_84 rfl 0 rfl (by decide) (by decide) rfl ?_
    refine j_goto 54 C dX2_init_87 rfl ?_
    refine j_iload_n 55 C dX2_init_54 rfl rfl 0 rfl ?_
    refine j_aload_n 56 C dX2_init_55 rfl rfl 1 rfl ?_
    refine c_get 59 C fl_X2_21 dX2_init_56 rfl 0 (by omega) rfl rfl (.int (nI 3)) rfl ?_
    refine j_ic_ge 90 62 C dX2_init_59 rfl rfl (fun c9 => absurd c9 (by decide)) (fun _ => ?_)
    refine j_aload_n 63 C dX2_init_62 rfl rfl 1 rfl ?_
    refine c_get 66 C fl_X2_24 dX2_init_63 rfl 0 (by omega) rfl rfl (.ref a1) rfl ?_
    refine j_iload_n 67 C dX2_init_66 rfl rfl 0 rfl ?_
    refine j_iconst 68 C (x := nI 1) dX2_init_67 rfl (by decide) ?_
    refine c_iast 69 C dX2_init_68 rfl 1 (by omega) rfl rfl 0 rfl (vp_in_nI (by decide) (by decide)) (q := 1) (by decide) [.inr (2, [.int (nI W), .int (nI 3), .ref a1, .ref a2, .ref a3, .null, .null]), .inl (K 0, 3, .inl (upd (upd (fun _ => 0) 0 (nI 1)) 1 (nI 1))), .inl (K 0, 3, .inl (upd (fun _ => 0) 0 (nI 60))), .inl (K 0, 3, .inl (upd (fun _ => 0) 0 (nI 5)))] rfl ?_
    refine j_aload_n 70 C dX2_init_69 rfl rfl 1 rfl ?_
    refine c_get 73 C fl_X2_28 dX2_init_70 rfl 0 (by omega) rfl rfl (.ref a2) rfl ?_
    refine j_iload_n 74 C dX2_init_73 rfl rfl 0 rfl ?_
    refine j_bipush 76 C (x := nI 60) dX2_init_74 rfl (by decide) ?_
    refine c_iast 77 C dX2_init_76 rfl 2 (by omega) rfl rfl 0 rfl (vp_in_nI (by decide) (by decide)) (q := 1) (by decide) [.inr (2, [.int (nI W), .int (nI 3), .ref a1, .ref a2, .ref a3, .null, .null]), .inl (K 0, 3, .inl (upd (upd (fun _ => 0) 0 (nI 1)) 1 (nI 1))), .inl (K 0, 3, .inl (upd (upd (fun _ => 0) 0 (nI 60)) 1 (nI 60))), .inl (K 0, 3, .inl (upd (fun _ => 0) 0 (nI 5)))] rfl ?_
    refine j_aload_n 78 C dX2_init_77 rfl rfl 1 rfl ?_
    refine c_get 81 C fl_X2_31 dX2_init_78 rfl 0 (by omega) rfl rfl (.ref a3) rfl ?_
    refine j_iload_n 82 C dX2_init_81 rfl rfl 0 rfl ?_
    refine j_iconst 83 C (x := nI 5) dX2_init_82 rfl (by decide) ?_
    refine c_iast 84 C dX2_init_83 rfl 3 (by omega) rfl rfl 0 rfl (vp_in_nI (by decide) (by decide)) (q := 1) (by decide) [.inr (2, [.int (nI W), .int (nI 3), .ref a1, .ref a2, .ref a3, .null, .null]), .inl (K 0, 3, .inl (upd (upd (fun _ => 0) 0 (nI 1)) 1 (nI 1))), .inl (K 0, 3, .inl (upd (upd (fun _ => 0) 0 (nI 60)) 1 (nI 60))), .inl (K 0, 3, .inl (upd (upd (fun _ => 0) 0 (nI 5)) 1 (nI 5)))] rfl ?_
    refine j_iinc 87 C (x' := nI 2) [(3, .int (nI 2)), (0, .ref a0), (1, .int (nI W)), (2, .int (nI 3))] dX2_init_84 rfl 0 rfl (by decide) (by decide) rfl ?_
    refine j_goto 54 C dX2_init_87 rfl ?_
    refine j_iload_n 55 C dX2_init_54 rfl rfl 0 rfl ?_
    refine j_aload_n 56 C dX2_init_55 rfl rfl 1 rfl ?_
    refine c_get 59 C fl_X2_21 dX2_init_56 rfl 0 (by omega) rfl rfl (.int (nI 3)) rfl ?_
    refine j_ic_ge 90 62 C dX2_init_59 rfl rfl (fun c9 => absurd c9 (by decide)) (fun _ => ?_)
    refine j_aload_n 63 C dX2_init_62 rfl rfl 1 rfl ?_
    refine c_get 66 C fl_X2_24 dX2_init_63 rfl 0 (by omega) rfl rfl (.ref a1) rfl ?_
    refine j_iload_n 67 C dX2_init_66 rfl rfl 0 rfl ?_
    refine j_iconst 68 C (x := nI 1) dX2_init_67 rfl (by decide) ?_
    refine c_iast 69 C dX2_init_68 rfl 1 (by omega) rfl rfl 0 rfl (vp_in_nI (by decide) (by decide)) (q := 2) (by decide) [.inr (2, [.int (nI W), .int (nI 3), .ref a1, .ref a2, .ref a3, .null, .null]), .inl (K 0, 3, .inl (upd (upd (upd (fun _ => 0) 0 (nI 1)) 1 (nI 1)) 2 (nI 1))), .inl (K 0, 3, .inl (upd (upd (fun _ => 0) 0 (nI 60)) 1 (nI 60))), .inl (K 0, 3, .inl (upd (upd (fun _ => 0) 0 (nI 5)) 1 (nI 5)))] rfl ?_
    refine j_aload_n 70 C dX2_init_69 rfl rfl 1 rfl ?_
    refine c_get 73 C fl_X2_28 dX2_init_70 rfl 0 (by omega) rfl rfl (.ref a2) rfl ?_
    refine j_iload_n 74 C dX2_init_73 rfl rfl 0 rfl ?_
    refine j_bipush 76 C (x := nI 60) dX2_init_74 rfl (by decide) ?_
    refine c_iast 77 C dX2_init_76 rfl 2 (by omega) rfl rfl 0 rfl (vp_in_nI (by decide) (by decide)) (q := 2) (by decide) [.inr (2, [.int (nI W), .int (nI 3), .ref a1, .ref a2, .ref a3, .null, .null]), .inl (K 0, 3, .inl (upd (upd (upd (fun _ => 0) 0 (nI 1)) 1 (nI 1)) 2 (nI 1))), .inl (K 0, 3, .inl (upd (upd (upd (fun _ => 0) 0 (nI 60)) 1 (nI 60)) 2 (nI 60))), .inl (K 0, 3, .inl (upd (upd (fun _ => 0) 0 (nI 5)) 1 (nI 5)))] rfl ?_
    refine j_aload_n 78 C dX2_init_77 rfl rfl 1 rfl ?_
    refine c_get 81 C fl_X2_31 dX2_init_78 rfl 0 (by omega) rfl rfl (.ref a3) rfl ?_
    refine j_iload_n 82 C dX2_init_81 rfl rfl 0 rfl ?_
    refine j_iconst 83 C (x := nI 5) dX2_init_82 rfl (by decide) ?_
    refine c_iast 84 C dX2_init_83 rfl 3 (by omega) rfl rfl 0 rfl (vp_in_nI (by decide) (by decide)) (q := 2) (by decide) [.inr (2, [.int (nI W), .int (nI 3), .ref a1, .ref a2, .ref a3, .null, .null]), .inl (K 0, 3, .inl (upd (upd (upd (fun _ => 0) 0 (nI 1)) 1 (nI 1)) 2 (nI 1))), .inl (K 0, 3, .inl (upd (upd (upd (fun _ => 0) 0 (nI 60)) 1 (nI 60)) 2 (nI 60))), .inl (K 0, 3, .inl (upd (upd (upd (fun _ => 0) 0 (nI 5)) 1 (nI 5)) 2 (nI 5)))] rfl ?_
    refine j_iinc 87 C (x' := nI 3) [(3, .int (nI 3)), (0, .ref a0), (1, .int (nI W)), (2, .int (nI 3))] dX2_init_84 rfl 0 rfl (by decide) (by decide) rfl ?_
    refine j_goto 54 C dX2_init_87 rfl ?_
    refine j_iload_n 55 C dX2_init_54 rfl rfl 0 rfl ?_
    refine j_aload_n 56 C dX2_init_55 rfl rfl 1 rfl ?_
    refine c_get 59 C fl_X2_21 dX2_init_56 rfl 0 (by omega) rfl rfl (.int (nI 3)) rfl ?_
    refine j_ic_ge 90 62 C dX2_init_59 rfl rfl (fun _ => ?_) (fun c9 => absurd (by decide) c9)
    refine j_aload_n 91 C dX2_init_90 rfl rfl 1 rfl ?_
    refine j_aload_n 92 C dX2_init_91 rfl rfl 1 rfl ?_
    refine c_get 95 C fl_X2_15 dX2_init_92 rfl 0 (by omega) rfl rfl (.int (nI W)) rfl ?_
    refine c_newa 97 6 C (ty := .int) rfl wa_int 0 (cA := K 0) rfl (z := W) rfl (fun cA => arr0I cA _) (by omega) (by show W * _ ≤ _; exact Nat.le_trans (Nat.mul_le_mul_right _ hW8) (by decide)) dX2_init_95 rfl (Nat.le_of_ble_eq_true rfl) (by show _ ≤ 3 * 3 + 2 * W; omega) rfl rfl rfl 4 (9 + W) rfl rfl (fun a4 la cl ela ecl => ?_)
    replace ela : la = [a0, a1, a2, a3, a4] := ela
    replace ecl : cl = [.inr (2, [.int (nI W), .int (nI 3), .ref a1, .ref a2, .ref a3, .null, .null]), .inl (K 0, 3, .inl (upd (upd (upd (fun _ => 0) 0 (nI 1)) 1 (nI 1)) 2 (nI 1))), .inl (K 0, 3, .inl (upd (upd (upd (fun _ => 0) 0 (nI 60)) 1 (nI 60)) 2 (nI 60))), .inl (K 0, 3, .inl (upd (upd (upd (fun _ => 0) 0 (nI 5)) 1 (nI 5)) 2 (nI 5))), .inl (K 0, W, .inl (fun _ => 0))] := ecl
    subst ela; subst ecl
    refine c_putF 100 C fl_X2_34 fp_X2 rfl (X.2.2.2.trans rfl) rfl dX2_init_97 rfl 0 (by omega) rfl rfl rfl rfl (Nat.le_of_ble_eq_true rfl) [.inr (2, [.int (nI W), .int (nI 3), .ref a1, .ref a2, .ref a3, .ref a4, .null]), .inl (K 0, 3, .inl (upd (upd (upd (fun _ => 0) 0 (nI 1)) 1 (nI 1)) 2 (nI 1))), .inl (K 0, 3, .inl (upd (upd (upd (fun _ => 0) 0 (nI 60)) 1 (nI 60)) 2 (nI 60))), .inl (K 0, 3, .inl (upd (upd (upd (fun _ => 0) 0 (nI 5)) 1 (nI 5)) 2 (nI 5))), .inl (K 0, W, .inl (fun _ => 0))] rfl ?_
    refine j_aload_n 101 C dX2_init_100 rfl rfl 1 rfl ?_
    refine j_aload_n 102 C dX2_init_101 rfl rfl 1 rfl ?_
    refine c_get 105 C fl_X2_15 dX2_init_102 rfl 0 (by omega) rfl rfl (.int (nI W)) rfl ?_
    refine c_newa 107 7 C (ty := .boolean) rfl wa_boolean 1 (cA := K 1) rfl (z := W) rfl (fun cA => arr0Z cA _) (by omega) (by show W * _ ≤ _; exact Nat.le_trans (Nat.mul_le_mul_right _ hW8) (by decide)) dX2_init_105 rfl (Nat.le_of_ble_eq_true rfl) (by show _ ≤ 3 * 3 + 2 * W; omega) rfl rfl rfl 5 ((9 + W) + W) rfl rfl (fun a5 la cl ela ecl => ?_)
    replace ela : la = [a0, a1, a2, a3, a4, a5] := ela
    replace ecl : cl = [.inr (2, [.int (nI W), .int (nI 3), .ref a1, .ref a2, .ref a3, .ref a4, .null]), .inl (K 0, 3, .inl (upd (upd (upd (fun _ => 0) 0 (nI 1)) 1 (nI 1)) 2 (nI 1))), .inl (K 0, 3, .inl (upd (upd (upd (fun _ => 0) 0 (nI 60)) 1 (nI 60)) 2 (nI 60))), .inl (K 0, 3, .inl (upd (upd (upd (fun _ => 0) 0 (nI 5)) 1 (nI 5)) 2 (nI 5))), .inl (K 0, W, .inl (fun _ => 0)), .inl (K 1, W, .inl (fun _ => 0))] := ecl
    subst ela; subst ecl
    refine c_putF 110 C fl_X2_37 fp_X2 rfl (X.2.2.2.trans rfl) rfl dX2_init_107 rfl 0 (by omega) rfl rfl rfl rfl (Nat.le_of_ble_eq_true rfl) [.inr (2, [.int (nI W), .int (nI 3), .ref a1, .ref a2, .ref a3, .ref a4, .ref a5]), .inl (K 0, 3, .inl (upd (upd (upd (fun _ => 0) 0 (nI 1)) 1 (nI 1)) 2 (nI 1))), .inl (K 0, 3, .inl (upd (upd (upd (fun _ => 0) 0 (nI 60)) 1 (nI 60)) 2 (nI 60))), .inl (K 0, 3, .inl (upd (upd (upd (fun _ => 0) 0 (nI 5)) 1 (nI 5)) 2 (nI 5))), .inl (K 0, W, .inl (fun _ => 0)), .inl (K 1, W, .inl (fun _ => 0))] rfl ?_
    refine j_widen 5 (3 * 3 + 2 * W) (Nat.le_refl _) (by omega) ?_
    exact j_retV C X dX2_init_110 ⟨rfl, rfl, fun r hr => ad_out h0 hr, fun r hr => ctL_lo hr, ⟨fun r => if r = 2 then (upd (upd (upd (fun _ => 0) 0 (nI 1)) 1 (nI 1)) 2 (nI 1)) else if r = 3 then (upd (upd (upd (fun _ => 0) 0 (nI 60)) 1 (nI 60)) 2 (nI 60)) else if r = 4 then (upd (upd (upd (fun _ => 0) 0 (nI 5)) 1 (nI 5)) 2 (nI 5)) else fun _ => 0, fun r h1 h7 => (by match r, h1, h7 with | 1, _, _ => rfl | 2, _, _ => rfl | 3, _, _ => rfl | 4, _, _ => rfl | 5, _, _ => rfl | 6, _, _ => rfl), fun j hj => (by match j, hj with | 0, _ => exact ⟨rfl, rfl, rfl⟩ | 1, _ => exact ⟨rfl, rfl, rfl⟩ | 2, _ => exact ⟨rfl, rfl, rfl⟩), fun j => ⟨rfl, rfl⟩⟩⟩
  · skip
    refine MC.of (by decide) (Nat.le_of_ble_eq_true rfl) (fun p e s m args below meth c Q A H0 C X => ?_)
    replace C : Cx p s m args meth c cX2_init RX2 4 D (TY K) A H0 := C
    refine j_ww (ad' := adL [a0] 1 ad0) (ct' := ctL [.inr (2, [.int 0, .int 0, .null, .null, .null, .null, .null])] 1 ct0) rfl (fun r hr => ad_in h0 hr) (fun r hr => ct_in hf hr) ?_
    show J p l e (rm_X2_init W 4) s m args below meth c Q D A H0 4 0 0 2 (adL [a0] 1 ad0) (ctL [.inr (2, [.int 0, .int 0, .null, .null, .null, .null, .null])] 1 ct0) 0 [(0, .ref a0), (1, .int (nI W)), (2, .int (nI 4))] []
    refine j_aload_n 1 C dX2_init_0 rfl rfl 0 rfl ?_
    refine j_objInit 4 C wl_X2_3 dX2_init_1 rfl (Nat.le_of_ble_eq_true rfl) (Nat.le_of_ble_eq_true rfl) ?_
    refine j_aload_n 5 C dX2_init_4 rfl rfl 0 rfl ?_
    refine j_iload_n 6 C dX2_init_5 rfl rfl 1 rfl ?_
    refine j_iconst 7 C (x := nI 1) dX2_init_6 rfl (by decide) ?_
    refine j_mmax 10 C wl_X2_9 (z := nI W) (maxlo (by omega) (by omega) (by omega)) dX2_init_7 rfl (Nat.le_of_ble_eq_true rfl) (Nat.le_of_ble_eq_true rfl) (by omega) (by omega) ?_
    refine c_putF 13 C fl_X2_15 fp_X2 rfl (X.2.2.2.trans rfl) rfl dX2_init_10 rfl 0 (by omega) rfl rfl rfl rfl (Nat.le_of_ble_eq_true rfl) [.inr (2, [.int (nI W), .int 0, .null, .null, .null, .null, .null])] rfl ?_
    refine j_aload_n 14 C dX2_init_13 rfl rfl 0 rfl ?_
    refine j_iload_n 15 C dX2_init_14 rfl rfl 2 rfl ?_
    refine j_iconst 16 C (x := nI 1) dX2_init_15 rfl (by decide) ?_
    refine j_mmax 19 C wl_X2_9 (z := nI 4) (maxlo (by decide) (by decide) (by decide)) dX2_init_16 rfl (Nat.le_of_ble_eq_true rfl) (Nat.le_of_ble_eq_true rfl) (by omega) (by omega) ?_
    refine c_putF 22 C fl_X2_21 fp_X2 rfl (X.2.2.2.trans rfl) rfl dX2_init_19 rfl 0 (by omega) rfl rfl rfl rfl (Nat.le_of_ble_eq_true rfl) [.inr (2, [.int (nI W), .int (nI 4), .null, .null, .null, .null, .null])] rfl ?_
    refine j_aload_n 23 C dX2_init_22 rfl rfl 0 rfl ?_
    refine j_aload_n 24 C dX2_init_23 rfl rfl 0 rfl ?_
    refine c_get 27 C fl_X2_21 dX2_init_24 rfl 0 (by omega) rfl rfl (.int (nI 4)) rfl ?_
    refine c_newa 29 3 C (ty := .int) rfl wa_int 0 (cA := K 0) rfl (z := 4) rfl (fun cA => arr0I cA _) (by decide) (by decide) dX2_init_27 rfl (Nat.le_of_ble_eq_true rfl) (by show _ ≤ 3 * 4 + 2 * W; omega) rfl rfl rfl 1 4 rfl rfl (fun a1 la cl ela ecl => ?_)
    replace ela : la = [a0, a1] := ela
    replace ecl : cl = [.inr (2, [.int (nI W), .int (nI 4), .null, .null, .null, .null, .null]), .inl (K 0, 4, .inl (fun _ => 0))] := ecl
    subst ela; subst ecl
    refine c_putF 32 C fl_X2_24 fp_X2 rfl (X.2.2.2.trans rfl) rfl dX2_init_29 rfl 0 (by omega) rfl rfl rfl rfl (Nat.le_of_ble_eq_true rfl) [.inr (2, [.int (nI W), .int (nI 4), .ref a1, .null, .null, .null, .null]), .inl (K 0, 4, .inl (fun _ => 0))] rfl ?_
    refine j_aload_n 33 C dX2_init_32 rfl rfl 0 rfl ?_
    refine j_aload_n 34 C dX2_init_33 rfl rfl 0 rfl ?_
    refine c_get 37 C fl_X2_21 dX2_init_34 rfl 0 (by omega) rfl rfl (.int (nI 4)) rfl ?_
    refine c_newa 39 4 C (ty := .int) rfl wa_int 0 (cA := K 0) rfl (z := 4) rfl (fun cA => arr0I cA _) (by decide) (by decide) dX2_init_37 rfl (Nat.le_of_ble_eq_true rfl) (by show _ ≤ 3 * 4 + 2 * W; omega) rfl rfl rfl 2 8 rfl rfl (fun a2 la cl ela ecl => ?_)
    replace ela : la = [a0, a1, a2] := ela
    replace ecl : cl = [.inr (2, [.int (nI W), .int (nI 4), .ref a1, .null, .null, .null, .null]), .inl (K 0, 4, .inl (fun _ => 0)), .inl (K 0, 4, .inl (fun _ => 0))] := ecl
    subst ela; subst ecl
    refine c_putF 42 C fl_X2_28 fp_X2 rfl (X.2.2.2.trans rfl) rfl dX2_init_39 rfl 0 (by omega) rfl rfl rfl rfl (Nat.le_of_ble_eq_true rfl) [.inr (2, [.int (nI W), .int (nI 4), .ref a1, .ref a2, .null, .null, .null]), .inl (K 0, 4, .inl (fun _ => 0)), .inl (K 0, 4, .inl (fun _ => 0))] rfl ?_
    refine j_aload_n 43 C dX2_init_42 rfl rfl 0 rfl ?_
    refine j_aload_n 44 C dX2_init_43 rfl rfl 0 rfl ?_
    refine c_get 47 C fl_X2_21 dX2_init_44 rfl 0 (by omega) rfl rfl (.int (nI 4)) rfl ?_
    refine c_newa 49 5 C (ty := .int) rfl wa_int 0 (cA := K 0) rfl (z := 4) rfl (fun cA => arr0I cA _) (by decide) (by decide) dX2_init_47 rfl (Nat.le_of_ble_eq_true rfl) (by show _ ≤ 3 * 4 + 2 * W; omega) rfl rfl rfl 3 12 rfl rfl (fun a3 la cl ela ecl => ?_)
    replace ela : la = [a0, a1, a2, a3] := ela
    replace ecl : cl = [.inr (2, [.int (nI W), .int (nI 4), .ref a1, .ref a2, .null, .null, .null]), .inl (K 0, 4, .inl (fun _ => 0)), .inl (K 0, 4, .inl (fun _ => 0)), .inl (K 0, 4, .inl (fun _ => 0))] := ecl
    subst ela; subst ecl
    refine c_putF 52 C fl_X2_31 fp_X2 rfl (X.2.2.2.trans rfl) rfl dX2_init_49 rfl 0 (by omega) rfl rfl rfl rfl (Nat.le_of_ble_eq_true rfl) [.inr (2, [.int (nI W), .int (nI 4), .ref a1, .ref a2, .ref a3, .null, .null]), .inl (K 0, 4, .inl (fun _ => 0)), .inl (K 0, 4, .inl (fun _ => 0)), .inl (K 0, 4, .inl (fun _ => 0))] rfl ?_
    refine j_iconst 53 C (x := nI 0) dX2_init_52 rfl (by decide) ?_
    refine j_istore_n 54 C [(3, .int (nI 0)), (0, .ref a0), (1, .int (nI W)), (2, .int (nI 4))] dX2_init_53 rfl rfl (by decide) rfl ?_
    refine j_iload_n 55 C dX2_init_54 rfl rfl 0 rfl ?_
    refine j_aload_n 56 C dX2_init_55 rfl rfl 1 rfl ?_
    refine c_get 59 C fl_X2_21 dX2_init_56 rfl 0 (by omega) rfl rfl (.int (nI 4)) rfl ?_
    refine j_ic_ge 90 62 C dX2_init_59 rfl rfl (fun c9 => absurd c9 (by decide)) (fun _ => ?_)
    refine j_aload_n 63 C dX2_init_62 rfl rfl 1 rfl ?_
    refine c_get 66 C fl_X2_24 dX2_init_63 rfl 0 (by omega) rfl rfl (.ref a1) rfl ?_
    refine j_iload_n 67 C dX2_init_66 rfl rfl 0 rfl ?_
    refine j_iconst 68 C (x := nI 1) dX2_init_67 rfl (by decide) ?_
    refine c_iast 69 C dX2_init_68 rfl 1 (by omega) rfl rfl 0 rfl (vp_in_nI (by decide) (by decide)) (q := 0) (by decide) [.inr (2, [.int (nI W), .int (nI 4), .ref a1, .ref a2, .ref a3, .null, .null]), .inl (K 0, 4, .inl (upd (fun _ => 0) 0 (nI 1))), .inl (K 0, 4, .inl (fun _ => 0)), .inl (K 0, 4, .inl (fun _ => 0))] rfl ?_
    refine j_aload_n 70 C dX2_init_69 rfl rfl 1 rfl ?_
    refine c_get 73 C fl_X2_28 dX2_init_70 rfl 0 (by omega) rfl rfl (.ref a2) rfl ?_
    refine j_iload_n 74 C dX2_init_73 rfl rfl 0 rfl ?_
    refine j_bipush 76 C (x := nI 60) dX2_init_74 rfl (by decide) ?_
    refine c_iast 77 C dX2_init_76 rfl 2 (by omega) rfl rfl 0 rfl (vp_in_nI (by decide) (by decide)) (q := 0) (by decide) [.inr (2, [.int (nI W), .int (nI 4), .ref a1, .ref a2, .ref a3, .null, .null]), .inl (K 0, 4, .inl (upd (fun _ => 0) 0 (nI 1))), .inl (K 0, 4, .inl (upd (fun _ => 0) 0 (nI 60))), .inl (K 0, 4, .inl (fun _ => 0))] rfl ?_
    refine j_aload_n 78 C dX2_init_77 rfl rfl 1 rfl ?_
    refine c_get 81 C fl_X2_31 dX2_init_78 rfl 0 (by omega) rfl rfl (.ref a3) rfl ?_
    refine j_iload_n 82 C dX2_init_81 rfl rfl 0 rfl ?_
    refine j_iconst 83 C (x := nI 5) dX2_init_82 rfl (by decide) ?_
    refine c_iast 84 C dX2_init_83 rfl 3 (by omega) rfl rfl 0 rfl (vp_in_nI (by decide) (by decide)) (q := 0) (by decide) [.inr (2, [.int (nI W), .int (nI 4), .ref a1, .ref a2, .ref a3, .null, .null]), .inl (K 0, 4, .inl (upd (fun _ => 0) 0 (nI 1))), .inl (K 0, 4, .inl (upd (fun _ => 0) 0 (nI 60))), .inl (K 0, 4, .inl (upd (fun _ => 0) 0 (nI 5)))] rfl ?_
    refine j_iinc 87 C (x' := nI 1) [(3, .int (nI 1)), (0, .ref a0), (1, .int (nI W)), (2, .int (nI 4))] dX2_init_84 rfl 0 rfl (by decide) (by decide) rfl ?_
    refine j_goto 54 C dX2_init_87 rfl ?_
    refine j_iload_n 55 C dX2_init_54 rfl rfl 0 rfl ?_
    refine j_aload_n 56 C dX2_init_55 rfl rfl 1 rfl ?_
    refine c_get 59 C fl_X2_21 dX2_init_56 rfl 0 (by omega) rfl rfl (.int (nI 4)) rfl ?_
    refine j_ic_ge 90 62 C dX2_init_59 rfl rfl (fun c9 => absurd c9 (by decide)) (fun _ => ?_)
    refine j_aload_n 63 C dX2_init_62 rfl rfl 1 rfl ?_
    refine c_get 66 C fl_X2_24 dX2_init_63 rfl 0 (by omega) rfl rfl (.ref a1) rfl ?_
    refine j_iload_n 67 C dX2_init_66 rfl rfl 0 rfl ?_
    refine j_iconst 68 C (x := nI 1) dX2_init_67 rfl (by decide) ?_
    refine c_iast 69 C dX2_init_68 rfl 1 (by omega) rfl rfl 0 rfl (vp_in_nI (by decide) (by decide)) (q := 1) (by decide) [.inr (2, [.int (nI W), .int (nI 4), .ref a1, .ref a2, .ref a3, .null, .null]), .inl (K 0, 4, .inl (upd (upd (fun _ => 0) 0 (nI 1)) 1 (nI 1))), .inl (K 0, 4, .inl (upd (fun _ => 0) 0 (nI 60))), .inl (K 0, 4, .inl (upd (fun _ => 0) 0 (nI 5)))] rfl ?_
    refine j_aload_n 70 C dX2_init_69 rfl rfl 1 rfl ?_
    refine c_get 73 C fl_X2_28 dX2_init_70 rfl 0 (by omega) rfl rfl (.ref a2) rfl ?_
    refine j_iload_n 74 C dX2_init_73 rfl rfl 0 rfl ?_
    refine j_bipush 76 C (x := nI 60) dX2_init_74 rfl (by decide) ?_
    refine c_iast 77 C dX2_init_76 rfl 2 (by omega) rfl rfl 0 rfl (vp_in_nI (by decide) (by decide)) (q := 1) (by decide) [.inr (2, [.int (nI W), .int (nI 4), .ref a1, .ref a2, .ref a3, .null, .null]), .inl (K 0, 4, .inl (upd (upd (fun _ => 0) 0 (nI 1)) 1 (nI 1))), .inl (K 0, 4, .inl (upd (upd (fun _ => 0) 0 (nI 60)) 1 (nI 60))), .inl (K 0, 4, .inl (upd (fun _ => 0) 0 (nI 5)))] rfl ?_
    refine j_aload_n 78 C dX2_init_77 rfl rfl 1 rfl ?_
    refine c_get 81 C fl_X2_31 dX2_init_78 rfl 0 (by omega) rfl rfl (.ref a3) rfl ?_
    refine j_iload_n 82 C dX2_init_81 rfl rfl 0 rfl ?_
    refine j_iconst 83 C (x := nI 5) dX2_init_82 rfl (by decide) ?_
    refine c_iast 84 C dX2_init_83 rfl 3 (by omega) rfl rfl 0 rfl (vp_in_nI (by decide) (by decide)) (q := 1) (by decide) [.inr (2, [.int (nI W), .int (nI 4), .ref a1, .ref a2, .ref a3, .null, .null]), .inl (K 0, 4, .inl (upd (upd (fun _ => 0) 0 (nI 1)) 1 (nI 1))), .inl (K 0, 4, .inl (upd (upd (fun _ => 0) 0 (nI 60)) 1 (nI 60))), .inl (K 0, 4, .inl (upd (upd (fun _ => 0) 0 (nI 5)) 1 (nI 5)))] rfl ?_
    refine j_iinc 87 C (x' := nI 2) [(3, .int (nI 2)), (0, .ref a0), (1, .int (nI W)), (2, .int (nI 4))] dX2_init_84 rfl 0 rfl (by decide) (by decide) rfl ?_
    refine j_goto 54 C dX2_init_87 rfl ?_
    refine j_iload_n 55 C dX2_init_54 rfl rfl 0 rfl ?_
    refine j_aload_n 56 C dX2_init_55 rfl rfl 1 rfl ?_
    refine c_get 59 C fl_X2_21 dX2_init_56 rfl 0 (by omega) rfl rfl (.int (nI 4)) rfl ?_
    refine j_ic_ge 90 62 C dX2_init_59 rfl rfl (fun c9 => absurd c9 (by decide)) (fun _ => ?_)
    refine j_aload_n 63 C dX2_init_62 rfl rfl 1 rfl ?_
    refine c_get 66 C fl_X2_24 dX2_init_63 rfl 0 (by omega) rfl rfl (.ref a1) rfl ?_
    refine j_iload_n 67 C dX2_init_66 rfl rfl 0 rfl ?_
    refine j_iconst 68 C (x := nI 1) dX2_init_67 rfl (by decide) ?_
    refine c_iast 69 C dX2_init_68 rfl 1 (by omega) rfl rfl 0 rfl (vp_in_nI (by decide) (by decide)) (q := 2) (by decide) [.inr (2, [.int (nI W), .int (nI 4), .ref a1, .ref a2, .ref a3, .null, .null]), .inl (K 0, 4, .inl (upd (upd (upd (fun _ => 0) 0 (nI 1)) 1 (nI 1)) 2 (nI 1))), .inl (K 0, 4, .inl (upd (upd (fun _ => 0) 0 (nI 60)) 1 (nI 60))), .inl (K 0, 4, .inl (upd (upd (fun _ => 0) 0 (nI 5)) 1 (nI 5)))] rfl ?_
    refine j_aload_n 70 C dX2_init_69 rfl rfl 1 rfl ?_
    refine c_get 73 C fl_X2_28 dX2_init_70 rfl 0 (by omega) rfl rfl (.ref a2) rfl ?_
    refine j_iload_n 74 C dX2_init_73 rfl rfl 0 rfl ?_
    refine j_bipush 76 C (x := nI 60) dX2_init_74 rfl (by decide) ?_
    refine c_iast 77 C dX2_init_76 rfl 2 (by omega) rfl rfl 0 rfl (vp_in_nI (by decide) (by decide)) (q := 2) (by decide) [.inr (2, [.int (nI W), .int (nI 4), .ref a1, .ref a2, .ref a3, .null, .null]), .inl (K 0, 4, .inl (upd (upd (upd (fun _ => 0) 0 (nI 1)) 1 (nI 1)) 2 (nI 1))), .inl (K 0, 4, .inl (upd (upd (upd (fun _ => 0) 0 (nI 60)) 1 (nI 60)) 2 (nI 60))), .inl (K 0, 4, .inl (upd (upd (fun _ => 0) 0 (nI 5)) 1 (nI 5)))] rfl ?_
    refine j_aload_n 78 C dX2_init_77 rfl rfl 1 rfl ?_
    refine c_get 81 C fl_X2_31 dX2_init_78 rfl 0 (by omega) rfl rfl (.ref a3) rfl ?_
    refine j_iload_n 82 C dX2_init_81 rfl rfl 0 rfl ?_
    refine j_iconst 83 C (x := nI 5) dX2_init_82 rfl (by decide) ?_
    refine c_iast 84 C dX2_init_83 rfl 3 (by omega) rfl rfl 0 rfl (vp_in_nI (by decide) (by decide)) (q := 2) (by decide) [.inr (2, [.int (nI W), .int (nI 4), .ref a1, .ref a2, .ref a3, .null, .null]), .inl (K 0, 4, .inl (upd (upd (upd (fun _ => 0) 0 (nI 1)) 1 (nI 1)) 2 (nI 1))), .inl (K 0, 4, .inl (upd (upd (upd (fun _ => 0) 0 (nI 60)) 1 (nI 60)) 2 (nI 60))), .inl (K 0, 4, .inl (upd (upd (upd (fun _ => 0) 0 (nI 5)) 1 (nI 5)) 2 (nI 5)))] rfl ?_
    refine j_iinc 87 C (x' := nI 3) [(3, .int (nI 3)), (0, .ref a0), (1, .int (nI W)), (2, .int (nI 4))] dX2_init_84 rfl 0 rfl (by decide) (by decide) rfl ?_
    refine j_goto 54 C dX2_init_87 rfl ?_
    refine j_iload_n 55 C dX2_init_54 rfl rfl 0 rfl ?_
    refine j_aload_n 56 C dX2_init_55 rfl rfl 1 rfl ?_
    refine c_get 59 C fl_X2_21 dX2_init_56 rfl 0 (by omega) rfl rfl (.int (nI 4)) rfl ?_
    refine j_ic_ge 90 62 C dX2_init_59 rfl rfl (fun c9 => absurd c9 (by decide)) (fun _ => ?_)
    refine j_aload_n 63 C dX2_init_62 rfl rfl 1 rfl ?_
    refine c_get 66 C fl_X2_24 dX2_init_63 rfl 0 (by omega) rfl rfl (.ref a1) rfl ?_
    refine j_iload_n 67 C dX2_init_66 rfl rfl 0 rfl ?_
    refine j_iconst 68 C (x := nI 1) dX2_init_67 rfl (by decide) ?_
    refine c_iast 69 C dX2_init_68 rfl 1 (by omega) rfl rfl 0 rfl (vp_in_nI (by decide) (by decide)) (q := 3) (by decide) [.inr (2, [.int (nI W), .int (nI 4), .ref a1, .ref a2, .ref a3, .null, .null]), .inl (K 0, 4, .inl (upd (upd (upd (upd (fun _ => 0) 0 (nI 1)) 1 (nI 1)) 2 (nI 1)) 3 (nI 1))), .inl (K 0, 4, .inl (upd (upd (upd (fun _ => 0) 0 (nI 60)) 1 (nI 60)) 2 (nI 60))), .inl (K 0, 4, .inl (upd (upd (upd (fun _ => 0) 0 (nI 5)) 1 (nI 5)) 2 (nI 5)))] rfl ?_
    refine j_aload_n 70 C dX2_init_69 rfl rfl 1 rfl ?_
    refine c_get 73 C fl_X2_28 dX2_init_70 rfl 0 (by omega) rfl rfl (.ref a2) rfl ?_
    refine j_iload_n 74 C dX2_init_73 rfl rfl 0 rfl ?_
    refine j_bipush 76 C (x := nI 60) dX2_init_74 rfl (by decide) ?_
    refine c_iast 77 C dX2_init_76 rfl 2 (by omega) rfl rfl 0 rfl (vp_in_nI (by decide) (by decide)) (q := 3) (by decide) [.inr (2, [.int (nI W), .int (nI 4), .ref a1, .ref a2, .ref a3, .null, .null]), .inl (K 0, 4, .inl (upd (upd (upd (upd (fun _ => 0) 0 (nI 1)) 1 (nI 1)) 2 (nI 1)) 3 (nI 1))), .inl (K 0, 4, .inl (upd (upd (upd (upd (fun _ => 0) 0 (nI 60)) 1 (nI 60)) 2 (nI 60)) 3 (nI 60))), .inl (K 0, 4, .inl (upd (upd (upd (fun _ => 0) 0 (nI 5)) 1 (nI 5)) 2 (nI 5)))] rfl ?_
    refine j_aload_n 78 C dX2_init_77 rfl rfl 1 rfl ?_
    refine c_get 81 C fl_X2_31 dX2_init_78 rfl 0 (by omega) rfl rfl (.ref a3) rfl ?_
    refine j_iload_n 82 C dX2_init_81 rfl rfl 0 rfl ?_
    refine j_iconst 83 C (x := nI 5) dX2_init_82 rfl (by decide) ?_
    refine c_iast 84 C dX2_init_83 rfl 3 (by omega) rfl rfl 0 rfl (vp_in_nI (by decide) (by decide)) (q := 3) (by decide) [.inr (2, [.int (nI W), .int (nI 4), .ref a1, .ref a2, .ref a3, .null, .null]), .inl (K 0, 4, .inl (upd (upd (upd (upd (fun _ => 0) 0 (nI 1)) 1 (nI 1)) 2 (nI 1)) 3 (nI 1))), .inl (K 0, 4, .inl (upd (upd (upd (upd (fun _ => 0) 0 (nI 60)) 1 (nI 60)) 2 (nI 60)) 3 (nI 60))), .inl (K 0, 4, .inl (upd (upd (upd (upd (fun _ => 0) 0 (nI 5)) 1 (nI 5)) 2 (nI 5)) 3 (nI 5)))] rfl ?_
    refine j_iinc 87 C (x' := nI 4) [(3, .int (nI 4)), (0, .ref a0), (1, .int (nI W)), (2, .int (nI 4))] dX2_init_84 rfl 0 rfl (by decide) (by decide) rfl ?_
    refine j_goto 54 C dX2_init_87 rfl ?_
    refine j_iload_n 55 C dX2_init_54 rfl rfl 0 rfl ?_
    refine j_aload_n 56 C dX2_init_55 rfl rfl 1 rfl ?_
    refine c_get 59 C fl_X2_21 dX2_init_56 rfl 0 (by omega) rfl rfl (.int (nI 4)) rfl ?_
    refine j_ic_ge 90 62 C dX2_init_59 rfl rfl (fun _ => ?_) (fun c9 => absurd (by decide) c9)
    refine j_aload_n 91 C dX2_init_90 rfl rfl 1 rfl ?_
    refine j_aload_n 92 C dX2_init_91 rfl rfl 1 rfl ?_
    refine c_get 95 C fl_X2_15 dX2_init_92 rfl 0 (by omega) rfl rfl (.int (nI W)) rfl ?_
    refine c_newa 97 6 C (ty := .int) rfl wa_int 0 (cA := K 0) rfl (z := W) rfl (fun cA => arr0I cA _) (by omega) (by show W * _ ≤ _; exact Nat.le_trans (Nat.mul_le_mul_right _ hW8) (by decide)) dX2_init_95 rfl (Nat.le_of_ble_eq_true rfl) (by show _ ≤ 3 * 4 + 2 * W; omega) rfl rfl rfl 4 (12 + W) rfl rfl (fun a4 la cl ela ecl => ?_)
    replace ela : la = [a0, a1, a2, a3, a4] := ela
    replace ecl : cl = [.inr (2, [.int (nI W), .int (nI 4), .ref a1, .ref a2, .ref a3, .null, .null]), .inl (K 0, 4, .inl (upd (upd (upd (upd (fun _ => 0) 0 (nI 1)) 1 (nI 1)) 2 (nI 1)) 3 (nI 1))), .inl (K 0, 4, .inl (upd (upd (upd (upd (fun _ => 0) 0 (nI 60)) 1 (nI 60)) 2 (nI 60)) 3 (nI 60))), .inl (K 0, 4, .inl (upd (upd (upd (upd (fun _ => 0) 0 (nI 5)) 1 (nI 5)) 2 (nI 5)) 3 (nI 5))), .inl (K 0, W, .inl (fun _ => 0))] := ecl
    subst ela; subst ecl
    refine c_putF 100 C fl_X2_34 fp_X2 rfl (X.2.2.2.trans rfl) rfl dX2_init_97 rfl 0 (by omega) rfl rfl rfl rfl (Nat.le_of_ble_eq_true rfl) [.inr (2, [.int (nI W), .int (nI 4), .ref a1, .ref a2, .ref a3, .ref a4, .null]), .inl (K 0, 4, .inl (upd (upd (upd (upd (fun _ => 0) 0 (nI 1)) 1 (nI 1)) 2 (nI 1)) 3 (nI 1))), .inl (K 0, 4, .inl (upd (upd (upd (upd (fun _ => 0) 0 (nI 60)) 1 (nI 60)) 2 (nI 60)) 3 (nI 60))), .inl (K 0, 4, .inl (upd (upd (upd (upd (fun _ => 0) 0 (nI 5)) 1 (nI 5)) 2 (nI 5)) 3 (nI 5))), .inl (K 0, W, .inl (fun _ => 0))] rfl ?_
    refine j_aload_n 101 C dX2_init_100 rfl rfl 1 rfl ?_
    refine j_aload_n 102 C dX2_init_101 rfl rfl 1 rfl ?_
    refine c_get 105 C fl_X2_15 dX2_init_102 rfl 0 (by omega) rfl rfl (.int (nI W)) rfl ?_
    refine c_newa 107 7 C (ty := .boolean) rfl wa_boolean 1 (cA := K 1) rfl (z := W) rfl (fun cA => arr0Z cA _) (by omega) (by show W * _ ≤ _; exact Nat.le_trans (Nat.mul_le_mul_right _ hW8) (by decide)) dX2_init_105 rfl (Nat.le_of_ble_eq_true rfl) (by show _ ≤ 3 * 4 + 2 * W; omega) rfl rfl rfl 5 ((12 + W) + W) rfl rfl (fun a5 la cl ela ecl => ?_)
    replace ela : la = [a0, a1, a2, a3, a4, a5] := ela
    replace ecl : cl = [.inr (2, [.int (nI W), .int (nI 4), .ref a1, .ref a2, .ref a3, .ref a4, .null]), .inl (K 0, 4, .inl (upd (upd (upd (upd (fun _ => 0) 0 (nI 1)) 1 (nI 1)) 2 (nI 1)) 3 (nI 1))), .inl (K 0, 4, .inl (upd (upd (upd (upd (fun _ => 0) 0 (nI 60)) 1 (nI 60)) 2 (nI 60)) 3 (nI 60))), .inl (K 0, 4, .inl (upd (upd (upd (upd (fun _ => 0) 0 (nI 5)) 1 (nI 5)) 2 (nI 5)) 3 (nI 5))), .inl (K 0, W, .inl (fun _ => 0)), .inl (K 1, W, .inl (fun _ => 0))] := ecl
    subst ela; subst ecl
    refine c_putF 110 C fl_X2_37 fp_X2 rfl (X.2.2.2.trans rfl) rfl dX2_init_107 rfl 0 (by omega) rfl rfl rfl rfl (Nat.le_of_ble_eq_true rfl) [.inr (2, [.int (nI W), .int (nI 4), .ref a1, .ref a2, .ref a3, .ref a4, .ref a5]), .inl (K 0, 4, .inl (upd (upd (upd (upd (fun _ => 0) 0 (nI 1)) 1 (nI 1)) 2 (nI 1)) 3 (nI 1))), .inl (K 0, 4, .inl (upd (upd (upd (upd (fun _ => 0) 0 (nI 60)) 1 (nI 60)) 2 (nI 60)) 3 (nI 60))), .inl (K 0, 4, .inl (upd (upd (upd (upd (fun _ => 0) 0 (nI 5)) 1 (nI 5)) 2 (nI 5)) 3 (nI 5))), .inl (K 0, W, .inl (fun _ => 0)), .inl (K 1, W, .inl (fun _ => 0))] rfl ?_
    refine j_widen 5 (3 * 4 + 2 * W) (Nat.le_refl _) (by omega) ?_
    exact j_retV C X dX2_init_110 ⟨rfl, rfl, fun r hr => ad_out h0 hr, fun r hr => ctL_lo hr, ⟨fun r => if r = 2 then (upd (upd (upd (upd (fun _ => 0) 0 (nI 1)) 1 (nI 1)) 2 (nI 1)) 3 (nI 1)) else if r = 3 then (upd (upd (upd (upd (fun _ => 0) 0 (nI 60)) 1 (nI 60)) 2 (nI 60)) 3 (nI 60)) else if r = 4 then (upd (upd (upd (upd (fun _ => 0) 0 (nI 5)) 1 (nI 5)) 2 (nI 5)) 3 (nI 5)) else fun _ => 0, fun r h1 h7 => (by match r, h1, h7 with | 1, _, _ => rfl | 2, _, _ => rfl | 3, _, _ => rfl | 4, _, _ => rfl | 5, _, _ => rfl | 6, _, _ => rfl), fun j hj => (by match j, hj with | 0, _ => exact ⟨rfl, rfl, rfl⟩ | 1, _ => exact ⟨rfl, rfl, rfl⟩ | 2, _ => exact ⟨rfl, rfl, rfl⟩ | 3, _ => exact ⟨rfl, rfl, rfl⟩), fun j => ⟨rfl, rfl⟩⟩⟩

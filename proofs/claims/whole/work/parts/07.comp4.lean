def m_X0_decide (W S ns nc : Nat) (B : Nat → Option Nat) : Nat → (Nat → Nat → Int32) → Nat → Int32 → (Nat → Nat → Int32)
  | 0, σ, g, out => ap (m_J6_bitCount_0f7a4 W S ns nc B σ out) (fun (y1 : Int32) => ap (m_J6_bitCount_0f7a4 W S ns nc B σ (σ 9 8)) (fun (y8 : Int32) => (if y1 < y8 then (if (nI 0) ≤ (nI 10) then ap (m_X1_copyFrom W S ns nc B (sA σ 9 (upd (σ 9) 8 out)) 11 g) (fun (y39 : (Nat → Int32)) => (sA (sA σ 9 (upd (σ 9) 8 out)) (12 + 2 * 11) y39)) else σ) else σ)))
  | n + 1, σ, g, out => ap (m_J6_bitCount_0f7a4 W S ns nc B σ out) (fun (y1 : Int32) => ap (m_J6_bitCount_0f7a4 W S ns nc B σ (σ 9 8)) (fun (y8 : Int32) => (if y1 < y8 then (if (nI (n + 1)) ≤ (nI 10) then (if 0 < (nI (n + 1)) then ap (m_X4_at W S ns nc B σ (nI n)) (fun (y54 : Option Nat) => ap (m_X1_copyFrom W S ns nc B σ n g) (fun (y71 : (Nat → Int32)) => (Option.elim y54 (ap (m_X0_decide W S ns nc B n (sA σ (12 + 2 * n) y71) n out) (fun (y99 : (Nat → Nat → Int32)) => (Option.elim y54 y99 (fun (q104 : Nat) => ap (m_X0_decide W S ns nc B n y99 g (out ||| ((nI 1) <<< ((nI n) &&& 31)))) (fun (y117 : (Nat → Nat → Int32)) => y117))))) (fun (q76 : Nat) => ap (m_X3_bind W S ns nc B (sA σ (12 + 2 * n) y71) q76 n) (fun (y87 : Int32 × (Nat → Int32)) => (if y87.1 = 0 then ap (m_X0_decide W S ns nc B n (sA σ (12 + 2 * n) y87.2) g (out ||| ((nI 1) <<< ((nI n) &&& 31)))) (fun (y117 : (Nat → Nat → Int32)) => y117) else ap (m_X0_decide W S ns nc B n (sA σ (12 + 2 * n) y87.2) n out) (fun (y99 : (Nat → Nat → Int32)) => ap (m_X0_decide W S ns nc B n y99 g (out ||| ((nI 1) <<< ((nI n) &&& 31)))) (fun (y117 : (Nat → Nat → Int32)) => y117)))))))) else ap (m_X1_copyFrom W S ns nc B (sA σ 9 (upd (σ 9) 8 out)) 11 g) (fun (y39 : (Nat → Int32)) => (sA (sA σ 9 (upd (σ 9) 8 out)) (12 + 2 * 11) y39))) else σ) else σ)))
abbrev rm_X0_decide (n : Nat) : Room := { frames := 4 + n, cells := 0, slots := 0, locals := 114 + 26 * n }
set_option maxHeartbeats 8000000 in
set_option maxRecDepth 100000 in
theorem c_X0_decide {l : Launch} {D : va_G} {K : Nat → ClassId} {W S ns nc N : Nat} {ad : Nat → Nat} {B : Nat → Option Nat} (hG : GH W S ns nc N) (hB : BOK B N) : ∀ (n : Nat), n ≤ 10 → ∀ {σ : Nat → Nat → Int32} {g : Nat} (hg : g < 12) {out : Int32} {z : Nat → Nat → Int32} (hz : m_X0_decide W S ns nc B n σ g out = z), MC l yX0_decide cX0_decide 7 none (rm_X0_decide n) D (TY K) N ad (CT K W S ns nc ad B σ) [.ref (ad 9), .ref (ad (11 + 2 * g)), .int (nI n), .int out] (BS none N ad (CT K W S ns nc ad B z) True) := by
  have hW := hG.1; have hW8 := hG.2.1; have hS := hG.2.2.1; have hS4 := hG.2.2.2.1; have hns := hG.2.2.2.2.1; have hnc := hG.2.2.2.2.2.1; have hWS := GH_ws hG
  intro n
  induction n with
  | zero =>
    intro hn σ g hg out z hz
    refine MC.of (by decide) (Nat.le_of_ble_eq_true rfl) (fun p e s m args below meth c Q A H0 C X => ?_)
    replace C : Cx p s m args meth c cX0_decide RX0 7 D (TY K) A H0 := C
    show J p l e (rm_X0_decide 0) s m args below meth c Q D A H0 7 0 0 N ad (CT K W S ns nc ad B σ) 0 [(0, .ref (ad 9)), (1, .ref (ad (11 + 2 * g))), (2, .int (nI 0)), (3, .int out)] []
    unfold m_X0_decide at hz
    refine j_iload_n 1 C dX0_decide_0 rfl rfl 3 rfl ?_
    obtain ⟨y1, e1, hz⟩ := ap_x hz
    refine s_S 4 C (As := [.int out]) cs_X0_87 (c_J6_bitCount_0f7a4 (l := l) (D := D) (K := K) (ad := ad) hG  (hz := e1)) dX0_decide_1 rfl rfl rfl rfl rfl ⟨⟨Nat.le_of_ble_eq_true rfl, Nat.le_of_ble_eq_true rfl⟩, Nat.zero_le _, Nat.zero_le _⟩ (Nat.le_of_ble_eq_true rfl) (st' := [.int y1]) rfl (fun hE => ?_)
    refine j_aload_n 5 C dX0_decide_4 rfl rfl 0 rfl ?_
    refine k_get 8 C fl_X0_27 dX0_decide_5 rfl 9 (GH_r hG (by decide)) (σ 9) rfl (CE_9 _) (.int (σ 9 8)) rfl ?_
    obtain ⟨y8, e8, hz⟩ := ap_x hz
    refine s_S 11 C (As := [.int (σ 9 8)]) cs_X0_87 (c_J6_bitCount_0f7a4 (l := l) (D := D) (K := K) (ad := ad) hG  (hz := e8)) dX0_decide_8 rfl rfl rfl rfl rfl ⟨⟨Nat.le_of_ble_eq_true rfl, Nat.le_of_ble_eq_true rfl⟩, Nat.zero_le _, Nat.zero_le _⟩ (Nat.le_of_ble_eq_true rfl) (st' := [.int y8, .int y1]) rfl (fun hE => ?_)
    refine j_ic_lt 15 14 C dX0_decide_11 rfl rfl (fun c_11 => ?_) (fun c_11 => ?_)
    · replace hz := (if_pos c_11).symm.trans hz
      refine j_iload_n 16 C dX0_decide_15 rfl rfl 2 rfl ?_
      refine j_aload_n 17 C dX0_decide_16 rfl rfl 0 rfl ?_
      refine k_get 20 C fl_X0_11 dX0_decide_17 rfl 9 (GH_r hG (by decide)) (σ 9) rfl (CE_9 _) (.ref (ad 10)) rfl ?_
      refine k_alen 21 C dX0_decide_20 rfl 10 (GH_r hG (by decide)) 2 (CE_10 _) rfl ?_
      refine j_ic_le 25 24 C dX0_decide_21 rfl rfl (fun c_21 => ?_) (fun c_21 => ?_)
      · replace hz := (if_pos c_21).symm.trans hz
        have n_21 := nat_le (a := 0) (b := 10) rfl rfl (by omega) (by omega) c_21
        refine j_iload_n 26 C dX0_decide_25 rfl rfl 2 rfl ?_
        refine j_if_gt 43 29 C dX0_decide_26 rfl rfl (fun c_26 => ?_) (fun c_26 => ?_)
        · exact absurd c_26 (by decide)
        · skip
          refine j_aload_n 30 C dX0_decide_29 rfl rfl 0 rfl ?_
          refine j_iload_n 31 C dX0_decide_30 rfl rfl 3 rfl ?_
          refine k_put 34 C fl_X0_27 fp_X0 rfl dX0_decide_31 rfl 9 (GH_r hG (by decide)) (σ 9) rfl (CE_9 _) rfl rfl (Nat.le_of_ble_eq_true rfl) rfl (sA σ 9 (upd (σ 9) 8 out)) rfl ?_
          refine j_aload_n 35 C dX0_decide_34 rfl rfl 0 rfl ?_
          refine k_get 38 C fl_X0_52 dX0_decide_35 rfl 9 (GH_r hG (by decide)) (upd (σ 9) 8 out) rfl (CE_9 _) (.ref (ad 33)) rfl ?_
          refine j_aload_n 39 C dX0_decide_38 rfl rfl 1 rfl ?_
          obtain ⟨y39, e39, hz⟩ := ap_x hz
          refine s_V 42 C (As := [.ref (ad (11 + 2 * g))]) cv_X0_70 (c_X1_copyFrom (l := l) (D := D) (K := K) (ad := ad) hG (hg := by decide) (h_other := by omega) (hz := e39)) dX0_decide_39 rfl 33 1 (GH_r hG (by decide)) rfl (CE_go (g := 11) (by decide) _) rfl rfl rfl rfl rfl rfl ⟨⟨Nat.le_of_ble_eq_true rfl, Nat.le_of_ble_eq_true rfl⟩, Nat.zero_le _, Nat.zero_le _⟩ (Nat.le_of_ble_eq_true rfl) (st' := []) rfl (fun hE => ?_)
          subst hz
          exact j_retV C X dX0_decide_42 ⟨rfl, rfl, rfl, rfl, trivial⟩
      · replace hz := (if_neg c_21).symm.trans hz
        have n_21 := nat_nle (a := 0) (b := 10) rfl rfl (by omega) (by omega) c_21
        subst hz
        exact j_retV C X dX0_decide_24 ⟨rfl, rfl, rfl, rfl, trivial⟩
    · replace hz := (if_neg c_11).symm.trans hz
      subst hz
      exact j_retV C X dX0_decide_14 ⟨rfl, rfl, rfl, rfl, trivial⟩
  | succ n ih =>
    intro hn σ g hg out z hz
    refine MC.of (by decide) (Nat.le_of_ble_eq_true rfl) (fun p e s m args below meth c Q A H0 C X => ?_)
    replace C : Cx p s m args meth c cX0_decide RX0 7 D (TY K) A H0 := C
    show J p l e (rm_X0_decide (n + 1)) s m args below meth c Q D A H0 7 0 0 N ad (CT K W S ns nc ad B σ) 0 [(0, .ref (ad 9)), (1, .ref (ad (11 + 2 * g))), (2, .int (nI (n + 1))), (3, .int out)] []
    unfold m_X0_decide at hz
    refine j_iload_n 1 C dX0_decide_0 rfl rfl 3 rfl ?_
    obtain ⟨y1, e1, hz⟩ := ap_x hz
    refine s_S 4 C (As := [.int out]) cs_X0_87 (c_J6_bitCount_0f7a4 (l := l) (D := D) (K := K) (ad := ad) hG  (hz := e1)) dX0_decide_1 rfl rfl rfl rfl rfl ⟨⟨rm_le (Nat.le_of_ble_eq_true rfl), rm_le (Nat.le_of_ble_eq_true rfl)⟩, Nat.zero_le _, Nat.zero_le _⟩ (Nat.le_of_ble_eq_true rfl) (st' := [.int y1]) rfl (fun hE => ?_)
    refine j_aload_n 5 C dX0_decide_4 rfl rfl 0 rfl ?_
    refine k_get 8 C fl_X0_27 dX0_decide_5 rfl 9 (GH_r hG (by decide)) (σ 9) rfl (CE_9 _) (.int (σ 9 8)) rfl ?_
    obtain ⟨y8, e8, hz⟩ := ap_x hz
    refine s_S 11 C (As := [.int (σ 9 8)]) cs_X0_87 (c_J6_bitCount_0f7a4 (l := l) (D := D) (K := K) (ad := ad) hG  (hz := e8)) dX0_decide_8 rfl rfl rfl rfl rfl ⟨⟨rm_le (Nat.le_of_ble_eq_true rfl), rm_le (Nat.le_of_ble_eq_true rfl)⟩, Nat.zero_le _, Nat.zero_le _⟩ (Nat.le_of_ble_eq_true rfl) (st' := [.int y8, .int y1]) rfl (fun hE => ?_)
    refine j_ic_lt 15 14 C dX0_decide_11 rfl rfl (fun c_11 => ?_) (fun c_11 => ?_)
    · replace hz := (if_pos c_11).symm.trans hz
      refine j_iload_n 16 C dX0_decide_15 rfl rfl 2 rfl ?_
      refine j_aload_n 17 C dX0_decide_16 rfl rfl 0 rfl ?_
      refine k_get 20 C fl_X0_11 dX0_decide_17 rfl 9 (GH_r hG (by decide)) (σ 9) rfl (CE_9 _) (.ref (ad 10)) rfl ?_
      refine k_alen 21 C dX0_decide_20 rfl 10 (GH_r hG (by decide)) 2 (CE_10 _) rfl ?_
      refine j_ic_le 25 24 C dX0_decide_21 rfl rfl (fun c_21 => ?_) (fun c_21 => ?_)
      · replace hz := (if_pos c_21).symm.trans hz
        have n_21 := nat_le (a := (n + 1)) (b := 10) rfl rfl (by omega) (by omega) c_21
        refine j_iload_n 26 C dX0_decide_25 rfl rfl 2 rfl ?_
        refine j_if_gt 43 29 C dX0_decide_26 rfl rfl (fun c_26 => ?_) (fun c_26 => ?_)
        · replace hz := (if_pos c_26).symm.trans hz
          refine j_iload_n 44 C dX0_decide_43 rfl rfl 2 rfl ?_
          refine j_iconst 45 C (x := nI 1) dX0_decide_44 rfl (by decide) ?_
          refine j_isub 46 C dX0_decide_45 rfl rfl ?_
          refine j_st (st' := [.int (nI n)]) (by rw [show (nI (n + 1)) - (nI 1) = nI n from (pk_sub (by omega)).trans (by rw [Nat.add_sub_cancel])]) ?_
          refine j_istore 48 C [(4, .int (nI n)), (0, .ref (ad 9)), (1, .ref (ad (11 + 2 * g))), (2, .int (nI (n + 1))), (3, .int out)] dX0_decide_46 rfl (by decide) rfl ?_
          refine j_aload_n 49 C dX0_decide_48 rfl rfl 1 rfl ?_
          refine k_get 52 C fl_X0_35 dX0_decide_49 rfl 9 (GH_r hG (by decide)) (σ 9) rfl (CE_9 _) (.ref (ad 7)) rfl ?_
          refine j_iload 54 C dX0_decide_52 rfl 0 rfl ?_
          obtain ⟨y54, e54, hz⟩ := ap_x hz
          refine s_V 57 C (As := [.int (nI n)]) cv_X0_93 (c_X4_at (l := l) (D := D) (K := K) (ad := ad) hG  (hz := e54)) dX0_decide_54 rfl 7 4 (GH_r hG (by decide)) rfl (CE_7 _) rfl rfl rfl rfl rfl rfl ⟨⟨rm_le (Nat.le_of_ble_eq_true rfl), rm_le (Nat.le_of_ble_eq_true rfl)⟩, Nat.zero_le _, Nat.zero_le _⟩ (Nat.le_of_ble_eq_true rfl) (st' := [va_rf (y54.map ad)]) rfl (fun hE => ?_)
          refine j_astore_o 59 C [(5, va_rf (y54.map ad)), (4, .int (nI n)), (0, .ref (ad 9)), (1, .ref (ad (11 + 2 * g))), (2, .int (nI (n + 1))), (3, .int out)] dX0_decide_57 rfl (by decide) rfl ?_
          refine j_aload_n 60 C dX0_decide_59 rfl rfl 2 rfl ?_
          refine k_get 63 C fl_X0_11 dX0_decide_60 rfl 9 (GH_r hG (by decide)) (σ 9) rfl (CE_9 _) (.ref (ad 10)) rfl ?_
          refine j_iload 65 C dX0_decide_63 rfl 1 rfl ?_
          refine j_aldq 66 C dX0_decide_65 rfl 10 (GH_r hG (by decide)) rfl (CE_10 _) 2 rfl (vp_inE (n := n) rfl (by omega) (by omega)) (nI_clamp (by omega)) (v := .ref (ad (11 + 2 * n))) (by rw [if_pos (by omega)]; rfl) ?_
          refine j_astore 68 C [(6, .ref (ad (11 + 2 * n))), (5, va_rf (y54.map ad)), (4, .int (nI n)), (0, .ref (ad 9)), (1, .ref (ad (11 + 2 * g))), (2, .int (nI (n + 1))), (3, .int out)] dX0_decide_66 rfl (by decide) (by simp [va_rf_cat]) ?_
          refine j_aload 70 C dX0_decide_68 rfl 0 rfl ?_
          refine j_aload_n 71 C dX0_decide_70 rfl rfl 4 rfl ?_
          obtain ⟨y71, e71, hz⟩ := ap_x hz
          refine s_V 74 C (As := [.ref (ad (11 + 2 * g))]) cv_X0_70 (c_X1_copyFrom (l := l) (D := D) (K := K) (ad := ad) hG (hg := by omega) (h_other := by omega) (hz := e71)) dX0_decide_71 rfl (11 + 2 * n) 1 (GH_r hG (by omega)) rfl (CE_go (by omega) _) rfl rfl rfl rfl rfl rfl ⟨⟨rm_le (Nat.le_of_ble_eq_true rfl), rm_le (Nat.le_of_ble_eq_true rfl)⟩, Nat.zero_le _, Nat.zero_le _⟩ (Nat.le_of_ble_eq_true rfl) (st' := []) rfl (fun hE => ?_)
          refine j_aload_o 76 C dX0_decide_74 rfl 1 rfl ?_
          refine j_ifnull 93 79 C dX0_decide_76 rfl rfl (fun c_76 => ?_) (fun a_76 c_76 => ?_)
          · skip
            replace c_76 := om_n c_76
            replace hz := oe_n c_76 hz
            refine j_aload_n 94 C dX0_decide_93 rfl rfl 3 rfl ?_
            refine j_aload 96 C dX0_decide_94 rfl 0 rfl ?_
            refine j_iload 98 C dX0_decide_96 rfl 2 rfl ?_
            refine j_iload_n 99 C dX0_decide_98 rfl rfl 6 rfl ?_
            obtain ⟨y99, e99, hz⟩ := ap_x hz
            refine s_S 102 C (As := [.ref (ad 9), .ref (ad (11 + 2 * n)), .int (nI n), .int out]) cs_X0_83 (ih (by omega) (hg := by omega) (hz := e99)) dX0_decide_99 rfl rfl rfl rfl rfl ⟨⟨Nat.le_refl _, by show 8 + (7 + 11) + (114 + 26 * n) ≤ 114 + 26 * (n + 1); omega⟩, Nat.zero_le _, Nat.zero_le _⟩ (Nat.le_of_ble_eq_true rfl) (st' := []) rfl (fun hE => ?_)
            refine j_aload_o 104 C dX0_decide_102 rfl 1 rfl ?_
            refine j_ifnull 120 107 C dX0_decide_104 rfl rfl (fun c_104 => ?_) (fun a_104 c_104 => ?_)
            · skip
              replace c_104 := om_n c_104
              replace hz := oe_n c_104 hz
              subst hz
              exact j_retV C X dX0_decide_120 ⟨rfl, rfl, rfl, rfl, trivial⟩
            · skip
              obtain ⟨q104, c_104⟩ := om_s c_104
              replace hz := oe_s c_104 hz
              obtain ⟨hq_q104, hN_q104⟩ := at_q hB e54 c_104
              rw [c_104]
              refine j_lv [0, 1, 2, 3, 4, 5, 6] (lv' := [(6, .ref (ad (11 + 2 * n))), (5, .ref (ad q104)), (4, .int (nI n)), (0, .ref (ad 9)), (1, .ref (ad (11 + 2 * g))), (2, .int (nI (n + 1))), (3, .int out)]) rfl ?_
              refine j_aload_n 108 C dX0_decide_107 rfl rfl 3 rfl ?_
              refine j_aload_n 109 C dX0_decide_108 rfl rfl 4 rfl ?_
              refine j_iload 111 C dX0_decide_109 rfl 2 rfl ?_
              refine j_iload_n 112 C dX0_decide_111 rfl rfl 6 rfl ?_
              refine j_iconst 113 C (x := nI 1) dX0_decide_112 rfl (by decide) ?_
              refine j_iload 115 C dX0_decide_113 rfl 2 rfl ?_
              refine j_ishl 116 C dX0_decide_115 rfl rfl ?_
              refine j_ior 117 C dX0_decide_116 rfl rfl ?_
              obtain ⟨y117, e117, hz⟩ := ap_x hz
              refine s_S 120 C (As := [.ref (ad 9), .ref (ad (11 + 2 * g)), .int (nI n), .int (out ||| ((nI 1) <<< ((nI n) &&& 31)))]) cs_X0_83 (ih (by omega) (hg := by omega) (hz := e117)) dX0_decide_117 rfl rfl rfl rfl rfl ⟨⟨Nat.le_refl _, by show 8 + (7 + 11) + (114 + 26 * n) ≤ 114 + 26 * (n + 1); omega⟩, Nat.zero_le _, Nat.zero_le _⟩ (Nat.le_of_ble_eq_true rfl) (st' := []) rfl (fun hE => ?_)
              subst hz
              exact j_retV C X dX0_decide_120 ⟨rfl, rfl, rfl, rfl, trivial⟩
          · skip
            obtain ⟨q76, c_76⟩ := om_s c_76
            replace hz := oe_s c_76 hz
            obtain ⟨hq_q76, hN_q76⟩ := at_q hB e54 c_76
            rw [c_76]
            refine j_lv [0, 1, 2, 3, 4, 5, 6] (lv' := [(6, .ref (ad (11 + 2 * n))), (5, .ref (ad q76)), (4, .int (nI n)), (0, .ref (ad 9)), (1, .ref (ad (11 + 2 * g))), (2, .int (nI (n + 1))), (3, .int out)]) rfl ?_
            refine j_aload 81 C dX0_decide_79 rfl 1 rfl ?_
            refine j_aload 83 C dX0_decide_81 rfl 0 rfl ?_
            refine j_aload_n 84 C dX0_decide_83 rfl rfl 3 rfl ?_
            refine k_get 87 C fl_X0_31 dX0_decide_84 rfl 9 (GH_r hG (by decide)) (σ 9) ((sA_ne (by omega)).trans rfl) (CE_9 _) (.ref (ad 1)) rfl ?_
            obtain ⟨y87, e87, hz⟩ := ap_x hz
            refine s_V 90 C (As := [.ref (ad (11 + 2 * n)), .ref (ad 1)]) cv_X0_97 (c_X3_bind (l := l) (D := D) (K := K) (ad := ad) hG (hq_q := hq_q76) (hN_q := hN_q76) (h_g := by omega) (hz := e87)) dX0_decide_87 rfl q76 3 hN_q76 rfl (CE_q hq_q76 _) rfl rfl rfl rfl rfl rfl ⟨⟨rm_le (Nat.le_of_ble_eq_true rfl), rm_le (Nat.le_of_ble_eq_true rfl)⟩, Nat.zero_le _, Nat.zero_le _⟩ (Nat.le_of_ble_eq_true rfl) (st' := [.int y87.1]) rfl (fun hE => ?_)
            refine j_ct (ct' := CT K W S ns nc ad B (sA σ (12 + 2 * n) y87.2)) (fun r _ => congrFun (congrArg (CT K W S ns nc ad B) sA_top) r) ?_
            have hbl87 : bl y87.1 := hE
            refine j_if_eq 102 93 C dX0_decide_90 rfl rfl (fun c_90 => ?_) (fun c_90 => ?_)
            · replace hz := (if_pos c_90).symm.trans hz
              refine j_aload 104 C dX0_decide_102 rfl 1 rfl ?_
              refine j_st (st' := [va_rf (some (ad q76))]) rfl ?_
              refine j_ifnull 120 107 C dX0_decide_104 rfl rfl (fun c_104 => by cases c_104) (fun _ _ => ?_)
              refine j_aload_n 108 C dX0_decide_107 rfl rfl 3 rfl ?_
              refine j_aload_n 109 C dX0_decide_108 rfl rfl 4 rfl ?_
              refine j_iload 111 C dX0_decide_109 rfl 2 rfl ?_
              refine j_iload_n 112 C dX0_decide_111 rfl rfl 6 rfl ?_
              refine j_iconst 113 C (x := nI 1) dX0_decide_112 rfl (by decide) ?_
              refine j_iload 115 C dX0_decide_113 rfl 2 rfl ?_
              refine j_ishl 116 C dX0_decide_115 rfl rfl ?_
              refine j_ior 117 C dX0_decide_116 rfl rfl ?_
              obtain ⟨y117, e117, hz⟩ := ap_x hz
              refine s_S 120 C (As := [.ref (ad 9), .ref (ad (11 + 2 * g)), .int (nI n), .int (out ||| ((nI 1) <<< ((nI n) &&& 31)))]) cs_X0_83 (ih (by omega) (hg := by omega) (hz := e117)) dX0_decide_117 rfl rfl rfl rfl rfl ⟨⟨Nat.le_refl _, by show 8 + (7 + 11) + (114 + 26 * n) ≤ 114 + 26 * (n + 1); omega⟩, Nat.zero_le _, Nat.zero_le _⟩ (Nat.le_of_ble_eq_true rfl) (st' := []) rfl (fun hE => ?_)
              subst hz
              exact j_retV C X dX0_decide_120 ⟨rfl, rfl, rfl, rfl, trivial⟩
            · replace hz := (if_neg c_90).symm.trans hz
              refine j_aload_n 94 C dX0_decide_93 rfl rfl 3 rfl ?_
              refine j_aload 96 C dX0_decide_94 rfl 0 rfl ?_
              refine j_iload 98 C dX0_decide_96 rfl 2 rfl ?_
              refine j_iload_n 99 C dX0_decide_98 rfl rfl 6 rfl ?_
              obtain ⟨y99, e99, hz⟩ := ap_x hz
              refine s_S 102 C (As := [.ref (ad 9), .ref (ad (11 + 2 * n)), .int (nI n), .int out]) cs_X0_83 (ih (by omega) (hg := by omega) (hz := e99)) dX0_decide_99 rfl rfl rfl rfl rfl ⟨⟨Nat.le_refl _, by show 8 + (7 + 11) + (114 + 26 * n) ≤ 114 + 26 * (n + 1); omega⟩, Nat.zero_le _, Nat.zero_le _⟩ (Nat.le_of_ble_eq_true rfl) (st' := []) rfl (fun hE => ?_)
              refine j_aload 104 C dX0_decide_102 rfl 1 rfl ?_
              refine j_st (st' := [va_rf (some (ad q76))]) rfl ?_
              refine j_ifnull 120 107 C dX0_decide_104 rfl rfl (fun c_104 => by cases c_104) (fun _ _ => ?_)
              refine j_aload_n 108 C dX0_decide_107 rfl rfl 3 rfl ?_
              refine j_aload_n 109 C dX0_decide_108 rfl rfl 4 rfl ?_
              refine j_iload 111 C dX0_decide_109 rfl 2 rfl ?_
              refine j_iload_n 112 C dX0_decide_111 rfl rfl 6 rfl ?_
              refine j_iconst 113 C (x := nI 1) dX0_decide_112 rfl (by decide) ?_
              refine j_iload 115 C dX0_decide_113 rfl 2 rfl ?_
              refine j_ishl 116 C dX0_decide_115 rfl rfl ?_
              refine j_ior 117 C dX0_decide_116 rfl rfl ?_
              obtain ⟨y117, e117, hz⟩ := ap_x hz
              refine s_S 120 C (As := [.ref (ad 9), .ref (ad (11 + 2 * g)), .int (nI n), .int (out ||| ((nI 1) <<< ((nI n) &&& 31)))]) cs_X0_83 (ih (by omega) (hg := by omega) (hz := e117)) dX0_decide_117 rfl rfl rfl rfl rfl ⟨⟨Nat.le_refl _, by show 8 + (7 + 11) + (114 + 26 * n) ≤ 114 + 26 * (n + 1); omega⟩, Nat.zero_le _, Nat.zero_le _⟩ (Nat.le_of_ble_eq_true rfl) (st' := []) rfl (fun hE => ?_)
              subst hz
              exact j_retV C X dX0_decide_120 ⟨rfl, rfl, rfl, rfl, trivial⟩
        · replace hz := (if_neg c_26).symm.trans hz
          refine j_aload_n 30 C dX0_decide_29 rfl rfl 0 rfl ?_
          refine j_iload_n 31 C dX0_decide_30 rfl rfl 3 rfl ?_
          refine k_put 34 C fl_X0_27 fp_X0 rfl dX0_decide_31 rfl 9 (GH_r hG (by decide)) (σ 9) rfl (CE_9 _) rfl rfl (Nat.le_of_ble_eq_true rfl) rfl (sA σ 9 (upd (σ 9) 8 out)) rfl ?_
          refine j_aload_n 35 C dX0_decide_34 rfl rfl 0 rfl ?_
          refine k_get 38 C fl_X0_52 dX0_decide_35 rfl 9 (GH_r hG (by decide)) (upd (σ 9) 8 out) rfl (CE_9 _) (.ref (ad 33)) rfl ?_
          refine j_aload_n 39 C dX0_decide_38 rfl rfl 1 rfl ?_
          obtain ⟨y39, e39, hz⟩ := ap_x hz
          refine s_V 42 C (As := [.ref (ad (11 + 2 * g))]) cv_X0_70 (c_X1_copyFrom (l := l) (D := D) (K := K) (ad := ad) hG (hg := by decide) (h_other := by omega) (hz := e39)) dX0_decide_39 rfl 33 1 (GH_r hG (by decide)) rfl (CE_go (g := 11) (by decide) _) rfl rfl rfl rfl rfl rfl ⟨⟨rm_le (Nat.le_of_ble_eq_true rfl), rm_le (Nat.le_of_ble_eq_true rfl)⟩, Nat.zero_le _, Nat.zero_le _⟩ (Nat.le_of_ble_eq_true rfl) (st' := []) rfl (fun hE => ?_)
          subst hz
          exact j_retV C X dX0_decide_42 ⟨rfl, rfl, rfl, rfl, trivial⟩
      · replace hz := (if_neg c_21).symm.trans hz
        have n_21 := nat_nle (a := (n + 1)) (b := 10) rfl rfl (by omega) (by omega) c_21
        subst hz
        exact j_retV C X dX0_decide_24 ⟨rfl, rfl, rfl, rfl, trivial⟩
    · replace hz := (if_neg c_11).symm.trans hz
      subst hz
      exact j_retV C X dX0_decide_14 ⟨rfl, rfl, rfl, rfl, trivial⟩
def m_X0_findQuarrel (W S ns nc : Nat) (B : Nat → Option Nat) (σ : Nat → Nat → Int32) : (Nat → Nat → Int32) := ap (m_X4_heap W S ns nc B σ) (fun (y5 : Int32) => ap (m_X1_copyFrom W S ns nc B (sA σ 9 (upd (σ 9) 8 y5)) 11 10) (fun (y19 : (Nat → Int32)) => ap (m_X4_came W S ns nc B (sA (sA σ 9 (upd (σ 9) 8 y5)) (12 + 2 * 11) y19)) (fun (y31 : Int32) => ap (m_X0_decide W S ns nc B nc (sA (sA σ 9 (upd (σ 9) 8 y5)) (12 + 2 * 11) y19) 10 (nI 0)) (fun (y43 : (Nat → Nat → Int32)) => y43))))
abbrev rm_X0_findQuarrel : Room := { frames := 16, cells := 0, slots := 0, locals := 500 }
set_option maxHeartbeats 4000000 in
set_option maxRecDepth 100000 in
theorem c_X0_findQuarrel {l : Launch} {D : va_G} {K : Nat → ClassId} {W S ns nc N : Nat} {ad : Nat → Nat} {B : Nat → Option Nat} {σ : Nat → Nat → Int32} (hG : GH W S ns nc N)   {z : (Nat → Nat → Int32)} (hz : m_X0_findQuarrel W S ns nc B σ = z) (hB : BOK B N) : MC l yX0_findQuarrel cX0_findQuarrel 1 none rm_X0_findQuarrel D (TY K) N ad (CT K W S ns nc ad B σ) [.ref (ad 9)] (BS none N ad (CT K W S ns nc ad B z) True) := by
  have hW := hG.1; have hW8 := hG.2.1; have hS := hG.2.2.1; have hS4 := hG.2.2.2.1; have hns := hG.2.2.2.2.1; have hnc := hG.2.2.2.2.2.1; have hWS := GH_ws hG
  refine MC.of (by decide) (Nat.le_of_ble_eq_true rfl) (fun p e s m args below meth c Q A H0 C X => ?_)
  replace C : Cx p s m args meth c cX0_findQuarrel RX0 1 D (TY K) A H0 := C
  show J p l e rm_X0_findQuarrel s m args below meth c Q D A H0 1 0 0 N ad (CT K W S ns nc ad B σ) 0 [(0, .ref (ad 9))] []
  unfold m_X0_findQuarrel at hz
  refine j_aload_n 1 C dX0_findQuarrel_0 rfl rfl 0 rfl ?_
  refine j_aload_n 2 C dX0_findQuarrel_1 rfl rfl 0 rfl ?_
  refine k_get 5 C fl_X0_35 dX0_findQuarrel_2 rfl 9 (GH_r hG (by decide)) (σ 9) rfl (CE_9 _) (.ref (ad 7)) rfl ?_
  obtain ⟨y5, e5, hz⟩ := ap_x hz
  refine s_V 8 C (As := []) cv_X0_65 (c_X4_heap (l := l) (D := D) (K := K) (ad := ad) hG (hB := hB) (hz := e5)) dX0_findQuarrel_5 rfl 7 4 (GH_r hG (by decide)) rfl (CE_7 _) rfl rfl rfl rfl rfl rfl ⟨⟨Nat.le_of_ble_eq_true rfl, Nat.le_of_ble_eq_true rfl⟩, Nat.zero_le _, Nat.zero_le _⟩ (Nat.le_of_ble_eq_true rfl) (st' := [.int y5, .ref (ad 9)]) rfl (fun hE => ?_)
  refine k_put 11 C fl_X0_27 fp_X0 rfl dX0_findQuarrel_8 rfl 9 (GH_r hG (by decide)) (σ 9) rfl (CE_9 _) rfl rfl (Nat.le_of_ble_eq_true rfl) rfl (sA σ 9 (upd (σ 9) 8 y5)) rfl ?_
  refine j_aload_n 12 C dX0_findQuarrel_11 rfl rfl 0 rfl ?_
  refine k_get 15 C fl_X0_52 dX0_findQuarrel_12 rfl 9 (GH_r hG (by decide)) (upd (σ 9) 8 y5) rfl (CE_9 _) (.ref (ad 33)) rfl ?_
  refine j_aload_n 16 C dX0_findQuarrel_15 rfl rfl 0 rfl ?_
  refine k_get 19 C fl_X0_48 dX0_findQuarrel_16 rfl 9 (GH_r hG (by decide)) (upd (σ 9) 8 y5) rfl (CE_9 _) (.ref (ad 31)) rfl ?_
  obtain ⟨y19, e19, hz⟩ := ap_x hz
  refine s_V 22 C (As := [.ref (ad 31)]) cv_X0_70 (c_X1_copyFrom (l := l) (D := D) (K := K) (ad := ad) hG (hg := by decide) (h_other := by decide) (hz := e19)) dX0_findQuarrel_19 rfl 33 1 (GH_r hG (by decide)) rfl (CE_go (g := 11) (by decide) _) rfl rfl rfl rfl rfl rfl ⟨⟨Nat.le_of_ble_eq_true rfl, Nat.le_of_ble_eq_true rfl⟩, Nat.zero_le _, Nat.zero_le _⟩ (Nat.le_of_ble_eq_true rfl) (st' := []) rfl (fun hE => ?_)
  refine j_aload_n 23 C dX0_findQuarrel_22 rfl rfl 0 rfl ?_
  refine j_aload_n 24 C dX0_findQuarrel_23 rfl rfl 0 rfl ?_
  refine k_get 27 C fl_X0_48 dX0_findQuarrel_24 rfl 9 (GH_r hG (by decide)) (upd (σ 9) 8 y5) ((sA_ne (by omega)).trans sA_at) (CE_9 _) (.ref (ad 31)) rfl ?_
  refine j_aload_n 28 C dX0_findQuarrel_27 rfl rfl 0 rfl ?_
  refine k_get 31 C fl_X0_35 dX0_findQuarrel_28 rfl 9 (GH_r hG (by decide)) (upd (σ 9) 8 y5) ((sA_ne (by omega)).trans sA_at) (CE_9 _) (.ref (ad 7)) rfl ?_
  obtain ⟨y31, e31, hz⟩ := ap_x hz
  refine s_V 34 C (As := []) cv_X0_74 (c_X4_came (l := l) (D := D) (K := K) (ad := ad) hG  (hz := e31)) dX0_findQuarrel_31 rfl 7 4 (GH_r hG (by decide)) rfl (CE_7 _) rfl rfl rfl rfl rfl rfl ⟨⟨Nat.le_of_ble_eq_true rfl, Nat.le_of_ble_eq_true rfl⟩, Nat.zero_le _, Nat.zero_le _⟩ (Nat.le_of_ble_eq_true rfl) (st' := [.int y31, .ref (ad 31), .ref (ad 9)]) rfl (fun hE => ?_)
  have ey31 : y31 = nI nc := by rw [← e31]; exact rfl
  refine j_aload_n 35 C dX0_findQuarrel_34 rfl rfl 0 rfl ?_
  refine k_get 38 C fl_X0_11 dX0_findQuarrel_35 rfl 9 (GH_r hG (by decide)) (upd (σ 9) 8 y5) ((sA_ne (by omega)).trans sA_at) (CE_9 _) (.ref (ad 10)) rfl ?_
  refine k_alen 39 C dX0_findQuarrel_38 rfl 10 (GH_r hG (by decide)) 2 (CE_10 _) rfl ?_
  refine j_mmin 42 C wl_X0_77 rfl dX0_findQuarrel_39 rfl (Nat.le_of_ble_eq_true rfl) (Nat.le_of_ble_eq_true rfl) (Nat.zero_le _) (Nat.zero_le _) ?_
  refine j_st (st' := [.int (nI nc), .ref (ad 31), .ref (ad 9)]) (by rw [show (if (nI 10) < y31 then (nI 10) else y31) = nI nc from (by rw [ey31]; exact min_nc hnc)]) ?_
  refine j_iconst 43 C (x := nI 0) dX0_findQuarrel_42 rfl (by decide) ?_
  obtain ⟨y43, e43, hz⟩ := ap_x hz
  refine s_S 46 C (As := [.ref (ad 9), .ref (ad 31), .int (nI nc), .int (nI 0)]) cs_X0_83 (c_X0_decide (l := l) (D := D) (K := K) (ad := ad) hG hB nc hnc (hg := by decide) (hz := e43)) dX0_findQuarrel_43 rfl rfl rfl rfl rfl ⟨⟨(by show 4 + nc + 1 ≤ 16; omega), (by show 8 + (7 + 11) + (114 + 26 * nc) ≤ 500; omega)⟩, Nat.zero_le _, Nat.zero_le _⟩ (Nat.le_of_ble_eq_true rfl) (st' := []) rfl (fun hE => ?_)
  subst hz
  exact j_retV C X dX0_findQuarrel_46 ⟨rfl, rfl, rfl, rfl, trivial⟩
theorem q_d97 {W S ns nc : Nat} {B : Nat → Option Nat} : ∀ (n : Nat) (σ : Nat → Nat → Int32) (g : Nat) (out : Int32), m_X0_decide W S ns nc B n σ g out 9 7 = σ 9 7
  | 0, σ, g, out => by
    have e : ∀ f : Nat → Int32, (sA (sA σ 9 (upd (σ 9) 8 out)) (12 + 2 * 11) f) 9 7 = σ 9 7 := fun f => by rw [sA_ne (by omega), sA_at]; rfl
    simp only [m_X0_decide, ap]
    split
    · split
      · exact e _
      · rfl
    · rfl
  | n + 1, σ, g, out => by
    have ih := @q_d97 W S ns nc B n
    have e : ∀ f : Nat → Int32, (sA (sA σ 9 (upd (σ 9) 8 out)) (12 + 2 * 11) f) 9 7 = σ 9 7 := fun f => by rw [sA_ne (by omega), sA_at]; rfl
    have e2 : ∀ f : Nat → Int32, (sA σ (12 + 2 * n) f) 9 7 = σ 9 7 := fun f => by rw [sA_ne (by omega)]
    simp only [m_X0_decide, ap]
    split
    · split
      · split
        · cases m_X4_at W S ns nc B σ (nI n) with
          | none => simp only [Option.elim_none]; rw [ih, e2]
          | some q =>
            simp only [Option.elim_some]
            split
            · rw [ih, e2]
            · rw [ih, ih, e2]
        · exact e _
      · rfl
    · rfl
theorem q_f97 {W S ns nc : Nat} {B : Nat → Option Nat} {σ : Nat → Nat → Int32} : m_X0_findQuarrel W S ns nc B σ 9 7 = σ 9 7 := by
  simp only [m_X0_findQuarrel, ap]
  rw [q_d97, sA_ne (by omega), sA_at]
  rfl
theorem fq97 {W S ns nc : Nat} {B : Nat → Option Nat} {σ : Nat → Nat → Int32} : m_X0_findQuarrel W S ns nc B σ 9 7 = σ 9 7 := q_f97
def m_X0_areSome (W S ns nc : Nat) (B : Nat → Option Nat) (σ : Nat → Nat → Int32) : Int32 × (Nat → Nat → Int32) := (if (σ 9 5) = 0 then ap (m_X1_clear W S ns nc B σ 10) (fun (y11 : (Nat → Int32)) => ap (m_X2_bind W S ns nc B (sA σ (12 + 2 * 10) y11) 10) (fun (y23 : Int32 × (Nat → Int32)) => (if y23.1 = 0 then (y23.1, (sA (sA σ (12 + 2 * 10) y23.2) 9 (upd (upd (σ 9) 7 y23.1) 5 (nI 1)))) else (if (σ 9 6) = 0 then ap (m_X0_findQuarrel W S ns nc B (sA (sA σ (12 + 2 * 10) y23.2) 9 (upd (upd (σ 9) 7 y23.1) 5 (nI 1)))) (fun (y49 : (Nat → Nat → Int32)) => (y49 9 7, (sA y49 9 (upd (y49 9) 6 (nI 1))))) else (y23.1, (sA (sA σ (12 + 2 * 10) y23.2) 9 (upd (upd (σ 9) 7 y23.1) 5 (nI 1)))))))) else (if (σ 9 7) = 0 then (σ 9 7, σ) else (if (σ 9 6) = 0 then ap (m_X0_findQuarrel W S ns nc B σ) (fun (y49 : (Nat → Nat → Int32)) => (y49 9 7, (sA y49 9 (upd (y49 9) 6 (nI 1))))) else (σ 9 7, σ))))
abbrev rm_X0_areSome : Room := { frames := 17, cells := 0, slots := 0, locals := 520 }
set_option maxHeartbeats 4000000 in
set_option maxRecDepth 100000 in
theorem c_X0_areSome {l : Launch} {D : va_G} {K : Nat → ClassId} {W S ns nc N : Nat} {ad : Nat → Nat} {B : Nat → Option Nat} {σ : Nat → Nat → Int32} (hG : GH W S ns nc N)   {z : Int32 × (Nat → Nat → Int32)} (hz : m_X0_areSome W S ns nc B σ = z) (hB : BOK B N) (hb7 : bl (σ 9 7)) : MC l yX0_areSome cX0_areSome 1 (some .boolean) rm_X0_areSome D (TY K) N ad (CT K W S ns nc ad B σ) [.ref (ad 9)] (BS (some (.int z.1)) N ad (CT K W S ns nc ad B z.2) (bl z.1)) := by
  have hW := hG.1; have hW8 := hG.2.1; have hS := hG.2.2.1; have hS4 := hG.2.2.2.1; have hns := hG.2.2.2.2.1; have hnc := hG.2.2.2.2.2.1; have hWS := GH_ws hG
  refine MC.of (by decide) (Nat.le_of_ble_eq_true rfl) (fun p e s m args below meth c Q A H0 C X => ?_)
  replace C : Cx p s m args meth c cX0_areSome RX0 1 D (TY K) A H0 := C
  show J p l e rm_X0_areSome s m args below meth c Q D A H0 1 0 0 N ad (CT K W S ns nc ad B σ) 0 [(0, .ref (ad 9))] []
  unfold m_X0_areSome at hz
  refine j_aload_n 1 C dX0_areSome_0 rfl rfl 0 rfl ?_
  refine k_get 4 C fl_X0_17 dX0_areSome_1 rfl 9 (GH_r hG (by decide)) (σ 9) rfl (CE_9 _) (.int (σ 9 5)) rfl ?_
  refine j_if_ne 34 7 C dX0_areSome_4 rfl rfl (fun c_4 => ?_) (fun c_4 => ?_)
  · replace hz := (if_neg c_4).symm.trans hz
    refine j_aload_n 35 C dX0_areSome_34 rfl rfl 0 rfl ?_
    refine k_get 38 C fl_X0_24 dX0_areSome_35 rfl 9 (GH_r hG (by decide)) (σ 9) rfl (CE_9 _) (.int (σ 9 7)) rfl ?_
    refine j_if_eq 57 41 C dX0_areSome_38 rfl rfl (fun c_38 => ?_) (fun c_38 => ?_)
    · replace hz := (if_pos c_38).symm.trans hz
      refine j_aload_n 58 C dX0_areSome_57 rfl rfl 0 rfl ?_
      refine k_get 61 C fl_X0_24 dX0_areSome_58 rfl 9 (GH_r hG (by decide)) (σ 9) rfl (CE_9 _) (.int (σ 9 7)) rfl ?_
      subst hz
      exact j_retI C X dX0_areSome_61 (bl_nar hb7) ⟨rfl, rfl, rfl, rfl, hb7⟩
    · replace hz := (if_neg c_38).symm.trans hz
      refine j_aload_n 42 C dX0_areSome_41 rfl rfl 0 rfl ?_
      refine k_get 45 C fl_X0_21 dX0_areSome_42 rfl 9 (GH_r hG (by decide)) (σ 9) rfl (CE_9 _) (.int (σ 9 6)) rfl ?_
      refine j_if_ne 57 48 C dX0_areSome_45 rfl rfl (fun c_45 => ?_) (fun c_45 => ?_)
      · replace hz := (if_neg c_45).symm.trans hz
        refine j_aload_n 58 C dX0_areSome_57 rfl rfl 0 rfl ?_
        refine k_get 61 C fl_X0_24 dX0_areSome_58 rfl 9 (GH_r hG (by decide)) (σ 9) rfl (CE_9 _) (.int (σ 9 7)) rfl ?_
        subst hz
        exact j_retI C X dX0_areSome_61 (bl_nar hb7) ⟨rfl, rfl, rfl, rfl, hb7⟩
      · replace hz := (if_pos c_45).symm.trans hz
        refine j_aload_n 49 C dX0_areSome_48 rfl rfl 0 rfl ?_
        obtain ⟨y49, e49, hz⟩ := ap_x hz
        refine s_V 52 C (As := []) cv_X0_62 (c_X0_findQuarrel (l := l) (D := D) (K := K) (ad := ad) hG (hB := hB) (hz := e49)) dX0_areSome_49 rfl 9 0 (GH_r hG (by decide)) rfl (CE_9 _) rfl rfl rfl rfl rfl rfl ⟨⟨Nat.le_of_ble_eq_true rfl, Nat.le_of_ble_eq_true rfl⟩, Nat.zero_le _, Nat.zero_le _⟩ (Nat.le_of_ble_eq_true rfl) (st' := []) rfl (fun hE => ?_)
        have h97 : bl (y49 9 7) := by rw [← e49, fq97]; first | exact hb7 | exact hbl23
        refine j_aload_n 53 C dX0_areSome_52 rfl rfl 0 rfl ?_
        refine j_iconst 54 C (x := nI 1) dX0_areSome_53 rfl (by decide) ?_
        refine k_put 57 C fl_X0_21 fp_X0 rfl dX0_areSome_54 rfl 9 (GH_r hG (by decide)) (y49 9) rfl (CE_9 _) (bl_nar bl_1) (bl_fit bl_1) (Nat.le_of_ble_eq_true rfl) rfl (sA y49 9 (upd (y49 9) 6 (nI 1))) rfl ?_
        refine j_aload_n 58 C dX0_areSome_57 rfl rfl 0 rfl ?_
        refine k_get 61 C fl_X0_24 dX0_areSome_58 rfl 9 (GH_r hG (by decide)) (upd (y49 9) 6 (nI 1)) rfl (CE_9 _) (.int (y49 9 7)) rfl ?_
        subst hz
        exact j_retI C X dX0_areSome_61 (bl_nar h97) ⟨rfl, rfl, rfl, rfl, h97⟩
  · replace hz := (if_pos c_4).symm.trans hz
    refine j_aload_n 8 C dX0_areSome_7 rfl rfl 0 rfl ?_
    refine k_get 11 C fl_X0_48 dX0_areSome_8 rfl 9 (GH_r hG (by decide)) (σ 9) rfl (CE_9 _) (.ref (ad 31)) rfl ?_
    obtain ⟨y11, e11, hz⟩ := ap_x hz
    refine s_V 14 C (As := []) cv_X0_55 (c_X1_clear (l := l) (D := D) (K := K) (ad := ad) hG (hg := by decide) (hz := e11)) dX0_areSome_11 rfl 31 1 (GH_r hG (by decide)) rfl (CE_go (g := 10) (by decide) _) rfl rfl rfl rfl rfl rfl ⟨⟨Nat.le_of_ble_eq_true rfl, Nat.le_of_ble_eq_true rfl⟩, Nat.zero_le _, Nat.zero_le _⟩ (Nat.le_of_ble_eq_true rfl) (st' := []) rfl (fun hE => ?_)
    refine j_aload_n 15 C dX0_areSome_14 rfl rfl 0 rfl ?_
    refine j_aload_n 16 C dX0_areSome_15 rfl rfl 0 rfl ?_
    refine k_get 19 C fl_X0_31 dX0_areSome_16 rfl 9 (GH_r hG (by decide)) (σ 9) ((sA_ne (by omega)).trans rfl) (CE_9 _) (.ref (ad 1)) rfl ?_
    refine j_aload_n 20 C dX0_areSome_19 rfl rfl 0 rfl ?_
    refine k_get 23 C fl_X0_48 dX0_areSome_20 rfl 9 (GH_r hG (by decide)) (σ 9) ((sA_ne (by omega)).trans rfl) (CE_9 _) (.ref (ad 31)) rfl ?_
    obtain ⟨y23, e23, hz⟩ := ap_x hz
    refine s_V 26 C (As := [.ref (ad 31)]) cv_X0_58 (c_X2_bind (l := l) (D := D) (K := K) (ad := ad) hG (h_g := by decide) (hz := e23)) dX0_areSome_23 rfl 1 2 (GH_r hG (by decide)) rfl (CE_1 _) rfl rfl rfl rfl rfl rfl ⟨⟨Nat.le_of_ble_eq_true rfl, Nat.le_of_ble_eq_true rfl⟩, Nat.zero_le _, Nat.zero_le _⟩ (Nat.le_of_ble_eq_true rfl) (st' := [.int y23.1, .ref (ad 9)]) rfl (fun hE => ?_)
    refine j_ct (ct' := CT K W S ns nc ad B (sA σ (12 + 2 * 10) y23.2)) (fun r _ => congrFun (congrArg (CT K W S ns nc ad B) sA_top) r) ?_
    have hbl23 : bl y23.1 := hE
    refine k_put 29 C fl_X0_24 fp_X0 rfl dX0_areSome_26 rfl 9 (GH_r hG (by decide)) (σ 9) ((sA_ne (by omega)).trans rfl) (CE_9 _) (bl_nar hbl23) (bl_fit hbl23) (Nat.le_of_ble_eq_true rfl) rfl (sA (sA σ (12 + 2 * 10) y23.2) 9 (upd (σ 9) 7 y23.1)) rfl ?_
    refine j_aload_n 30 C dX0_areSome_29 rfl rfl 0 rfl ?_
    refine j_iconst 31 C (x := nI 1) dX0_areSome_30 rfl (by decide) ?_
    refine k_put 34 C fl_X0_17 fp_X0 rfl dX0_areSome_31 rfl 9 (GH_r hG (by decide)) (upd (σ 9) 7 y23.1) sA_at (CE_9 _) (bl_nar bl_1) (bl_fit bl_1) (Nat.le_of_ble_eq_true rfl) rfl (sA (sA σ (12 + 2 * 10) y23.2) 9 (upd (upd (σ 9) 7 y23.1) 5 (nI 1))) sA_top ?_
    refine j_aload_n 35 C dX0_areSome_34 rfl rfl 0 rfl ?_
    refine k_get 38 C fl_X0_24 dX0_areSome_35 rfl 9 (GH_r hG (by decide)) (upd (upd (σ 9) 7 y23.1) 5 (nI 1)) sA_at (CE_9 _) (.int y23.1) rfl ?_
    refine j_if_eq 57 41 C dX0_areSome_38 rfl rfl (fun c_38 => ?_) (fun c_38 => ?_)
    · replace hz := (if_pos c_38).symm.trans hz
      refine j_aload_n 58 C dX0_areSome_57 rfl rfl 0 rfl ?_
      refine k_get 61 C fl_X0_24 dX0_areSome_58 rfl 9 (GH_r hG (by decide)) (upd (upd (σ 9) 7 y23.1) 5 (nI 1)) sA_at (CE_9 _) (.int y23.1) rfl ?_
      subst hz
      exact j_retI C X dX0_areSome_61 (bl_nar hbl23) ⟨rfl, rfl, rfl, rfl, hbl23⟩
    · replace hz := (if_neg c_38).symm.trans hz
      refine j_aload_n 42 C dX0_areSome_41 rfl rfl 0 rfl ?_
      refine k_get 45 C fl_X0_21 dX0_areSome_42 rfl 9 (GH_r hG (by decide)) (upd (upd (σ 9) 7 y23.1) 5 (nI 1)) sA_at (CE_9 _) (.int (σ 9 6)) rfl ?_
      refine j_if_ne 57 48 C dX0_areSome_45 rfl rfl (fun c_45 => ?_) (fun c_45 => ?_)
      · replace hz := (if_neg c_45).symm.trans hz
        refine j_aload_n 58 C dX0_areSome_57 rfl rfl 0 rfl ?_
        refine k_get 61 C fl_X0_24 dX0_areSome_58 rfl 9 (GH_r hG (by decide)) (upd (upd (σ 9) 7 y23.1) 5 (nI 1)) sA_at (CE_9 _) (.int y23.1) rfl ?_
        subst hz
        exact j_retI C X dX0_areSome_61 (bl_nar hbl23) ⟨rfl, rfl, rfl, rfl, hbl23⟩
      · replace hz := (if_pos c_45).symm.trans hz
        refine j_aload_n 49 C dX0_areSome_48 rfl rfl 0 rfl ?_
        obtain ⟨y49, e49, hz⟩ := ap_x hz
        refine s_V 52 C (As := []) cv_X0_62 (c_X0_findQuarrel (l := l) (D := D) (K := K) (ad := ad) hG (hB := hB) (hz := e49)) dX0_areSome_49 rfl 9 0 (GH_r hG (by decide)) rfl (CE_9 _) rfl rfl rfl rfl rfl rfl ⟨⟨Nat.le_of_ble_eq_true rfl, Nat.le_of_ble_eq_true rfl⟩, Nat.zero_le _, Nat.zero_le _⟩ (Nat.le_of_ble_eq_true rfl) (st' := []) rfl (fun hE => ?_)
        have h97 : bl (y49 9 7) := by rw [← e49, fq97]; first | exact hb7 | exact hbl23
        refine j_aload_n 53 C dX0_areSome_52 rfl rfl 0 rfl ?_
        refine j_iconst 54 C (x := nI 1) dX0_areSome_53 rfl (by decide) ?_
        refine k_put 57 C fl_X0_21 fp_X0 rfl dX0_areSome_54 rfl 9 (GH_r hG (by decide)) (y49 9) rfl (CE_9 _) (bl_nar bl_1) (bl_fit bl_1) (Nat.le_of_ble_eq_true rfl) rfl (sA y49 9 (upd (y49 9) 6 (nI 1))) rfl ?_
        refine j_aload_n 58 C dX0_areSome_57 rfl rfl 0 rfl ?_
        refine k_get 61 C fl_X0_24 dX0_areSome_58 rfl 9 (GH_r hG (by decide)) (upd (y49 9) 6 (nI 1)) rfl (CE_9 _) (.int (y49 9 7)) rfl ?_
        subst hz
        exact j_retI C X dX0_areSome_61 (bl_nar h97) ⟨rfl, rfl, rfl, rfl, h97⟩

def m_J6_bitCount_0f7a4 (W S ns nc : Nat) (B : Nat → Option Nat) (σ : Nat → Nat → Int32) (v : Int32) : Int32 := ap (v - (((v.toUInt32 >>> ((nI 1).toUInt32 &&& Int32.toUInt32 31)).toInt32) &&& (nI 1431655765))) (fun (x9 : Int32) => ap ((x9 &&& (nI 858993459)) + (((x9.toUInt32 >>> ((nI 2).toUInt32 &&& Int32.toUInt32 31)).toInt32) &&& (nI 858993459))) (fun (x23 : Int32) => ap ((x23 + ((x23.toUInt32 >>> ((nI 4).toUInt32 &&& Int32.toUInt32 31)).toInt32)) &&& (nI 252645135)) (fun (x33 : Int32) => ap (x33 + ((x33.toUInt32 >>> ((nI 8).toUInt32 &&& Int32.toUInt32 31)).toInt32)) (fun (x40 : Int32) => ap (x40 + ((x40.toUInt32 >>> ((nI 16).toUInt32 &&& Int32.toUInt32 31)).toInt32)) (fun (x47 : Int32) => x47 &&& (nI 63))))))
abbrev rm_J6_bitCount_0f7a4 : Room := { frames := 0, cells := 0, slots := 0, locals := 0 }
set_option maxHeartbeats 4000000 in
set_option maxRecDepth 100000 in
theorem c_J6_bitCount_0f7a4 {l : Launch} {D : va_G} {K : Nat → ClassId} {W S ns nc N : Nat} {ad : Nat → Nat} {B : Nat → Option Nat} {σ : Nat → Nat → Int32} (hG : GH W S ns nc N) {v : Int32}  {z : Int32} (hz : m_J6_bitCount_0f7a4 W S ns nc B σ v = z)  : MC l yJ6_bitCount_0f7a4 cJ6_bitCount_0f7a4 1 (some .int) rm_J6_bitCount_0f7a4 D (TY K) N ad (CT K W S ns nc ad B σ) [.int v] (BS (some (.int z)) N ad (CT K W S ns nc ad B σ) True) := by
  have hW := hG.1; have hW8 := hG.2.1; have hS := hG.2.2.1; have hS4 := hG.2.2.2.1; have hns := hG.2.2.2.2.1; have hnc := hG.2.2.2.2.2.1; have hWS := GH_ws hG
  refine MC.of (by decide) (Nat.le_of_ble_eq_true rfl) (fun p e s m args below meth c Q A H0 C X => ?_)
  replace C : Cx p s m args meth c cJ6_bitCount_0f7a4 RJ6 1 D (TY K) A H0 := C
  show J p l e rm_J6_bitCount_0f7a4 s m args below meth c Q D A H0 1 0 0 N ad (CT K W S ns nc ad B σ) 0 [(0, .int v)] []
  unfold m_J6_bitCount_0f7a4 at hz
  refine j_iload_n 1 C dJ6_bitCount_0f7a4_0 rfl rfl 0 rfl ?_
  refine j_iload_n 2 C dJ6_bitCount_0f7a4_1 rfl rfl 0 rfl ?_
  refine j_iconst 3 C (x := nI 1) dJ6_bitCount_0f7a4_2 rfl (by decide) ?_
  refine j_iushr 4 C dJ6_bitCount_0f7a4_3 rfl rfl ?_
  refine j_ldcw 7 C (x' := nI 1431655765) wv_J6_265 dJ6_bitCount_0f7a4_4 rfl (by decide) ?_
  refine j_iand 8 C dJ6_bitCount_0f7a4_7 rfl rfl ?_
  refine j_isub 9 C dJ6_bitCount_0f7a4_8 rfl rfl ?_
  obtain ⟨x9, e9, hz⟩ := ap_x hz
  refine j_st (st' := [.int x9]) (by rw [← e9]) ?_
  refine j_istore_n 10 C [(0, .int x9)] dJ6_bitCount_0f7a4_9 rfl rfl (by decide) rfl ?_
  refine j_iload_n 11 C dJ6_bitCount_0f7a4_10 rfl rfl 0 rfl ?_
  refine j_ldcw 14 C (x' := nI 858993459) wv_J6_266 dJ6_bitCount_0f7a4_11 rfl (by decide) ?_
  refine j_iand 15 C dJ6_bitCount_0f7a4_14 rfl rfl ?_
  refine j_iload_n 16 C dJ6_bitCount_0f7a4_15 rfl rfl 0 rfl ?_
  refine j_iconst 17 C (x := nI 2) dJ6_bitCount_0f7a4_16 rfl (by decide) ?_
  refine j_iushr 18 C dJ6_bitCount_0f7a4_17 rfl rfl ?_
  refine j_ldcw 21 C (x' := nI 858993459) wv_J6_266 dJ6_bitCount_0f7a4_18 rfl (by decide) ?_
  refine j_iand 22 C dJ6_bitCount_0f7a4_21 rfl rfl ?_
  refine j_iadd 23 C dJ6_bitCount_0f7a4_22 rfl rfl ?_
  obtain ⟨x23, e23, hz⟩ := ap_x hz
  refine j_st (st' := [.int x23]) (by rw [← e23]) ?_
  refine j_istore_n 24 C [(0, .int x23)] dJ6_bitCount_0f7a4_23 rfl rfl (by decide) rfl ?_
  refine j_iload_n 25 C dJ6_bitCount_0f7a4_24 rfl rfl 0 rfl ?_
  refine j_iload_n 26 C dJ6_bitCount_0f7a4_25 rfl rfl 0 rfl ?_
  refine j_iconst 27 C (x := nI 4) dJ6_bitCount_0f7a4_26 rfl (by decide) ?_
  refine j_iushr 28 C dJ6_bitCount_0f7a4_27 rfl rfl ?_
  refine j_iadd 29 C dJ6_bitCount_0f7a4_28 rfl rfl ?_
  refine j_ldcw 32 C (x' := nI 252645135) wv_J6_267 dJ6_bitCount_0f7a4_29 rfl (by decide) ?_
  refine j_iand 33 C dJ6_bitCount_0f7a4_32 rfl rfl ?_
  obtain ⟨x33, e33, hz⟩ := ap_x hz
  refine j_st (st' := [.int x33]) (by rw [← e33]) ?_
  refine j_istore_n 34 C [(0, .int x33)] dJ6_bitCount_0f7a4_33 rfl rfl (by decide) rfl ?_
  refine j_iload_n 35 C dJ6_bitCount_0f7a4_34 rfl rfl 0 rfl ?_
  refine j_iload_n 36 C dJ6_bitCount_0f7a4_35 rfl rfl 0 rfl ?_
  refine j_bipush 38 C (x := nI 8) dJ6_bitCount_0f7a4_36 rfl (by decide) ?_
  refine j_iushr 39 C dJ6_bitCount_0f7a4_38 rfl rfl ?_
  refine j_iadd 40 C dJ6_bitCount_0f7a4_39 rfl rfl ?_
  obtain ⟨x40, e40, hz⟩ := ap_x hz
  refine j_st (st' := [.int x40]) (by rw [← e40]) ?_
  refine j_istore_n 41 C [(0, .int x40)] dJ6_bitCount_0f7a4_40 rfl rfl (by decide) rfl ?_
  refine j_iload_n 42 C dJ6_bitCount_0f7a4_41 rfl rfl 0 rfl ?_
  refine j_iload_n 43 C dJ6_bitCount_0f7a4_42 rfl rfl 0 rfl ?_
  refine j_bipush 45 C (x := nI 16) dJ6_bitCount_0f7a4_43 rfl (by decide) ?_
  refine j_iushr 46 C dJ6_bitCount_0f7a4_45 rfl rfl ?_
  refine j_iadd 47 C dJ6_bitCount_0f7a4_46 rfl rfl ?_
  obtain ⟨x47, e47, hz⟩ := ap_x hz
  refine j_st (st' := [.int x47]) (by rw [← e47]) ?_
  refine j_istore_n 48 C [(0, .int x47)] dJ6_bitCount_0f7a4_47 rfl rfl (by decide) rfl ?_
  refine j_iload_n 49 C dJ6_bitCount_0f7a4_48 rfl rfl 0 rfl ?_
  refine j_bipush 51 C (x := nI 63) dJ6_bitCount_0f7a4_49 rfl (by decide) ?_
  refine j_iand 52 C dJ6_bitCount_0f7a4_51 rfl rfl ?_
  subst hz
  exact j_retI C X dJ6_bitCount_0f7a4_52 rfl ⟨rfl, rfl, rfl, rfl, trivial⟩
def m_X1_isPlace (W S ns nc : Nat) (B : Nat → Option Nat) (σ : Nat → Nat → Int32) (g : Nat) (place : Int32) : Int32 := (if place < 0 then nI 0 else (if (nI (W * S + 1)) ≤ place then nI 0 else nI 1))
abbrev rm_X1_isPlace : Room := { frames := 0, cells := 0, slots := 0, locals := 0 }
set_option maxHeartbeats 4000000 in
set_option maxRecDepth 100000 in
theorem c_X1_isPlace {l : Launch} {D : va_G} {K : Nat → ClassId} {W S ns nc N : Nat} {ad : Nat → Nat} {B : Nat → Option Nat} {σ : Nat → Nat → Int32} (hG : GH W S ns nc N) {g : Nat} {place : Int32} (hg : g < 12) {z : Int32} (hz : m_X1_isPlace W S ns nc B σ g place = z)  : MC l yX1_isPlace cX1_isPlace 2 (some .boolean) rm_X1_isPlace D (TY K) N ad (CT K W S ns nc ad B σ) [.ref (ad (11 + 2 * g)), .int place] (BS (some (.int z)) N ad (CT K W S ns nc ad B σ) (bl z)) := by
  have hW := hG.1; have hW8 := hG.2.1; have hS := hG.2.2.1; have hS4 := hG.2.2.2.1; have hns := hG.2.2.2.2.1; have hnc := hG.2.2.2.2.2.1; have hWS := GH_ws hG
  refine MC.of (by decide) (Nat.le_of_ble_eq_true rfl) (fun p e s m args below meth c Q A H0 C X => ?_)
  replace C : Cx p s m args meth c cX1_isPlace RX1 2 D (TY K) A H0 := C
  show J p l e rm_X1_isPlace s m args below meth c Q D A H0 2 0 0 N ad (CT K W S ns nc ad B σ) 0 [(0, .ref (ad (11 + 2 * g))), (1, .int place)] []
  unfold m_X1_isPlace at hz
  refine j_iload_n 1 C dX1_isPlace_0 rfl rfl 1 rfl ?_
  refine j_if_lt 16 4 C dX1_isPlace_1 rfl rfl (fun c_1 => ?_) (fun c_1 => ?_)
  · replace hz := (if_pos c_1).symm.trans hz
    refine j_iconst 17 C (x := nI 0) dX1_isPlace_16 rfl (by decide) ?_
    subst hz
    exact j_retI C X dX1_isPlace_17 (bl_nar bl_0) ⟨rfl, rfl, rfl, rfl, bl_0⟩
  · replace hz := (if_neg c_1).symm.trans hz
    refine j_iload_n 5 C dX1_isPlace_4 rfl rfl 1 rfl ?_
    refine j_aload_n 6 C dX1_isPlace_5 rfl rfl 0 rfl ?_
    refine k_get 9 C fl_X1_20 dX1_isPlace_6 rfl (11 + 2 * g) (GH_r hG (by omega)) _ rfl (CE_go (by omega) _) (.int (nI (W * S + 1))) rfl ?_
    refine j_ic_ge 16 12 C dX1_isPlace_9 rfl rfl (fun c_9 => ?_) (fun c_9 => ?_)
    · replace hz := (if_pos c_9).symm.trans hz
      refine j_iconst 17 C (x := nI 0) dX1_isPlace_16 rfl (by decide) ?_
      subst hz
      exact j_retI C X dX1_isPlace_17 (bl_nar bl_0) ⟨rfl, rfl, rfl, rfl, bl_0⟩
    · replace hz := (if_neg c_9).symm.trans hz
      refine j_iconst 13 C (x := nI 1) dX1_isPlace_12 rfl (by decide) ?_
      refine j_goto 17 C dX1_isPlace_13 rfl ?_
      subst hz
      exact j_retI C X dX1_isPlace_17 (bl_nar bl_1) ⟨rfl, rfl, rfl, rfl, bl_1⟩
theorem gPlace_nat {W S ns nc : Nat} {B : Nat → Option Nat} {σ : Nat → Nat → Int32} {g : Nat} {N : Nat} (hG : GH W S ns nc N) {v y : Int32} (e : m_X1_isPlace W S ns nc B σ g v = y) (c : ¬ y = 0) : ∃ k : Nat, k < W * S + 1 ∧ v = nI k := by
  unfold m_X1_isPlace at e
  have hWS := GH_ws hG
  by_cases h0 : v < 0
  · rw [if_pos h0] at e; exact absurd e.symm (by rw [nI_0]; exact c)
  rw [if_neg h0] at e
  by_cases h1 : nI (W * S + 1) ≤ v
  · rw [if_pos h1] at e; exact absurd e.symm (by rw [nI_0]; exact c)
  obtain ⟨j, hj, rfl⟩ := nI_of h0
  exact ⟨j, Nat.not_le.mp (fun q => h1 ((nI_leI (by omega) hj).mpr q)), rfl⟩
def m_X1_most (W S ns nc : Nat) (B : Nat → Option Nat) (σ : Nat → Nat → Int32) (g : Nat) (from_ : Int32) (to_ : Int32) : Int32 := ap (m_X1_isPlace W S ns nc B σ g from_) (fun (y2 : Int32) => (if y2 = 0 then nI 0 else ap (m_X1_isPlace W S ns nc B σ g to_) (fun (y10 : Int32) => (if y10 = 0 then nI 0 else (σ (12 + 2 * g)) ((from_ * (nI (W * S + 1))) + to_).toNatClampNeg))))
abbrev rm_X1_most : Room := { frames := 1, cells := 0, slots := 0, locals := 21 }
set_option maxHeartbeats 4000000 in
set_option maxRecDepth 100000 in
theorem c_X1_most {l : Launch} {D : va_G} {K : Nat → ClassId} {W S ns nc N : Nat} {ad : Nat → Nat} {B : Nat → Option Nat} {σ : Nat → Nat → Int32} (hG : GH W S ns nc N) {g : Nat} {from_ : Int32} {to_ : Int32} (hg : g < 12) {z : Int32} (hz : m_X1_most W S ns nc B σ g from_ to_ = z)  : MC l yX1_most cX1_most 3 (some .int) rm_X1_most D (TY K) N ad (CT K W S ns nc ad B σ) [.ref (ad (11 + 2 * g)), .int from_, .int to_] (BS (some (.int z)) N ad (CT K W S ns nc ad B σ) True) := by
  have hW := hG.1; have hW8 := hG.2.1; have hS := hG.2.2.1; have hS4 := hG.2.2.2.1; have hns := hG.2.2.2.2.1; have hnc := hG.2.2.2.2.2.1; have hWS := GH_ws hG
  refine MC.of (by decide) (Nat.le_of_ble_eq_true rfl) (fun p e s m args below meth c Q A H0 C X => ?_)
  replace C : Cx p s m args meth c cX1_most RX1 3 D (TY K) A H0 := C
  show J p l e rm_X1_most s m args below meth c Q D A H0 3 0 0 N ad (CT K W S ns nc ad B σ) 0 [(0, .ref (ad (11 + 2 * g))), (1, .int from_), (2, .int to_)] []
  unfold m_X1_most at hz
  refine j_aload_n 1 C dX1_most_0 rfl rfl 0 rfl ?_
  refine j_iload_n 2 C dX1_most_1 rfl rfl 1 rfl ?_
  obtain ⟨y2, e2, hz⟩ := ap_x hz
  refine s_V 5 C (As := [.int from_]) cv_X1_34 (c_X1_isPlace (l := l) (D := D) (K := K) (ad := ad) hG (hg := by omega) (hz := e2)) dX1_most_2 rfl (11 + 2 * g) 1 (GH_r hG (by omega)) rfl (CE_go (by omega) _) rfl rfl rfl rfl rfl rfl ⟨⟨Nat.le_of_ble_eq_true rfl, Nat.le_of_ble_eq_true rfl⟩, Nat.zero_le _, Nat.zero_le _⟩ (Nat.le_of_ble_eq_true rfl) (st' := [.int y2]) rfl (fun hE => ?_)
  have hbl2 : bl y2 := hE
  refine j_if_eq 32 8 C dX1_most_5 rfl rfl (fun c_5 => ?_) (fun c_5 => ?_)
  · replace hz := (if_pos c_5).symm.trans hz
    refine j_iconst 33 C (x := nI 0) dX1_most_32 rfl (by decide) ?_
    subst hz
    exact j_retI C X dX1_most_33 rfl ⟨rfl, rfl, rfl, rfl, trivial⟩
  · replace hz := (if_neg c_5).symm.trans hz
    obtain ⟨ka, hka, eka⟩ := gPlace_nat hG e2 c_5
    refine j_aload_n 9 C dX1_most_8 rfl rfl 0 rfl ?_
    refine j_iload_n 10 C dX1_most_9 rfl rfl 2 rfl ?_
    obtain ⟨y10, e10, hz⟩ := ap_x hz
    refine s_V 13 C (As := [.int to_]) cv_X1_34 (c_X1_isPlace (l := l) (D := D) (K := K) (ad := ad) hG (hg := by omega) (hz := e10)) dX1_most_10 rfl (11 + 2 * g) 1 (GH_r hG (by omega)) rfl (CE_go (by omega) _) rfl rfl rfl rfl rfl rfl ⟨⟨Nat.le_of_ble_eq_true rfl, Nat.le_of_ble_eq_true rfl⟩, Nat.zero_le _, Nat.zero_le _⟩ (Nat.le_of_ble_eq_true rfl) (st' := [.int y10]) rfl (fun hE => ?_)
    have hbl10 : bl y10 := hE
    refine j_if_eq 32 16 C dX1_most_13 rfl rfl (fun c_13 => ?_) (fun c_13 => ?_)
    · replace hz := (if_pos c_13).symm.trans hz
      refine j_iconst 33 C (x := nI 0) dX1_most_32 rfl (by decide) ?_
      subst hz
      exact j_retI C X dX1_most_33 rfl ⟨rfl, rfl, rfl, rfl, trivial⟩
    · replace hz := (if_neg c_13).symm.trans hz
      obtain ⟨kb, hkb, ekb⟩ := gPlace_nat hG e10 c_13
      refine j_aload_n 17 C dX1_most_16 rfl rfl 0 rfl ?_
      refine k_get 20 C fl_X1_24 dX1_most_17 rfl (11 + 2 * g) (GH_r hG (by omega)) _ rfl (CE_go (by omega) _) (.ref (ad (12 + 2 * g))) rfl ?_
      refine j_iload_n 21 C dX1_most_20 rfl rfl 1 rfl ?_
      refine j_aload_n 22 C dX1_most_21 rfl rfl 0 rfl ?_
      refine k_get 25 C fl_X1_20 dX1_most_22 rfl (11 + 2 * g) (GH_r hG (by omega)) _ rfl (CE_go (by omega) _) (.int (nI (W * S + 1))) rfl ?_
      refine j_imul 26 C dX1_most_25 rfl rfl ?_
      refine j_iload_n 27 C dX1_most_26 rfl rfl 2 rfl ?_
      refine j_iadd 28 C dX1_most_27 rfl rfl ?_
      refine k_iald 29 C dX1_most_28 rfl (12 + 2 * g) (GH_r hG (by omega)) (σ (12 + 2 * g)) rfl (CE_ga (by omega)) (vp_inE (n := ((ka * (W * S + 1)) + kb)) (by simp only [eka, ekb, nI_add, pk_mul]) (ixlt (by omega) (by omega)) (zz31 (by omega))) ?_
      refine j_goto 33 C dX1_most_29 rfl ?_
      subst hz
      exact j_retI C X dX1_most_33 rfl ⟨rfl, rfl, rfl, rfl, trivial⟩
def m_X1_least (W S ns nc : Nat) (B : Nat → Option Nat) (σ : Nat → Nat → Int32) (g : Nat) (place : Int32) : Int32 := ap (m_X1_most W S ns nc B σ g place (nI 0)) (fun (y3 : Int32) => -y3)
abbrev rm_X1_least : Room := { frames := 2, cells := 0, slots := 0, locals := 43 }
set_option maxHeartbeats 4000000 in
set_option maxRecDepth 100000 in
theorem c_X1_least {l : Launch} {D : va_G} {K : Nat → ClassId} {W S ns nc N : Nat} {ad : Nat → Nat} {B : Nat → Option Nat} {σ : Nat → Nat → Int32} (hG : GH W S ns nc N) {g : Nat} {place : Int32} (hg : g < 12) {z : Int32} (hz : m_X1_least W S ns nc B σ g place = z)  : MC l yX1_least cX1_least 2 (some .int) rm_X1_least D (TY K) N ad (CT K W S ns nc ad B σ) [.ref (ad (11 + 2 * g)), .int place] (BS (some (.int z)) N ad (CT K W S ns nc ad B σ) True) := by
  have hW := hG.1; have hW8 := hG.2.1; have hS := hG.2.2.1; have hS4 := hG.2.2.2.1; have hns := hG.2.2.2.2.1; have hnc := hG.2.2.2.2.2.1; have hWS := GH_ws hG
  refine MC.of (by decide) (Nat.le_of_ble_eq_true rfl) (fun p e s m args below meth c Q A H0 C X => ?_)
  replace C : Cx p s m args meth c cX1_least RX1 2 D (TY K) A H0 := C
  show J p l e rm_X1_least s m args below meth c Q D A H0 2 0 0 N ad (CT K W S ns nc ad B σ) 0 [(0, .ref (ad (11 + 2 * g))), (1, .int place)] []
  unfold m_X1_least at hz
  refine j_aload_n 1 C dX1_least_0 rfl rfl 0 rfl ?_
  refine j_iload_n 2 C dX1_least_1 rfl rfl 1 rfl ?_
  refine j_iconst 3 C (x := nI 0) dX1_least_2 rfl (by decide) ?_
  obtain ⟨y3, e3, hz⟩ := ap_x hz
  refine s_V 6 C (As := [.int place, .int (nI 0)]) cv_X1_38 (c_X1_most (l := l) (D := D) (K := K) (ad := ad) hG (hg := by omega) (hz := e3)) dX1_least_3 rfl (11 + 2 * g) 1 (GH_r hG (by omega)) rfl (CE_go (by omega) _) rfl rfl rfl rfl rfl rfl ⟨⟨Nat.le_of_ble_eq_true rfl, Nat.le_of_ble_eq_true rfl⟩, Nat.zero_le _, Nat.zero_le _⟩ (Nat.le_of_ble_eq_true rfl) (st' := [.int y3]) rfl (fun hE => ?_)
  refine j_ineg 7 C dX1_least_6 rfl rfl ?_
  subst hz
  exact j_retI C X dX1_least_7 rfl ⟨rfl, rfl, rfl, rfl, trivial⟩
def m_X1_greatest (W S ns nc : Nat) (B : Nat → Option Nat) (σ : Nat → Nat → Int32) (g : Nat) (place : Int32) : Int32 := ap (m_X1_most W S ns nc B σ g (nI 0) place) (fun (y3 : Int32) => y3)
abbrev rm_X1_greatest : Room := { frames := 2, cells := 0, slots := 0, locals := 43 }
set_option maxHeartbeats 4000000 in
set_option maxRecDepth 100000 in
theorem c_X1_greatest {l : Launch} {D : va_G} {K : Nat → ClassId} {W S ns nc N : Nat} {ad : Nat → Nat} {B : Nat → Option Nat} {σ : Nat → Nat → Int32} (hG : GH W S ns nc N) {g : Nat} {place : Int32} (hg : g < 12) {z : Int32} (hz : m_X1_greatest W S ns nc B σ g place = z)  : MC l yX1_greatest cX1_greatest 2 (some .int) rm_X1_greatest D (TY K) N ad (CT K W S ns nc ad B σ) [.ref (ad (11 + 2 * g)), .int place] (BS (some (.int z)) N ad (CT K W S ns nc ad B σ) True) := by
  have hW := hG.1; have hW8 := hG.2.1; have hS := hG.2.2.1; have hS4 := hG.2.2.2.1; have hns := hG.2.2.2.2.1; have hnc := hG.2.2.2.2.2.1; have hWS := GH_ws hG
  refine MC.of (by decide) (Nat.le_of_ble_eq_true rfl) (fun p e s m args below meth c Q A H0 C X => ?_)
  replace C : Cx p s m args meth c cX1_greatest RX1 2 D (TY K) A H0 := C
  show J p l e rm_X1_greatest s m args below meth c Q D A H0 2 0 0 N ad (CT K W S ns nc ad B σ) 0 [(0, .ref (ad (11 + 2 * g))), (1, .int place)] []
  unfold m_X1_greatest at hz
  refine j_aload_n 1 C dX1_greatest_0 rfl rfl 0 rfl ?_
  refine j_iconst 2 C (x := nI 0) dX1_greatest_1 rfl (by decide) ?_
  refine j_iload_n 3 C dX1_greatest_2 rfl rfl 1 rfl ?_
  obtain ⟨y3, e3, hz⟩ := ap_x hz
  refine s_V 6 C (As := [.int (nI 0), .int place]) cv_X1_38 (c_X1_most (l := l) (D := D) (K := K) (ad := ad) hG (hg := by omega) (hz := e3)) dX1_greatest_3 rfl (11 + 2 * g) 1 (GH_r hG (by omega)) rfl (CE_go (by omega) _) rfl rfl rfl rfl rfl rfl ⟨⟨Nat.le_of_ble_eq_true rfl, Nat.le_of_ble_eq_true rfl⟩, Nat.zero_le _, Nat.zero_le _⟩ (Nat.le_of_ble_eq_true rfl) (st' := [.int y3]) rfl (fun hE => ?_)
  subst hz
  exact j_retI C X dX1_greatest_6 rfl ⟨rfl, rfl, rfl, rfl, trivial⟩
def m_X1_narrow_L73 (W S ns nc : Nat) (B : Nat → Option Nat) (σ : Nat → Nat → Int32) (to_ : Int32) (i21 : Nat) (x46 : Int32) (i73 : Nat) (c73 : (Nat → Int32)) : (Nat → Int32) := ap (x46 + (c73 ((to_ * (nI (W * S + 1))) + (nI i73)).toNatClampNeg)) (fun (x99 : Int32) => ap (upd c73 (((nI i21) * (nI (W * S + 1))) + (nI i73)).toNatClampNeg (if x99 < (c73 (((nI i21) * (nI (W * S + 1))) + (nI i73)).toNatClampNeg) then x99 else (c73 (((nI i21) * (nI (W * S + 1))) + (nI i73)).toNatClampNeg))) (fun (f135 : Nat → Int32) => f135))
def m_X1_narrow_L21 (W S ns nc : Nat) (B : Nat → Option Nat) (σ : Nat → Nat → Int32) (from_ : Int32) (to_ : Int32) (width : Int32) (i21 : Nat) (c21 : (Nat → Int32)) : (Nat → Int32) := ap ((c21 (((nI i21) * (nI (W * S + 1))) + from_).toNatClampNeg) + width) (fun (x46 : Int32) => (if x46 < (c21 (((nI i21) * (nI (W * S + 1))) + to_).toNatClampNeg) then ap (lp (m_X1_narrow_L73 W S ns nc B σ to_ i21 x46) ((W * S + 1) - 0) 0 c21) (fun (z73 : (Nat → Int32)) => z73) else c21))
def m_X1_narrow (W S ns nc : Nat) (B : Nat → Option Nat) (σ : Nat → Nat → Int32) (g : Nat) (from_ : Int32) (to_ : Int32) (width : Int32) : (Nat → Int32) := (if width < ((σ (12 + 2 * g)) ((from_ * (nI (W * S + 1))) + to_).toNatClampNeg) then ap (lp (m_X1_narrow_L21 W S ns nc B σ from_ to_ width) ((W * S + 1) - 0) 0 (σ (12 + 2 * g))) (fun (z21 : (Nat → Int32)) => z21) else (σ (12 + 2 * g)))
abbrev rm_X1_narrow : Room := { frames := 1, cells := 0, slots := 0, locals := 40 }
set_option maxHeartbeats 4000000 in
set_option maxRecDepth 100000 in
theorem c_X1_narrow {l : Launch} {D : va_G} {K : Nat → ClassId} {W S ns nc N : Nat} {ad : Nat → Nat} {B : Nat → Option Nat} {σ : Nat → Nat → Int32} (hG : GH W S ns nc N) {g : Nat} {from_ : Int32} {a_from_ : Nat} {to_ : Int32} {a_to_ : Nat} {width : Int32} (hg : g < 12) (e_from_ : from_ = nI a_from_) (h_from_ : a_from_ < W * S + 1) (e_to_ : to_ = nI a_to_) (h_to_ : a_to_ < W * S + 1) {z : (Nat → Int32)} (hz : m_X1_narrow W S ns nc B σ g from_ to_ width = z)  : MC l yX1_narrow cX1_narrow 8 none rm_X1_narrow D (TY K) N ad (CT K W S ns nc ad B σ) [.ref (ad (11 + 2 * g)), .int from_, .int to_, .int width] (BS none N ad (CT K W S ns nc ad B (sA σ (12 + 2 * g) z)) True) := by
  have hW := hG.1; have hW8 := hG.2.1; have hS := hG.2.2.1; have hS4 := hG.2.2.2.1; have hns := hG.2.2.2.2.1; have hnc := hG.2.2.2.2.2.1; have hWS := GH_ws hG
  subst e_from_
  subst e_to_
  refine MC.of (by decide) (Nat.le_of_ble_eq_true rfl) (fun p e s m args below meth c Q A H0 C X => ?_)
  replace C : Cx p s m args meth c cX1_narrow RX1 8 D (TY K) A H0 := C
  show J p l e rm_X1_narrow s m args below meth c Q D A H0 8 0 0 N ad (CT K W S ns nc ad B σ) 0 [(0, .ref (ad (11 + 2 * g))), (1, .int (nI a_from_)), (2, .int (nI a_to_)), (3, .int width)] []
  unfold m_X1_narrow at hz
  refine j_iload_n 1 C dX1_narrow_0 rfl rfl 3 rfl ?_
  refine j_aload_n 2 C dX1_narrow_1 rfl rfl 0 rfl ?_
  refine k_get 5 C fl_X1_24 dX1_narrow_2 rfl (11 + 2 * g) (GH_r hG (by omega)) _ rfl (CE_go (by omega) _) (.ref (ad (12 + 2 * g))) rfl ?_
  refine j_iload_n 6 C dX1_narrow_5 rfl rfl 1 rfl ?_
  refine j_aload_n 7 C dX1_narrow_6 rfl rfl 0 rfl ?_
  refine k_get 10 C fl_X1_20 dX1_narrow_7 rfl (11 + 2 * g) (GH_r hG (by omega)) _ rfl (CE_go (by omega) _) (.int (nI (W * S + 1))) rfl ?_
  refine j_imul 11 C dX1_narrow_10 rfl rfl ?_
  refine j_iload_n 12 C dX1_narrow_11 rfl rfl 2 rfl ?_
  refine j_iadd 13 C dX1_narrow_12 rfl rfl ?_
  refine k_iald 14 C dX1_narrow_13 rfl (12 + 2 * g) (GH_r hG (by omega)) (σ (12 + 2 * g)) rfl (CE_ga (by omega)) (vp_inE (n := ((a_from_ * (W * S + 1)) + a_to_)) (by simp only [nI_add, pk_mul]) (ixlt (by omega) (by omega)) (zz31 (by omega))) ?_
  refine j_ic_lt 18 17 C dX1_narrow_14 rfl rfl (fun c_14 => ?_) (fun c_14 => ?_)
  · replace hz := (if_pos c_14).symm.trans hz
    refine j_iconst 19 C (x := nI 0) dX1_narrow_18 rfl (by decide) ?_
    refine j_istore 21 C [(4, .int (nI 0)), (0, .ref (ad (11 + 2 * g))), (1, .int (nI a_from_)), (2, .int (nI a_to_)), (3, .int width)] dX1_narrow_19 rfl (by decide) rfl ?_
    skip
    obtain ⟨z21, ez21, hz⟩ := ap_x hz
    have L21 : ∀ (n21 i21 : Nat) (c21 : (Nat → Int32)), 0 ≤ i21 → i21 < 5000 → n21 = (W * S + 1) - i21 → lp (m_X1_narrow_L21 W S ns nc B σ (nI a_from_) (nI a_to_) width) n21 i21 c21 = z21 → J p l e rm_X1_narrow s m args below meth c Q D A H0 8 0 0 N ad (CT K W S ns nc ad B (sA σ (12 + 2 * g) c21)) 21 [(0, .ref (ad (11 + 2 * g))), (1, .int (nI a_from_)), (2, .int (nI a_to_)), (3, .int width), (4, .int (nI i21))] [] := by
      intro n21
      induction n21 with
      | zero =>
        intro i21 c21 hl21 hi21 hn21 hz21
        refine j_iload 23 C dX1_narrow_21 rfl 4 rfl ?_
        refine j_aload_n 24 C dX1_narrow_23 rfl rfl 0 rfl ?_
        refine k_get 27 C fl_X1_20 dX1_narrow_24 rfl (11 + 2 * g) (GH_r hG (by omega)) _ rfl (CE_go (by omega) _) (.int (nI (W * S + 1))) rfl ?_
        refine j_ic_ge 148 30 C dX1_narrow_27 rfl rfl (fun c_27 => ?_) (fun c_27 => ?_)
        · skip
          have n_27 := nat_le (a := (W * S + 1)) (b := i21) rfl rfl (by omega) (by omega) c_27
          have hq21 : c21 = z21 := hz21
          subst hq21
          subst hz
          exact j_retV C X dX1_narrow_148 ⟨rfl, rfl, rfl, rfl, trivial⟩
        · exfalso
          have n_27 := nat_nle (a := (W * S + 1)) (b := i21) rfl rfl (by omega) (by omega) c_27
          omega
      | succ n21 ih21 =>
        intro i21 c21 hl21 hi21 hn21 hz21
        refine j_iload 23 C dX1_narrow_21 rfl 4 rfl ?_
        refine j_aload_n 24 C dX1_narrow_23 rfl rfl 0 rfl ?_
        refine k_get 27 C fl_X1_20 dX1_narrow_24 rfl (11 + 2 * g) (GH_r hG (by omega)) _ rfl (CE_go (by omega) _) (.int (nI (W * S + 1))) rfl ?_
        refine j_ic_ge 148 30 C dX1_narrow_27 rfl rfl (fun c_27 => ?_) (fun c_27 => ?_)
        · exfalso
          have n_27 := nat_le (a := (W * S + 1)) (b := i21) rfl rfl (by omega) (by omega) c_27
          omega
        · skip
          have n_27 := nat_nle (a := (W * S + 1)) (b := i21) rfl rfl (by omega) (by omega) c_27
          obtain ⟨w21, hw21, hz21⟩ := lp_s hz21
          have ho21 := hz
          clear hz
          have hz := hw21
          clear hw21
          unfold m_X1_narrow_L21 at hz
          refine j_aload_n 31 C dX1_narrow_30 rfl rfl 0 rfl ?_
          refine k_get 34 C fl_X1_24 dX1_narrow_31 rfl (11 + 2 * g) (GH_r hG (by omega)) _ rfl (CE_go (by omega) _) (.ref (ad (12 + 2 * g))) rfl ?_
          refine j_iload 36 C dX1_narrow_34 rfl 4 rfl ?_
          refine j_aload_n 37 C dX1_narrow_36 rfl rfl 0 rfl ?_
          refine k_get 40 C fl_X1_20 dX1_narrow_37 rfl (11 + 2 * g) (GH_r hG (by omega)) _ rfl (CE_go (by omega) _) (.int (nI (W * S + 1))) rfl ?_
          refine j_imul 41 C dX1_narrow_40 rfl rfl ?_
          refine j_iload_n 42 C dX1_narrow_41 rfl rfl 1 rfl ?_
          refine j_iadd 43 C dX1_narrow_42 rfl rfl ?_
          refine k_iald 44 C dX1_narrow_43 rfl (12 + 2 * g) (GH_r hG (by omega)) c21 sA_at (CE_ga (by omega)) (vp_inE (n := ((i21 * (W * S + 1)) + a_from_)) (by simp only [nI_add, pk_mul]) (ixlt (by omega) (by omega)) (zz31 (by omega))) ?_
          refine j_iload_n 45 C dX1_narrow_44 rfl rfl 3 rfl ?_
          refine j_iadd 46 C dX1_narrow_45 rfl rfl ?_
          obtain ⟨x46, e46, hz⟩ := ap_x hz
          refine j_st (st' := [.int x46]) (by rw [← e46]) ?_
          refine j_istore 48 C [(5, .int x46), (0, .ref (ad (11 + 2 * g))), (1, .int (nI a_from_)), (2, .int (nI a_to_)), (3, .int width), (4, .int (nI i21))] dX1_narrow_46 rfl (by decide) rfl ?_
          refine j_iload 50 C dX1_narrow_48 rfl 0 rfl ?_
          refine j_aload_n 51 C dX1_narrow_50 rfl rfl 1 rfl ?_
          refine k_get 54 C fl_X1_24 dX1_narrow_51 rfl (11 + 2 * g) (GH_r hG (by omega)) _ rfl (CE_go (by omega) _) (.ref (ad (12 + 2 * g))) rfl ?_
          refine j_iload 56 C dX1_narrow_54 rfl 5 rfl ?_
          refine j_aload_n 57 C dX1_narrow_56 rfl rfl 1 rfl ?_
          refine k_get 60 C fl_X1_20 dX1_narrow_57 rfl (11 + 2 * g) (GH_r hG (by omega)) _ rfl (CE_go (by omega) _) (.int (nI (W * S + 1))) rfl ?_
          refine j_imul 61 C dX1_narrow_60 rfl rfl ?_
          refine j_iload_n 62 C dX1_narrow_61 rfl rfl 3 rfl ?_
          refine j_iadd 63 C dX1_narrow_62 rfl rfl ?_
          refine k_iald 64 C dX1_narrow_63 rfl (12 + 2 * g) (GH_r hG (by omega)) c21 sA_at (CE_ga (by omega)) (vp_inE (n := ((i21 * (W * S + 1)) + a_to_)) (by simp only [nI_add, pk_mul]) (ixlt (by omega) (by omega)) (zz31 (by omega))) ?_
          refine j_ic_lt 70 67 C dX1_narrow_64 rfl rfl (fun c_64 => ?_) (fun c_64 => ?_)
          · replace hz := (if_pos c_64).symm.trans hz
            refine j_iconst 71 C (x := nI 0) dX1_narrow_70 rfl (by decide) ?_
            refine j_istore 73 C [(6, .int (nI 0)), (5, .int x46), (0, .ref (ad (11 + 2 * g))), (1, .int (nI a_from_)), (2, .int (nI a_to_)), (3, .int width), (4, .int (nI i21))] dX1_narrow_71 rfl (by decide) rfl ?_
            skip
            obtain ⟨z73, ez73, hz⟩ := ap_x hz
            have L73 : ∀ (n73 i73 : Nat) (c73 : (Nat → Int32)), 0 ≤ i73 → i73 < 5000 → n73 = (W * S + 1) - i73 → lp (m_X1_narrow_L73 W S ns nc B σ (nI a_to_) i21 x46) n73 i73 c73 = z73 → J p l e rm_X1_narrow s m args below meth c Q D A H0 8 0 0 N ad (CT K W S ns nc ad B (sA σ (12 + 2 * g) c73)) 73 [(0, .ref (ad (11 + 2 * g))), (1, .int (nI a_from_)), (2, .int (nI a_to_)), (3, .int width), (4, .int (nI i21)), (5, .int x46), (6, .int (nI i73))] [] := by
              intro n73
              induction n73 with
              | zero =>
                intro i73 c73 hl73 hi73 hn73 hz73
                refine j_iload 75 C dX1_narrow_73 rfl 6 rfl ?_
                refine j_aload_n 76 C dX1_narrow_75 rfl rfl 0 rfl ?_
                refine k_get 79 C fl_X1_20 dX1_narrow_76 rfl (11 + 2 * g) (GH_r hG (by omega)) _ rfl (CE_go (by omega) _) (.int (nI (W * S + 1))) rfl ?_
                refine j_ic_ge 142 82 C dX1_narrow_79 rfl rfl (fun c_79 => ?_) (fun c_79 => ?_)
                · skip
                  have n_79 := nat_le (a := (W * S + 1)) (b := i73) rfl rfl (by omega) (by omega) c_79
                  have hq73 : c73 = z73 := hz73
                  subst hq73
                  refine j_iinc 145 C (x' := nI (i21 + 1)) [(4, .int (nI (i21 + 1))), (0, .ref (ad (11 + 2 * g))), (1, .int (nI a_from_)), (2, .int (nI a_to_)), (3, .int width), (5, .int x46), (6, .int (nI i73))] dX1_narrow_142 rfl 4 rfl (by rw [show Int32.ofInt 1 = nI 1 from by decide, nI_add]) (by decide) rfl ?_
                  refine j_goto 21 C dX1_narrow_145 rfl ?_
                  subst hz
                  refine j_lv [1, 2, 3, 4, 0] (lv' := [(0, .ref (ad (11 + 2 * g))), (1, .int (nI a_from_)), (2, .int (nI a_to_)), (3, .int width), (4, .int (nI (i21 + 1)))]) rfl ?_
                  have hz := ho21
                  exact ih21 (i21 + 1) c73 (by omega) (by omega) (by omega) hz21
                · exfalso
                  have n_79 := nat_nle (a := (W * S + 1)) (b := i73) rfl rfl (by omega) (by omega) c_79
                  omega
              | succ n73 ih73 =>
                intro i73 c73 hl73 hi73 hn73 hz73
                refine j_iload 75 C dX1_narrow_73 rfl 6 rfl ?_
                refine j_aload_n 76 C dX1_narrow_75 rfl rfl 0 rfl ?_
                refine k_get 79 C fl_X1_20 dX1_narrow_76 rfl (11 + 2 * g) (GH_r hG (by omega)) _ rfl (CE_go (by omega) _) (.int (nI (W * S + 1))) rfl ?_
                refine j_ic_ge 142 82 C dX1_narrow_79 rfl rfl (fun c_79 => ?_) (fun c_79 => ?_)
                · exfalso
                  have n_79 := nat_le (a := (W * S + 1)) (b := i73) rfl rfl (by omega) (by omega) c_79
                  omega
                · skip
                  have n_79 := nat_nle (a := (W * S + 1)) (b := i73) rfl rfl (by omega) (by omega) c_79
                  obtain ⟨w73, hw73, hz73⟩ := lp_s hz73
                  have ho73 := hz
                  clear hz
                  have hz := hw73
                  clear hw73
                  unfold m_X1_narrow_L73 at hz
                  refine j_iload 84 C dX1_narrow_82 rfl 5 rfl ?_
                  refine j_aload_n 85 C dX1_narrow_84 rfl rfl 0 rfl ?_
                  refine k_get 88 C fl_X1_24 dX1_narrow_85 rfl (11 + 2 * g) (GH_r hG (by omega)) _ rfl (CE_go (by omega) _) (.ref (ad (12 + 2 * g))) rfl ?_
                  refine j_iload_n 89 C dX1_narrow_88 rfl rfl 2 rfl ?_
                  refine j_aload_n 90 C dX1_narrow_89 rfl rfl 0 rfl ?_
                  refine k_get 93 C fl_X1_20 dX1_narrow_90 rfl (11 + 2 * g) (GH_r hG (by omega)) _ rfl (CE_go (by omega) _) (.int (nI (W * S + 1))) rfl ?_
                  refine j_imul 94 C dX1_narrow_93 rfl rfl ?_
                  refine j_iload 96 C dX1_narrow_94 rfl 6 rfl ?_
                  refine j_iadd 97 C dX1_narrow_96 rfl rfl ?_
                  refine k_iald 98 C dX1_narrow_97 rfl (12 + 2 * g) (GH_r hG (by omega)) c73 sA_at (CE_ga (by omega)) (vp_inE (n := ((a_to_ * (W * S + 1)) + i73)) (by simp only [nI_add, pk_mul]) (ixlt (by omega) (by omega)) (zz31 (by omega))) ?_
                  refine j_iadd 99 C dX1_narrow_98 rfl rfl ?_
                  obtain ⟨x99, e99, hz⟩ := ap_x hz
                  refine j_st (st' := [.int x99]) (by rw [← e99]) ?_
                  refine j_istore 101 C [(7, .int x99), (0, .ref (ad (11 + 2 * g))), (1, .int (nI a_from_)), (2, .int (nI a_to_)), (3, .int width), (4, .int (nI i21)), (5, .int x46), (6, .int (nI i73))] dX1_narrow_99 rfl (by decide) rfl ?_
                  refine j_aload_n 102 C dX1_narrow_101 rfl rfl 1 rfl ?_
                  refine k_get 105 C fl_X1_24 dX1_narrow_102 rfl (11 + 2 * g) (GH_r hG (by omega)) _ rfl (CE_go (by omega) _) (.ref (ad (12 + 2 * g))) rfl ?_
                  refine j_iload 107 C dX1_narrow_105 rfl 5 rfl ?_
                  refine j_aload_n 108 C dX1_narrow_107 rfl rfl 1 rfl ?_
                  refine k_get 111 C fl_X1_20 dX1_narrow_108 rfl (11 + 2 * g) (GH_r hG (by omega)) _ rfl (CE_go (by omega) _) (.int (nI (W * S + 1))) rfl ?_
                  refine j_imul 112 C dX1_narrow_111 rfl rfl ?_
                  refine j_iload 114 C dX1_narrow_112 rfl 7 rfl ?_
                  refine j_iadd 115 C dX1_narrow_114 rfl rfl ?_
                  refine j_aload_n 116 C dX1_narrow_115 rfl rfl 1 rfl ?_
                  refine k_get 119 C fl_X1_24 dX1_narrow_116 rfl (11 + 2 * g) (GH_r hG (by omega)) _ rfl (CE_go (by omega) _) (.ref (ad (12 + 2 * g))) rfl ?_
                  refine j_iload 121 C dX1_narrow_119 rfl 5 rfl ?_
                  refine j_aload_n 122 C dX1_narrow_121 rfl rfl 1 rfl ?_
                  refine k_get 125 C fl_X1_20 dX1_narrow_122 rfl (11 + 2 * g) (GH_r hG (by omega)) _ rfl (CE_go (by omega) _) (.int (nI (W * S + 1))) rfl ?_
                  refine j_imul 126 C dX1_narrow_125 rfl rfl ?_
                  refine j_iload 128 C dX1_narrow_126 rfl 7 rfl ?_
                  refine j_iadd 129 C dX1_narrow_128 rfl rfl ?_
                  refine k_iald 130 C dX1_narrow_129 rfl (12 + 2 * g) (GH_r hG (by omega)) c73 sA_at (CE_ga (by omega)) (vp_inE (n := ((i21 * (W * S + 1)) + i73)) (by simp only [nI_add, pk_mul]) (ixlt (by omega) (by omega)) (zz31 (by omega))) ?_
                  refine j_iload 132 C dX1_narrow_130 rfl 0 rfl ?_
                  refine j_mmin 135 C wl_X1_11 rfl dX1_narrow_132 rfl (Nat.le_of_ble_eq_true rfl) (Nat.le_of_ble_eq_true rfl) (Nat.zero_le _) (Nat.zero_le _) ?_
                  refine k_iast 136 C dX1_narrow_135 rfl (12 + 2 * g) (GH_r hG (by omega)) c73 sA_at (CE_ga (by omega)) (vp_inE (n := ((i21 * (W * S + 1)) + i73)) (by simp only [nI_add, pk_mul]) (ixlt (by omega) (by omega)) (zz31 (by omega))) (sA σ (12 + 2 * g) (upd c73 (((nI i21) * (nI (W * S + 1))) + (nI i73)).toNatClampNeg (if x99 < (c73 (((nI i21) * (nI (W * S + 1))) + (nI i73)).toNatClampNeg) then x99 else (c73 (((nI i21) * (nI (W * S + 1))) + (nI i73)).toNatClampNeg)))) sA_top ?_
                  obtain ⟨f135, e135, hz⟩ := ap_x hz
                  rw [e135]
                  refine j_iinc 139 C (x' := nI (i73 + 1)) [(6, .int (nI (i73 + 1))), (7, .int x99), (0, .ref (ad (11 + 2 * g))), (1, .int (nI a_from_)), (2, .int (nI a_to_)), (3, .int width), (4, .int (nI i21)), (5, .int x46)] dX1_narrow_136 rfl 7 rfl (by rw [show Int32.ofInt 1 = nI 1 from by decide, nI_add]) (by decide) rfl ?_
                  refine j_goto 73 C dX1_narrow_139 rfl ?_
                  subst hz
                  refine j_lv [2, 3, 4, 5, 6, 7, 0] (lv' := [(0, .ref (ad (11 + 2 * g))), (1, .int (nI a_from_)), (2, .int (nI a_to_)), (3, .int width), (4, .int (nI i21)), (5, .int x46), (6, .int (nI (i73 + 1)))]) rfl ?_
                  have hz := ho73
                  exact ih73 (i73 + 1) f135 (by omega) (by omega) (by omega) hz73
            refine j_lv [2, 3, 4, 5, 6, 1, 0] (lv' := [(0, .ref (ad (11 + 2 * g))), (1, .int (nI a_from_)), (2, .int (nI a_to_)), (3, .int width), (4, .int (nI i21)), (5, .int x46), (6, .int (nI 0))]) rfl ?_
            exact L73 _ 0 c21 (by omega) (by omega) rfl ez73
          · replace hz := (if_neg c_64).symm.trans hz
            refine j_goto 142 C dX1_narrow_67 rfl ?_
            refine j_iinc 145 C (x' := nI (i21 + 1)) [(4, .int (nI (i21 + 1))), (5, .int x46), (0, .ref (ad (11 + 2 * g))), (1, .int (nI a_from_)), (2, .int (nI a_to_)), (3, .int width)] dX1_narrow_142 rfl 5 rfl (by rw [show Int32.ofInt 1 = nI 1 from by decide, nI_add]) (by decide) rfl ?_
            refine j_goto 21 C dX1_narrow_145 rfl ?_
            subst hz
            refine j_lv [2, 3, 4, 5, 0] (lv' := [(0, .ref (ad (11 + 2 * g))), (1, .int (nI a_from_)), (2, .int (nI a_to_)), (3, .int width), (4, .int (nI (i21 + 1)))]) rfl ?_
            have hz := ho21
            exact ih21 (i21 + 1) c21 (by omega) (by omega) (by omega) hz21
    refine j_lv [1, 2, 3, 4, 0] (lv' := [(0, .ref (ad (11 + 2 * g))), (1, .int (nI a_from_)), (2, .int (nI a_to_)), (3, .int width), (4, .int (nI 0))]) rfl ?_
    refine j_ct (ct' := CT K W S ns nc ad B (sA σ (12 + 2 * g) (σ (12 + 2 * g)))) (fun r _ => congrFun (congrArg (CT K W S ns nc ad B) (sA_idr (by rfl))) r) ?_
    exact L21 _ 0 (σ (12 + 2 * g)) (by omega) (by omega) rfl ez21
  · replace hz := (if_neg c_14).symm.trans hz
    subst hz
    exact j_retV C X dX1_narrow_17 ⟨rfl, rfl, rfl, (congrArg _ sA_id.symm), trivial⟩
def m_X1_hold (W S ns nc : Nat) (B : Nat → Option Nat) (σ : Nat → Nat → Int32) (g : Nat) (from_ : Int32) (to_ : Int32) (least : Int32) (greatest : Int32) : Int32 × (Nat → Int32) := ap (m_X1_isPlace W S ns nc B σ g from_) (fun (y2 : Int32) => (if y2 = 0 then (nI 0, (σ (12 + 2 * g))) else ap (m_X1_isPlace W S ns nc B σ g to_) (fun (y10 : Int32) => (if y10 = 0 then (nI 0, (σ (12 + 2 * g))) else (if least ≤ greatest then (if greatest < (-((σ (12 + 2 * g)) ((to_ * (nI (W * S + 1))) + from_).toNatClampNeg)) then (nI 0, (σ (12 + 2 * g))) else (if least ≤ ((σ (12 + 2 * g)) ((from_ * (nI (W * S + 1))) + to_).toNatClampNeg) then ap (m_X1_narrow W S ns nc B σ g from_ to_ greatest) (fun (y67 : (Nat → Int32)) => ap (m_X1_narrow W S ns nc B (sA σ (12 + 2 * g) y67) g to_ from_ (-least)) (fun (y75 : (Nat → Int32)) => (nI 1, y75))) else (nI 0, (σ (12 + 2 * g))))) else (nI 0, (σ (12 + 2 * g))))))))
abbrev rm_X1_hold : Room := { frames := 2, cells := 0, slots := 0, locals := 67 }
set_option maxHeartbeats 4000000 in
set_option maxRecDepth 100000 in
theorem c_X1_hold {l : Launch} {D : va_G} {K : Nat → ClassId} {W S ns nc N : Nat} {ad : Nat → Nat} {B : Nat → Option Nat} {σ : Nat → Nat → Int32} (hG : GH W S ns nc N) {g : Nat} {from_ : Int32} {to_ : Int32} {least : Int32} {greatest : Int32} (hg : g < 12) {z : Int32 × (Nat → Int32)} (hz : m_X1_hold W S ns nc B σ g from_ to_ least greatest = z)  : MC l yX1_hold cX1_hold 5 (some .boolean) rm_X1_hold D (TY K) N ad (CT K W S ns nc ad B σ) [.ref (ad (11 + 2 * g)), .int from_, .int to_, .int least, .int greatest] (BS (some (.int z.1)) N ad (CT K W S ns nc ad B (sA σ (12 + 2 * g) z.2)) (bl z.1)) := by
  have hW := hG.1; have hW8 := hG.2.1; have hS := hG.2.2.1; have hS4 := hG.2.2.2.1; have hns := hG.2.2.2.2.1; have hnc := hG.2.2.2.2.2.1; have hWS := GH_ws hG
  refine MC.of (by decide) (Nat.le_of_ble_eq_true rfl) (fun p e s m args below meth c Q A H0 C X => ?_)
  replace C : Cx p s m args meth c cX1_hold RX1 5 D (TY K) A H0 := C
  show J p l e rm_X1_hold s m args below meth c Q D A H0 5 0 0 N ad (CT K W S ns nc ad B σ) 0 [(0, .ref (ad (11 + 2 * g))), (1, .int from_), (2, .int to_), (3, .int least), (4, .int greatest)] []
  unfold m_X1_hold at hz
  refine j_aload_n 1 C dX1_hold_0 rfl rfl 0 rfl ?_
  refine j_iload_n 2 C dX1_hold_1 rfl rfl 1 rfl ?_
  obtain ⟨y2, e2, hz⟩ := ap_x hz
  refine s_V 5 C (As := [.int from_]) cv_X1_34 (c_X1_isPlace (l := l) (D := D) (K := K) (ad := ad) hG (hg := by omega) (hz := e2)) dX1_hold_2 rfl (11 + 2 * g) 1 (GH_r hG (by omega)) rfl (CE_go (by omega) _) rfl rfl rfl rfl rfl rfl ⟨⟨Nat.le_of_ble_eq_true rfl, Nat.le_of_ble_eq_true rfl⟩, Nat.zero_le _, Nat.zero_le _⟩ (Nat.le_of_ble_eq_true rfl) (st' := [.int y2]) rfl (fun hE => ?_)
  have hbl2 : bl y2 := hE
  refine j_if_eq 22 8 C dX1_hold_5 rfl rfl (fun c_5 => ?_) (fun c_5 => ?_)
  · replace hz := (if_pos c_5).symm.trans hz
    refine j_iconst 23 C (x := nI 0) dX1_hold_22 rfl (by decide) ?_
    subst hz
    exact j_retI C X dX1_hold_23 (bl_nar bl_0) ⟨rfl, rfl, rfl, (congrArg _ sA_id.symm), bl_0⟩
  · replace hz := (if_neg c_5).symm.trans hz
    obtain ⟨ka, hka, eka⟩ := gPlace_nat hG e2 c_5
    refine j_aload_n 9 C dX1_hold_8 rfl rfl 0 rfl ?_
    refine j_iload_n 10 C dX1_hold_9 rfl rfl 2 rfl ?_
    obtain ⟨y10, e10, hz⟩ := ap_x hz
    refine s_V 13 C (As := [.int to_]) cv_X1_34 (c_X1_isPlace (l := l) (D := D) (K := K) (ad := ad) hG (hg := by omega) (hz := e10)) dX1_hold_10 rfl (11 + 2 * g) 1 (GH_r hG (by omega)) rfl (CE_go (by omega) _) rfl rfl rfl rfl rfl rfl ⟨⟨Nat.le_of_ble_eq_true rfl, Nat.le_of_ble_eq_true rfl⟩, Nat.zero_le _, Nat.zero_le _⟩ (Nat.le_of_ble_eq_true rfl) (st' := [.int y10]) rfl (fun hE => ?_)
    have hbl10 : bl y10 := hE
    refine j_if_eq 22 16 C dX1_hold_13 rfl rfl (fun c_13 => ?_) (fun c_13 => ?_)
    · replace hz := (if_pos c_13).symm.trans hz
      refine j_iconst 23 C (x := nI 0) dX1_hold_22 rfl (by decide) ?_
      subst hz
      exact j_retI C X dX1_hold_23 (bl_nar bl_0) ⟨rfl, rfl, rfl, (congrArg _ sA_id.symm), bl_0⟩
    · replace hz := (if_neg c_13).symm.trans hz
      obtain ⟨kb, hkb, ekb⟩ := gPlace_nat hG e10 c_13
      refine j_iload_n 17 C dX1_hold_16 rfl rfl 3 rfl ?_
      refine j_iload 19 C dX1_hold_17 rfl 4 rfl ?_
      refine j_ic_le 24 22 C dX1_hold_19 rfl rfl (fun c_19 => ?_) (fun c_19 => ?_)
      · replace hz := (if_pos c_19).symm.trans hz
        refine j_iload 26 C dX1_hold_24 rfl 4 rfl ?_
        refine j_aload_n 27 C dX1_hold_26 rfl rfl 0 rfl ?_
        refine k_get 30 C fl_X1_24 dX1_hold_27 rfl (11 + 2 * g) (GH_r hG (by omega)) _ rfl (CE_go (by omega) _) (.ref (ad (12 + 2 * g))) rfl ?_
        refine j_iload_n 31 C dX1_hold_30 rfl rfl 2 rfl ?_
        refine j_aload_n 32 C dX1_hold_31 rfl rfl 0 rfl ?_
        refine k_get 35 C fl_X1_20 dX1_hold_32 rfl (11 + 2 * g) (GH_r hG (by omega)) _ rfl (CE_go (by omega) _) (.int (nI (W * S + 1))) rfl ?_
        refine j_imul 36 C dX1_hold_35 rfl rfl ?_
        refine j_iload_n 37 C dX1_hold_36 rfl rfl 1 rfl ?_
        refine j_iadd 38 C dX1_hold_37 rfl rfl ?_
        refine k_iald 39 C dX1_hold_38 rfl (12 + 2 * g) (GH_r hG (by omega)) (σ (12 + 2 * g)) rfl (CE_ga (by omega)) (vp_inE (n := ((kb * (W * S + 1)) + ka)) (by simp only [eka, ekb, nI_add, pk_mul]) (ixlt (by omega) (by omega)) (zz31 (by omega))) ?_
        refine j_ineg 40 C dX1_hold_39 rfl rfl ?_
        refine j_ic_lt 60 43 C dX1_hold_40 rfl rfl (fun c_40 => ?_) (fun c_40 => ?_)
        · replace hz := (if_pos c_40).symm.trans hz
          refine j_iconst 61 C (x := nI 0) dX1_hold_60 rfl (by decide) ?_
          subst hz
          exact j_retI C X dX1_hold_61 (bl_nar bl_0) ⟨rfl, rfl, rfl, (congrArg _ sA_id.symm), bl_0⟩
        · replace hz := (if_neg c_40).symm.trans hz
          refine j_iload_n 44 C dX1_hold_43 rfl rfl 3 rfl ?_
          refine j_aload_n 45 C dX1_hold_44 rfl rfl 0 rfl ?_
          refine k_get 48 C fl_X1_24 dX1_hold_45 rfl (11 + 2 * g) (GH_r hG (by omega)) _ rfl (CE_go (by omega) _) (.ref (ad (12 + 2 * g))) rfl ?_
          refine j_iload_n 49 C dX1_hold_48 rfl rfl 1 rfl ?_
          refine j_aload_n 50 C dX1_hold_49 rfl rfl 0 rfl ?_
          refine k_get 53 C fl_X1_20 dX1_hold_50 rfl (11 + 2 * g) (GH_r hG (by omega)) _ rfl (CE_go (by omega) _) (.int (nI (W * S + 1))) rfl ?_
          refine j_imul 54 C dX1_hold_53 rfl rfl ?_
          refine j_iload_n 55 C dX1_hold_54 rfl rfl 2 rfl ?_
          refine j_iadd 56 C dX1_hold_55 rfl rfl ?_
          refine k_iald 57 C dX1_hold_56 rfl (12 + 2 * g) (GH_r hG (by omega)) (σ (12 + 2 * g)) rfl (CE_ga (by omega)) (vp_inE (n := ((ka * (W * S + 1)) + kb)) (by simp only [eka, ekb, nI_add, pk_mul]) (ixlt (by omega) (by omega)) (zz31 (by omega))) ?_
          refine j_ic_le 62 60 C dX1_hold_57 rfl rfl (fun c_57 => ?_) (fun c_57 => ?_)
          · replace hz := (if_pos c_57).symm.trans hz
            refine j_aload_n 63 C dX1_hold_62 rfl rfl 0 rfl ?_
            refine j_iload_n 64 C dX1_hold_63 rfl rfl 1 rfl ?_
            refine j_iload_n 65 C dX1_hold_64 rfl rfl 2 rfl ?_
            refine j_iload 67 C dX1_hold_65 rfl 4 rfl ?_
            obtain ⟨y67, e67, hz⟩ := ap_x hz
            refine s_V 70 C (As := [.int from_, .int to_, .int greatest]) cv_X1_41 (c_X1_narrow (l := l) (D := D) (K := K) (ad := ad) hG (hg := by omega) (a_from_ := ka) (e_from_ := (by simp only [eka, ekb, nI_add, pk_mul])) (h_from_ := by omega) (a_to_ := kb) (e_to_ := (by simp only [eka, ekb, nI_add, pk_mul])) (h_to_ := by omega) (hz := e67)) dX1_hold_67 rfl (11 + 2 * g) 1 (GH_r hG (by omega)) rfl (CE_go (by omega) _) rfl rfl rfl rfl rfl rfl ⟨⟨Nat.le_of_ble_eq_true rfl, Nat.le_of_ble_eq_true rfl⟩, Nat.zero_le _, Nat.zero_le _⟩ (Nat.le_of_ble_eq_true rfl) (st' := []) rfl (fun hE => ?_)
            refine j_aload_n 71 C dX1_hold_70 rfl rfl 0 rfl ?_
            refine j_iload_n 72 C dX1_hold_71 rfl rfl 2 rfl ?_
            refine j_iload_n 73 C dX1_hold_72 rfl rfl 1 rfl ?_
            refine j_iload_n 74 C dX1_hold_73 rfl rfl 3 rfl ?_
            refine j_ineg 75 C dX1_hold_74 rfl rfl ?_
            obtain ⟨y75, e75, hz⟩ := ap_x hz
            refine s_V 78 C (As := [.int to_, .int from_, .int (-least)]) cv_X1_41 (c_X1_narrow (l := l) (D := D) (K := K) (ad := ad) hG (hg := by omega) (a_from_ := kb) (e_from_ := (by simp only [eka, ekb, nI_add, pk_mul])) (h_from_ := by omega) (a_to_ := ka) (e_to_ := (by simp only [eka, ekb, nI_add, pk_mul])) (h_to_ := by omega) (hz := e75)) dX1_hold_75 rfl (11 + 2 * g) 1 (GH_r hG (by omega)) rfl (CE_go (by omega) _) rfl rfl rfl rfl rfl rfl ⟨⟨Nat.le_of_ble_eq_true rfl, Nat.le_of_ble_eq_true rfl⟩, Nat.zero_le _, Nat.zero_le _⟩ (Nat.le_of_ble_eq_true rfl) (st' := []) rfl (fun hE => ?_)
            refine j_ct (ct' := CT K W S ns nc ad B (sA σ (12 + 2 * g) y75)) (fun r _ => congrFun (congrArg (CT K W S ns nc ad B) sA_top) r) ?_
            refine j_iconst 79 C (x := nI 1) dX1_hold_78 rfl (by decide) ?_
            subst hz
            exact j_retI C X dX1_hold_79 (bl_nar bl_1) ⟨rfl, rfl, rfl, rfl, bl_1⟩
          · replace hz := (if_neg c_57).symm.trans hz
            refine j_iconst 61 C (x := nI 0) dX1_hold_60 rfl (by decide) ?_
            subst hz
            exact j_retI C X dX1_hold_61 (bl_nar bl_0) ⟨rfl, rfl, rfl, (congrArg _ sA_id.symm), bl_0⟩
      · replace hz := (if_neg c_19).symm.trans hz
        refine j_iconst 23 C (x := nI 0) dX1_hold_22 rfl (by decide) ?_
        subst hz
        exact j_retI C X dX1_hold_23 (bl_nar bl_0) ⟨rfl, rfl, rfl, (congrArg _ sA_id.symm), bl_0⟩
def m_X1_clear_L12 (W S ns nc : Nat) (B : Nat → Option Nat) (σ : Nat → Nat → Int32) (i2 : Nat) (i12 : Nat) (c12 : (Nat → Int32)) : (Nat → Int32) := (if (nI i2) = (nI i12) then (if (nI 1) = 0 then ap (upd c12 (((nI i2) * (nI (W * S + 1))) + (nI i12)).toNatClampNeg (nI 60)) (fun (f57 : Nat → Int32) => f57) else ap (upd c12 (((nI i2) * (nI (W * S + 1))) + (nI i12)).toNatClampNeg (nI 0)) (fun (f57 : Nat → Int32) => f57)) else (if (nI i12) = 0 then (if (nI 1) = 0 then ap (upd c12 (((nI i2) * (nI (W * S + 1))) + (nI i12)).toNatClampNeg (nI 60)) (fun (f57 : Nat → Int32) => f57) else ap (upd c12 (((nI i2) * (nI (W * S + 1))) + (nI i12)).toNatClampNeg (nI 0)) (fun (f57 : Nat → Int32) => f57)) else (if (nI 0) = 0 then ap (upd c12 (((nI i2) * (nI (W * S + 1))) + (nI i12)).toNatClampNeg (nI 60)) (fun (f57 : Nat → Int32) => f57) else ap (upd c12 (((nI i2) * (nI (W * S + 1))) + (nI i12)).toNatClampNeg (nI 0)) (fun (f57 : Nat → Int32) => f57))))
def m_X1_clear_L2 (W S ns nc : Nat) (B : Nat → Option Nat) (σ : Nat → Nat → Int32) (i2 : Nat) (c2 : (Nat → Int32)) : (Nat → Int32) := ap (lp (m_X1_clear_L12 W S ns nc B σ i2) ((W * S + 1) - 0) 0 c2) (fun (z12 : (Nat → Int32)) => z12)
def m_X1_clear (W S ns nc : Nat) (B : Nat → Option Nat) (σ : Nat → Nat → Int32) (g : Nat) : (Nat → Int32) := ap (lp (m_X1_clear_L2 W S ns nc B σ) ((W * S + 1) - 0) 0 (σ (12 + 2 * g))) (fun (z2 : (Nat → Int32)) => z2)
abbrev rm_X1_clear : Room := { frames := 0, cells := 0, slots := 0, locals := 0 }
set_option maxHeartbeats 4000000 in
set_option maxRecDepth 100000 in
theorem c_X1_clear {l : Launch} {D : va_G} {K : Nat → ClassId} {W S ns nc N : Nat} {ad : Nat → Nat} {B : Nat → Option Nat} {σ : Nat → Nat → Int32} (hG : GH W S ns nc N) {g : Nat} (hg : g < 12) {z : (Nat → Int32)} (hz : m_X1_clear W S ns nc B σ g = z)  : MC l yX1_clear cX1_clear 4 none rm_X1_clear D (TY K) N ad (CT K W S ns nc ad B σ) [.ref (ad (11 + 2 * g))] (BS none N ad (CT K W S ns nc ad B (sA σ (12 + 2 * g) z)) True) := by
  have hW := hG.1; have hW8 := hG.2.1; have hS := hG.2.2.1; have hS4 := hG.2.2.2.1; have hns := hG.2.2.2.2.1; have hnc := hG.2.2.2.2.2.1; have hWS := GH_ws hG
  refine MC.of (by decide) (Nat.le_of_ble_eq_true rfl) (fun p e s m args below meth c Q A H0 C X => ?_)
  replace C : Cx p s m args meth c cX1_clear RX1 4 D (TY K) A H0 := C
  show J p l e rm_X1_clear s m args below meth c Q D A H0 4 0 0 N ad (CT K W S ns nc ad B σ) 0 [(0, .ref (ad (11 + 2 * g)))] []
  unfold m_X1_clear at hz
  refine j_iconst 1 C (x := nI 0) dX1_clear_0 rfl (by decide) ?_
  refine j_istore_n 2 C [(1, .int (nI 0)), (0, .ref (ad (11 + 2 * g)))] dX1_clear_1 rfl rfl (by decide) rfl ?_
  skip
  obtain ⟨z2, ez2, hz⟩ := ap_x hz
  have L2 : ∀ (n2 i2 : Nat) (c2 : (Nat → Int32)), 0 ≤ i2 → i2 < 5000 → n2 = (W * S + 1) - i2 → lp (m_X1_clear_L2 W S ns nc B σ) n2 i2 c2 = z2 → J p l e rm_X1_clear s m args below meth c Q D A H0 4 0 0 N ad (CT K W S ns nc ad B (sA σ (12 + 2 * g) c2)) 2 [(0, .ref (ad (11 + 2 * g))), (1, .int (nI i2))] [] := by
    intro n2
    induction n2 with
    | zero =>
      intro i2 c2 hl2 hi2 hn2 hz2
      refine j_iload_n 3 C dX1_clear_2 rfl rfl 1 rfl ?_
      refine j_aload_n 4 C dX1_clear_3 rfl rfl 0 rfl ?_
      refine k_get 7 C fl_X1_20 dX1_clear_4 rfl (11 + 2 * g) (GH_r hG (by omega)) _ rfl (CE_go (by omega) _) (.int (nI (W * S + 1))) rfl ?_
      refine j_ic_ge 70 10 C dX1_clear_7 rfl rfl (fun c_7 => ?_) (fun c_7 => ?_)
      · skip
        have n_7 := nat_le (a := (W * S + 1)) (b := i2) rfl rfl (by omega) (by omega) c_7
        have hq2 : c2 = z2 := hz2
        subst hq2
        subst hz
        exact j_retV C X dX1_clear_70 ⟨rfl, rfl, rfl, rfl, trivial⟩
      · exfalso
        have n_7 := nat_nle (a := (W * S + 1)) (b := i2) rfl rfl (by omega) (by omega) c_7
        omega
    | succ n2 ih2 =>
      intro i2 c2 hl2 hi2 hn2 hz2
      refine j_iload_n 3 C dX1_clear_2 rfl rfl 1 rfl ?_
      refine j_aload_n 4 C dX1_clear_3 rfl rfl 0 rfl ?_
      refine k_get 7 C fl_X1_20 dX1_clear_4 rfl (11 + 2 * g) (GH_r hG (by omega)) _ rfl (CE_go (by omega) _) (.int (nI (W * S + 1))) rfl ?_
      refine j_ic_ge 70 10 C dX1_clear_7 rfl rfl (fun c_7 => ?_) (fun c_7 => ?_)
      · exfalso
        have n_7 := nat_le (a := (W * S + 1)) (b := i2) rfl rfl (by omega) (by omega) c_7
        omega
      · skip
        have n_7 := nat_nle (a := (W * S + 1)) (b := i2) rfl rfl (by omega) (by omega) c_7
        obtain ⟨w2, hw2, hz2⟩ := lp_s hz2
        have ho2 := hz
        clear hz
        have hz := hw2
        clear hw2
        unfold m_X1_clear_L2 at hz
        refine j_iconst 11 C (x := nI 0) dX1_clear_10 rfl (by decide) ?_
        refine j_istore_n 12 C [(2, .int (nI 0)), (0, .ref (ad (11 + 2 * g))), (1, .int (nI i2))] dX1_clear_11 rfl rfl (by decide) rfl ?_
        skip
        obtain ⟨z12, ez12, hz⟩ := ap_x hz
        have L12 : ∀ (n12 i12 : Nat) (c12 : (Nat → Int32)), 0 ≤ i12 → i12 < 5000 → n12 = (W * S + 1) - i12 → lp (m_X1_clear_L12 W S ns nc B σ i2) n12 i12 c12 = z12 → J p l e rm_X1_clear s m args below meth c Q D A H0 4 0 0 N ad (CT K W S ns nc ad B (sA σ (12 + 2 * g) c12)) 12 [(0, .ref (ad (11 + 2 * g))), (1, .int (nI i2)), (2, .int (nI i12))] [] := by
          intro n12
          induction n12 with
          | zero =>
            intro i12 c12 hl12 hi12 hn12 hz12
            refine j_iload_n 13 C dX1_clear_12 rfl rfl 2 rfl ?_
            refine j_aload_n 14 C dX1_clear_13 rfl rfl 0 rfl ?_
            refine k_get 17 C fl_X1_20 dX1_clear_14 rfl (11 + 2 * g) (GH_r hG (by omega)) _ rfl (CE_go (by omega) _) (.int (nI (W * S + 1))) rfl ?_
            refine j_ic_ge 64 20 C dX1_clear_17 rfl rfl (fun c_17 => ?_) (fun c_17 => ?_)
            · skip
              have n_17 := nat_le (a := (W * S + 1)) (b := i12) rfl rfl (by omega) (by omega) c_17
              have hq12 : c12 = z12 := hz12
              subst hq12
              refine j_iinc 67 C (x' := nI (i2 + 1)) [(1, .int (nI (i2 + 1))), (0, .ref (ad (11 + 2 * g))), (2, .int (nI i12))] dX1_clear_64 rfl 1 rfl (by rw [show Int32.ofInt 1 = nI 1 from by decide, nI_add]) (by decide) rfl ?_
              refine j_goto 2 C dX1_clear_67 rfl ?_
              subst hz
              refine j_lv [1, 0] (lv' := [(0, .ref (ad (11 + 2 * g))), (1, .int (nI (i2 + 1)))]) rfl ?_
              have hz := ho2
              exact ih2 (i2 + 1) c12 (by omega) (by omega) (by omega) hz2
            · exfalso
              have n_17 := nat_nle (a := (W * S + 1)) (b := i12) rfl rfl (by omega) (by omega) c_17
              omega
          | succ n12 ih12 =>
            intro i12 c12 hl12 hi12 hn12 hz12
            refine j_iload_n 13 C dX1_clear_12 rfl rfl 2 rfl ?_
            refine j_aload_n 14 C dX1_clear_13 rfl rfl 0 rfl ?_
            refine k_get 17 C fl_X1_20 dX1_clear_14 rfl (11 + 2 * g) (GH_r hG (by omega)) _ rfl (CE_go (by omega) _) (.int (nI (W * S + 1))) rfl ?_
            refine j_ic_ge 64 20 C dX1_clear_17 rfl rfl (fun c_17 => ?_) (fun c_17 => ?_)
            · exfalso
              have n_17 := nat_le (a := (W * S + 1)) (b := i12) rfl rfl (by omega) (by omega) c_17
              omega
            · skip
              have n_17 := nat_nle (a := (W * S + 1)) (b := i12) rfl rfl (by omega) (by omega) c_17
              obtain ⟨w12, hw12, hz12⟩ := lp_s hz12
              have ho12 := hz
              clear hz
              have hz := hw12
              clear hw12
              unfold m_X1_clear_L12 at hz
              refine j_iload_n 21 C dX1_clear_20 rfl rfl 1 rfl ?_
              refine j_iload_n 22 C dX1_clear_21 rfl rfl 2 rfl ?_
              refine j_ic_eq 29 25 C dX1_clear_22 rfl rfl (fun c_22 => ?_) (fun c_22 => ?_)
              · replace hz := (if_pos c_22).symm.trans hz
                have n_22 := nat_eq (a := i2) (b := i12) rfl rfl (by omega) (by omega) c_22
                refine j_iconst 30 C (x := nI 1) dX1_clear_29 rfl (by decide) ?_
                refine j_goto 34 C dX1_clear_30 rfl ?_
                refine j_istore_n 35 C [(3, .int (nI 1)), (0, .ref (ad (11 + 2 * g))), (1, .int (nI i2)), (2, .int (nI i12))] dX1_clear_34 rfl rfl (by decide) rfl ?_
                refine j_aload_n 36 C dX1_clear_35 rfl rfl 1 rfl ?_
                refine k_get 39 C fl_X1_24 dX1_clear_36 rfl (11 + 2 * g) (GH_r hG (by omega)) _ rfl (CE_go (by omega) _) (.ref (ad (12 + 2 * g))) rfl ?_
                refine j_iload_n 40 C dX1_clear_39 rfl rfl 2 rfl ?_
                refine j_aload_n 41 C dX1_clear_40 rfl rfl 1 rfl ?_
                refine k_get 44 C fl_X1_20 dX1_clear_41 rfl (11 + 2 * g) (GH_r hG (by omega)) _ rfl (CE_go (by omega) _) (.int (nI (W * S + 1))) rfl ?_
                refine j_imul 45 C dX1_clear_44 rfl rfl ?_
                refine j_iload_n 46 C dX1_clear_45 rfl rfl 3 rfl ?_
                refine j_iadd 47 C dX1_clear_46 rfl rfl ?_
                refine j_iload_n 48 C dX1_clear_47 rfl rfl 0 rfl ?_
                refine j_if_eq 55 51 C dX1_clear_48 rfl rfl (fun c_48 => ?_) (fun c_48 => ?_)
                · replace hz := (if_pos c_48).symm.trans hz
                  refine j_bipush 57 C (x := nI 60) dX1_clear_55 rfl (by decide) ?_
                  refine k_iast 58 C dX1_clear_57 rfl (12 + 2 * g) (GH_r hG (by omega)) c12 sA_at (CE_ga (by omega)) (vp_inE (n := ((i2 * (W * S + 1)) + i12)) (by simp only [nI_add, pk_mul]) (ixlt (by omega) (by omega)) (zz31 (by omega))) (sA σ (12 + 2 * g) (upd c12 (((nI i2) * (nI (W * S + 1))) + (nI i12)).toNatClampNeg (nI 60))) sA_top ?_
                  obtain ⟨f57, e57, hz⟩ := ap_x hz
                  rw [e57]
                  refine j_iinc 61 C (x' := nI (i12 + 1)) [(2, .int (nI (i12 + 1))), (3, .int (nI 1)), (0, .ref (ad (11 + 2 * g))), (1, .int (nI i2))] dX1_clear_58 rfl 3 rfl (by rw [show Int32.ofInt 1 = nI 1 from by decide, nI_add]) (by decide) rfl ?_
                  refine j_goto 12 C dX1_clear_61 rfl ?_
                  subst hz
                  refine j_lv [2, 3, 0] (lv' := [(0, .ref (ad (11 + 2 * g))), (1, .int (nI i2)), (2, .int (nI (i12 + 1)))]) rfl ?_
                  have hz := ho12
                  exact ih12 (i12 + 1) f57 (by omega) (by omega) (by omega) hz12
                · replace hz := (if_neg c_48).symm.trans hz
                  refine j_iconst 52 C (x := nI 0) dX1_clear_51 rfl (by decide) ?_
                  refine j_goto 57 C dX1_clear_52 rfl ?_
                  refine k_iast 58 C dX1_clear_57 rfl (12 + 2 * g) (GH_r hG (by omega)) c12 sA_at (CE_ga (by omega)) (vp_inE (n := ((i2 * (W * S + 1)) + i12)) (by simp only [nI_add, pk_mul]) (ixlt (by omega) (by omega)) (zz31 (by omega))) (sA σ (12 + 2 * g) (upd c12 (((nI i2) * (nI (W * S + 1))) + (nI i12)).toNatClampNeg (nI 0))) sA_top ?_
                  obtain ⟨f57, e57, hz⟩ := ap_x hz
                  rw [e57]
                  refine j_iinc 61 C (x' := nI (i12 + 1)) [(2, .int (nI (i12 + 1))), (3, .int (nI 1)), (0, .ref (ad (11 + 2 * g))), (1, .int (nI i2))] dX1_clear_58 rfl 3 rfl (by rw [show Int32.ofInt 1 = nI 1 from by decide, nI_add]) (by decide) rfl ?_
                  refine j_goto 12 C dX1_clear_61 rfl ?_
                  subst hz
                  refine j_lv [2, 3, 0] (lv' := [(0, .ref (ad (11 + 2 * g))), (1, .int (nI i2)), (2, .int (nI (i12 + 1)))]) rfl ?_
                  have hz := ho12
                  exact ih12 (i12 + 1) f57 (by omega) (by omega) (by omega) hz12
              · replace hz := (if_neg c_22).symm.trans hz
                have n_22 := nat_ne (a := i2) (b := i12) rfl rfl (by omega) (by omega) c_22
                refine j_iload_n 26 C dX1_clear_25 rfl rfl 2 rfl ?_
                refine j_if_ne 33 29 C dX1_clear_26 rfl rfl (fun c_26 => ?_) (fun c_26 => ?_)
                · replace hz := (if_neg c_26).symm.trans hz
                  refine j_iconst 34 C (x := nI 0) dX1_clear_33 rfl (by decide) ?_
                  refine j_istore_n 35 C [(3, .int (nI 0)), (0, .ref (ad (11 + 2 * g))), (1, .int (nI i2)), (2, .int (nI i12))] dX1_clear_34 rfl rfl (by decide) rfl ?_
                  refine j_aload_n 36 C dX1_clear_35 rfl rfl 1 rfl ?_
                  refine k_get 39 C fl_X1_24 dX1_clear_36 rfl (11 + 2 * g) (GH_r hG (by omega)) _ rfl (CE_go (by omega) _) (.ref (ad (12 + 2 * g))) rfl ?_
                  refine j_iload_n 40 C dX1_clear_39 rfl rfl 2 rfl ?_
                  refine j_aload_n 41 C dX1_clear_40 rfl rfl 1 rfl ?_
                  refine k_get 44 C fl_X1_20 dX1_clear_41 rfl (11 + 2 * g) (GH_r hG (by omega)) _ rfl (CE_go (by omega) _) (.int (nI (W * S + 1))) rfl ?_
                  refine j_imul 45 C dX1_clear_44 rfl rfl ?_
                  refine j_iload_n 46 C dX1_clear_45 rfl rfl 3 rfl ?_
                  refine j_iadd 47 C dX1_clear_46 rfl rfl ?_
                  refine j_iload_n 48 C dX1_clear_47 rfl rfl 0 rfl ?_
                  refine j_if_eq 55 51 C dX1_clear_48 rfl rfl (fun c_48 => ?_) (fun c_48 => ?_)
                  · replace hz := (if_pos c_48).symm.trans hz
                    refine j_bipush 57 C (x := nI 60) dX1_clear_55 rfl (by decide) ?_
                    refine k_iast 58 C dX1_clear_57 rfl (12 + 2 * g) (GH_r hG (by omega)) c12 sA_at (CE_ga (by omega)) (vp_inE (n := ((i2 * (W * S + 1)) + i12)) (by simp only [nI_add, pk_mul]) (ixlt (by omega) (by omega)) (zz31 (by omega))) (sA σ (12 + 2 * g) (upd c12 (((nI i2) * (nI (W * S + 1))) + (nI i12)).toNatClampNeg (nI 60))) sA_top ?_
                    obtain ⟨f57, e57, hz⟩ := ap_x hz
                    rw [e57]
                    refine j_iinc 61 C (x' := nI (i12 + 1)) [(2, .int (nI (i12 + 1))), (3, .int (nI 0)), (0, .ref (ad (11 + 2 * g))), (1, .int (nI i2))] dX1_clear_58 rfl 3 rfl (by rw [show Int32.ofInt 1 = nI 1 from by decide, nI_add]) (by decide) rfl ?_
                    refine j_goto 12 C dX1_clear_61 rfl ?_
                    subst hz
                    refine j_lv [2, 3, 0] (lv' := [(0, .ref (ad (11 + 2 * g))), (1, .int (nI i2)), (2, .int (nI (i12 + 1)))]) rfl ?_
                    have hz := ho12
                    exact ih12 (i12 + 1) f57 (by omega) (by omega) (by omega) hz12
                  · replace hz := (if_neg c_48).symm.trans hz
                    refine j_iconst 52 C (x := nI 0) dX1_clear_51 rfl (by decide) ?_
                    refine j_goto 57 C dX1_clear_52 rfl ?_
                    refine k_iast 58 C dX1_clear_57 rfl (12 + 2 * g) (GH_r hG (by omega)) c12 sA_at (CE_ga (by omega)) (vp_inE (n := ((i2 * (W * S + 1)) + i12)) (by simp only [nI_add, pk_mul]) (ixlt (by omega) (by omega)) (zz31 (by omega))) (sA σ (12 + 2 * g) (upd c12 (((nI i2) * (nI (W * S + 1))) + (nI i12)).toNatClampNeg (nI 0))) sA_top ?_
                    obtain ⟨f57, e57, hz⟩ := ap_x hz
                    rw [e57]
                    refine j_iinc 61 C (x' := nI (i12 + 1)) [(2, .int (nI (i12 + 1))), (3, .int (nI 0)), (0, .ref (ad (11 + 2 * g))), (1, .int (nI i2))] dX1_clear_58 rfl 3 rfl (by rw [show Int32.ofInt 1 = nI 1 from by decide, nI_add]) (by decide) rfl ?_
                    refine j_goto 12 C dX1_clear_61 rfl ?_
                    subst hz
                    refine j_lv [2, 3, 0] (lv' := [(0, .ref (ad (11 + 2 * g))), (1, .int (nI i2)), (2, .int (nI (i12 + 1)))]) rfl ?_
                    have hz := ho12
                    exact ih12 (i12 + 1) f57 (by omega) (by omega) (by omega) hz12
                · replace hz := (if_pos c_26).symm.trans hz
                  refine j_iconst 30 C (x := nI 1) dX1_clear_29 rfl (by decide) ?_
                  refine j_goto 34 C dX1_clear_30 rfl ?_
                  refine j_istore_n 35 C [(3, .int (nI 1)), (0, .ref (ad (11 + 2 * g))), (1, .int (nI i2)), (2, .int (nI i12))] dX1_clear_34 rfl rfl (by decide) rfl ?_
                  refine j_aload_n 36 C dX1_clear_35 rfl rfl 1 rfl ?_
                  refine k_get 39 C fl_X1_24 dX1_clear_36 rfl (11 + 2 * g) (GH_r hG (by omega)) _ rfl (CE_go (by omega) _) (.ref (ad (12 + 2 * g))) rfl ?_
                  refine j_iload_n 40 C dX1_clear_39 rfl rfl 2 rfl ?_
                  refine j_aload_n 41 C dX1_clear_40 rfl rfl 1 rfl ?_
                  refine k_get 44 C fl_X1_20 dX1_clear_41 rfl (11 + 2 * g) (GH_r hG (by omega)) _ rfl (CE_go (by omega) _) (.int (nI (W * S + 1))) rfl ?_
                  refine j_imul 45 C dX1_clear_44 rfl rfl ?_
                  refine j_iload_n 46 C dX1_clear_45 rfl rfl 3 rfl ?_
                  refine j_iadd 47 C dX1_clear_46 rfl rfl ?_
                  refine j_iload_n 48 C dX1_clear_47 rfl rfl 0 rfl ?_
                  refine j_if_eq 55 51 C dX1_clear_48 rfl rfl (fun c_48 => ?_) (fun c_48 => ?_)
                  · replace hz := (if_pos c_48).symm.trans hz
                    refine j_bipush 57 C (x := nI 60) dX1_clear_55 rfl (by decide) ?_
                    refine k_iast 58 C dX1_clear_57 rfl (12 + 2 * g) (GH_r hG (by omega)) c12 sA_at (CE_ga (by omega)) (vp_inE (n := ((i2 * (W * S + 1)) + i12)) (by simp only [nI_add, pk_mul]) (ixlt (by omega) (by omega)) (zz31 (by omega))) (sA σ (12 + 2 * g) (upd c12 (((nI i2) * (nI (W * S + 1))) + (nI i12)).toNatClampNeg (nI 60))) sA_top ?_
                    obtain ⟨f57, e57, hz⟩ := ap_x hz
                    rw [e57]
                    refine j_iinc 61 C (x' := nI (i12 + 1)) [(2, .int (nI (i12 + 1))), (3, .int (nI 1)), (0, .ref (ad (11 + 2 * g))), (1, .int (nI i2))] dX1_clear_58 rfl 3 rfl (by rw [show Int32.ofInt 1 = nI 1 from by decide, nI_add]) (by decide) rfl ?_
                    refine j_goto 12 C dX1_clear_61 rfl ?_
                    subst hz
                    refine j_lv [2, 3, 0] (lv' := [(0, .ref (ad (11 + 2 * g))), (1, .int (nI i2)), (2, .int (nI (i12 + 1)))]) rfl ?_
                    have hz := ho12
                    exact ih12 (i12 + 1) f57 (by omega) (by omega) (by omega) hz12
                  · replace hz := (if_neg c_48).symm.trans hz
                    refine j_iconst 52 C (x := nI 0) dX1_clear_51 rfl (by decide) ?_
                    refine j_goto 57 C dX1_clear_52 rfl ?_
                    refine k_iast 58 C dX1_clear_57 rfl (12 + 2 * g) (GH_r hG (by omega)) c12 sA_at (CE_ga (by omega)) (vp_inE (n := ((i2 * (W * S + 1)) + i12)) (by simp only [nI_add, pk_mul]) (ixlt (by omega) (by omega)) (zz31 (by omega))) (sA σ (12 + 2 * g) (upd c12 (((nI i2) * (nI (W * S + 1))) + (nI i12)).toNatClampNeg (nI 0))) sA_top ?_
                    obtain ⟨f57, e57, hz⟩ := ap_x hz
                    rw [e57]
                    refine j_iinc 61 C (x' := nI (i12 + 1)) [(2, .int (nI (i12 + 1))), (3, .int (nI 1)), (0, .ref (ad (11 + 2 * g))), (1, .int (nI i2))] dX1_clear_58 rfl 3 rfl (by rw [show Int32.ofInt 1 = nI 1 from by decide, nI_add]) (by decide) rfl ?_
                    refine j_goto 12 C dX1_clear_61 rfl ?_
                    subst hz
                    refine j_lv [2, 3, 0] (lv' := [(0, .ref (ad (11 + 2 * g))), (1, .int (nI i2)), (2, .int (nI (i12 + 1)))]) rfl ?_
                    have hz := ho12
                    exact ih12 (i12 + 1) f57 (by omega) (by omega) (by omega) hz12
        refine j_lv [1, 2, 0] (lv' := [(0, .ref (ad (11 + 2 * g))), (1, .int (nI i2)), (2, .int (nI 0))]) rfl ?_
        exact L12 _ 0 c2 (by omega) (by omega) rfl ez12
  refine j_lv [1, 0] (lv' := [(0, .ref (ad (11 + 2 * g))), (1, .int (nI 0))]) rfl ?_
  refine j_ct (ct' := CT K W S ns nc ad B (sA σ (12 + 2 * g) (σ (12 + 2 * g)))) (fun r _ => congrFun (congrArg (CT K W S ns nc ad B) (sA_idr (by rfl))) r) ?_
  exact L2 _ 0 (σ (12 + 2 * g)) (by omega) (by omega) rfl ez2
def m_X1_copyFrom (W S ns nc : Nat) (B : Nat → Option Nat) (σ : Nat → Nat → Int32) (g : Nat) (other : Nat) : (Nat → Int32) := (if (nI (W * S + 1)) = (nI (W * S + 1)) then (va_cpy (σ (12 + 2 * other)) (σ (12 + 2 * g)) 0 0 ((W * S + 1) * (W * S + 1))) else (σ (12 + 2 * g)))
abbrev rm_X1_copyFrom : Room := { frames := 1, cells := 0, slots := 0, locals := 60 }
set_option maxHeartbeats 4000000 in
set_option maxRecDepth 100000 in
theorem c_X1_copyFrom {l : Launch} {D : va_G} {K : Nat → ClassId} {W S ns nc N : Nat} {ad : Nat → Nat} {B : Nat → Option Nat} {σ : Nat → Nat → Int32} (hG : GH W S ns nc N) {g : Nat} {other : Nat} (hg : g < 12) (h_other : other < 12) {z : (Nat → Int32)} (hz : m_X1_copyFrom W S ns nc B σ g other = z)  : MC l yX1_copyFrom cX1_copyFrom 2 none rm_X1_copyFrom D (TY K) N ad (CT K W S ns nc ad B σ) [.ref (ad (11 + 2 * g)), .ref (ad (11 + 2 * other))] (BS none N ad (CT K W S ns nc ad B (sA σ (12 + 2 * g) z)) True) := by
  have hW := hG.1; have hW8 := hG.2.1; have hS := hG.2.2.1; have hS4 := hG.2.2.2.1; have hns := hG.2.2.2.2.1; have hnc := hG.2.2.2.2.2.1; have hWS := GH_ws hG
  refine MC.of (by decide) (Nat.le_of_ble_eq_true rfl) (fun p e s m args below meth c Q A H0 C X => ?_)
  replace C : Cx p s m args meth c cX1_copyFrom RX1 2 D (TY K) A H0 := C
  show J p l e rm_X1_copyFrom s m args below meth c Q D A H0 2 0 0 N ad (CT K W S ns nc ad B σ) 0 [(0, .ref (ad (11 + 2 * g))), (1, .ref (ad (11 + 2 * other)))] []
  unfold m_X1_copyFrom at hz
  refine j_aload_n 1 C dX1_copyFrom_0 rfl rfl 1 rfl ?_
  refine j_st (st' := [va_rf (some (ad (11 + 2 * other)))]) rfl ?_
  refine j_ifnull 33 4 C dX1_copyFrom_1 rfl rfl (fun c_1 => by cases c_1) (fun _ _ => ?_)
  refine j_aload_n 5 C dX1_copyFrom_4 rfl rfl 1 rfl ?_
  refine k_get 8 C fl_X1_20 dX1_copyFrom_5 rfl (11 + 2 * other) (GH_r hG (by omega)) _ rfl (CE_go (by omega) _) (.int (nI (W * S + 1))) rfl ?_
  refine j_aload_n 9 C dX1_copyFrom_8 rfl rfl 0 rfl ?_
  refine k_get 12 C fl_X1_20 dX1_copyFrom_9 rfl (11 + 2 * g) (GH_r hG (by omega)) _ rfl (CE_go (by omega) _) (.int (nI (W * S + 1))) rfl ?_
  refine j_ic_ne 33 15 C dX1_copyFrom_12 rfl rfl (fun c_12 => ?_) (fun c_12 => ?_)
  · replace hz := (if_neg c_12).symm.trans hz
    have n_12 := nat_ne (a := (W * S + 1)) (b := (W * S + 1)) rfl rfl (by omega) (by omega) c_12
    subst hz
    exact j_retV C X dX1_copyFrom_33 ⟨rfl, rfl, rfl, (congrArg _ sA_id.symm), trivial⟩
  · replace hz := (if_pos c_12).symm.trans hz
    have n_12 := nat_eq (a := (W * S + 1)) (b := (W * S + 1)) rfl rfl (by omega) (by omega) c_12
    refine j_aload_n 16 C dX1_copyFrom_15 rfl rfl 1 rfl ?_
    refine k_get 19 C fl_X1_24 dX1_copyFrom_16 rfl (11 + 2 * other) (GH_r hG (by omega)) _ rfl (CE_go (by omega) _) (.ref (ad (12 + 2 * other))) rfl ?_
    refine j_iconst 20 C (x := nI 0) dX1_copyFrom_19 rfl (by decide) ?_
    refine j_aload_n 21 C dX1_copyFrom_20 rfl rfl 0 rfl ?_
    refine k_get 24 C fl_X1_24 dX1_copyFrom_21 rfl (11 + 2 * g) (GH_r hG (by omega)) _ rfl (CE_go (by omega) _) (.ref (ad (12 + 2 * g))) rfl ?_
    refine j_iconst 25 C (x := nI 0) dX1_copyFrom_24 rfl (by decide) ?_
    refine j_aload_n 26 C dX1_copyFrom_25 rfl rfl 0 rfl ?_
    refine k_get 29 C fl_X1_24 dX1_copyFrom_26 rfl (11 + 2 * g) (GH_r hG (by omega)) _ rfl (CE_go (by omega) _) (.ref (ad (12 + 2 * g))) rfl ?_
    refine k_alen 30 C dX1_copyFrom_29 rfl (12 + 2 * g) (GH_r hG (by omega)) 0 ((CE_ga (by omega)) _) rfl ?_
    refine k_copyi 33 C wl_X1_28 dX1_copyFrom_30 rfl (12 + 2 * other) (12 + 2 * g) (GH_r hG (by omega)) (GH_r hG (by omega)) (σ (12 + 2 * other)) (σ (12 + 2 * g)) rfl rfl (CE_ga (by omega)) (CE_ga (by omega)) (w := ((W * S + 1) * (W * S + 1))) (zz31 (by omega)) (Nat.le_refl _) (Nat.le_refl _) (Nat.le_of_ble_eq_true rfl) (Nat.le_of_ble_eq_true rfl) (sA σ (12 + 2 * g) (va_cpy (σ (12 + 2 * other)) (σ (12 + 2 * g)) 0 0 ((W * S + 1) * (W * S + 1)))) rfl ?_
    subst hz
    exact j_retV C X dX1_copyFrom_33 ⟨rfl, rfl, rfl, rfl, trivial⟩
def m_X1_openSum_L4 (W S ns nc : Nat) (B : Nat → Option Nat) (σ : Nat → Nat → Int32) (g : Nat) (i4 : Nat) (c4 : Int32) : Int32 := ap (m_X1_greatest W S ns nc B σ g (nI i4)) (fun (y15 : Int32) => ap (m_X1_least W S ns nc B σ g (nI i4)) (fun (y20 : Int32) => c4 + (y15 - y20)))
def m_X1_openSum (W S ns nc : Nat) (B : Nat → Option Nat) (σ : Nat → Nat → Int32) (g : Nat) : Int32 := ap (lp (m_X1_openSum_L4 W S ns nc B σ g) ((W * S + 1) - 1) 1 (nI 0)) (fun (z4 : Int32) => z4)
abbrev rm_X1_openSum : Room := { frames := 3, cells := 0, slots := 0, locals := 64 }
set_option maxHeartbeats 4000000 in
set_option maxRecDepth 100000 in
theorem c_X1_openSum {l : Launch} {D : va_G} {K : Nat → ClassId} {W S ns nc N : Nat} {ad : Nat → Nat} {B : Nat → Option Nat} {σ : Nat → Nat → Int32} (hG : GH W S ns nc N) {g : Nat} (hg : g < 12) {z : Int32} (hz : m_X1_openSum W S ns nc B σ g = z)  : MC l yX1_openSum cX1_openSum 3 (some .int) rm_X1_openSum D (TY K) N ad (CT K W S ns nc ad B σ) [.ref (ad (11 + 2 * g))] (BS (some (.int z)) N ad (CT K W S ns nc ad B σ) True) := by
  have hW := hG.1; have hW8 := hG.2.1; have hS := hG.2.2.1; have hS4 := hG.2.2.2.1; have hns := hG.2.2.2.2.1; have hnc := hG.2.2.2.2.2.1; have hWS := GH_ws hG
  refine MC.of (by decide) (Nat.le_of_ble_eq_true rfl) (fun p e s m args below meth c Q A H0 C X => ?_)
  replace C : Cx p s m args meth c cX1_openSum RX1 3 D (TY K) A H0 := C
  show J p l e rm_X1_openSum s m args below meth c Q D A H0 3 0 0 N ad (CT K W S ns nc ad B σ) 0 [(0, .ref (ad (11 + 2 * g)))] []
  unfold m_X1_openSum at hz
  refine j_iconst 1 C (x := nI 0) dX1_openSum_0 rfl (by decide) ?_
  refine j_istore_n 2 C [(1, .int (nI 0)), (0, .ref (ad (11 + 2 * g)))] dX1_openSum_1 rfl rfl (by decide) rfl ?_
  refine j_iconst 3 C (x := nI 1) dX1_openSum_2 rfl (by decide) ?_
  refine j_istore_n 4 C [(2, .int (nI 1)), (1, .int (nI 0)), (0, .ref (ad (11 + 2 * g)))] dX1_openSum_3 rfl rfl (by decide) rfl ?_
  skip
  obtain ⟨z4, ez4, hz⟩ := ap_x hz
  have L4 : ∀ (n4 i4 : Nat) (c4 : Int32), 1 ≤ i4 → i4 < 5000 → n4 = (W * S + 1) - i4 → lp (m_X1_openSum_L4 W S ns nc B σ g) n4 i4 c4 = z4 → J p l e rm_X1_openSum s m args below meth c Q D A H0 3 0 0 N ad (CT K W S ns nc ad B σ) 4 [(0, .ref (ad (11 + 2 * g))), (1, .int c4), (2, .int (nI i4))] [] := by
    intro n4
    induction n4 with
    | zero =>
      intro i4 c4 hl4 hi4 hn4 hz4
      refine j_iload_n 5 C dX1_openSum_4 rfl rfl 2 rfl ?_
      refine j_aload_n 6 C dX1_openSum_5 rfl rfl 0 rfl ?_
      refine k_get 9 C fl_X1_20 dX1_openSum_6 rfl (11 + 2 * g) (GH_r hG (by omega)) _ rfl (CE_go (by omega) _) (.int (nI (W * S + 1))) rfl ?_
      refine j_ic_ge 32 12 C dX1_openSum_9 rfl rfl (fun c_9 => ?_) (fun c_9 => ?_)
      · skip
        have n_9 := nat_le (a := (W * S + 1)) (b := i4) rfl rfl (by omega) (by omega) c_9
        have hq4 : c4 = z4 := hz4
        subst hq4
        refine j_iload_n 33 C dX1_openSum_32 rfl rfl 1 rfl ?_
        subst hz
        exact j_retI C X dX1_openSum_33 rfl ⟨rfl, rfl, rfl, rfl, trivial⟩
      · exfalso
        have n_9 := nat_nle (a := (W * S + 1)) (b := i4) rfl rfl (by omega) (by omega) c_9
        omega
    | succ n4 ih4 =>
      intro i4 c4 hl4 hi4 hn4 hz4
      refine j_iload_n 5 C dX1_openSum_4 rfl rfl 2 rfl ?_
      refine j_aload_n 6 C dX1_openSum_5 rfl rfl 0 rfl ?_
      refine k_get 9 C fl_X1_20 dX1_openSum_6 rfl (11 + 2 * g) (GH_r hG (by omega)) _ rfl (CE_go (by omega) _) (.int (nI (W * S + 1))) rfl ?_
      refine j_ic_ge 32 12 C dX1_openSum_9 rfl rfl (fun c_9 => ?_) (fun c_9 => ?_)
      · exfalso
        have n_9 := nat_le (a := (W * S + 1)) (b := i4) rfl rfl (by omega) (by omega) c_9
        omega
      · skip
        have n_9 := nat_nle (a := (W * S + 1)) (b := i4) rfl rfl (by omega) (by omega) c_9
        obtain ⟨w4, hw4, hz4⟩ := lp_s hz4
        have ho4 := hz
        clear hz
        have hz := hw4
        clear hw4
        unfold m_X1_openSum_L4 at hz
        refine j_iload_n 13 C dX1_openSum_12 rfl rfl 1 rfl ?_
        refine j_aload_n 14 C dX1_openSum_13 rfl rfl 0 rfl ?_
        refine j_iload_n 15 C dX1_openSum_14 rfl rfl 2 rfl ?_
        obtain ⟨y15, e15, hz⟩ := ap_x hz
        refine s_V 18 C (As := [.int (nI i4)]) cv_X1_45 (c_X1_greatest (l := l) (D := D) (K := K) (ad := ad) hG (hg := by omega) (hz := e15)) dX1_openSum_15 rfl (11 + 2 * g) 1 (GH_r hG (by omega)) rfl (CE_go (by omega) _) rfl rfl rfl rfl rfl rfl ⟨⟨Nat.le_of_ble_eq_true rfl, Nat.le_of_ble_eq_true rfl⟩, Nat.zero_le _, Nat.zero_le _⟩ (Nat.le_of_ble_eq_true rfl) (st' := [.int y15, .int c4]) rfl (fun hE => ?_)
        refine j_aload_n 19 C dX1_openSum_18 rfl rfl 0 rfl ?_
        refine j_iload_n 20 C dX1_openSum_19 rfl rfl 2 rfl ?_
        obtain ⟨y20, e20, hz⟩ := ap_x hz
        refine s_V 23 C (As := [.int (nI i4)]) cv_X1_49 (c_X1_least (l := l) (D := D) (K := K) (ad := ad) hG (hg := by omega) (hz := e20)) dX1_openSum_20 rfl (11 + 2 * g) 1 (GH_r hG (by omega)) rfl (CE_go (by omega) _) rfl rfl rfl rfl rfl rfl ⟨⟨Nat.le_of_ble_eq_true rfl, Nat.le_of_ble_eq_true rfl⟩, Nat.zero_le _, Nat.zero_le _⟩ (Nat.le_of_ble_eq_true rfl) (st' := [.int y20, .int y15, .int c4]) rfl (fun hE => ?_)
        refine j_isub 24 C dX1_openSum_23 rfl rfl ?_
        refine j_iadd 25 C dX1_openSum_24 rfl rfl ?_
        refine j_istore_n 26 C [(1, .int (c4 + (y15 - y20))), (0, .ref (ad (11 + 2 * g))), (2, .int (nI i4))] dX1_openSum_25 rfl rfl (by decide) rfl ?_
        refine j_iinc 29 C (x' := nI (i4 + 1)) [(2, .int (nI (i4 + 1))), (1, .int (c4 + (y15 - y20))), (0, .ref (ad (11 + 2 * g)))] dX1_openSum_26 rfl 2 rfl (by rw [show Int32.ofInt 1 = nI 1 from by decide, nI_add]) (by decide) rfl ?_
        refine j_goto 4 C dX1_openSum_29 rfl ?_
        subst hz
        refine j_lv [2, 1, 0] (lv' := [(0, .ref (ad (11 + 2 * g))), (1, .int (c4 + (y15 - y20))), (2, .int (nI (i4 + 1)))]) rfl ?_
        have hz := ho4
        exact ih4 (i4 + 1) (c4 + (y15 - y20)) (by omega) (by omega) (by omega) hz4
  refine j_lv [2, 1, 0] (lv' := [(0, .ref (ad (11 + 2 * g))), (1, .int (nI 0)), (2, .int (nI 1))]) rfl ?_
  exact L4 _ 1 (nI 0) (by omega) (by omega) rfl ez4
def m_X1_openSumAfterBore_L15 (W S ns nc : Nat) (B : Nat → Option Nat) (σ : Nat → Nat → Int32) (g : Nat) (bored : Int32) (depth : Int32) (i15 : Nat) (c15 : Int32) : Int32 := ap ((if (depth + ((σ (12 + 2 * g)) ((bored * (nI (W * S + 1))) + (nI i15)).toNatClampNeg)) < ((σ (12 + 2 * g)) (nI i15).toNatClampNeg) then (depth + ((σ (12 + 2 * g)) ((bored * (nI (W * S + 1))) + (nI i15)).toNatClampNeg)) else ((σ (12 + 2 * g)) (nI i15).toNatClampNeg))) (fun (x50 : Int32) => ap ((if (-((σ (12 + 2 * g)) ((nI i15) * (nI (W * S + 1))).toNatClampNeg)) < (depth - ((σ (12 + 2 * g)) (((nI i15) * (nI (W * S + 1))) + bored).toNatClampNeg)) then (depth - ((σ (12 + 2 * g)) (((nI i15) * (nI (W * S + 1))) + bored).toNatClampNeg)) else (-((σ (12 + 2 * g)) ((nI i15) * (nI (W * S + 1))).toNatClampNeg)))) (fun (x84 : Int32) => c15 + (x50 - x84)))
def m_X1_openSumAfterBore (W S ns nc : Nat) (B : Nat → Option Nat) (σ : Nat → Nat → Int32) (g : Nat) (bored : Int32) (depth : Int32) : Int32 := ap (m_X1_isPlace W S ns nc B σ g bored) (fun (y2 : Int32) => (if y2 = 0 then nI 0 else ap (lp (m_X1_openSumAfterBore_L15 W S ns nc B σ g bored depth) ((W * S + 1) - 1) 1 (nI 0)) (fun (z15 : Int32) => z15)))
abbrev rm_X1_openSumAfterBore : Room := { frames := 1, cells := 0, slots := 0, locals := 40 }
set_option maxHeartbeats 4000000 in
set_option maxRecDepth 100000 in
theorem c_X1_openSumAfterBore {l : Launch} {D : va_G} {K : Nat → ClassId} {W S ns nc N : Nat} {ad : Nat → Nat} {B : Nat → Option Nat} {σ : Nat → Nat → Int32} (hG : GH W S ns nc N) {g : Nat} {bored : Int32} {depth : Int32} (hg : g < 12) {z : Int32} (hz : m_X1_openSumAfterBore W S ns nc B σ g bored depth = z)  : MC l yX1_openSumAfterBore cX1_openSumAfterBore 7 (some .int) rm_X1_openSumAfterBore D (TY K) N ad (CT K W S ns nc ad B σ) [.ref (ad (11 + 2 * g)), .int bored, .int depth] (BS (some (.int z)) N ad (CT K W S ns nc ad B σ) True) := by
  have hW := hG.1; have hW8 := hG.2.1; have hS := hG.2.2.1; have hS4 := hG.2.2.2.1; have hns := hG.2.2.2.2.1; have hnc := hG.2.2.2.2.2.1; have hWS := GH_ws hG
  refine MC.of (by decide) (Nat.le_of_ble_eq_true rfl) (fun p e s m args below meth c Q A H0 C X => ?_)
  replace C : Cx p s m args meth c cX1_openSumAfterBore RX1 7 D (TY K) A H0 := C
  show J p l e rm_X1_openSumAfterBore s m args below meth c Q D A H0 7 0 0 N ad (CT K W S ns nc ad B σ) 0 [(0, .ref (ad (11 + 2 * g))), (1, .int bored), (2, .int depth)] []
  unfold m_X1_openSumAfterBore at hz
  refine j_aload_n 1 C dX1_openSumAfterBore_0 rfl rfl 0 rfl ?_
  refine j_iload_n 2 C dX1_openSumAfterBore_1 rfl rfl 1 rfl ?_
  obtain ⟨y2, e2, hz⟩ := ap_x hz
  refine s_V 5 C (As := [.int bored]) cv_X1_34 (c_X1_isPlace (l := l) (D := D) (K := K) (ad := ad) hG (hg := by omega) (hz := e2)) dX1_openSumAfterBore_2 rfl (11 + 2 * g) 1 (GH_r hG (by omega)) rfl (CE_go (by omega) _) rfl rfl rfl rfl rfl rfl ⟨⟨Nat.le_of_ble_eq_true rfl, Nat.le_of_ble_eq_true rfl⟩, Nat.zero_le _, Nat.zero_le _⟩ (Nat.le_of_ble_eq_true rfl) (st' := [.int y2]) rfl (fun hE => ?_)
  have hbl2 : bl y2 := hE
  refine j_if_ne 10 8 C dX1_openSumAfterBore_5 rfl rfl (fun c_5 => ?_) (fun c_5 => ?_)
  · replace hz := (if_neg c_5).symm.trans hz
    obtain ⟨ka, hka, eka⟩ := gPlace_nat hG e2 c_5
    refine j_iconst 11 C (x := nI 0) dX1_openSumAfterBore_10 rfl (by decide) ?_
    refine j_istore_n 12 C [(3, .int (nI 0)), (0, .ref (ad (11 + 2 * g))), (1, .int bored), (2, .int depth)] dX1_openSumAfterBore_11 rfl rfl (by decide) rfl ?_
    refine j_iconst 13 C (x := nI 1) dX1_openSumAfterBore_12 rfl (by decide) ?_
    refine j_istore 15 C [(4, .int (nI 1)), (3, .int (nI 0)), (0, .ref (ad (11 + 2 * g))), (1, .int bored), (2, .int depth)] dX1_openSumAfterBore_13 rfl (by decide) rfl ?_
    skip
    obtain ⟨z15, ez15, hz⟩ := ap_x hz
    have L15 : ∀ (n15 i15 : Nat) (c15 : Int32), 1 ≤ i15 → i15 < 5000 → n15 = (W * S + 1) - i15 → lp (m_X1_openSumAfterBore_L15 W S ns nc B σ g bored depth) n15 i15 c15 = z15 → J p l e rm_X1_openSumAfterBore s m args below meth c Q D A H0 7 0 0 N ad (CT K W S ns nc ad B σ) 15 [(0, .ref (ad (11 + 2 * g))), (1, .int bored), (2, .int depth), (3, .int c15), (4, .int (nI i15))] [] := by
      intro n15
      induction n15 with
      | zero =>
        intro i15 c15 hl15 hi15 hn15 hz15
        refine j_iload 17 C dX1_openSumAfterBore_15 rfl 4 rfl ?_
        refine j_aload_n 18 C dX1_openSumAfterBore_17 rfl rfl 0 rfl ?_
        refine k_get 21 C fl_X1_20 dX1_openSumAfterBore_18 rfl (11 + 2 * g) (GH_r hG (by omega)) _ rfl (CE_go (by omega) _) (.int (nI (W * S + 1))) rfl ?_
        refine j_ic_ge 100 24 C dX1_openSumAfterBore_21 rfl rfl (fun c_21 => ?_) (fun c_21 => ?_)
        · skip
          have n_21 := nat_le (a := (W * S + 1)) (b := i15) rfl rfl (by omega) (by omega) c_21
          have hq15 : c15 = z15 := hz15
          subst hq15
          refine j_iload_n 101 C dX1_openSumAfterBore_100 rfl rfl 3 rfl ?_
          subst hz
          exact j_retI C X dX1_openSumAfterBore_101 rfl ⟨rfl, rfl, rfl, rfl, trivial⟩
        · exfalso
          have n_21 := nat_nle (a := (W * S + 1)) (b := i15) rfl rfl (by omega) (by omega) c_21
          omega
      | succ n15 ih15 =>
        intro i15 c15 hl15 hi15 hn15 hz15
        refine j_iload 17 C dX1_openSumAfterBore_15 rfl 4 rfl ?_
        refine j_aload_n 18 C dX1_openSumAfterBore_17 rfl rfl 0 rfl ?_
        refine k_get 21 C fl_X1_20 dX1_openSumAfterBore_18 rfl (11 + 2 * g) (GH_r hG (by omega)) _ rfl (CE_go (by omega) _) (.int (nI (W * S + 1))) rfl ?_
        refine j_ic_ge 100 24 C dX1_openSumAfterBore_21 rfl rfl (fun c_21 => ?_) (fun c_21 => ?_)
        · exfalso
          have n_21 := nat_le (a := (W * S + 1)) (b := i15) rfl rfl (by omega) (by omega) c_21
          omega
        · skip
          have n_21 := nat_nle (a := (W * S + 1)) (b := i15) rfl rfl (by omega) (by omega) c_21
          obtain ⟨w15, hw15, hz15⟩ := lp_s hz15
          have ho15 := hz
          clear hz
          have hz := hw15
          clear hw15
          unfold m_X1_openSumAfterBore_L15 at hz
          refine j_aload_n 25 C dX1_openSumAfterBore_24 rfl rfl 0 rfl ?_
          refine k_get 28 C fl_X1_24 dX1_openSumAfterBore_25 rfl (11 + 2 * g) (GH_r hG (by omega)) _ rfl (CE_go (by omega) _) (.ref (ad (12 + 2 * g))) rfl ?_
          refine j_iload 30 C dX1_openSumAfterBore_28 rfl 4 rfl ?_
          refine k_iald 31 C dX1_openSumAfterBore_30 rfl (12 + 2 * g) (GH_r hG (by omega)) (σ (12 + 2 * g)) rfl (CE_ga (by omega)) (vp_inE (n := i15) rfl (Nat.lt_of_lt_of_le (by omega) (Nat.le_mul_of_pos_right _ (by omega))) (zz31 (by omega))) ?_
          refine j_iload_n 32 C dX1_openSumAfterBore_31 rfl rfl 2 rfl ?_
          refine j_aload_n 33 C dX1_openSumAfterBore_32 rfl rfl 0 rfl ?_
          refine k_get 36 C fl_X1_24 dX1_openSumAfterBore_33 rfl (11 + 2 * g) (GH_r hG (by omega)) _ rfl (CE_go (by omega) _) (.ref (ad (12 + 2 * g))) rfl ?_
          refine j_iload_n 37 C dX1_openSumAfterBore_36 rfl rfl 1 rfl ?_
          refine j_aload_n 38 C dX1_openSumAfterBore_37 rfl rfl 0 rfl ?_
          refine k_get 41 C fl_X1_20 dX1_openSumAfterBore_38 rfl (11 + 2 * g) (GH_r hG (by omega)) _ rfl (CE_go (by omega) _) (.int (nI (W * S + 1))) rfl ?_
          refine j_imul 42 C dX1_openSumAfterBore_41 rfl rfl ?_
          refine j_iload 44 C dX1_openSumAfterBore_42 rfl 4 rfl ?_
          refine j_iadd 45 C dX1_openSumAfterBore_44 rfl rfl ?_
          refine k_iald 46 C dX1_openSumAfterBore_45 rfl (12 + 2 * g) (GH_r hG (by omega)) (σ (12 + 2 * g)) rfl (CE_ga (by omega)) (vp_inE (n := ((ka * (W * S + 1)) + i15)) (by simp only [eka, nI_add, pk_mul]) (ixlt (by omega) (by omega)) (zz31 (by omega))) ?_
          refine j_iadd 47 C dX1_openSumAfterBore_46 rfl rfl ?_
          refine j_mmin 50 C wl_X1_11 rfl dX1_openSumAfterBore_47 rfl (Nat.le_of_ble_eq_true rfl) (Nat.le_of_ble_eq_true rfl) (Nat.zero_le _) (Nat.zero_le _) ?_
          obtain ⟨x50, e50, hz⟩ := ap_x hz
          refine j_st (st' := [.int x50]) (by rw [← e50]) ?_
          refine j_istore 52 C [(5, .int x50), (0, .ref (ad (11 + 2 * g))), (1, .int bored), (2, .int depth), (3, .int c15), (4, .int (nI i15))] dX1_openSumAfterBore_50 rfl (by decide) rfl ?_
          refine j_aload_n 53 C dX1_openSumAfterBore_52 rfl rfl 1 rfl ?_
          refine k_get 56 C fl_X1_24 dX1_openSumAfterBore_53 rfl (11 + 2 * g) (GH_r hG (by omega)) _ rfl (CE_go (by omega) _) (.ref (ad (12 + 2 * g))) rfl ?_
          refine j_iload 58 C dX1_openSumAfterBore_56 rfl 5 rfl ?_
          refine j_aload_n 59 C dX1_openSumAfterBore_58 rfl rfl 1 rfl ?_
          refine k_get 62 C fl_X1_20 dX1_openSumAfterBore_59 rfl (11 + 2 * g) (GH_r hG (by omega)) _ rfl (CE_go (by omega) _) (.int (nI (W * S + 1))) rfl ?_
          refine j_imul 63 C dX1_openSumAfterBore_62 rfl rfl ?_
          refine k_iald 64 C dX1_openSumAfterBore_63 rfl (12 + 2 * g) (GH_r hG (by omega)) (σ (12 + 2 * g)) rfl (CE_ga (by omega)) (vp_inE (n := (i15 * (W * S + 1))) (by simp only [nI_add, pk_mul]) (Nat.mul_lt_mul_of_pos_right (by omega) (by omega)) (zz31 (by omega))) ?_
          refine j_ineg 65 C dX1_openSumAfterBore_64 rfl rfl ?_
          refine j_iload_n 66 C dX1_openSumAfterBore_65 rfl rfl 3 rfl ?_
          refine j_aload_n 67 C dX1_openSumAfterBore_66 rfl rfl 1 rfl ?_
          refine k_get 70 C fl_X1_24 dX1_openSumAfterBore_67 rfl (11 + 2 * g) (GH_r hG (by omega)) _ rfl (CE_go (by omega) _) (.ref (ad (12 + 2 * g))) rfl ?_
          refine j_iload 72 C dX1_openSumAfterBore_70 rfl 5 rfl ?_
          refine j_aload_n 73 C dX1_openSumAfterBore_72 rfl rfl 1 rfl ?_
          refine k_get 76 C fl_X1_20 dX1_openSumAfterBore_73 rfl (11 + 2 * g) (GH_r hG (by omega)) _ rfl (CE_go (by omega) _) (.int (nI (W * S + 1))) rfl ?_
          refine j_imul 77 C dX1_openSumAfterBore_76 rfl rfl ?_
          refine j_iload_n 78 C dX1_openSumAfterBore_77 rfl rfl 2 rfl ?_
          refine j_iadd 79 C dX1_openSumAfterBore_78 rfl rfl ?_
          refine k_iald 80 C dX1_openSumAfterBore_79 rfl (12 + 2 * g) (GH_r hG (by omega)) (σ (12 + 2 * g)) rfl (CE_ga (by omega)) (vp_inE (n := ((i15 * (W * S + 1)) + ka)) (by simp only [eka, nI_add, pk_mul]) (ixlt (by omega) (by omega)) (zz31 (by omega))) ?_
          refine j_isub 81 C dX1_openSumAfterBore_80 rfl rfl ?_
          refine j_mmax 84 C wl_X1_17 rfl dX1_openSumAfterBore_81 rfl (Nat.le_of_ble_eq_true rfl) (Nat.le_of_ble_eq_true rfl) (Nat.zero_le _) (Nat.zero_le _) ?_
          obtain ⟨x84, e84, hz⟩ := ap_x hz
          refine j_st (st' := [.int x84]) (by rw [← e84]) ?_
          refine j_istore 86 C [(6, .int x84), (5, .int x50), (0, .ref (ad (11 + 2 * g))), (1, .int bored), (2, .int depth), (3, .int c15), (4, .int (nI i15))] dX1_openSumAfterBore_84 rfl (by decide) rfl ?_
          refine j_iload_n 87 C dX1_openSumAfterBore_86 rfl rfl 5 rfl ?_
          refine j_iload 89 C dX1_openSumAfterBore_87 rfl 1 rfl ?_
          refine j_iload 91 C dX1_openSumAfterBore_89 rfl 0 rfl ?_
          refine j_isub 92 C dX1_openSumAfterBore_91 rfl rfl ?_
          refine j_iadd 93 C dX1_openSumAfterBore_92 rfl rfl ?_
          refine j_istore_n 94 C [(3, .int (c15 + (x50 - x84))), (6, .int x84), (5, .int x50), (0, .ref (ad (11 + 2 * g))), (1, .int bored), (2, .int depth), (4, .int (nI i15))] dX1_openSumAfterBore_93 rfl rfl (by decide) rfl ?_
          refine j_iinc 97 C (x' := nI (i15 + 1)) [(4, .int (nI (i15 + 1))), (3, .int (c15 + (x50 - x84))), (6, .int x84), (5, .int x50), (0, .ref (ad (11 + 2 * g))), (1, .int bored), (2, .int depth)] dX1_openSumAfterBore_94 rfl 6 rfl (by rw [show Int32.ofInt 1 = nI 1 from by decide, nI_add]) (by decide) rfl ?_
          refine j_goto 15 C dX1_openSumAfterBore_97 rfl ?_
          subst hz
          refine j_lv [4, 5, 6, 1, 0] (lv' := [(0, .ref (ad (11 + 2 * g))), (1, .int bored), (2, .int depth), (3, .int (c15 + (x50 - x84))), (4, .int (nI (i15 + 1)))]) rfl ?_
          have hz := ho15
          exact ih15 (i15 + 1) (c15 + (x50 - x84)) (by omega) (by omega) (by omega) hz15
    refine j_lv [2, 3, 4, 1, 0] (lv' := [(0, .ref (ad (11 + 2 * g))), (1, .int bored), (2, .int depth), (3, .int (nI 0)), (4, .int (nI 1))]) rfl ?_
    exact L15 _ 1 (nI 0) (by omega) (by omega) rfl ez15
  · replace hz := (if_pos c_5).symm.trans hz
    refine j_iconst 9 C (x := nI 0) dX1_openSumAfterBore_8 rfl (by decide) ?_
    subst hz
    exact j_retI C X dX1_openSumAfterBore_9 rfl ⟨rfl, rfl, rfl, rfl, trivial⟩

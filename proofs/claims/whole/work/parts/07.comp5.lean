def m_X5_isDepth (W S ns nc : Nat) (B : Nat → Option Nat) (σ : Nat → Nat → Int32) (number : Int32) : Int32 := (if number < 0 then nI 0 else (if (nI 60) < number then nI 0 else nI 1))
abbrev rm_X5_isDepth : Room := { frames := 0, cells := 0, slots := 0, locals := 0 }
set_option maxHeartbeats 4000000 in
set_option maxRecDepth 100000 in
theorem c_X5_isDepth {l : Launch} {D : va_G} {K : Nat → ClassId} {W S ns nc N : Nat} {ad : Nat → Nat} {B : Nat → Option Nat} {σ : Nat → Nat → Int32} (hG : GH W S ns nc N) {number : Int32}  {z : Int32} (hz : m_X5_isDepth W S ns nc B σ number = z)  : MC l yX5_isDepth cX5_isDepth 1 (some .boolean) rm_X5_isDepth D (TY K) N ad (CT K W S ns nc ad B σ) [.int number] (BS (some (.int z)) N ad (CT K W S ns nc ad B σ) (bl z)) := by
  have hW := hG.1; have hW8 := hG.2.1; have hS := hG.2.2.1; have hS4 := hG.2.2.2.1; have hns := hG.2.2.2.2.1; have hnc := hG.2.2.2.2.2.1; have hWS := GH_ws hG
  refine MC.of (by decide) (Nat.le_of_ble_eq_true rfl) (fun p e s m args below meth c Q A H0 C X => ?_)
  replace C : Cx p s m args meth c cX5_isDepth RX5 1 D (TY K) A H0 := C
  show J p l e rm_X5_isDepth s m args below meth c Q D A H0 1 0 0 N ad (CT K W S ns nc ad B σ) 0 [(0, .int number)] []
  unfold m_X5_isDepth at hz
  refine j_iload_n 1 C dX5_isDepth_0 rfl rfl 0 rfl ?_
  refine j_if_lt 14 4 C dX5_isDepth_1 rfl rfl (fun c_1 => ?_) (fun c_1 => ?_)
  · replace hz := (if_pos c_1).symm.trans hz
    refine j_iconst 15 C (x := nI 0) dX5_isDepth_14 rfl (by decide) ?_
    subst hz
    exact j_retI C X dX5_isDepth_15 (bl_nar bl_0) ⟨rfl, rfl, rfl, rfl, bl_0⟩
  · replace hz := (if_neg c_1).symm.trans hz
    refine j_iload_n 5 C dX5_isDepth_4 rfl rfl 0 rfl ?_
    refine j_bipush 7 C (x := nI 60) dX5_isDepth_5 rfl (by decide) ?_
    refine j_ic_gt 14 10 C dX5_isDepth_7 rfl rfl (fun c_7 => ?_) (fun c_7 => ?_)
    · replace hz := (if_pos c_7).symm.trans hz
      refine j_iconst 15 C (x := nI 0) dX5_isDepth_14 rfl (by decide) ?_
      subst hz
      exact j_retI C X dX5_isDepth_15 (bl_nar bl_0) ⟨rfl, rfl, rfl, rfl, bl_0⟩
    · replace hz := (if_neg c_7).symm.trans hz
      refine j_iconst 11 C (x := nI 1) dX5_isDepth_10 rfl (by decide) ?_
      refine j_goto 15 C dX5_isDepth_11 rfl ?_
      subst hz
      exact j_retI C X dX5_isDepth_15 (bl_nar bl_1) ⟨rfl, rfl, rfl, rfl, bl_1⟩
def m_X5_isWithin (W S ns nc : Nat) (B : Nat → Option Nat) (σ : Nat → Nat → Int32) (number : Int32) (limit : Int32) : Int32 := (if number < (-limit) then nI 0 else (if limit < number then nI 0 else nI 1))
abbrev rm_X5_isWithin : Room := { frames := 0, cells := 0, slots := 0, locals := 0 }
set_option maxHeartbeats 4000000 in
set_option maxRecDepth 100000 in
theorem c_X5_isWithin {l : Launch} {D : va_G} {K : Nat → ClassId} {W S ns nc N : Nat} {ad : Nat → Nat} {B : Nat → Option Nat} {σ : Nat → Nat → Int32} (hG : GH W S ns nc N) {number : Int32} {limit : Int32}  {z : Int32} (hz : m_X5_isWithin W S ns nc B σ number limit = z)  : MC l yX5_isWithin cX5_isWithin 2 (some .boolean) rm_X5_isWithin D (TY K) N ad (CT K W S ns nc ad B σ) [.int number, .int limit] (BS (some (.int z)) N ad (CT K W S ns nc ad B σ) (bl z)) := by
  have hW := hG.1; have hW8 := hG.2.1; have hS := hG.2.2.1; have hS4 := hG.2.2.2.1; have hns := hG.2.2.2.2.1; have hnc := hG.2.2.2.2.2.1; have hWS := GH_ws hG
  refine MC.of (by decide) (Nat.le_of_ble_eq_true rfl) (fun p e s m args below meth c Q A H0 C X => ?_)
  replace C : Cx p s m args meth c cX5_isWithin RX5 2 D (TY K) A H0 := C
  show J p l e rm_X5_isWithin s m args below meth c Q D A H0 2 0 0 N ad (CT K W S ns nc ad B σ) 0 [(0, .int number), (1, .int limit)] []
  unfold m_X5_isWithin at hz
  refine j_iload_n 1 C dX5_isWithin_0 rfl rfl 0 rfl ?_
  refine j_iload_n 2 C dX5_isWithin_1 rfl rfl 1 rfl ?_
  refine j_ineg 3 C dX5_isWithin_2 rfl rfl ?_
  refine j_ic_lt 15 6 C dX5_isWithin_3 rfl rfl (fun c_3 => ?_) (fun c_3 => ?_)
  · replace hz := (if_pos c_3).symm.trans hz
    refine j_iconst 16 C (x := nI 0) dX5_isWithin_15 rfl (by decide) ?_
    subst hz
    exact j_retI C X dX5_isWithin_16 (bl_nar bl_0) ⟨rfl, rfl, rfl, rfl, bl_0⟩
  · replace hz := (if_neg c_3).symm.trans hz
    refine j_iload_n 7 C dX5_isWithin_6 rfl rfl 0 rfl ?_
    refine j_iload_n 8 C dX5_isWithin_7 rfl rfl 1 rfl ?_
    refine j_ic_gt 15 11 C dX5_isWithin_8 rfl rfl (fun c_8 => ?_) (fun c_8 => ?_)
    · replace hz := (if_pos c_8).symm.trans hz
      refine j_iconst 16 C (x := nI 0) dX5_isWithin_15 rfl (by decide) ?_
      subst hz
      exact j_retI C X dX5_isWithin_16 (bl_nar bl_0) ⟨rfl, rfl, rfl, rfl, bl_0⟩
    · replace hz := (if_neg c_8).symm.trans hz
      refine j_iconst 12 C (x := nI 1) dX5_isWithin_11 rfl (by decide) ?_
      refine j_goto 16 C dX5_isWithin_12 rfl ?_
      subst hz
      exact j_retI C X dX5_isWithin_16 (bl_nar bl_1) ⟨rfl, rfl, rfl, rfl, bl_1⟩
def m_X5_isEnd (W S ns nc : Nat) (B : Nat → Option Nat) (σ : Nat → Nat → Int32) (what : Int32) : Int32 := (if what = 0 then nI 1 else (if what = (nI 1) then nI 1 else nI 0))
abbrev rm_X5_isEnd : Room := { frames := 0, cells := 0, slots := 0, locals := 0 }
set_option maxHeartbeats 4000000 in
set_option maxRecDepth 100000 in
theorem c_X5_isEnd {l : Launch} {D : va_G} {K : Nat → ClassId} {W S ns nc N : Nat} {ad : Nat → Nat} {B : Nat → Option Nat} {σ : Nat → Nat → Int32} (hG : GH W S ns nc N) {what : Int32}  {z : Int32} (hz : m_X5_isEnd W S ns nc B σ what = z)  : MC l yX5_isEnd cX5_isEnd 1 (some .boolean) rm_X5_isEnd D (TY K) N ad (CT K W S ns nc ad B σ) [.int what] (BS (some (.int z)) N ad (CT K W S ns nc ad B σ) (bl z)) := by
  have hW := hG.1; have hW8 := hG.2.1; have hS := hG.2.2.1; have hS4 := hG.2.2.2.1; have hns := hG.2.2.2.2.1; have hnc := hG.2.2.2.2.2.1; have hWS := GH_ws hG
  refine MC.of (by decide) (Nat.le_of_ble_eq_true rfl) (fun p e s m args below meth c Q A H0 C X => ?_)
  replace C : Cx p s m args meth c cX5_isEnd RX5 1 D (TY K) A H0 := C
  show J p l e rm_X5_isEnd s m args below meth c Q D A H0 1 0 0 N ad (CT K W S ns nc ad B σ) 0 [(0, .int what)] []
  unfold m_X5_isEnd at hz
  refine j_iload_n 1 C dX5_isEnd_0 rfl rfl 0 rfl ?_
  refine j_if_eq 9 4 C dX5_isEnd_1 rfl rfl (fun c_1 => ?_) (fun c_1 => ?_)
  · replace hz := (if_pos c_1).symm.trans hz
    refine j_iconst 10 C (x := nI 1) dX5_isEnd_9 rfl (by decide) ?_
    refine j_goto 14 C dX5_isEnd_10 rfl ?_
    subst hz
    exact j_retI C X dX5_isEnd_14 (bl_nar bl_1) ⟨rfl, rfl, rfl, rfl, bl_1⟩
  · replace hz := (if_neg c_1).symm.trans hz
    refine j_iload_n 5 C dX5_isEnd_4 rfl rfl 0 rfl ?_
    refine j_iconst 6 C (x := nI 1) dX5_isEnd_5 rfl (by decide) ?_
    refine j_ic_ne 13 9 C dX5_isEnd_6 rfl rfl (fun c_6 => ?_) (fun c_6 => ?_)
    · replace hz := (if_neg c_6).symm.trans hz
      refine j_iconst 14 C (x := nI 0) dX5_isEnd_13 rfl (by decide) ?_
      subst hz
      exact j_retI C X dX5_isEnd_14 (bl_nar bl_0) ⟨rfl, rfl, rfl, rfl, bl_0⟩
    · replace hz := (if_pos c_6).symm.trans hz
      refine j_iconst 10 C (x := nI 1) dX5_isEnd_9 rfl (by decide) ?_
      refine j_goto 14 C dX5_isEnd_10 rfl ?_
      subst hz
      exact j_retI C X dX5_isEnd_14 (bl_nar bl_1) ⟨rfl, rfl, rfl, rfl, bl_1⟩
def m_X5_thick (W S ns nc : Nat) (B : Nat → Option Nat) (σ : Nat → Nat → Int32) (surface : Int32) (from_ : Int32) (to_ : Int32) : Int32 × (Nat → Int32) × (Nat → Int32) × (Nat → Int32) := ap (m_X2_hasSurface W S ns nc B σ surface) (fun (y5 : Int32) => (if y5 = 0 then (nI 0, (σ 2), (σ 3), (σ 9)) else ap (m_X2_hasSurface W S ns nc B σ (surface + (nI 1))) (fun (y18 : Int32) => (if y18 = 0 then (nI 0, (σ 2), (σ 3), (σ 9)) else ap (m_X5_isDepth W S ns nc B σ from_) (fun (y27 : Int32) => (if y27 = 0 then (nI 0, (σ 2), (σ 3), (σ 9)) else ap (m_X5_isDepth W S ns nc B σ to_) (fun (y34 : Int32) => (if y34 = 0 then (nI 0, (σ 2), (σ 3), (σ 9)) else (if from_ ≤ to_ then ap (m_X2_setThick W S ns nc B σ surface from_ to_) (fun (y54 : (Nat → Int32) × (Nat → Int32)) => ap (m_X0_forgetRock W S ns nc B (sA (sA σ 2 y54.1) 3 y54.2)) (fun (y61 : (Nat → Int32)) => (nI 1, y54.1, y54.2, y61))) else (nI 0, (σ 2), (σ 3), (σ 9)))))))))))
abbrev rm_X5_thick : Room := { frames := 2, cells := 0, slots := 0, locals := 44 }
set_option maxHeartbeats 4000000 in
set_option maxRecDepth 100000 in
theorem c_X5_thick {l : Launch} {D : va_G} {K : Nat → ClassId} {W S ns nc N : Nat} {ad : Nat → Nat} {B : Nat → Option Nat} {σ : Nat → Nat → Int32} (hG : GH W S ns nc N) {surface : Int32} {from_ : Int32} {to_ : Int32}  {z : Int32 × (Nat → Int32) × (Nat → Int32) × (Nat → Int32)} (hz : m_X5_thick W S ns nc B σ surface from_ to_ = z)  : MC l yX5_thick cX5_thick 4 (some .boolean) rm_X5_thick D (TY K) N ad (CT K W S ns nc ad B σ) [.ref (ad 0), .int surface, .int from_, .int to_] (BS (some (.int z.1)) N ad (CT K W S ns nc ad B (sA (sA (sA σ 2 z.2.1) 3 z.2.2.1) 9 z.2.2.2)) (bl z.1)) := by
  have hW := hG.1; have hW8 := hG.2.1; have hS := hG.2.2.1; have hS4 := hG.2.2.2.1; have hns := hG.2.2.2.2.1; have hnc := hG.2.2.2.2.2.1; have hWS := GH_ws hG
  refine MC.of (by decide) (Nat.le_of_ble_eq_true rfl) (fun p e s m args below meth c Q A H0 C X => ?_)
  replace C : Cx p s m args meth c cX5_thick RX5 4 D (TY K) A H0 := C
  show J p l e rm_X5_thick s m args below meth c Q D A H0 4 0 0 N ad (CT K W S ns nc ad B σ) 0 [(0, .ref (ad 0)), (1, .int surface), (2, .int from_), (3, .int to_)] []
  unfold m_X5_thick at hz
  refine j_aload_n 1 C dX5_thick_0 rfl rfl 0 rfl ?_
  refine k_get 4 C fl_X5_21 dX5_thick_1 rfl 0 (GH_r hG (by decide)) _ rfl (CE_0 _) (.ref (ad 1)) rfl ?_
  refine j_iload_n 5 C dX5_thick_4 rfl rfl 1 rfl ?_
  obtain ⟨y5, e5, hz⟩ := ap_x hz
  refine s_V 8 C (As := [.int surface]) cv_X5_47 (c_X2_hasSurface (l := l) (D := D) (K := K) (ad := ad) hG  (hz := e5)) dX5_thick_5 rfl 1 2 (GH_r hG (by decide)) rfl (CE_1 _) rfl rfl rfl rfl rfl rfl ⟨⟨Nat.le_of_ble_eq_true rfl, Nat.le_of_ble_eq_true rfl⟩, Nat.zero_le _, Nat.zero_le _⟩ (Nat.le_of_ble_eq_true rfl) (st' := [.int y5]) rfl (fun hE => ?_)
  have hbl5 : bl y5 := hE
  refine j_if_eq 24 11 C dX5_thick_8 rfl rfl (fun c_8 => ?_) (fun c_8 => ?_)
  · replace hz := (if_pos c_8).symm.trans hz
    refine j_iconst 25 C (x := nI 0) dX5_thick_24 rfl (by decide) ?_
    subst hz
    exact j_retI C X dX5_thick_25 (bl_nar bl_0) ⟨rfl, rfl, rfl, (CT_x (by intro a; (by_cases h0 : a = 2; (· (first | (subst h0; simp [sA]; done) | (rw [h0]; simp [sA]; done))); by_cases h1 : a = 3; (· (first | (subst h1; simp [sA]; done) | (rw [h1]; simp [sA]; done))); by_cases h2 : a = 9; (· (first | (subst h2; simp [sA]; done) | (rw [h2]; simp [sA]; done))); simp [sA, h0, h1, h2]))), bl_0⟩
  · replace hz := (if_neg c_8).symm.trans hz
    refine j_aload_n 12 C dX5_thick_11 rfl rfl 0 rfl ?_
    refine k_get 15 C fl_X5_21 dX5_thick_12 rfl 0 (GH_r hG (by decide)) _ rfl (CE_0 _) (.ref (ad 1)) rfl ?_
    refine j_iload_n 16 C dX5_thick_15 rfl rfl 1 rfl ?_
    refine j_iconst 17 C (x := nI 1) dX5_thick_16 rfl (by decide) ?_
    refine j_iadd 18 C dX5_thick_17 rfl rfl ?_
    obtain ⟨y18, e18, hz⟩ := ap_x hz
    refine s_V 21 C (As := [.int (surface + (nI 1))]) cv_X5_47 (c_X2_hasSurface (l := l) (D := D) (K := K) (ad := ad) hG  (hz := e18)) dX5_thick_18 rfl 1 2 (GH_r hG (by decide)) rfl (CE_1 _) rfl rfl rfl rfl rfl rfl ⟨⟨Nat.le_of_ble_eq_true rfl, Nat.le_of_ble_eq_true rfl⟩, Nat.zero_le _, Nat.zero_le _⟩ (Nat.le_of_ble_eq_true rfl) (st' := [.int y18]) rfl (fun hE => ?_)
    have hbl18 : bl y18 := hE
    refine j_if_ne 26 24 C dX5_thick_21 rfl rfl (fun c_21 => ?_) (fun c_21 => ?_)
    · replace hz := (if_neg c_21).symm.trans hz
      refine j_iload_n 27 C dX5_thick_26 rfl rfl 2 rfl ?_
      obtain ⟨y27, e27, hz⟩ := ap_x hz
      refine s_S 30 C (As := [.int from_]) cs_X5_51 (c_X5_isDepth (l := l) (D := D) (K := K) (ad := ad) hG  (hz := e27)) dX5_thick_27 rfl rfl rfl rfl rfl ⟨⟨Nat.le_of_ble_eq_true rfl, Nat.le_of_ble_eq_true rfl⟩, Nat.zero_le _, Nat.zero_le _⟩ (Nat.le_of_ble_eq_true rfl) (st' := [.int y27]) rfl (fun hE => ?_)
      have hbl27 : bl y27 := hE
      refine j_if_eq 45 33 C dX5_thick_30 rfl rfl (fun c_30 => ?_) (fun c_30 => ?_)
      · replace hz := (if_pos c_30).symm.trans hz
        refine j_iconst 46 C (x := nI 0) dX5_thick_45 rfl (by decide) ?_
        subst hz
        exact j_retI C X dX5_thick_46 (bl_nar bl_0) ⟨rfl, rfl, rfl, (CT_x (by intro a; (by_cases h0 : a = 2; (· (first | (subst h0; simp [sA]; done) | (rw [h0]; simp [sA]; done))); by_cases h1 : a = 3; (· (first | (subst h1; simp [sA]; done) | (rw [h1]; simp [sA]; done))); by_cases h2 : a = 9; (· (first | (subst h2; simp [sA]; done) | (rw [h2]; simp [sA]; done))); simp [sA, h0, h1, h2]))), bl_0⟩
      · replace hz := (if_neg c_30).symm.trans hz
        refine j_iload_n 34 C dX5_thick_33 rfl rfl 3 rfl ?_
        obtain ⟨y34, e34, hz⟩ := ap_x hz
        refine s_S 37 C (As := [.int to_]) cs_X5_51 (c_X5_isDepth (l := l) (D := D) (K := K) (ad := ad) hG  (hz := e34)) dX5_thick_34 rfl rfl rfl rfl rfl ⟨⟨Nat.le_of_ble_eq_true rfl, Nat.le_of_ble_eq_true rfl⟩, Nat.zero_le _, Nat.zero_le _⟩ (Nat.le_of_ble_eq_true rfl) (st' := [.int y34]) rfl (fun hE => ?_)
        have hbl34 : bl y34 := hE
        refine j_if_eq 45 40 C dX5_thick_37 rfl rfl (fun c_37 => ?_) (fun c_37 => ?_)
        · replace hz := (if_pos c_37).symm.trans hz
          refine j_iconst 46 C (x := nI 0) dX5_thick_45 rfl (by decide) ?_
          subst hz
          exact j_retI C X dX5_thick_46 (bl_nar bl_0) ⟨rfl, rfl, rfl, (CT_x (by intro a; (by_cases h0 : a = 2; (· (first | (subst h0; simp [sA]; done) | (rw [h0]; simp [sA]; done))); by_cases h1 : a = 3; (· (first | (subst h1; simp [sA]; done) | (rw [h1]; simp [sA]; done))); by_cases h2 : a = 9; (· (first | (subst h2; simp [sA]; done) | (rw [h2]; simp [sA]; done))); simp [sA, h0, h1, h2]))), bl_0⟩
        · replace hz := (if_neg c_37).symm.trans hz
          refine j_iload_n 41 C dX5_thick_40 rfl rfl 2 rfl ?_
          refine j_iload_n 42 C dX5_thick_41 rfl rfl 3 rfl ?_
          refine j_ic_le 47 45 C dX5_thick_42 rfl rfl (fun c_42 => ?_) (fun c_42 => ?_)
          · replace hz := (if_pos c_42).symm.trans hz
            refine j_aload_n 48 C dX5_thick_47 rfl rfl 0 rfl ?_
            refine k_get 51 C fl_X5_21 dX5_thick_48 rfl 0 (GH_r hG (by decide)) _ rfl (CE_0 _) (.ref (ad 1)) rfl ?_
            refine j_iload_n 52 C dX5_thick_51 rfl rfl 1 rfl ?_
            refine j_iload_n 53 C dX5_thick_52 rfl rfl 2 rfl ?_
            refine j_iload_n 54 C dX5_thick_53 rfl rfl 3 rfl ?_
            obtain ⟨y54, e54, hz⟩ := ap_x hz
            refine s_V 57 C (As := [.int surface, .int from_, .int to_]) cv_X5_54 (c_X2_setThick (l := l) (D := D) (K := K) (ad := ad) hG  (hz := e54)) dX5_thick_54 rfl 1 2 (GH_r hG (by decide)) rfl (CE_1 _) rfl rfl rfl rfl rfl rfl ⟨⟨Nat.le_of_ble_eq_true rfl, Nat.le_of_ble_eq_true rfl⟩, Nat.zero_le _, Nat.zero_le _⟩ (Nat.le_of_ble_eq_true rfl) (st' := []) rfl (fun hE => ?_)
            refine j_aload_n 58 C dX5_thick_57 rfl rfl 0 rfl ?_
            refine k_get 61 C fl_X5_39 dX5_thick_58 rfl 0 (GH_r hG (by decide)) _ rfl (CE_0 _) (.ref (ad 9)) rfl ?_
            obtain ⟨y61, e61, hz⟩ := ap_x hz
            refine s_V 64 C (As := []) cv_X5_58 (c_X0_forgetRock (l := l) (D := D) (K := K) (ad := ad) hG  (hz := e61)) dX5_thick_61 rfl 9 0 (GH_r hG (by decide)) rfl (CE_9 _) rfl rfl rfl rfl rfl rfl ⟨⟨Nat.le_of_ble_eq_true rfl, Nat.le_of_ble_eq_true rfl⟩, Nat.zero_le _, Nat.zero_le _⟩ (Nat.le_of_ble_eq_true rfl) (st' := []) rfl (fun hE => ?_)
            refine j_iconst 65 C (x := nI 1) dX5_thick_64 rfl (by decide) ?_
            subst hz
            exact j_retI C X dX5_thick_65 (bl_nar bl_1) ⟨rfl, rfl, rfl, rfl, bl_1⟩
          · replace hz := (if_neg c_42).symm.trans hz
            refine j_iconst 46 C (x := nI 0) dX5_thick_45 rfl (by decide) ?_
            subst hz
            exact j_retI C X dX5_thick_46 (bl_nar bl_0) ⟨rfl, rfl, rfl, (CT_x (by intro a; (by_cases h0 : a = 2; (· (first | (subst h0; simp [sA]; done) | (rw [h0]; simp [sA]; done))); by_cases h1 : a = 3; (· (first | (subst h1; simp [sA]; done) | (rw [h1]; simp [sA]; done))); by_cases h2 : a = 9; (· (first | (subst h2; simp [sA]; done) | (rw [h2]; simp [sA]; done))); simp [sA, h0, h1, h2]))), bl_0⟩
    · replace hz := (if_pos c_21).symm.trans hz
      refine j_iconst 25 C (x := nI 0) dX5_thick_24 rfl (by decide) ?_
      subst hz
      exact j_retI C X dX5_thick_25 (bl_nar bl_0) ⟨rfl, rfl, rfl, (CT_x (by intro a; (by_cases h0 : a = 2; (· (first | (subst h0; simp [sA]; done) | (rw [h0]; simp [sA]; done))); by_cases h1 : a = 3; (· (first | (subst h1; simp [sA]; done) | (rw [h1]; simp [sA]; done))); by_cases h2 : a = 9; (· (first | (subst h2; simp [sA]; done) | (rw [h2]; simp [sA]; done))); simp [sA, h0, h1, h2]))), bl_0⟩
def m_X5_steep (W S ns nc : Nat) (B : Nat → Option Nat) (σ : Nat → Nat → Int32) (surface : Int32) (most : Int32) : Int32 × (Nat → Int32) × (Nat → Int32) := ap (m_X2_hasSurface W S ns nc B σ surface) (fun (y5 : Int32) => (if y5 = 0 then (nI 0, (σ 4), (σ 9)) else ap (m_X5_isDepth W S ns nc B σ most) (fun (y12 : Int32) => (if y12 = 0 then (nI 0, (σ 4), (σ 9)) else ap (m_X2_setSteep W S ns nc B σ surface most) (fun (y26 : (Nat → Int32)) => ap (m_X0_forgetRock W S ns nc B (sA σ 4 y26)) (fun (y33 : (Nat → Int32)) => (nI 1, y26, y33)))))))
abbrev rm_X5_steep : Room := { frames := 2, cells := 0, slots := 0, locals := 43 }
set_option maxHeartbeats 4000000 in
set_option maxRecDepth 100000 in
theorem c_X5_steep {l : Launch} {D : va_G} {K : Nat → ClassId} {W S ns nc N : Nat} {ad : Nat → Nat} {B : Nat → Option Nat} {σ : Nat → Nat → Int32} (hG : GH W S ns nc N) {surface : Int32} {most : Int32}  {z : Int32 × (Nat → Int32) × (Nat → Int32)} (hz : m_X5_steep W S ns nc B σ surface most = z)  : MC l yX5_steep cX5_steep 3 (some .boolean) rm_X5_steep D (TY K) N ad (CT K W S ns nc ad B σ) [.ref (ad 0), .int surface, .int most] (BS (some (.int z.1)) N ad (CT K W S ns nc ad B (sA (sA σ 4 z.2.1) 9 z.2.2)) (bl z.1)) := by
  have hW := hG.1; have hW8 := hG.2.1; have hS := hG.2.2.1; have hS4 := hG.2.2.2.1; have hns := hG.2.2.2.2.1; have hnc := hG.2.2.2.2.2.1; have hWS := GH_ws hG
  refine MC.of (by decide) (Nat.le_of_ble_eq_true rfl) (fun p e s m args below meth c Q A H0 C X => ?_)
  replace C : Cx p s m args meth c cX5_steep RX5 3 D (TY K) A H0 := C
  show J p l e rm_X5_steep s m args below meth c Q D A H0 3 0 0 N ad (CT K W S ns nc ad B σ) 0 [(0, .ref (ad 0)), (1, .int surface), (2, .int most)] []
  unfold m_X5_steep at hz
  refine j_aload_n 1 C dX5_steep_0 rfl rfl 0 rfl ?_
  refine k_get 4 C fl_X5_21 dX5_steep_1 rfl 0 (GH_r hG (by decide)) _ rfl (CE_0 _) (.ref (ad 1)) rfl ?_
  refine j_iload_n 5 C dX5_steep_4 rfl rfl 1 rfl ?_
  obtain ⟨y5, e5, hz⟩ := ap_x hz
  refine s_V 8 C (As := [.int surface]) cv_X5_47 (c_X2_hasSurface (l := l) (D := D) (K := K) (ad := ad) hG  (hz := e5)) dX5_steep_5 rfl 1 2 (GH_r hG (by decide)) rfl (CE_1 _) rfl rfl rfl rfl rfl rfl ⟨⟨Nat.le_of_ble_eq_true rfl, Nat.le_of_ble_eq_true rfl⟩, Nat.zero_le _, Nat.zero_le _⟩ (Nat.le_of_ble_eq_true rfl) (st' := [.int y5]) rfl (fun hE => ?_)
  have hbl5 : bl y5 := hE
  refine j_if_eq 18 11 C dX5_steep_8 rfl rfl (fun c_8 => ?_) (fun c_8 => ?_)
  · replace hz := (if_pos c_8).symm.trans hz
    refine j_iconst 19 C (x := nI 0) dX5_steep_18 rfl (by decide) ?_
    subst hz
    exact j_retI C X dX5_steep_19 (bl_nar bl_0) ⟨rfl, rfl, rfl, (CT_x (by intro a; (by_cases h0 : a = 4; (· (first | (subst h0; simp [sA]; done) | (rw [h0]; simp [sA]; done))); by_cases h1 : a = 9; (· (first | (subst h1; simp [sA]; done) | (rw [h1]; simp [sA]; done))); simp [sA, h0, h1]))), bl_0⟩
  · replace hz := (if_neg c_8).symm.trans hz
    refine j_iload_n 12 C dX5_steep_11 rfl rfl 2 rfl ?_
    obtain ⟨y12, e12, hz⟩ := ap_x hz
    refine s_S 15 C (As := [.int most]) cs_X5_51 (c_X5_isDepth (l := l) (D := D) (K := K) (ad := ad) hG  (hz := e12)) dX5_steep_12 rfl rfl rfl rfl rfl ⟨⟨Nat.le_of_ble_eq_true rfl, Nat.le_of_ble_eq_true rfl⟩, Nat.zero_le _, Nat.zero_le _⟩ (Nat.le_of_ble_eq_true rfl) (st' := [.int y12]) rfl (fun hE => ?_)
    have hbl12 : bl y12 := hE
    refine j_if_ne 20 18 C dX5_steep_15 rfl rfl (fun c_15 => ?_) (fun c_15 => ?_)
    · replace hz := (if_neg c_15).symm.trans hz
      refine j_aload_n 21 C dX5_steep_20 rfl rfl 0 rfl ?_
      refine k_get 24 C fl_X5_21 dX5_steep_21 rfl 0 (GH_r hG (by decide)) _ rfl (CE_0 _) (.ref (ad 1)) rfl ?_
      refine j_iload_n 25 C dX5_steep_24 rfl rfl 1 rfl ?_
      refine j_iload_n 26 C dX5_steep_25 rfl rfl 2 rfl ?_
      obtain ⟨y26, e26, hz⟩ := ap_x hz
      refine s_V 29 C (As := [.int surface, .int most]) cv_X5_61 (c_X2_setSteep (l := l) (D := D) (K := K) (ad := ad) hG  (hz := e26)) dX5_steep_26 rfl 1 2 (GH_r hG (by decide)) rfl (CE_1 _) rfl rfl rfl rfl rfl rfl ⟨⟨Nat.le_of_ble_eq_true rfl, Nat.le_of_ble_eq_true rfl⟩, Nat.zero_le _, Nat.zero_le _⟩ (Nat.le_of_ble_eq_true rfl) (st' := []) rfl (fun hE => ?_)
      refine j_aload_n 30 C dX5_steep_29 rfl rfl 0 rfl ?_
      refine k_get 33 C fl_X5_39 dX5_steep_30 rfl 0 (GH_r hG (by decide)) _ rfl (CE_0 _) (.ref (ad 9)) rfl ?_
      obtain ⟨y33, e33, hz⟩ := ap_x hz
      refine s_V 36 C (As := []) cv_X5_58 (c_X0_forgetRock (l := l) (D := D) (K := K) (ad := ad) hG  (hz := e33)) dX5_steep_33 rfl 9 0 (GH_r hG (by decide)) rfl (CE_9 _) rfl rfl rfl rfl rfl rfl ⟨⟨Nat.le_of_ble_eq_true rfl, Nat.le_of_ble_eq_true rfl⟩, Nat.zero_le _, Nat.zero_le _⟩ (Nat.le_of_ble_eq_true rfl) (st' := []) rfl (fun hE => ?_)
      refine j_iconst 37 C (x := nI 1) dX5_steep_36 rfl (by decide) ?_
      subst hz
      exact j_retI C X dX5_steep_37 (bl_nar bl_1) ⟨rfl, rfl, rfl, rfl, bl_1⟩
    · replace hz := (if_pos c_15).symm.trans hz
      refine j_iconst 19 C (x := nI 0) dX5_steep_18 rfl (by decide) ?_
      subst hz
      exact j_retI C X dX5_steep_19 (bl_nar bl_0) ⟨rfl, rfl, rfl, (CT_x (by intro a; (by_cases h0 : a = 4; (· (first | (subst h0; simp [sA]; done) | (rw [h0]; simp [sA]; done))); by_cases h1 : a = 9; (· (first | (subst h1; simp [sA]; done) | (rw [h1]; simp [sA]; done))); simp [sA, h0, h1]))), bl_0⟩
def m_X5_fault (W S ns nc : Nat) (B : Nat → Option Nat) (σ : Nat → Nat → Int32) (column : Int32) (thrown : Int32) : Int32 × (Nat → Int32) × (Nat → Int32) × (Nat → Int32) := ap (m_X2_hasNextColumn W S ns nc B σ column) (fun (y5 : Int32) => (if y5 = 0 then (nI 0, (σ 5), (σ 6), (σ 9)) else ap (m_X5_isWithin W S ns nc B σ thrown (nI 30)) (fun (y14 : Int32) => (if y14 = 0 then (nI 0, (σ 5), (σ 6), (σ 9)) else ap (m_X2_breakAt W S ns nc B σ column thrown) (fun (y28 : (Nat → Int32) × (Nat → Int32)) => ap (m_X0_forgetRock W S ns nc B (sA (sA σ 5 y28.1) 6 y28.2)) (fun (y35 : (Nat → Int32)) => (nI 1, y28.1, y28.2, y35)))))))
abbrev rm_X5_fault : Room := { frames := 2, cells := 0, slots := 0, locals := 43 }
set_option maxHeartbeats 4000000 in
set_option maxRecDepth 100000 in
theorem c_X5_fault {l : Launch} {D : va_G} {K : Nat → ClassId} {W S ns nc N : Nat} {ad : Nat → Nat} {B : Nat → Option Nat} {σ : Nat → Nat → Int32} (hG : GH W S ns nc N) {column : Int32} {thrown : Int32}  {z : Int32 × (Nat → Int32) × (Nat → Int32) × (Nat → Int32)} (hz : m_X5_fault W S ns nc B σ column thrown = z)  : MC l yX5_fault cX5_fault 3 (some .boolean) rm_X5_fault D (TY K) N ad (CT K W S ns nc ad B σ) [.ref (ad 0), .int column, .int thrown] (BS (some (.int z.1)) N ad (CT K W S ns nc ad B (sA (sA (sA σ 5 z.2.1) 6 z.2.2.1) 9 z.2.2.2)) (bl z.1)) := by
  have hW := hG.1; have hW8 := hG.2.1; have hS := hG.2.2.1; have hS4 := hG.2.2.2.1; have hns := hG.2.2.2.2.1; have hnc := hG.2.2.2.2.2.1; have hWS := GH_ws hG
  refine MC.of (by decide) (Nat.le_of_ble_eq_true rfl) (fun p e s m args below meth c Q A H0 C X => ?_)
  replace C : Cx p s m args meth c cX5_fault RX5 3 D (TY K) A H0 := C
  show J p l e rm_X5_fault s m args below meth c Q D A H0 3 0 0 N ad (CT K W S ns nc ad B σ) 0 [(0, .ref (ad 0)), (1, .int column), (2, .int thrown)] []
  unfold m_X5_fault at hz
  refine j_aload_n 1 C dX5_fault_0 rfl rfl 0 rfl ?_
  refine k_get 4 C fl_X5_21 dX5_fault_1 rfl 0 (GH_r hG (by decide)) _ rfl (CE_0 _) (.ref (ad 1)) rfl ?_
  refine j_iload_n 5 C dX5_fault_4 rfl rfl 1 rfl ?_
  obtain ⟨y5, e5, hz⟩ := ap_x hz
  refine s_V 8 C (As := [.int column]) cv_X5_64 (c_X2_hasNextColumn (l := l) (D := D) (K := K) (ad := ad) hG  (hz := e5)) dX5_fault_5 rfl 1 2 (GH_r hG (by decide)) rfl (CE_1 _) rfl rfl rfl rfl rfl rfl ⟨⟨Nat.le_of_ble_eq_true rfl, Nat.le_of_ble_eq_true rfl⟩, Nat.zero_le _, Nat.zero_le _⟩ (Nat.le_of_ble_eq_true rfl) (st' := [.int y5]) rfl (fun hE => ?_)
  have hbl5 : bl y5 := hE
  refine j_if_eq 20 11 C dX5_fault_8 rfl rfl (fun c_8 => ?_) (fun c_8 => ?_)
  · replace hz := (if_pos c_8).symm.trans hz
    refine j_iconst 21 C (x := nI 0) dX5_fault_20 rfl (by decide) ?_
    subst hz
    exact j_retI C X dX5_fault_21 (bl_nar bl_0) ⟨rfl, rfl, rfl, (CT_x (by intro a; (by_cases h0 : a = 5; (· (first | (subst h0; simp [sA]; done) | (rw [h0]; simp [sA]; done))); by_cases h1 : a = 6; (· (first | (subst h1; simp [sA]; done) | (rw [h1]; simp [sA]; done))); by_cases h2 : a = 9; (· (first | (subst h2; simp [sA]; done) | (rw [h2]; simp [sA]; done))); simp [sA, h0, h1, h2]))), bl_0⟩
  · replace hz := (if_neg c_8).symm.trans hz
    refine j_iload_n 12 C dX5_fault_11 rfl rfl 2 rfl ?_
    refine j_bipush 14 C (x := nI 30) dX5_fault_12 rfl (by decide) ?_
    obtain ⟨y14, e14, hz⟩ := ap_x hz
    refine s_S 17 C (As := [.int thrown, .int (nI 30)]) cs_X5_67 (c_X5_isWithin (l := l) (D := D) (K := K) (ad := ad) hG  (hz := e14)) dX5_fault_14 rfl rfl rfl rfl rfl ⟨⟨Nat.le_of_ble_eq_true rfl, Nat.le_of_ble_eq_true rfl⟩, Nat.zero_le _, Nat.zero_le _⟩ (Nat.le_of_ble_eq_true rfl) (st' := [.int y14]) rfl (fun hE => ?_)
    have hbl14 : bl y14 := hE
    refine j_if_ne 22 20 C dX5_fault_17 rfl rfl (fun c_17 => ?_) (fun c_17 => ?_)
    · replace hz := (if_neg c_17).symm.trans hz
      refine j_aload_n 23 C dX5_fault_22 rfl rfl 0 rfl ?_
      refine k_get 26 C fl_X5_21 dX5_fault_23 rfl 0 (GH_r hG (by decide)) _ rfl (CE_0 _) (.ref (ad 1)) rfl ?_
      refine j_iload_n 27 C dX5_fault_26 rfl rfl 1 rfl ?_
      refine j_iload_n 28 C dX5_fault_27 rfl rfl 2 rfl ?_
      obtain ⟨y28, e28, hz⟩ := ap_x hz
      refine s_V 31 C (As := [.int column, .int thrown]) cv_X5_71 (c_X2_breakAt (l := l) (D := D) (K := K) (ad := ad) hG  (hz := e28)) dX5_fault_28 rfl 1 2 (GH_r hG (by decide)) rfl (CE_1 _) rfl rfl rfl rfl rfl rfl ⟨⟨Nat.le_of_ble_eq_true rfl, Nat.le_of_ble_eq_true rfl⟩, Nat.zero_le _, Nat.zero_le _⟩ (Nat.le_of_ble_eq_true rfl) (st' := []) rfl (fun hE => ?_)
      refine j_aload_n 32 C dX5_fault_31 rfl rfl 0 rfl ?_
      refine k_get 35 C fl_X5_39 dX5_fault_32 rfl 0 (GH_r hG (by decide)) _ rfl (CE_0 _) (.ref (ad 9)) rfl ?_
      obtain ⟨y35, e35, hz⟩ := ap_x hz
      refine s_V 38 C (As := []) cv_X5_58 (c_X0_forgetRock (l := l) (D := D) (K := K) (ad := ad) hG  (hz := e35)) dX5_fault_35 rfl 9 0 (GH_r hG (by decide)) rfl (CE_9 _) rfl rfl rfl rfl rfl rfl ⟨⟨Nat.le_of_ble_eq_true rfl, Nat.le_of_ble_eq_true rfl⟩, Nat.zero_le _, Nat.zero_le _⟩ (Nat.le_of_ble_eq_true rfl) (st' := []) rfl (fun hE => ?_)
      refine j_iconst 39 C (x := nI 1) dX5_fault_38 rfl (by decide) ?_
      subst hz
      exact j_retI C X dX5_fault_39 (bl_nar bl_1) ⟨rfl, rfl, rfl, rfl, bl_1⟩
    · replace hz := (if_pos c_17).symm.trans hz
      refine j_iconst 21 C (x := nI 0) dX5_fault_20 rfl (by decide) ?_
      subst hz
      exact j_retI C X dX5_fault_21 (bl_nar bl_0) ⟨rfl, rfl, rfl, (CT_x (by intro a; (by_cases h0 : a = 5; (· (first | (subst h0; simp [sA]; done) | (rw [h0]; simp [sA]; done))); by_cases h1 : a = 6; (· (first | (subst h1; simp [sA]; done) | (rw [h1]; simp [sA]; done))); by_cases h2 : a = 9; (· (first | (subst h2; simp [sA]; done) | (rw [h2]; simp [sA]; done))); simp [sA, h0, h1, h2]))), bl_0⟩
def m_X5_heal (W S ns nc : Nat) (B : Nat → Option Nat) (σ : Nat → Nat → Int32) (column : Int32) : Int32 × (Nat → Int32) × (Nat → Int32) × (Nat → Int32) := ap (m_X2_isBroken W S ns nc B σ column) (fun (y5 : Int32) => (if y5 = 0 then (nI 0, (σ 5), (σ 6), (σ 9)) else ap (m_X2_mendAt W S ns nc B σ column) (fun (y18 : (Nat → Int32) × (Nat → Int32)) => ap (m_X0_forgetRock W S ns nc B (sA (sA σ 5 y18.1) 6 y18.2)) (fun (y25 : (Nat → Int32)) => (nI 1, y18.1, y18.2, y25)))))
abbrev rm_X5_heal : Room := { frames := 2, cells := 0, slots := 0, locals := 42 }
set_option maxHeartbeats 4000000 in
set_option maxRecDepth 100000 in
theorem c_X5_heal {l : Launch} {D : va_G} {K : Nat → ClassId} {W S ns nc N : Nat} {ad : Nat → Nat} {B : Nat → Option Nat} {σ : Nat → Nat → Int32} (hG : GH W S ns nc N) {column : Int32}  {z : Int32 × (Nat → Int32) × (Nat → Int32) × (Nat → Int32)} (hz : m_X5_heal W S ns nc B σ column = z)  : MC l yX5_heal cX5_heal 2 (some .boolean) rm_X5_heal D (TY K) N ad (CT K W S ns nc ad B σ) [.ref (ad 0), .int column] (BS (some (.int z.1)) N ad (CT K W S ns nc ad B (sA (sA (sA σ 5 z.2.1) 6 z.2.2.1) 9 z.2.2.2)) (bl z.1)) := by
  have hW := hG.1; have hW8 := hG.2.1; have hS := hG.2.2.1; have hS4 := hG.2.2.2.1; have hns := hG.2.2.2.2.1; have hnc := hG.2.2.2.2.2.1; have hWS := GH_ws hG
  refine MC.of (by decide) (Nat.le_of_ble_eq_true rfl) (fun p e s m args below meth c Q A H0 C X => ?_)
  replace C : Cx p s m args meth c cX5_heal RX5 2 D (TY K) A H0 := C
  show J p l e rm_X5_heal s m args below meth c Q D A H0 2 0 0 N ad (CT K W S ns nc ad B σ) 0 [(0, .ref (ad 0)), (1, .int column)] []
  unfold m_X5_heal at hz
  refine j_aload_n 1 C dX5_heal_0 rfl rfl 0 rfl ?_
  refine k_get 4 C fl_X5_21 dX5_heal_1 rfl 0 (GH_r hG (by decide)) _ rfl (CE_0 _) (.ref (ad 1)) rfl ?_
  refine j_iload_n 5 C dX5_heal_4 rfl rfl 1 rfl ?_
  obtain ⟨y5, e5, hz⟩ := ap_x hz
  refine s_V 8 C (As := [.int column]) cv_X5_74 (c_X2_isBroken (l := l) (D := D) (K := K) (ad := ad) hG  (hz := e5)) dX5_heal_5 rfl 1 2 (GH_r hG (by decide)) rfl (CE_1 _) rfl rfl rfl rfl rfl rfl ⟨⟨Nat.le_of_ble_eq_true rfl, Nat.le_of_ble_eq_true rfl⟩, Nat.zero_le _, Nat.zero_le _⟩ (Nat.le_of_ble_eq_true rfl) (st' := [.int y5]) rfl (fun hE => ?_)
  have hbl5 : bl y5 := hE
  refine j_if_ne 13 11 C dX5_heal_8 rfl rfl (fun c_8 => ?_) (fun c_8 => ?_)
  · replace hz := (if_neg c_8).symm.trans hz
    refine j_aload_n 14 C dX5_heal_13 rfl rfl 0 rfl ?_
    refine k_get 17 C fl_X5_21 dX5_heal_14 rfl 0 (GH_r hG (by decide)) _ rfl (CE_0 _) (.ref (ad 1)) rfl ?_
    refine j_iload_n 18 C dX5_heal_17 rfl rfl 1 rfl ?_
    obtain ⟨y18, e18, hz⟩ := ap_x hz
    refine s_V 21 C (As := [.int column]) cv_X5_77 (c_X2_mendAt (l := l) (D := D) (K := K) (ad := ad) hG  (hz := e18)) dX5_heal_18 rfl 1 2 (GH_r hG (by decide)) rfl (CE_1 _) rfl rfl rfl rfl rfl rfl ⟨⟨Nat.le_of_ble_eq_true rfl, Nat.le_of_ble_eq_true rfl⟩, Nat.zero_le _, Nat.zero_le _⟩ (Nat.le_of_ble_eq_true rfl) (st' := []) rfl (fun hE => ?_)
    refine j_aload_n 22 C dX5_heal_21 rfl rfl 0 rfl ?_
    refine k_get 25 C fl_X5_39 dX5_heal_22 rfl 0 (GH_r hG (by decide)) _ rfl (CE_0 _) (.ref (ad 9)) rfl ?_
    obtain ⟨y25, e25, hz⟩ := ap_x hz
    refine s_V 28 C (As := []) cv_X5_58 (c_X0_forgetRock (l := l) (D := D) (K := K) (ad := ad) hG  (hz := e25)) dX5_heal_25 rfl 9 0 (GH_r hG (by decide)) rfl (CE_9 _) rfl rfl rfl rfl rfl rfl ⟨⟨Nat.le_of_ble_eq_true rfl, Nat.le_of_ble_eq_true rfl⟩, Nat.zero_le _, Nat.zero_le _⟩ (Nat.le_of_ble_eq_true rfl) (st' := []) rfl (fun hE => ?_)
    refine j_iconst 29 C (x := nI 1) dX5_heal_28 rfl (by decide) ?_
    subst hz
    exact j_retI C X dX5_heal_29 (bl_nar bl_1) ⟨rfl, rfl, rfl, rfl, bl_1⟩
  · replace hz := (if_pos c_8).symm.trans hz
    refine j_iconst 12 C (x := nI 0) dX5_heal_11 rfl (by decide) ?_
    subst hz
    exact j_retI C X dX5_heal_12 (bl_nar bl_0) ⟨rfl, rfl, rfl, (CT_x (by intro a; (by_cases h0 : a = 5; (· (first | (subst h0; simp [sA]; done) | (rw [h0]; simp [sA]; done))); by_cases h1 : a = 6; (· (first | (subst h1; simp [sA]; done) | (rw [h1]; simp [sA]; done))); by_cases h2 : a = 9; (· (first | (subst h2; simp [sA]; done) | (rw [h2]; simp [sA]; done))); simp [sA, h0, h1, h2]))), bl_0⟩
def m_X5_ground (W S ns nc : Nat) (B : Nat → Option Nat) (σ : Nat → Nat → Int32) (column : Int32) (depth : Int32) : Int32 × (Nat → Int32) := (if column < 0 then (nI 0, (σ 35)) else (if (nI W) ≤ column then (nI 0, (σ 35)) else ap (m_X5_isDepth W S ns nc B σ depth) (fun (y14 : Int32) => (if y14 = 0 then (nI 0, (σ 35)) else (nI 1, (upd (σ 35) (column).toNatClampNeg depth))))))
abbrev rm_X5_ground : Room := { frames := 1, cells := 0, slots := 0, locals := 20 }
set_option maxHeartbeats 4000000 in
set_option maxRecDepth 100000 in
theorem c_X5_ground {l : Launch} {D : va_G} {K : Nat → ClassId} {W S ns nc N : Nat} {ad : Nat → Nat} {B : Nat → Option Nat} {σ : Nat → Nat → Int32} (hG : GH W S ns nc N) {column : Int32} {depth : Int32}  {z : Int32 × (Nat → Int32)} (hz : m_X5_ground W S ns nc B σ column depth = z)  : MC l yX5_ground cX5_ground 3 (some .boolean) rm_X5_ground D (TY K) N ad (CT K W S ns nc ad B σ) [.ref (ad 0), .int column, .int depth] (BS (some (.int z.1)) N ad (CT K W S ns nc ad B (sA σ 35 z.2)) (bl z.1)) := by
  have hW := hG.1; have hW8 := hG.2.1; have hS := hG.2.2.1; have hS4 := hG.2.2.2.1; have hns := hG.2.2.2.2.1; have hnc := hG.2.2.2.2.2.1; have hWS := GH_ws hG
  refine MC.of (by decide) (Nat.le_of_ble_eq_true rfl) (fun p e s m args below meth c Q A H0 C X => ?_)
  replace C : Cx p s m args meth c cX5_ground RX5 3 D (TY K) A H0 := C
  show J p l e rm_X5_ground s m args below meth c Q D A H0 3 0 0 N ad (CT K W S ns nc ad B σ) 0 [(0, .ref (ad 0)), (1, .int column), (2, .int depth)] []
  unfold m_X5_ground at hz
  refine j_iload_n 1 C dX5_ground_0 rfl rfl 1 rfl ?_
  refine j_if_lt 20 4 C dX5_ground_1 rfl rfl (fun c_1 => ?_) (fun c_1 => ?_)
  · replace hz := (if_pos c_1).symm.trans hz
    refine j_iconst 21 C (x := nI 0) dX5_ground_20 rfl (by decide) ?_
    subst hz
    exact j_retI C X dX5_ground_21 (bl_nar bl_0) ⟨rfl, rfl, rfl, (congrArg _ sA_id.symm), bl_0⟩
  · replace hz := (if_neg c_1).symm.trans hz
    refine j_iload_n 5 C dX5_ground_4 rfl rfl 1 rfl ?_
    refine j_aload_n 6 C dX5_ground_5 rfl rfl 0 rfl ?_
    refine k_get 9 C fl_X5_43 dX5_ground_6 rfl 0 (GH_r hG (by decide)) _ rfl (CE_0 _) (.ref (ad 35)) rfl ?_
    refine k_alen 10 C dX5_ground_9 rfl 35 (GH_r hG (by decide)) 0 (CE_35 _) rfl ?_
    refine j_ic_ge 20 13 C dX5_ground_10 rfl rfl (fun c_10 => ?_) (fun c_10 => ?_)
    · replace hz := (if_pos c_10).symm.trans hz
      refine j_iconst 21 C (x := nI 0) dX5_ground_20 rfl (by decide) ?_
      subst hz
      exact j_retI C X dX5_ground_21 (bl_nar bl_0) ⟨rfl, rfl, rfl, (congrArg _ sA_id.symm), bl_0⟩
    · replace hz := (if_neg c_10).symm.trans hz
      obtain ⟨kc, hkc, ekc⟩ : ∃ k : Nat, k < W ∧ column = nI k := by
        obtain ⟨j, hj, rfl⟩ := nI_of c_1
        exact ⟨j, Nat.not_le.mp (fun q => c_10 ((nI_leI (by omega) hj).mpr q)), rfl⟩
      refine j_iload_n 14 C dX5_ground_13 rfl rfl 2 rfl ?_
      obtain ⟨y14, e14, hz⟩ := ap_x hz
      refine s_S 17 C (As := [.int depth]) cs_X5_51 (c_X5_isDepth (l := l) (D := D) (K := K) (ad := ad) hG  (hz := e14)) dX5_ground_14 rfl rfl rfl rfl rfl ⟨⟨Nat.le_of_ble_eq_true rfl, Nat.le_of_ble_eq_true rfl⟩, Nat.zero_le _, Nat.zero_le _⟩ (Nat.le_of_ble_eq_true rfl) (st' := [.int y14]) rfl (fun hE => ?_)
      have hbl14 : bl y14 := hE
      refine j_if_ne 22 20 C dX5_ground_17 rfl rfl (fun c_17 => ?_) (fun c_17 => ?_)
      · replace hz := (if_neg c_17).symm.trans hz
        refine j_aload_n 23 C dX5_ground_22 rfl rfl 0 rfl ?_
        refine k_get 26 C fl_X5_43 dX5_ground_23 rfl 0 (GH_r hG (by decide)) _ rfl (CE_0 _) (.ref (ad 35)) rfl ?_
        refine j_iload_n 27 C dX5_ground_26 rfl rfl 1 rfl ?_
        refine j_iload_n 28 C dX5_ground_27 rfl rfl 2 rfl ?_
        refine k_iast 29 C dX5_ground_28 rfl 35 (GH_r hG (by decide)) (σ 35) rfl CE_35 (vp_inE (n := kc) (by simp only [ekc, nI_add, pk_mul]) (by omega) (by omega)) (sA σ 35 (upd (σ 35) (column).toNatClampNeg depth)) rfl ?_
        refine j_iconst 30 C (x := nI 1) dX5_ground_29 rfl (by decide) ?_
        subst hz
        exact j_retI C X dX5_ground_30 (bl_nar bl_1) ⟨rfl, rfl, rfl, rfl, bl_1⟩
      · replace hz := (if_pos c_17).symm.trans hz
        refine j_iconst 21 C (x := nI 0) dX5_ground_20 rfl (by decide) ?_
        subst hz
        exact j_retI C X dX5_ground_21 (bl_nar bl_0) ⟨rfl, rfl, rfl, (congrArg _ sA_id.symm), bl_0⟩
def m_X5_take (W S ns nc : Nat) (B : Nat → Option Nat) (σ : Nat → Nat → Int32) (sight : Int32) : Int32 × (Nat → Option Nat) × (Nat → Int32) := ap (m_X4_remove W S ns nc B σ sight) (fun (y5 : Int32 × (Nat → Option Nat)) => (if y5.1 = 0 then (nI 0, y5.2, (σ 9)) else ap (m_X0_forgetQuarrel W S ns nc y5.2 σ) (fun (y17 : (Nat → Int32)) => (nI 1, y5.2, y17))))
abbrev rm_X5_take : Room := { frames := 2, cells := 0, slots := 0, locals := 42 }
set_option maxHeartbeats 4000000 in
set_option maxRecDepth 100000 in
theorem c_X5_take {l : Launch} {D : va_G} {K : Nat → ClassId} {W S ns nc N : Nat} {ad : Nat → Nat} {B : Nat → Option Nat} {σ : Nat → Nat → Int32} (hG : GH W S ns nc N) {sight : Int32}  {z : Int32 × (Nat → Option Nat) × (Nat → Int32)} (hz : m_X5_take W S ns nc B σ sight = z) (hB : BOK B N) : MC l yX5_take cX5_take 2 (some .boolean) rm_X5_take D (TY K) N ad (CT K W S ns nc ad B σ) [.ref (ad 0), .int sight] (BS (some (.int z.1)) N ad (CT K W S ns nc ad z.2.1 (sA σ 9 z.2.2)) (bl z.1)) := by
  have hW := hG.1; have hW8 := hG.2.1; have hS := hG.2.2.1; have hS4 := hG.2.2.2.1; have hns := hG.2.2.2.2.1; have hnc := hG.2.2.2.2.2.1; have hWS := GH_ws hG
  refine MC.of (by decide) (Nat.le_of_ble_eq_true rfl) (fun p e s m args below meth c Q A H0 C X => ?_)
  replace C : Cx p s m args meth c cX5_take RX5 2 D (TY K) A H0 := C
  show J p l e rm_X5_take s m args below meth c Q D A H0 2 0 0 N ad (CT K W S ns nc ad B σ) 0 [(0, .ref (ad 0)), (1, .int sight)] []
  unfold m_X5_take at hz
  refine j_aload_n 1 C dX5_take_0 rfl rfl 0 rfl ?_
  refine k_get 4 C fl_X5_30 dX5_take_1 rfl 0 (GH_r hG (by decide)) _ rfl (CE_0 _) (.ref (ad 7)) rfl ?_
  refine j_iload_n 5 C dX5_take_4 rfl rfl 1 rfl ?_
  obtain ⟨y5, e5, hz⟩ := ap_x hz
  refine s_V 8 C (As := [.int sight]) cv_X5_96 (c_X4_remove (l := l) (D := D) (K := K) (ad := ad) hG (hB := hB) (hz := e5)) dX5_take_5 rfl 7 4 (GH_r hG (by decide)) rfl (CE_7 _) rfl rfl rfl rfl rfl rfl ⟨⟨Nat.le_of_ble_eq_true rfl, Nat.le_of_ble_eq_true rfl⟩, Nat.zero_le _, Nat.zero_le _⟩ (Nat.le_of_ble_eq_true rfl) (st' := [.int y5.1]) rfl (fun hE => ?_)
  have hbl5 : bl y5.1 := hE
  refine j_if_ne 13 11 C dX5_take_8 rfl rfl (fun c_8 => ?_) (fun c_8 => ?_)
  · replace hz := (if_neg c_8).symm.trans hz
    refine j_aload_n 14 C dX5_take_13 rfl rfl 0 rfl ?_
    refine k_get 17 C fl_X5_39 dX5_take_14 rfl 0 (GH_r hG (by decide)) _ rfl (CE_0 _) (.ref (ad 9)) rfl ?_
    obtain ⟨y17, e17, hz⟩ := ap_x hz
    refine s_V 20 C (As := []) cv_X5_93 (c_X0_forgetQuarrel (l := l) (D := D) (K := K) (ad := ad) hG  (hz := e17)) dX5_take_17 rfl 9 0 (GH_r hG (by decide)) rfl (CE_9 _) rfl rfl rfl rfl rfl rfl ⟨⟨Nat.le_of_ble_eq_true rfl, Nat.le_of_ble_eq_true rfl⟩, Nat.zero_le _, Nat.zero_le _⟩ (Nat.le_of_ble_eq_true rfl) (st' := []) rfl (fun hE => ?_)
    refine j_iconst 21 C (x := nI 1) dX5_take_20 rfl (by decide) ?_
    subst hz
    exact j_retI C X dX5_take_21 (bl_nar bl_1) ⟨rfl, rfl, rfl, rfl, bl_1⟩
  · replace hz := (if_pos c_8).symm.trans hz
    refine j_iconst 12 C (x := nI 0) dX5_take_11 rfl (by decide) ?_
    subst hz
    exact j_retI C X dX5_take_12 (bl_nar bl_0) ⟨rfl, rfl, rfl, (congrArg _ sA_id.symm), bl_0⟩
def m_X5_quarrel (W S ns nc : Nat) (B : Nat → Option Nat) (σ : Nat → Nat → Int32) : Int32 × (Nat → Nat → Int32) := ap (m_X0_areSome W S ns nc B σ) (fun (y4 : Int32 × (Nat → Nat → Int32)) => (if y4.1 = 0 then ((-1), y4.2) else ap (m_X0_leftOut W S ns nc B y4.2) (fun (y14 : Int32) => (y14, y4.2))))
abbrev rm_X5_quarrel : Room := { frames := 18, cells := 0, slots := 0, locals := 540 }
set_option maxHeartbeats 4000000 in
set_option maxRecDepth 100000 in
theorem c_X5_quarrel {l : Launch} {D : va_G} {K : Nat → ClassId} {W S ns nc N : Nat} {ad : Nat → Nat} {B : Nat → Option Nat} {σ : Nat → Nat → Int32} (hG : GH W S ns nc N)   {z : Int32 × (Nat → Nat → Int32)} (hz : m_X5_quarrel W S ns nc B σ = z) (hB : BOK B N) (hb7 : bl (σ 9 7)) : MC l yX5_quarrel cX5_quarrel 1 (some .int) rm_X5_quarrel D (TY K) N ad (CT K W S ns nc ad B σ) [.ref (ad 0)] (BS (some (.int z.1)) N ad (CT K W S ns nc ad B z.2) True) := by
  have hW := hG.1; have hW8 := hG.2.1; have hS := hG.2.2.1; have hS4 := hG.2.2.2.1; have hns := hG.2.2.2.2.1; have hnc := hG.2.2.2.2.2.1; have hWS := GH_ws hG
  refine MC.of (by decide) (Nat.le_of_ble_eq_true rfl) (fun p e s m args below meth c Q A H0 C X => ?_)
  replace C : Cx p s m args meth c cX5_quarrel RX5 1 D (TY K) A H0 := C
  show J p l e rm_X5_quarrel s m args below meth c Q D A H0 1 0 0 N ad (CT K W S ns nc ad B σ) 0 [(0, .ref (ad 0))] []
  unfold m_X5_quarrel at hz
  refine j_aload_n 1 C dX5_quarrel_0 rfl rfl 0 rfl ?_
  refine k_get 4 C fl_X5_39 dX5_quarrel_1 rfl 0 (GH_r hG (by decide)) _ rfl (CE_0 _) (.ref (ad 9)) rfl ?_
  obtain ⟨y4, e4, hz⟩ := ap_x hz
  refine s_V 7 C (As := []) cv_X5_99 (c_X0_areSome (l := l) (D := D) (K := K) (ad := ad) hG (hB := hB) (hb7 := hb7) (hz := e4)) dX5_quarrel_4 rfl 9 0 (GH_r hG (by decide)) rfl (CE_9 _) rfl rfl rfl rfl rfl rfl ⟨⟨Nat.le_of_ble_eq_true rfl, Nat.le_of_ble_eq_true rfl⟩, Nat.zero_le _, Nat.zero_le _⟩ (Nat.le_of_ble_eq_true rfl) (st' := [.int y4.1]) rfl (fun hE => ?_)
  have hbl4 : bl y4.1 := hE
  refine j_if_eq 20 10 C dX5_quarrel_7 rfl rfl (fun c_7 => ?_) (fun c_7 => ?_)
  · replace hz := (if_pos c_7).symm.trans hz
    refine j_iconst 21 C (x := (-1)) dX5_quarrel_20 rfl (by decide) ?_
    subst hz
    exact j_retI C X dX5_quarrel_21 rfl ⟨rfl, rfl, rfl, rfl, trivial⟩
  · replace hz := (if_neg c_7).symm.trans hz
    refine j_aload_n 11 C dX5_quarrel_10 rfl rfl 0 rfl ?_
    refine k_get 14 C fl_X5_39 dX5_quarrel_11 rfl 0 (GH_r hG (by decide)) _ rfl (CE_0 _) (.ref (ad 9)) rfl ?_
    obtain ⟨y14, e14, hz⟩ := ap_x hz
    refine s_V 17 C (As := []) cv_X5_103 (c_X0_leftOut (l := l) (D := D) (K := K) (ad := ad) hG  (hz := e14)) dX5_quarrel_14 rfl 9 0 (GH_r hG (by decide)) rfl (CE_9 _) rfl rfl rfl rfl rfl rfl ⟨⟨Nat.le_of_ble_eq_true rfl, Nat.le_of_ble_eq_true rfl⟩, Nat.zero_le _, Nat.zero_le _⟩ (Nat.le_of_ble_eq_true rfl) (st' := [.int y14]) rfl (fun hE => ?_)
    refine j_goto 21 C dX5_quarrel_17 rfl ?_
    subst hz
    exact j_retI C X dX5_quarrel_21 rfl ⟨rfl, rfl, rfl, rfl, trivial⟩
def m_X5_end (W S ns nc : Nat) (B : Nat → Option Nat) (σ : Nat → Nat → Int32) (place : Int32) (what : Int32) : Int32 := ap (m_X0_agreed W S ns nc B σ) (fun (y4 : ) => (if what = 0 then ap (m_X1_least W S ns nc B σ 11 place) (fun (y14 : Int32) => y14) else ap (m_X1_greatest W S ns nc B σ 11 place) (fun (y22 : Int32) => y22)))
abbrev rm_X5_end : Room := { frames := 3, cells := 0, slots := 0, locals := 64 }
set_option maxHeartbeats 4000000 in
set_option maxRecDepth 100000 in
theorem c_X5_end {l : Launch} {D : va_G} {K : Nat → ClassId} {W S ns nc N : Nat} {ad : Nat → Nat} {B : Nat → Option Nat} {σ : Nat → Nat → Int32} (hG : GH W S ns nc N) {place : Int32} {what : Int32}  {z : Int32} (hz : m_X5_end W S ns nc B σ place what = z)  : MC l yX5_end cX5_end 4 (some .int) rm_X5_end D (TY K) N ad (CT K W S ns nc ad B σ) [.ref (ad 0), .int place, .int what] (BS (some (.int z)) N ad (CT K W S ns nc ad B σ) True) := by
  have hW := hG.1; have hW8 := hG.2.1; have hS := hG.2.2.1; have hS4 := hG.2.2.2.1; have hns := hG.2.2.2.2.1; have hnc := hG.2.2.2.2.2.1; have hWS := GH_ws hG
  refine MC.of (by decide) (Nat.le_of_ble_eq_true rfl) (fun p e s m args below meth c Q A H0 C X => ?_)
  replace C : Cx p s m args meth c cX5_end RX5 4 D (TY K) A H0 := C
  show J p l e rm_X5_end s m args below meth c Q D A H0 4 0 0 N ad (CT K W S ns nc ad B σ) 0 [(0, .ref (ad 0)), (1, .int place), (2, .int what)] []
  unfold m_X5_end at hz
  refine j_aload_n 1 C dX5_end_0 rfl rfl 0 rfl ?_
  refine k_get 4 C fl_X5_39 dX5_end_1 rfl 0 (GH_r hG (by decide)) _ rfl (CE_0 _) (.ref (ad 9)) rfl ?_
  obtain ⟨y4, e4, hz⟩ := ap_x hz
  refine s_V 7 C (As := []) cv_X5_116 (c_X0_agreed (l := l) (D := D) (K := K) (ad := ad) hG  (hz := e4)) dX5_end_4 rfl 9 0 (GH_r hG (by decide)) rfl (CE_9 _) rfl rfl rfl rfl rfl rfl ⟨⟨Nat.le_of_ble_eq_true rfl, Nat.le_of_ble_eq_true rfl⟩, Nat.zero_le _, Nat.zero_le _⟩ (Nat.le_of_ble_eq_true rfl) (st' := [.ref (ad 33)]) rfl (fun hE => ?_)
  refine j_astore_n 8 C [(3, .ref (ad 33)), (0, .ref (ad 0)), (1, .int place), (2, .int what)] dX5_end_7 rfl rfl (by decide) rfl ?_
  refine j_iload_n 9 C dX5_end_8 rfl rfl 3 rfl ?_
  refine j_if_ne 20 12 C dX5_end_9 rfl rfl (fun c_9 => ?_) (fun c_9 => ?_)
  · replace hz := (if_neg c_9).symm.trans hz
    refine j_aload_n 21 C dX5_end_20 rfl rfl 0 rfl ?_
    refine j_iload_n 22 C dX5_end_21 rfl rfl 2 rfl ?_
    obtain ⟨y22, e22, hz⟩ := ap_x hz
    refine s_V 25 C (As := [.int place]) cv_X5_178 (c_X1_greatest (l := l) (D := D) (K := K) (ad := ad) hG (hg := by decide) (hz := e22)) dX5_end_22 rfl 33 1 (GH_r hG (by decide)) rfl (CE_go (g := 11) (by decide) _) rfl rfl rfl rfl rfl rfl ⟨⟨Nat.le_of_ble_eq_true rfl, Nat.le_of_ble_eq_true rfl⟩, Nat.zero_le _, Nat.zero_le _⟩ (Nat.le_of_ble_eq_true rfl) (st' := [.int y22]) rfl (fun hE => ?_)
    subst hz
    exact j_retI C X dX5_end_25 rfl ⟨rfl, rfl, rfl, rfl, trivial⟩
  · replace hz := (if_pos c_9).symm.trans hz
    refine j_aload_n 13 C dX5_end_12 rfl rfl 0 rfl ?_
    refine j_iload_n 14 C dX5_end_13 rfl rfl 2 rfl ?_
    obtain ⟨y14, e14, hz⟩ := ap_x hz
    refine s_V 17 C (As := [.int place]) cv_X5_175 (c_X1_least (l := l) (D := D) (K := K) (ad := ad) hG (hg := by decide) (hz := e14)) dX5_end_14 rfl 33 1 (GH_r hG (by decide)) rfl (CE_go (g := 11) (by decide) _) rfl rfl rfl rfl rfl rfl ⟨⟨Nat.le_of_ble_eq_true rfl, Nat.le_of_ble_eq_true rfl⟩, Nat.zero_le _, Nat.zero_le _⟩ (Nat.le_of_ble_eq_true rfl) (st' := [.int y14]) rfl (fun hE => ?_)
    refine j_goto 25 C dX5_end_17 rfl ?_
    subst hz
    exact j_retI C X dX5_end_25 rfl ⟨rfl, rfl, rfl, rfl, trivial⟩
def m_X5_span (W S ns nc : Nat) (B : Nat → Option Nat) (σ : Nat → Nat → Int32) (surface : Int32) (column : Int32) (what : Int32) : Int32 × (Nat → Nat → Int32) := ap (m_X2_hasPlace W S ns nc B σ surface column) (fun (y6 : Int32) => (if y6 = 0 then ((-1), σ) else ap (m_X5_isEnd W S ns nc B σ what) (fun (y13 : Int32) => (if y13 = 0 then ((-1), σ) else ap (m_X0_areSome W S ns nc B σ) (fun (y23 : Int32 × (Nat → Nat → Int32)) => (if y23.1 = 0 then ((-1), y23.2) else ap (m_X2_placeOf W S ns nc B y23.2 surface column) (fun (y38 : Int32) => ap (m_X5_end W S ns nc B y23.2 y38 what) (fun (y42 : Int32) => (y42, y23.2)))))))))
abbrev rm_X5_span : Room := { frames := 18, cells := 0, slots := 0, locals := 540 }
set_option maxHeartbeats 4000000 in
set_option maxRecDepth 100000 in
theorem c_X5_span {l : Launch} {D : va_G} {K : Nat → ClassId} {W S ns nc N : Nat} {ad : Nat → Nat} {B : Nat → Option Nat} {σ : Nat → Nat → Int32} (hG : GH W S ns nc N) {surface : Int32} {column : Int32} {what : Int32}  {z : Int32 × (Nat → Nat → Int32)} (hz : m_X5_span W S ns nc B σ surface column what = z) (hB : BOK B N) (hb7 : bl (σ 9 7)) : MC l yX5_span cX5_span 4 (some .int) rm_X5_span D (TY K) N ad (CT K W S ns nc ad B σ) [.ref (ad 0), .int surface, .int column, .int what] (BS (some (.int z.1)) N ad (CT K W S ns nc ad B z.2) True) := by
  have hW := hG.1; have hW8 := hG.2.1; have hS := hG.2.2.1; have hS4 := hG.2.2.2.1; have hns := hG.2.2.2.2.1; have hnc := hG.2.2.2.2.2.1; have hWS := GH_ws hG
  refine MC.of (by decide) (Nat.le_of_ble_eq_true rfl) (fun p e s m args below meth c Q A H0 C X => ?_)
  replace C : Cx p s m args meth c cX5_span RX5 4 D (TY K) A H0 := C
  show J p l e rm_X5_span s m args below meth c Q D A H0 4 0 0 N ad (CT K W S ns nc ad B σ) 0 [(0, .ref (ad 0)), (1, .int surface), (2, .int column), (3, .int what)] []
  unfold m_X5_span at hz
  refine j_aload_n 1 C dX5_span_0 rfl rfl 0 rfl ?_
  refine k_get 4 C fl_X5_21 dX5_span_1 rfl 0 (GH_r hG (by decide)) _ rfl (CE_0 _) (.ref (ad 1)) rfl ?_
  refine j_iload_n 5 C dX5_span_4 rfl rfl 1 rfl ?_
  refine j_iload_n 6 C dX5_span_5 rfl rfl 2 rfl ?_
  obtain ⟨y6, e6, hz⟩ := ap_x hz
  refine s_V 9 C (As := [.int surface, .int column]) cv_X5_81 (c_X2_hasPlace (l := l) (D := D) (K := K) (ad := ad) hG  (hz := e6)) dX5_span_6 rfl 1 2 (GH_r hG (by decide)) rfl (CE_1 _) rfl rfl rfl rfl rfl rfl ⟨⟨Nat.le_of_ble_eq_true rfl, Nat.le_of_ble_eq_true rfl⟩, Nat.zero_le _, Nat.zero_le _⟩ (Nat.le_of_ble_eq_true rfl) (st' := [.int y6]) rfl (fun hE => ?_)
  have hbl6 : bl y6 := hE
  refine j_if_eq 29 12 C dX5_span_9 rfl rfl (fun c_9 => ?_) (fun c_9 => ?_)
  · replace hz := (if_pos c_9).symm.trans hz
    refine j_iconst 30 C (x := (-1)) dX5_span_29 rfl (by decide) ?_
    subst hz
    exact j_retI C X dX5_span_30 rfl ⟨rfl, rfl, rfl, rfl, trivial⟩
  · replace hz := (if_neg c_9).symm.trans hz
    refine j_iload_n 13 C dX5_span_12 rfl rfl 3 rfl ?_
    obtain ⟨y13, e13, hz⟩ := ap_x hz
    refine s_S 16 C (As := [.int what]) cs_X5_107 (c_X5_isEnd (l := l) (D := D) (K := K) (ad := ad) hG  (hz := e13)) dX5_span_13 rfl rfl rfl rfl rfl ⟨⟨Nat.le_of_ble_eq_true rfl, Nat.le_of_ble_eq_true rfl⟩, Nat.zero_le _, Nat.zero_le _⟩ (Nat.le_of_ble_eq_true rfl) (st' := [.int y13]) rfl (fun hE => ?_)
    have hbl13 : bl y13 := hE
    refine j_if_eq 29 19 C dX5_span_16 rfl rfl (fun c_16 => ?_) (fun c_16 => ?_)
    · replace hz := (if_pos c_16).symm.trans hz
      refine j_iconst 30 C (x := (-1)) dX5_span_29 rfl (by decide) ?_
      subst hz
      exact j_retI C X dX5_span_30 rfl ⟨rfl, rfl, rfl, rfl, trivial⟩
    · replace hz := (if_neg c_16).symm.trans hz
      refine j_aload_n 20 C dX5_span_19 rfl rfl 0 rfl ?_
      refine k_get 23 C fl_X5_39 dX5_span_20 rfl 0 (GH_r hG (by decide)) _ rfl (CE_0 _) (.ref (ad 9)) rfl ?_
      obtain ⟨y23, e23, hz⟩ := ap_x hz
      refine s_V 26 C (As := []) cv_X5_99 (c_X0_areSome (l := l) (D := D) (K := K) (ad := ad) hG (hB := hB) (hb7 := hb7) (hz := e23)) dX5_span_23 rfl 9 0 (GH_r hG (by decide)) rfl (CE_9 _) rfl rfl rfl rfl rfl rfl ⟨⟨Nat.le_of_ble_eq_true rfl, Nat.le_of_ble_eq_true rfl⟩, Nat.zero_le _, Nat.zero_le _⟩ (Nat.le_of_ble_eq_true rfl) (st' := [.int y23.1]) rfl (fun hE => ?_)
      have hbl23 : bl y23.1 := hE
      refine j_if_ne 31 29 C dX5_span_26 rfl rfl (fun c_26 => ?_) (fun c_26 => ?_)
      · replace hz := (if_neg c_26).symm.trans hz
        refine j_aload_n 32 C dX5_span_31 rfl rfl 0 rfl ?_
        refine j_aload_n 33 C dX5_span_32 rfl rfl 0 rfl ?_
        refine k_get 36 C fl_X5_21 dX5_span_33 rfl 0 (GH_r hG (by decide)) _ rfl (CE_0 _) (.ref (ad 1)) rfl ?_
        refine j_iload_n 37 C dX5_span_36 rfl rfl 1 rfl ?_
        refine j_iload_n 38 C dX5_span_37 rfl rfl 2 rfl ?_
        obtain ⟨y38, e38, hz⟩ := ap_x hz
        refine s_V 41 C (As := [.int surface, .int column]) cv_X5_110 (c_X2_placeOf (l := l) (D := D) (K := K) (ad := ad) hG  (hz := e38)) dX5_span_38 rfl 1 2 (GH_r hG (by decide)) rfl (CE_1 _) rfl rfl rfl rfl rfl rfl ⟨⟨Nat.le_of_ble_eq_true rfl, Nat.le_of_ble_eq_true rfl⟩, Nat.zero_le _, Nat.zero_le _⟩ (Nat.le_of_ble_eq_true rfl) (st' := [.int y38, .ref (ad 0)]) rfl (fun hE => ?_)
        refine j_iload_n 42 C dX5_span_41 rfl rfl 3 rfl ?_
        obtain ⟨y42, e42, hz⟩ := ap_x hz
        refine s_V 45 C (As := [.int y38, .int what]) cv_X5_113 (c_X5_end (l := l) (D := D) (K := K) (ad := ad) hG  (hz := e42)) dX5_span_42 rfl 0 5 (GH_r hG (by decide)) rfl (CE_0 _) rfl rfl rfl rfl rfl rfl ⟨⟨Nat.le_of_ble_eq_true rfl, Nat.le_of_ble_eq_true rfl⟩, Nat.zero_le _, Nat.zero_le _⟩ (Nat.le_of_ble_eq_true rfl) (st' := [.int y42]) rfl (fun hE => ?_)
        subst hz
        exact j_retI C X dX5_span_45 rfl ⟨rfl, rfl, rfl, rfl, trivial⟩
      · replace hz := (if_pos c_26).symm.trans hz
        refine j_iconst 30 C (x := (-1)) dX5_span_29 rfl (by decide) ?_
        subst hz
        exact j_retI C X dX5_span_30 rfl ⟨rfl, rfl, rfl, rfl, trivial⟩
def m_X5_open (W S ns nc : Nat) (B : Nat → Option Nat) (σ : Nat → Nat → Int32) : Int32 × (Nat → Nat → Int32) := ap (m_X0_areSome W S ns nc B σ) (fun (y4 : Int32 × (Nat → Nat → Int32)) => (if y4.1 = 0 then ((-1), y4.2) else ap (m_X0_agreed W S ns nc B y4.2) (fun (y14 : ) => ap (m_X1_openSum W S ns nc B y4.2 11) (fun (y17 : Int32) => (y17, y4.2)))))
abbrev rm_X5_open : Room := { frames := 18, cells := 0, slots := 0, locals := 540 }
set_option maxHeartbeats 4000000 in
set_option maxRecDepth 100000 in
theorem c_X5_open {l : Launch} {D : va_G} {K : Nat → ClassId} {W S ns nc N : Nat} {ad : Nat → Nat} {B : Nat → Option Nat} {σ : Nat → Nat → Int32} (hG : GH W S ns nc N)   {z : Int32 × (Nat → Nat → Int32)} (hz : m_X5_open W S ns nc B σ = z) (hB : BOK B N) (hb7 : bl (σ 9 7)) : MC l yX5_open cX5_open 1 (some .int) rm_X5_open D (TY K) N ad (CT K W S ns nc ad B σ) [.ref (ad 0)] (BS (some (.int z.1)) N ad (CT K W S ns nc ad B z.2) True) := by
  have hW := hG.1; have hW8 := hG.2.1; have hS := hG.2.2.1; have hS4 := hG.2.2.2.1; have hns := hG.2.2.2.2.1; have hnc := hG.2.2.2.2.2.1; have hWS := GH_ws hG
  refine MC.of (by decide) (Nat.le_of_ble_eq_true rfl) (fun p e s m args below meth c Q A H0 C X => ?_)
  replace C : Cx p s m args meth c cX5_open RX5 1 D (TY K) A H0 := C
  show J p l e rm_X5_open s m args below meth c Q D A H0 1 0 0 N ad (CT K W S ns nc ad B σ) 0 [(0, .ref (ad 0))] []
  unfold m_X5_open at hz
  refine j_aload_n 1 C dX5_open_0 rfl rfl 0 rfl ?_
  refine k_get 4 C fl_X5_39 dX5_open_1 rfl 0 (GH_r hG (by decide)) _ rfl (CE_0 _) (.ref (ad 9)) rfl ?_
  obtain ⟨y4, e4, hz⟩ := ap_x hz
  refine s_V 7 C (As := []) cv_X5_99 (c_X0_areSome (l := l) (D := D) (K := K) (ad := ad) hG (hB := hB) (hb7 := hb7) (hz := e4)) dX5_open_4 rfl 9 0 (GH_r hG (by decide)) rfl (CE_9 _) rfl rfl rfl rfl rfl rfl ⟨⟨Nat.le_of_ble_eq_true rfl, Nat.le_of_ble_eq_true rfl⟩, Nat.zero_le _, Nat.zero_le _⟩ (Nat.le_of_ble_eq_true rfl) (st' := [.int y4.1]) rfl (fun hE => ?_)
  have hbl4 : bl y4.1 := hE
  refine j_if_eq 23 10 C dX5_open_7 rfl rfl (fun c_7 => ?_) (fun c_7 => ?_)
  · replace hz := (if_pos c_7).symm.trans hz
    refine j_iconst 24 C (x := (-1)) dX5_open_23 rfl (by decide) ?_
    subst hz
    exact j_retI C X dX5_open_24 rfl ⟨rfl, rfl, rfl, rfl, trivial⟩
  · replace hz := (if_neg c_7).symm.trans hz
    refine j_aload_n 11 C dX5_open_10 rfl rfl 0 rfl ?_
    refine k_get 14 C fl_X5_39 dX5_open_11 rfl 0 (GH_r hG (by decide)) _ rfl (CE_0 _) (.ref (ad 9)) rfl ?_
    obtain ⟨y14, e14, hz⟩ := ap_x hz
    refine s_V 17 C (As := []) cv_X5_116 (c_X0_agreed (l := l) (D := D) (K := K) (ad := ad) hG  (hz := e14)) dX5_open_14 rfl 9 0 (GH_r hG (by decide)) rfl (CE_9 _) rfl rfl rfl rfl rfl rfl ⟨⟨Nat.le_of_ble_eq_true rfl, Nat.le_of_ble_eq_true rfl⟩, Nat.zero_le _, Nat.zero_le _⟩ (Nat.le_of_ble_eq_true rfl) (st' := [.ref (ad 33)]) rfl (fun hE => ?_)
    obtain ⟨y17, e17, hz⟩ := ap_x hz
    refine s_V 20 C (As := []) cv_X5_120 (c_X1_openSum (l := l) (D := D) (K := K) (ad := ad) hG (hg := by decide) (hz := e17)) dX5_open_17 rfl 33 1 (GH_r hG (by decide)) rfl (CE_go (g := 11) (by decide) _) rfl rfl rfl rfl rfl rfl ⟨⟨Nat.le_of_ble_eq_true rfl, Nat.le_of_ble_eq_true rfl⟩, Nat.zero_le _, Nat.zero_le _⟩ (Nat.le_of_ble_eq_true rfl) (st' := [.int y17]) rfl (fun hE => ?_)
    refine j_goto 24 C dX5_open_20 rfl ?_
    subst hz
    exact j_retI C X dX5_open_24 rfl ⟨rfl, rfl, rfl, rfl, trivial⟩
def m_X5_layer_L39 (W S ns nc : Nat) (B : Nat → Option Nat) (σ : Nat → Nat → Int32) (column : Int32) (depth : Int32) (y23 : Int32 × (Nat → Nat → Int32)) (i39 : Nat) (c39 : Int32 × Int32) : Int32 × Int32 := ap (m_X2_placeOf W S ns nc B y23.2 (nI i39) column) (fun (y58 : Int32) => ap (m_X5_end W S ns nc B y23.2 y58 (nI 1)) (fun (y67 : Int32) => (if depth < y67 then ap (m_X5_end W S ns nc B y23.2 y58 (nI 0)) (fun (y81 : Int32) => (if depth < y81 then (c39.1, c39.2) else (c39.1, c39.2 + nI 1))) else ap (m_X5_end W S ns nc B y23.2 y58 (nI 0)) (fun (y81 : Int32) => (if depth < y81 then (c39.1 + nI 1, c39.2) else (c39.1 + nI 1, c39.2 + nI 1))))))
def m_X5_layer (W S ns nc : Nat) (B : Nat → Option Nat) (σ : Nat → Nat → Int32) (column : Int32) (depth : Int32) : Int32 × (Nat → Nat → Int32) := ap (m_X2_hasPlace W S ns nc B σ (nI 0) column) (fun (y6 : Int32) => (if y6 = 0 then ((-1), σ) else ap (m_X5_isDepth W S ns nc B σ depth) (fun (y13 : Int32) => (if y13 = 0 then ((-1), σ) else ap (m_X0_areSome W S ns nc B σ) (fun (y23 : Int32 × (Nat → Nat → Int32)) => (if y23.1 = 0 then ((-1), y23.2) else ap (lp (m_X5_layer_L39 W S ns nc B σ column depth y23) (S - 0) 0 (nI 0, nI 0)) (fun (z39 : Int32 × Int32) => (if z39.1 = z39.2 then (z39.1, y23.2) else ((-1), y23.2)))))))))
abbrev rm_X5_layer : Room := { frames := 18, cells := 0, slots := 0, locals := 540 }
set_option maxHeartbeats 4000000 in
set_option maxRecDepth 100000 in
theorem c_X5_layer {l : Launch} {D : va_G} {K : Nat → ClassId} {W S ns nc N : Nat} {ad : Nat → Nat} {B : Nat → Option Nat} {σ : Nat → Nat → Int32} (hG : GH W S ns nc N) {column : Int32} {depth : Int32}  {z : Int32 × (Nat → Nat → Int32)} (hz : m_X5_layer W S ns nc B σ column depth = z) (hB : BOK B N) (hb7 : bl (σ 9 7)) : MC l yX5_layer cX5_layer 7 (some .int) rm_X5_layer D (TY K) N ad (CT K W S ns nc ad B σ) [.ref (ad 0), .int column, .int depth] (BS (some (.int z.1)) N ad (CT K W S ns nc ad B z.2) True) := by
  have hW := hG.1; have hW8 := hG.2.1; have hS := hG.2.2.1; have hS4 := hG.2.2.2.1; have hns := hG.2.2.2.2.1; have hnc := hG.2.2.2.2.2.1; have hWS := GH_ws hG
  refine MC.of (by decide) (Nat.le_of_ble_eq_true rfl) (fun p e s m args below meth c Q A H0 C X => ?_)
  replace C : Cx p s m args meth c cX5_layer RX5 7 D (TY K) A H0 := C
  show J p l e rm_X5_layer s m args below meth c Q D A H0 7 0 0 N ad (CT K W S ns nc ad B σ) 0 [(0, .ref (ad 0)), (1, .int column), (2, .int depth)] []
  unfold m_X5_layer at hz
  refine j_aload_n 1 C dX5_layer_0 rfl rfl 0 rfl ?_
  refine k_get 4 C fl_X5_21 dX5_layer_1 rfl 0 (GH_r hG (by decide)) _ rfl (CE_0 _) (.ref (ad 1)) rfl ?_
  refine j_iconst 5 C (x := nI 0) dX5_layer_4 rfl (by decide) ?_
  refine j_iload_n 6 C dX5_layer_5 rfl rfl 1 rfl ?_
  obtain ⟨y6, e6, hz⟩ := ap_x hz
  refine s_V 9 C (As := [.int (nI 0), .int column]) cv_X5_81 (c_X2_hasPlace (l := l) (D := D) (K := K) (ad := ad) hG  (hz := e6)) dX5_layer_6 rfl 1 2 (GH_r hG (by decide)) rfl (CE_1 _) rfl rfl rfl rfl rfl rfl ⟨⟨Nat.le_of_ble_eq_true rfl, Nat.le_of_ble_eq_true rfl⟩, Nat.zero_le _, Nat.zero_le _⟩ (Nat.le_of_ble_eq_true rfl) (st' := [.int y6]) rfl (fun hE => ?_)
  have hbl6 : bl y6 := hE
  refine j_if_eq 29 12 C dX5_layer_9 rfl rfl (fun c_9 => ?_) (fun c_9 => ?_)
  · replace hz := (if_pos c_9).symm.trans hz
    refine j_iconst 30 C (x := (-1)) dX5_layer_29 rfl (by decide) ?_
    subst hz
    exact j_retI C X dX5_layer_30 rfl ⟨rfl, rfl, rfl, rfl, trivial⟩
  · replace hz := (if_neg c_9).symm.trans hz
    refine j_iload_n 13 C dX5_layer_12 rfl rfl 2 rfl ?_
    obtain ⟨y13, e13, hz⟩ := ap_x hz
    refine s_S 16 C (As := [.int depth]) cs_X5_51 (c_X5_isDepth (l := l) (D := D) (K := K) (ad := ad) hG  (hz := e13)) dX5_layer_13 rfl rfl rfl rfl rfl ⟨⟨Nat.le_of_ble_eq_true rfl, Nat.le_of_ble_eq_true rfl⟩, Nat.zero_le _, Nat.zero_le _⟩ (Nat.le_of_ble_eq_true rfl) (st' := [.int y13]) rfl (fun hE => ?_)
    have hbl13 : bl y13 := hE
    refine j_if_eq 29 19 C dX5_layer_16 rfl rfl (fun c_16 => ?_) (fun c_16 => ?_)
    · replace hz := (if_pos c_16).symm.trans hz
      refine j_iconst 30 C (x := (-1)) dX5_layer_29 rfl (by decide) ?_
      subst hz
      exact j_retI C X dX5_layer_30 rfl ⟨rfl, rfl, rfl, rfl, trivial⟩
    · replace hz := (if_neg c_16).symm.trans hz
      refine j_aload_n 20 C dX5_layer_19 rfl rfl 0 rfl ?_
      refine k_get 23 C fl_X5_39 dX5_layer_20 rfl 0 (GH_r hG (by decide)) _ rfl (CE_0 _) (.ref (ad 9)) rfl ?_
      obtain ⟨y23, e23, hz⟩ := ap_x hz
      refine s_V 26 C (As := []) cv_X5_99 (c_X0_areSome (l := l) (D := D) (K := K) (ad := ad) hG (hB := hB) (hb7 := hb7) (hz := e23)) dX5_layer_23 rfl 9 0 (GH_r hG (by decide)) rfl (CE_9 _) rfl rfl rfl rfl rfl rfl ⟨⟨Nat.le_of_ble_eq_true rfl, Nat.le_of_ble_eq_true rfl⟩, Nat.zero_le _, Nat.zero_le _⟩ (Nat.le_of_ble_eq_true rfl) (st' := [.int y23.1]) rfl (fun hE => ?_)
      have hbl23 : bl y23.1 := hE
      refine j_if_ne 31 29 C dX5_layer_26 rfl rfl (fun c_26 => ?_) (fun c_26 => ?_)
      · replace hz := (if_neg c_26).symm.trans hz
        refine j_iconst 32 C (x := nI 0) dX5_layer_31 rfl (by decide) ?_
        refine j_istore_n 33 C [(3, .int (nI 0)), (0, .ref (ad 0)), (1, .int column), (2, .int depth)] dX5_layer_32 rfl rfl (by decide) rfl ?_
        refine j_iconst 34 C (x := nI 0) dX5_layer_33 rfl (by decide) ?_
        refine j_istore 36 C [(4, .int (nI 0)), (3, .int (nI 0)), (0, .ref (ad 0)), (1, .int column), (2, .int depth)] dX5_layer_34 rfl (by decide) rfl ?_
        refine j_iconst 37 C (x := nI 0) dX5_layer_36 rfl (by decide) ?_
        refine j_istore 39 C [(5, .int (nI 0)), (4, .int (nI 0)), (3, .int (nI 0)), (0, .ref (ad 0)), (1, .int column), (2, .int depth)] dX5_layer_37 rfl (by decide) rfl ?_
        skip
        obtain ⟨z39, ez39, hz⟩ := ap_x hz
        have L39 : ∀ (n39 i39 : Nat) (c39 : Int32 × Int32), 0 ≤ i39 → i39 < 5000 → n39 = S - i39 → lp (m_X5_layer_L39 W S ns nc B σ column depth y23) n39 i39 c39 = z39 → J p l e rm_X5_layer s m args below meth c Q D A H0 7 0 0 N ad (CT K W S ns nc ad B y23.2) 39 [(0, .ref (ad 0)), (1, .int column), (2, .int depth), (3, .int c39.1), (4, .int c39.2), (5, .int (nI i39))] [] := by
          intro n39
          induction n39 with
          | zero =>
            intro i39 c39 hl39 hi39 hn39 hz39
            refine j_iload 41 C dX5_layer_39 rfl 5 rfl ?_
            refine j_aload_n 42 C dX5_layer_41 rfl rfl 0 rfl ?_
            refine k_get 45 C fl_X5_21 dX5_layer_42 rfl 0 (GH_r hG (by decide)) _ rfl (CE_0 _) (.ref (ad 1)) rfl ?_
            refine s_V 48 C (As := []) cv_X5_125 (c_X2_surfaces (l := l) (D := D) (K := K) (ad := ad) hG  (hz := rfl)) dX5_layer_45 rfl 1 2 (GH_r hG (by decide)) rfl (CE_1 _) rfl rfl rfl rfl rfl rfl ⟨⟨Nat.le_of_ble_eq_true rfl, Nat.le_of_ble_eq_true rfl⟩, Nat.zero_le _, Nat.zero_le _⟩ (Nat.le_of_ble_eq_true rfl) (st' := [.int (m_X2_surfaces W S ns nc B y23.2), .int (nI i39)]) rfl (fun hE => ?_)
            have ey45 : (m_X2_surfaces W S ns nc B y23.2) = nI S := rfl
            refine j_ic_ge 97 51 C dX5_layer_48 rfl rfl (fun c_48 => ?_) (fun c_48 => ?_)
            · skip
              have n_48 := nat_le (a := S) (b := i39) (by simp only [ey45, nI_add, pk_mul]) rfl (by omega) (by omega) c_48
              have hq39 : c39 = z39 := hz39
              subst hq39
              refine j_iload_n 98 C dX5_layer_97 rfl rfl 3 rfl ?_
              refine j_iload 100 C dX5_layer_98 rfl 4 rfl ?_
              refine j_ic_ne 107 103 C dX5_layer_100 rfl rfl (fun c_100 => ?_) (fun c_100 => ?_)
              · replace hz := (if_neg c_100).symm.trans hz
                refine j_iconst 108 C (x := (-1)) dX5_layer_107 rfl (by decide) ?_
                subst hz
                exact j_retI C X dX5_layer_108 rfl ⟨rfl, rfl, rfl, rfl, trivial⟩
              · replace hz := (if_pos c_100).symm.trans hz
                refine j_iload_n 104 C dX5_layer_103 rfl rfl 3 rfl ?_
                refine j_goto 108 C dX5_layer_104 rfl ?_
                subst hz
                exact j_retI C X dX5_layer_108 rfl ⟨rfl, rfl, rfl, rfl, trivial⟩
            · exfalso
              have n_48 := nat_nle (a := S) (b := i39) (by simp only [ey45, nI_add, pk_mul]) rfl (by omega) (by omega) c_48
              omega
          | succ n39 ih39 =>
            intro i39 c39 hl39 hi39 hn39 hz39
            refine j_iload 41 C dX5_layer_39 rfl 5 rfl ?_
            refine j_aload_n 42 C dX5_layer_41 rfl rfl 0 rfl ?_
            refine k_get 45 C fl_X5_21 dX5_layer_42 rfl 0 (GH_r hG (by decide)) _ rfl (CE_0 _) (.ref (ad 1)) rfl ?_
            refine s_V 48 C (As := []) cv_X5_125 (c_X2_surfaces (l := l) (D := D) (K := K) (ad := ad) hG  (hz := rfl)) dX5_layer_45 rfl 1 2 (GH_r hG (by decide)) rfl (CE_1 _) rfl rfl rfl rfl rfl rfl ⟨⟨Nat.le_of_ble_eq_true rfl, Nat.le_of_ble_eq_true rfl⟩, Nat.zero_le _, Nat.zero_le _⟩ (Nat.le_of_ble_eq_true rfl) (st' := [.int (m_X2_surfaces W S ns nc B y23.2), .int (nI i39)]) rfl (fun hE => ?_)
            have ey45 : (m_X2_surfaces W S ns nc B y23.2) = nI S := rfl
            refine j_ic_ge 97 51 C dX5_layer_48 rfl rfl (fun c_48 => ?_) (fun c_48 => ?_)
            · exfalso
              have n_48 := nat_le (a := S) (b := i39) (by simp only [ey45, nI_add, pk_mul]) rfl (by omega) (by omega) c_48
              omega
            · skip
              have n_48 := nat_nle (a := S) (b := i39) (by simp only [ey45, nI_add, pk_mul]) rfl (by omega) (by omega) c_48
              obtain ⟨w39, hw39, hz39⟩ := lp_s hz39
              have ho39 := hz
              clear hz
              have hz := hw39
              clear hw39
              unfold m_X5_layer_L39 at hz
              refine j_aload_n 52 C dX5_layer_51 rfl rfl 0 rfl ?_
              refine k_get 55 C fl_X5_21 dX5_layer_52 rfl 0 (GH_r hG (by decide)) _ rfl (CE_0 _) (.ref (ad 1)) rfl ?_
              refine j_iload 57 C dX5_layer_55 rfl 5 rfl ?_
              refine j_iload_n 58 C dX5_layer_57 rfl rfl 1 rfl ?_
              obtain ⟨y58, e58, hz⟩ := ap_x hz
              refine s_V 61 C (As := [.int (nI i39), .int column]) cv_X5_110 (c_X2_placeOf (l := l) (D := D) (K := K) (ad := ad) hG  (hz := e58)) dX5_layer_58 rfl 1 2 (GH_r hG (by decide)) rfl (CE_1 _) rfl rfl rfl rfl rfl rfl ⟨⟨Nat.le_of_ble_eq_true rfl, Nat.le_of_ble_eq_true rfl⟩, Nat.zero_le _, Nat.zero_le _⟩ (Nat.le_of_ble_eq_true rfl) (st' := [.int y58]) rfl (fun hE => ?_)
              refine j_istore 63 C [(6, .int y58), (0, .ref (ad 0)), (1, .int column), (2, .int depth), (3, .int c39.1), (4, .int c39.2), (5, .int (nI i39))] dX5_layer_61 rfl (by decide) rfl ?_
              refine j_aload_n 64 C dX5_layer_63 rfl rfl 1 rfl ?_
              refine j_iload 66 C dX5_layer_64 rfl 0 rfl ?_
              refine j_iconst 67 C (x := nI 1) dX5_layer_66 rfl (by decide) ?_
              obtain ⟨y67, e67, hz⟩ := ap_x hz
              refine s_V 70 C (As := [.int y58, .int (nI 1)]) cv_X5_113 (c_X5_end (l := l) (D := D) (K := K) (ad := ad) hG  (hz := e67)) dX5_layer_67 rfl 0 5 (GH_r hG (by decide)) rfl (CE_0 _) rfl rfl rfl rfl rfl rfl ⟨⟨Nat.le_of_ble_eq_true rfl, Nat.le_of_ble_eq_true rfl⟩, Nat.zero_le _, Nat.zero_le _⟩ (Nat.le_of_ble_eq_true rfl) (st' := [.int y67]) rfl (fun hE => ?_)
              refine j_iload_n 71 C dX5_layer_70 rfl rfl 3 rfl ?_
              refine j_ic_gt 77 74 C dX5_layer_71 rfl rfl (fun c_71 => ?_) (fun c_71 => ?_)
              · replace hz := (if_pos c_71).symm.trans hz
                refine j_aload_n 78 C dX5_layer_77 rfl rfl 1 rfl ?_
                refine j_iload 80 C dX5_layer_78 rfl 0 rfl ?_
                refine j_iconst 81 C (x := nI 0) dX5_layer_80 rfl (by decide) ?_
                obtain ⟨y81, e81, hz⟩ := ap_x hz
                refine s_V 84 C (As := [.int y58, .int (nI 0)]) cv_X5_113 (c_X5_end (l := l) (D := D) (K := K) (ad := ad) hG  (hz := e81)) dX5_layer_81 rfl 0 5 (GH_r hG (by decide)) rfl (CE_0 _) rfl rfl rfl rfl rfl rfl ⟨⟨Nat.le_of_ble_eq_true rfl, Nat.le_of_ble_eq_true rfl⟩, Nat.zero_le _, Nat.zero_le _⟩ (Nat.le_of_ble_eq_true rfl) (st' := [.int y81]) rfl (fun hE => ?_)
                refine j_iload_n 85 C dX5_layer_84 rfl rfl 3 rfl ?_
                refine j_ic_gt 91 88 C dX5_layer_85 rfl rfl (fun c_85 => ?_) (fun c_85 => ?_)
                · replace hz := (if_pos c_85).symm.trans hz
                  refine j_iinc 94 C (x' := nI (i39 + 1)) [(5, .int (nI (i39 + 1))), (6, .int y58), (0, .ref (ad 0)), (1, .int column), (2, .int depth), (3, .int c39.1), (4, .int c39.2)] dX5_layer_91 rfl 6 rfl (by rw [show Int32.ofInt 1 = nI 1 from by decide, nI_add]) (by decide) rfl ?_
                  refine j_goto 39 C dX5_layer_94 rfl ?_
                  subst hz
                  refine j_lv [2, 3, 4, 5, 6, 0] (lv' := [(0, .ref (ad 0)), (1, .int column), (2, .int depth), (3, .int c39.1), (4, .int c39.2), (5, .int (nI (i39 + 1)))]) rfl ?_
                  have hz := ho39
                  exact ih39 (i39 + 1) (c39.1, c39.2) (by omega) (by omega) (by omega) hz39
                · replace hz := (if_neg c_85).symm.trans hz
                  refine j_iinc 91 C (x' := c39.2 + nI 1) [(4, .int (c39.2 + nI 1)), (6, .int y58), (0, .ref (ad 0)), (1, .int column), (2, .int depth), (3, .int c39.1), (5, .int (nI i39))] dX5_layer_88 rfl 5 rfl (by rw [show Int32.ofInt 1 = nI 1 from by decide]) (by decide) rfl ?_
                  refine j_iinc 94 C (x' := nI (i39 + 1)) [(5, .int (nI (i39 + 1))), (4, .int (c39.2 + nI 1)), (6, .int y58), (0, .ref (ad 0)), (1, .int column), (2, .int depth), (3, .int c39.1)] dX5_layer_91 rfl 6 rfl (by rw [show Int32.ofInt 1 = nI 1 from by decide, nI_add]) (by decide) rfl ?_
                  refine j_goto 39 C dX5_layer_94 rfl ?_
                  subst hz
                  refine j_lv [3, 4, 5, 6, 1, 0] (lv' := [(0, .ref (ad 0)), (1, .int column), (2, .int depth), (3, .int c39.1), (4, .int (c39.2 + nI 1)), (5, .int (nI (i39 + 1)))]) rfl ?_
                  have hz := ho39
                  exact ih39 (i39 + 1) (c39.1, c39.2 + nI 1) (by omega) (by omega) (by omega) hz39
              · replace hz := (if_neg c_71).symm.trans hz
                refine j_iinc 77 C (x' := c39.1 + nI 1) [(3, .int (c39.1 + nI 1)), (6, .int y58), (0, .ref (ad 0)), (1, .int column), (2, .int depth), (4, .int c39.2), (5, .int (nI i39))] dX5_layer_74 rfl 4 rfl (by rw [show Int32.ofInt 1 = nI 1 from by decide]) (by decide) rfl ?_
                refine j_aload_n 78 C dX5_layer_77 rfl rfl 2 rfl ?_
                refine j_iload 80 C dX5_layer_78 rfl 1 rfl ?_
                refine j_iconst 81 C (x := nI 0) dX5_layer_80 rfl (by decide) ?_
                obtain ⟨y81, e81, hz⟩ := ap_x hz
                refine s_V 84 C (As := [.int y58, .int (nI 0)]) cv_X5_113 (c_X5_end (l := l) (D := D) (K := K) (ad := ad) hG  (hz := e81)) dX5_layer_81 rfl 0 5 (GH_r hG (by decide)) rfl (CE_0 _) rfl rfl rfl rfl rfl rfl ⟨⟨Nat.le_of_ble_eq_true rfl, Nat.le_of_ble_eq_true rfl⟩, Nat.zero_le _, Nat.zero_le _⟩ (Nat.le_of_ble_eq_true rfl) (st' := [.int y81]) rfl (fun hE => ?_)
                refine j_iload_n 85 C dX5_layer_84 rfl rfl 4 rfl ?_
                refine j_ic_gt 91 88 C dX5_layer_85 rfl rfl (fun c_85 => ?_) (fun c_85 => ?_)
                · replace hz := (if_pos c_85).symm.trans hz
                  refine j_iinc 94 C (x' := nI (i39 + 1)) [(5, .int (nI (i39 + 1))), (3, .int (c39.1 + nI 1)), (6, .int y58), (0, .ref (ad 0)), (1, .int column), (2, .int depth), (4, .int c39.2)] dX5_layer_91 rfl 6 rfl (by rw [show Int32.ofInt 1 = nI 1 from by decide, nI_add]) (by decide) rfl ?_
                  refine j_goto 39 C dX5_layer_94 rfl ?_
                  subst hz
                  refine j_lv [3, 4, 5, 1, 6, 0] (lv' := [(0, .ref (ad 0)), (1, .int column), (2, .int depth), (3, .int (c39.1 + nI 1)), (4, .int c39.2), (5, .int (nI (i39 + 1)))]) rfl ?_
                  have hz := ho39
                  exact ih39 (i39 + 1) (c39.1 + nI 1, c39.2) (by omega) (by omega) (by omega) hz39
                · replace hz := (if_neg c_85).symm.trans hz
                  refine j_iinc 91 C (x' := c39.2 + nI 1) [(4, .int (c39.2 + nI 1)), (3, .int (c39.1 + nI 1)), (6, .int y58), (0, .ref (ad 0)), (1, .int column), (2, .int depth), (5, .int (nI i39))] dX5_layer_88 rfl 5 rfl (by rw [show Int32.ofInt 1 = nI 1 from by decide]) (by decide) rfl ?_
                  refine j_iinc 94 C (x' := nI (i39 + 1)) [(5, .int (nI (i39 + 1))), (4, .int (c39.2 + nI 1)), (3, .int (c39.1 + nI 1)), (6, .int y58), (0, .ref (ad 0)), (1, .int column), (2, .int depth)] dX5_layer_91 rfl 6 rfl (by rw [show Int32.ofInt 1 = nI 1 from by decide, nI_add]) (by decide) rfl ?_
                  refine j_goto 39 C dX5_layer_94 rfl ?_
                  subst hz
                  refine j_lv [4, 5, 6, 2, 1, 0] (lv' := [(0, .ref (ad 0)), (1, .int column), (2, .int depth), (3, .int (c39.1 + nI 1)), (4, .int (c39.2 + nI 1)), (5, .int (nI (i39 + 1)))]) rfl ?_
                  have hz := ho39
                  exact ih39 (i39 + 1) (c39.1 + nI 1, c39.2 + nI 1) (by omega) (by omega) (by omega) hz39
        refine j_lv [3, 4, 5, 2, 1, 0] (lv' := [(0, .ref (ad 0)), (1, .int column), (2, .int depth), (3, .int (nI 0)), (4, .int (nI 0)), (5, .int (nI 0))]) rfl ?_
        exact L39 _ 0 (nI 0, nI 0) (by omega) (by omega) rfl ez39
      · replace hz := (if_pos c_26).symm.trans hz
        refine j_iconst 30 C (x := (-1)) dX5_layer_29 rfl (by decide) ?_
        subst hz
        exact j_retI C X dX5_layer_30 rfl ⟨rfl, rfl, rfl, rfl, trivial⟩
def m_X5_isPlaceCode (W S ns nc : Nat) (B : Nat → Option Nat) (σ : Nat → Nat → Int32) (code_ : Int32) : Int32 := (if code_ < 0 then nI 0 else ap (m_X2_hasPlace W S ns nc B σ (code_ / (nI 10)) (code_ - code_ / (nI 10) * (nI 10))) (fun (y16 : Int32) => (if y16 = 0 then nI 0 else nI 1)))
abbrev rm_X5_isPlaceCode : Room := { frames := 2, cells := 0, slots := 0, locals := 43 }
set_option maxHeartbeats 4000000 in
set_option maxRecDepth 100000 in
theorem c_X5_isPlaceCode {l : Launch} {D : va_G} {K : Nat → ClassId} {W S ns nc N : Nat} {ad : Nat → Nat} {B : Nat → Option Nat} {σ : Nat → Nat → Int32} (hG : GH W S ns nc N) {code_ : Int32}  {z : Int32} (hz : m_X5_isPlaceCode W S ns nc B σ code_ = z)  : MC l yX5_isPlaceCode cX5_isPlaceCode 2 (some .boolean) rm_X5_isPlaceCode D (TY K) N ad (CT K W S ns nc ad B σ) [.ref (ad 0), .int code_] (BS (some (.int z)) N ad (CT K W S ns nc ad B σ) (bl z)) := by
  have hW := hG.1; have hW8 := hG.2.1; have hS := hG.2.2.1; have hS4 := hG.2.2.2.1; have hns := hG.2.2.2.2.1; have hnc := hG.2.2.2.2.2.1; have hWS := GH_ws hG
  refine MC.of (by decide) (Nat.le_of_ble_eq_true rfl) (fun p e s m args below meth c Q A H0 C X => ?_)
  replace C : Cx p s m args meth c cX5_isPlaceCode RX5 2 D (TY K) A H0 := C
  show J p l e rm_X5_isPlaceCode s m args below meth c Q D A H0 2 0 0 N ad (CT K W S ns nc ad B σ) 0 [(0, .ref (ad 0)), (1, .int code_)] []
  unfold m_X5_isPlaceCode at hz
  refine j_iload_n 1 C dX5_isPlaceCode_0 rfl rfl 1 rfl ?_
  refine j_if_lt 26 4 C dX5_isPlaceCode_1 rfl rfl (fun c_1 => ?_) (fun c_1 => ?_)
  · replace hz := (if_pos c_1).symm.trans hz
    refine j_iconst 27 C (x := nI 0) dX5_isPlaceCode_26 rfl (by decide) ?_
    subst hz
    exact j_retI C X dX5_isPlaceCode_27 (bl_nar bl_0) ⟨rfl, rfl, rfl, rfl, bl_0⟩
  · replace hz := (if_neg c_1).symm.trans hz
    refine j_aload_n 5 C dX5_isPlaceCode_4 rfl rfl 0 rfl ?_
    refine k_get 8 C fl_X5_21 dX5_isPlaceCode_5 rfl 0 (GH_r hG (by decide)) _ rfl (CE_0 _) (.ref (ad 1)) rfl ?_
    refine j_iload_n 9 C dX5_isPlaceCode_8 rfl rfl 1 rfl ?_
    refine j_bipush 11 C (x := nI 10) dX5_isPlaceCode_9 rfl (by decide) ?_
    refine j_idiv 12 C dX5_isPlaceCode_11 rfl (by decide) rfl ?_
    refine j_iload_n 13 C dX5_isPlaceCode_12 rfl rfl 1 rfl ?_
    refine j_bipush 15 C (x := nI 10) dX5_isPlaceCode_13 rfl (by decide) ?_
    refine j_irem 16 C dX5_isPlaceCode_15 rfl (by decide) rfl ?_
    obtain ⟨y16, e16, hz⟩ := ap_x hz
    refine s_V 19 C (As := [.int (code_ / (nI 10)), .int (code_ - code_ / (nI 10) * (nI 10))]) cv_X5_81 (c_X2_hasPlace (l := l) (D := D) (K := K) (ad := ad) hG  (hz := e16)) dX5_isPlaceCode_16 rfl 1 2 (GH_r hG (by decide)) rfl (CE_1 _) rfl rfl rfl rfl rfl rfl ⟨⟨Nat.le_of_ble_eq_true rfl, Nat.le_of_ble_eq_true rfl⟩, Nat.zero_le _, Nat.zero_le _⟩ (Nat.le_of_ble_eq_true rfl) (st' := [.int y16]) rfl (fun hE => ?_)
    have hbl16 : bl y16 := hE
    refine j_if_eq 26 22 C dX5_isPlaceCode_19 rfl rfl (fun c_19 => ?_) (fun c_19 => ?_)
    · replace hz := (if_pos c_19).symm.trans hz
      refine j_iconst 27 C (x := nI 0) dX5_isPlaceCode_26 rfl (by decide) ?_
      subst hz
      exact j_retI C X dX5_isPlaceCode_27 (bl_nar bl_0) ⟨rfl, rfl, rfl, rfl, bl_0⟩
    · replace hz := (if_neg c_19).symm.trans hz
      refine j_iconst 23 C (x := nI 1) dX5_isPlaceCode_22 rfl (by decide) ?_
      refine j_goto 27 C dX5_isPlaceCode_23 rfl ?_
      subst hz
      exact j_retI C X dX5_isPlaceCode_27 (bl_nar bl_1) ⟨rfl, rfl, rfl, rfl, bl_1⟩
def m_X5_between (W S ns nc : Nat) (B : Nat → Option Nat) (σ : Nat → Nat → Int32) (one : Int32) (other : Int32) (what : Int32) : Int32 × (Nat → Nat → Int32) := ap (m_X5_isPlaceCode W S ns nc B σ one) (fun (y2 : Int32) => (if y2 = 0 then ((-2147483648), σ) else ap (m_X5_isPlaceCode W S ns nc B σ other) (fun (y10 : Int32) => (if y10 = 0 then ((-2147483648), σ) else ap (m_X5_isEnd W S ns nc B σ what) (fun (y17 : Int32) => (if y17 = 0 then ((-2147483648), σ) else ap (m_X0_areSome W S ns nc B σ) (fun (y27 : Int32 × (Nat → Nat → Int32)) => (if y27.1 = 0 then ((-2147483648), y27.2) else ap (m_X2_placeOf W S ns nc B y27.2 (one / (nI 10)) (one - one / (nI 10) * (nI 10))) (fun (y48 : Int32) => ap (m_X2_placeOf W S ns nc B y27.2 (other / (nI 10)) (other - other / (nI 10) * (nI 10))) (fun (y65 : Int32) => ap (m_X0_agreed W S ns nc B y27.2) (fun (y74 : ) => (if what = 0 then ap (m_X1_most W S ns nc B y27.2 11 y65 y48) (fun (y89 : Int32) => (-y89, y27.2)) else ap (m_X1_most W S ns nc B y27.2 11 y48 y65) (fun (y102 : Int32) => (y102, y27.2))))))))))))))
abbrev rm_X5_between : Room := { frames := 18, cells := 0, slots := 0, locals := 540 }
set_option maxHeartbeats 4000000 in
set_option maxRecDepth 100000 in
theorem c_X5_between {l : Launch} {D : va_G} {K : Nat → ClassId} {W S ns nc N : Nat} {ad : Nat → Nat} {B : Nat → Option Nat} {σ : Nat → Nat → Int32} (hG : GH W S ns nc N) {one : Int32} {other : Int32} {what : Int32}  {z : Int32 × (Nat → Nat → Int32)} (hz : m_X5_between W S ns nc B σ one other what = z) (hB : BOK B N) (hb7 : bl (σ 9 7)) : MC l yX5_between cX5_between 7 (some .int) rm_X5_between D (TY K) N ad (CT K W S ns nc ad B σ) [.ref (ad 0), .int one, .int other, .int what] (BS (some (.int z.1)) N ad (CT K W S ns nc ad B z.2) True) := by
  have hW := hG.1; have hW8 := hG.2.1; have hS := hG.2.2.1; have hS4 := hG.2.2.2.1; have hns := hG.2.2.2.2.1; have hnc := hG.2.2.2.2.2.1; have hWS := GH_ws hG
  refine MC.of (by decide) (Nat.le_of_ble_eq_true rfl) (fun p e s m args below meth c Q A H0 C X => ?_)
  replace C : Cx p s m args meth c cX5_between RX5 7 D (TY K) A H0 := C
  show J p l e rm_X5_between s m args below meth c Q D A H0 7 0 0 N ad (CT K W S ns nc ad B σ) 0 [(0, .ref (ad 0)), (1, .int one), (2, .int other), (3, .int what)] []
  unfold m_X5_between at hz
  refine j_aload_n 1 C dX5_between_0 rfl rfl 0 rfl ?_
  refine j_iload_n 2 C dX5_between_1 rfl rfl 1 rfl ?_
  obtain ⟨y2, e2, hz⟩ := ap_x hz
  refine s_V 5 C (As := [.int one]) cv_X5_128 (c_X5_isPlaceCode (l := l) (D := D) (K := K) (ad := ad) hG  (hz := e2)) dX5_between_2 rfl 0 5 (GH_r hG (by decide)) rfl (CE_0 _) rfl rfl rfl rfl rfl rfl ⟨⟨Nat.le_of_ble_eq_true rfl, Nat.le_of_ble_eq_true rfl⟩, Nat.zero_le _, Nat.zero_le _⟩ (Nat.le_of_ble_eq_true rfl) (st' := [.int y2]) rfl (fun hE => ?_)
  have hbl2 : bl y2 := hE
  refine j_if_eq 33 8 C dX5_between_5 rfl rfl (fun c_5 => ?_) (fun c_5 => ?_)
  · replace hz := (if_pos c_5).symm.trans hz
    refine j_ldc 35 C (x' := (-2147483648)) wv_X5_131 dX5_between_33 rfl (by decide) ?_
    subst hz
    exact j_retI C X dX5_between_35 rfl ⟨rfl, rfl, rfl, rfl, trivial⟩
  · replace hz := (if_neg c_5).symm.trans hz
    refine j_aload_n 9 C dX5_between_8 rfl rfl 0 rfl ?_
    refine j_iload_n 10 C dX5_between_9 rfl rfl 2 rfl ?_
    obtain ⟨y10, e10, hz⟩ := ap_x hz
    refine s_V 13 C (As := [.int other]) cv_X5_128 (c_X5_isPlaceCode (l := l) (D := D) (K := K) (ad := ad) hG  (hz := e10)) dX5_between_10 rfl 0 5 (GH_r hG (by decide)) rfl (CE_0 _) rfl rfl rfl rfl rfl rfl ⟨⟨Nat.le_of_ble_eq_true rfl, Nat.le_of_ble_eq_true rfl⟩, Nat.zero_le _, Nat.zero_le _⟩ (Nat.le_of_ble_eq_true rfl) (st' := [.int y10]) rfl (fun hE => ?_)
    have hbl10 : bl y10 := hE
    refine j_if_eq 33 16 C dX5_between_13 rfl rfl (fun c_13 => ?_) (fun c_13 => ?_)
    · replace hz := (if_pos c_13).symm.trans hz
      refine j_ldc 35 C (x' := (-2147483648)) wv_X5_131 dX5_between_33 rfl (by decide) ?_
      subst hz
      exact j_retI C X dX5_between_35 rfl ⟨rfl, rfl, rfl, rfl, trivial⟩
    · replace hz := (if_neg c_13).symm.trans hz
      refine j_iload_n 17 C dX5_between_16 rfl rfl 3 rfl ?_
      obtain ⟨y17, e17, hz⟩ := ap_x hz
      refine s_S 20 C (As := [.int what]) cs_X5_107 (c_X5_isEnd (l := l) (D := D) (K := K) (ad := ad) hG  (hz := e17)) dX5_between_17 rfl rfl rfl rfl rfl ⟨⟨Nat.le_of_ble_eq_true rfl, Nat.le_of_ble_eq_true rfl⟩, Nat.zero_le _, Nat.zero_le _⟩ (Nat.le_of_ble_eq_true rfl) (st' := [.int y17]) rfl (fun hE => ?_)
      have hbl17 : bl y17 := hE
      refine j_if_eq 33 23 C dX5_between_20 rfl rfl (fun c_20 => ?_) (fun c_20 => ?_)
      · replace hz := (if_pos c_20).symm.trans hz
        refine j_ldc 35 C (x' := (-2147483648)) wv_X5_131 dX5_between_33 rfl (by decide) ?_
        subst hz
        exact j_retI C X dX5_between_35 rfl ⟨rfl, rfl, rfl, rfl, trivial⟩
      · replace hz := (if_neg c_20).symm.trans hz
        refine j_aload_n 24 C dX5_between_23 rfl rfl 0 rfl ?_
        refine k_get 27 C fl_X5_39 dX5_between_24 rfl 0 (GH_r hG (by decide)) _ rfl (CE_0 _) (.ref (ad 9)) rfl ?_
        obtain ⟨y27, e27, hz⟩ := ap_x hz
        refine s_V 30 C (As := []) cv_X5_99 (c_X0_areSome (l := l) (D := D) (K := K) (ad := ad) hG (hB := hB) (hb7 := hb7) (hz := e27)) dX5_between_27 rfl 9 0 (GH_r hG (by decide)) rfl (CE_9 _) rfl rfl rfl rfl rfl rfl ⟨⟨Nat.le_of_ble_eq_true rfl, Nat.le_of_ble_eq_true rfl⟩, Nat.zero_le _, Nat.zero_le _⟩ (Nat.le_of_ble_eq_true rfl) (st' := [.int y27.1]) rfl (fun hE => ?_)
        have hbl27 : bl y27.1 := hE
        refine j_if_ne 36 33 C dX5_between_30 rfl rfl (fun c_30 => ?_) (fun c_30 => ?_)
        · replace hz := (if_neg c_30).symm.trans hz
          refine j_aload_n 37 C dX5_between_36 rfl rfl 0 rfl ?_
          refine k_get 40 C fl_X5_21 dX5_between_37 rfl 0 (GH_r hG (by decide)) _ rfl (CE_0 _) (.ref (ad 1)) rfl ?_
          refine j_iload_n 41 C dX5_between_40 rfl rfl 1 rfl ?_
          refine j_bipush 43 C (x := nI 10) dX5_between_41 rfl (by decide) ?_
          refine j_idiv 44 C dX5_between_43 rfl (by decide) rfl ?_
          refine j_iload_n 45 C dX5_between_44 rfl rfl 1 rfl ?_
          refine j_bipush 47 C (x := nI 10) dX5_between_45 rfl (by decide) ?_
          refine j_irem 48 C dX5_between_47 rfl (by decide) rfl ?_
          obtain ⟨y48, e48, hz⟩ := ap_x hz
          refine s_V 51 C (As := [.int (one / (nI 10)), .int (one - one / (nI 10) * (nI 10))]) cv_X5_110 (c_X2_placeOf (l := l) (D := D) (K := K) (ad := ad) hG  (hz := e48)) dX5_between_48 rfl 1 2 (GH_r hG (by decide)) rfl (CE_1 _) rfl rfl rfl rfl rfl rfl ⟨⟨Nat.le_of_ble_eq_true rfl, Nat.le_of_ble_eq_true rfl⟩, Nat.zero_le _, Nat.zero_le _⟩ (Nat.le_of_ble_eq_true rfl) (st' := [.int y48]) rfl (fun hE => ?_)
          refine j_istore 53 C [(4, .int y48), (0, .ref (ad 0)), (1, .int one), (2, .int other), (3, .int what)] dX5_between_51 rfl (by decide) rfl ?_
          refine j_aload_n 54 C dX5_between_53 rfl rfl 1 rfl ?_
          refine k_get 57 C fl_X5_21 dX5_between_54 rfl 0 (GH_r hG (by decide)) _ rfl (CE_0 _) (.ref (ad 1)) rfl ?_
          refine j_iload_n 58 C dX5_between_57 rfl rfl 3 rfl ?_
          refine j_bipush 60 C (x := nI 10) dX5_between_58 rfl (by decide) ?_
          refine j_idiv 61 C dX5_between_60 rfl (by decide) rfl ?_
          refine j_iload_n 62 C dX5_between_61 rfl rfl 3 rfl ?_
          refine j_bipush 64 C (x := nI 10) dX5_between_62 rfl (by decide) ?_
          refine j_irem 65 C dX5_between_64 rfl (by decide) rfl ?_
          obtain ⟨y65, e65, hz⟩ := ap_x hz
          refine s_V 68 C (As := [.int (other / (nI 10)), .int (other - other / (nI 10) * (nI 10))]) cv_X5_110 (c_X2_placeOf (l := l) (D := D) (K := K) (ad := ad) hG  (hz := e65)) dX5_between_65 rfl 1 2 (GH_r hG (by decide)) rfl (CE_1 _) rfl rfl rfl rfl rfl rfl ⟨⟨Nat.le_of_ble_eq_true rfl, Nat.le_of_ble_eq_true rfl⟩, Nat.zero_le _, Nat.zero_le _⟩ (Nat.le_of_ble_eq_true rfl) (st' := [.int y65]) rfl (fun hE => ?_)
          refine j_istore 70 C [(5, .int y65), (4, .int y48), (0, .ref (ad 0)), (1, .int one), (2, .int other), (3, .int what)] dX5_between_68 rfl (by decide) rfl ?_
          refine j_aload_n 71 C dX5_between_70 rfl rfl 2 rfl ?_
          refine k_get 74 C fl_X5_39 dX5_between_71 rfl 0 (GH_r hG (by decide)) _ rfl (CE_0 _) (.ref (ad 9)) rfl ?_
          obtain ⟨y74, e74, hz⟩ := ap_x hz
          refine s_V 77 C (As := []) cv_X5_116 (c_X0_agreed (l := l) (D := D) (K := K) (ad := ad) hG  (hz := e74)) dX5_between_74 rfl 9 0 (GH_r hG (by decide)) rfl (CE_9 _) rfl rfl rfl rfl rfl rfl ⟨⟨Nat.le_of_ble_eq_true rfl, Nat.le_of_ble_eq_true rfl⟩, Nat.zero_le _, Nat.zero_le _⟩ (Nat.le_of_ble_eq_true rfl) (st' := [.ref (ad 33)]) rfl (fun hE => ?_)
          refine j_astore 79 C [(6, .ref (ad 33)), (5, .int y65), (4, .int y48), (0, .ref (ad 0)), (1, .int one), (2, .int other), (3, .int what)] dX5_between_77 rfl (by decide) rfl ?_
          refine j_iload_n 80 C dX5_between_79 rfl rfl 6 rfl ?_
          refine j_if_ne 96 83 C dX5_between_80 rfl rfl (fun c_80 => ?_) (fun c_80 => ?_)
          · replace hz := (if_neg c_80).symm.trans hz
            refine j_aload 98 C dX5_between_96 rfl 0 rfl ?_
            refine j_iload 100 C dX5_between_98 rfl 2 rfl ?_
            refine j_iload 102 C dX5_between_100 rfl 1 rfl ?_
            obtain ⟨y102, e102, hz⟩ := ap_x hz
            refine s_V 105 C (As := [.int y48, .int y65]) cv_X5_132 (c_X1_most (l := l) (D := D) (K := K) (ad := ad) hG (hg := by decide) (hz := e102)) dX5_between_102 rfl 33 1 (GH_r hG (by decide)) rfl (CE_go (g := 11) (by decide) _) rfl rfl rfl rfl rfl rfl ⟨⟨Nat.le_of_ble_eq_true rfl, Nat.le_of_ble_eq_true rfl⟩, Nat.zero_le _, Nat.zero_le _⟩ (Nat.le_of_ble_eq_true rfl) (st' := [.int y102]) rfl (fun hE => ?_)
            subst hz
            exact j_retI C X dX5_between_105 rfl ⟨rfl, rfl, rfl, rfl, trivial⟩
          · replace hz := (if_pos c_80).symm.trans hz
            refine j_aload 85 C dX5_between_83 rfl 0 rfl ?_
            refine j_iload 87 C dX5_between_85 rfl 1 rfl ?_
            refine j_iload 89 C dX5_between_87 rfl 2 rfl ?_
            obtain ⟨y89, e89, hz⟩ := ap_x hz
            refine s_V 92 C (As := [.int y65, .int y48]) cv_X5_132 (c_X1_most (l := l) (D := D) (K := K) (ad := ad) hG (hg := by decide) (hz := e89)) dX5_between_89 rfl 33 1 (GH_r hG (by decide)) rfl (CE_go (g := 11) (by decide) _) rfl rfl rfl rfl rfl rfl ⟨⟨Nat.le_of_ble_eq_true rfl, Nat.le_of_ble_eq_true rfl⟩, Nat.zero_le _, Nat.zero_le _⟩ (Nat.le_of_ble_eq_true rfl) (st' := [.int y89]) rfl (fun hE => ?_)
            refine j_ineg 93 C dX5_between_92 rfl rfl ?_
            refine j_goto 105 C dX5_between_93 rfl ?_
            subst hz
            exact j_retI C X dX5_between_105 rfl ⟨rfl, rfl, rfl, rfl, trivial⟩
        · replace hz := (if_pos c_30).symm.trans hz
          refine j_ldc 35 C (x' := (-2147483648)) wv_X5_131 dX5_between_33 rfl (by decide) ?_
          subst hz
          exact j_retI C X dX5_between_35 rfl ⟨rfl, rfl, rfl, rfl, trivial⟩
def m_X5_worn (W S ns nc : Nat) (B : Nat → Option Nat) (σ : Nat → Nat → Int32) (surface : Int32) (column : Int32) : Int32 × (Nat → Nat → Int32) := ap (m_X2_hasPlace W S ns nc B σ surface column) (fun (y6 : Int32) => (if y6 = 0 then ((-1), σ) else ap (m_X0_areSome W S ns nc B σ) (fun (y16 : Int32 × (Nat → Nat → Int32)) => (if y16.1 = 0 then ((-1), y16.2) else (if column < (nI W) then ap (m_X2_placeOf W S ns nc B y16.2 surface column) (fun (y39 : Int32) => ap (m_X5_end W S ns nc B y16.2 y39 (nI 1)) (fun (y46 : Int32) => (if ((y16.2 35) (column).toNatClampNeg) ≤ y46 then ap (m_X5_end W S ns nc B y16.2 y39 (nI 0)) (fun (y63 : Int32) => (if ((y16.2 35) (column).toNatClampNeg) ≤ y63 then (nI 0, y16.2) else (nI 1, y16.2))) else (nI 2, y16.2)))) else ((-1), y16.2))))))
abbrev rm_X5_worn : Room := { frames := 18, cells := 0, slots := 0, locals := 540 }
set_option maxHeartbeats 4000000 in
set_option maxRecDepth 100000 in
theorem c_X5_worn {l : Launch} {D : va_G} {K : Nat → ClassId} {W S ns nc N : Nat} {ad : Nat → Nat} {B : Nat → Option Nat} {σ : Nat → Nat → Int32} (hG : GH W S ns nc N) {surface : Int32} {column : Int32}  {z : Int32 × (Nat → Nat → Int32)} (hz : m_X5_worn W S ns nc B σ surface column = z) (hB : BOK B N) (hb7 : bl (σ 9 7)) : MC l yX5_worn cX5_worn 4 (some .int) rm_X5_worn D (TY K) N ad (CT K W S ns nc ad B σ) [.ref (ad 0), .int surface, .int column] (BS (some (.int z.1)) N ad (CT K W S ns nc ad B z.2) True) := by
  have hW := hG.1; have hW8 := hG.2.1; have hS := hG.2.2.1; have hS4 := hG.2.2.2.1; have hns := hG.2.2.2.2.1; have hnc := hG.2.2.2.2.2.1; have hWS := GH_ws hG
  refine MC.of (by decide) (Nat.le_of_ble_eq_true rfl) (fun p e s m args below meth c Q A H0 C X => ?_)
  replace C : Cx p s m args meth c cX5_worn RX5 4 D (TY K) A H0 := C
  show J p l e rm_X5_worn s m args below meth c Q D A H0 4 0 0 N ad (CT K W S ns nc ad B σ) 0 [(0, .ref (ad 0)), (1, .int surface), (2, .int column)] []
  unfold m_X5_worn at hz
  refine j_aload_n 1 C dX5_worn_0 rfl rfl 0 rfl ?_
  refine k_get 4 C fl_X5_21 dX5_worn_1 rfl 0 (GH_r hG (by decide)) _ rfl (CE_0 _) (.ref (ad 1)) rfl ?_
  refine j_iload_n 5 C dX5_worn_4 rfl rfl 1 rfl ?_
  refine j_iload_n 6 C dX5_worn_5 rfl rfl 2 rfl ?_
  obtain ⟨y6, e6, hz⟩ := ap_x hz
  refine s_V 9 C (As := [.int surface, .int column]) cv_X5_81 (c_X2_hasPlace (l := l) (D := D) (K := K) (ad := ad) hG  (hz := e6)) dX5_worn_6 rfl 1 2 (GH_r hG (by decide)) rfl (CE_1 _) rfl rfl rfl rfl rfl rfl ⟨⟨Nat.le_of_ble_eq_true rfl, Nat.le_of_ble_eq_true rfl⟩, Nat.zero_le _, Nat.zero_le _⟩ (Nat.le_of_ble_eq_true rfl) (st' := [.int y6]) rfl (fun hE => ?_)
  have hbl6 : bl y6 := hE
  refine j_if_eq 31 12 C dX5_worn_9 rfl rfl (fun c_9 => ?_) (fun c_9 => ?_)
  · replace hz := (if_pos c_9).symm.trans hz
    refine j_iconst 32 C (x := (-1)) dX5_worn_31 rfl (by decide) ?_
    subst hz
    exact j_retI C X dX5_worn_32 rfl ⟨rfl, rfl, rfl, rfl, trivial⟩
  · replace hz := (if_neg c_9).symm.trans hz
    obtain ⟨ks, kc, hks, hkc, eks, ekc⟩ := hasPlace_nat hG e6 c_9
    refine j_aload_n 13 C dX5_worn_12 rfl rfl 0 rfl ?_
    refine k_get 16 C fl_X5_39 dX5_worn_13 rfl 0 (GH_r hG (by decide)) _ rfl (CE_0 _) (.ref (ad 9)) rfl ?_
    obtain ⟨y16, e16, hz⟩ := ap_x hz
    refine s_V 19 C (As := []) cv_X5_99 (c_X0_areSome (l := l) (D := D) (K := K) (ad := ad) hG (hB := hB) (hb7 := hb7) (hz := e16)) dX5_worn_16 rfl 9 0 (GH_r hG (by decide)) rfl (CE_9 _) rfl rfl rfl rfl rfl rfl ⟨⟨Nat.le_of_ble_eq_true rfl, Nat.le_of_ble_eq_true rfl⟩, Nat.zero_le _, Nat.zero_le _⟩ (Nat.le_of_ble_eq_true rfl) (st' := [.int y16.1]) rfl (fun hE => ?_)
    have hbl16 : bl y16.1 := hE
    refine j_if_eq 31 22 C dX5_worn_19 rfl rfl (fun c_19 => ?_) (fun c_19 => ?_)
    · replace hz := (if_pos c_19).symm.trans hz
      refine j_iconst 32 C (x := (-1)) dX5_worn_31 rfl (by decide) ?_
      subst hz
      exact j_retI C X dX5_worn_32 rfl ⟨rfl, rfl, rfl, rfl, trivial⟩
    · replace hz := (if_neg c_19).symm.trans hz
      refine j_iload_n 23 C dX5_worn_22 rfl rfl 2 rfl ?_
      refine j_aload_n 24 C dX5_worn_23 rfl rfl 0 rfl ?_
      refine k_get 27 C fl_X5_43 dX5_worn_24 rfl 0 (GH_r hG (by decide)) _ rfl (CE_0 _) (.ref (ad 35)) rfl ?_
      refine k_alen 28 C dX5_worn_27 rfl 35 (GH_r hG (by decide)) 0 (CE_35 _) rfl ?_
      refine j_ic_lt 33 31 C dX5_worn_28 rfl rfl (fun c_28 => ?_) (fun c_28 => ?_)
      · replace hz := (if_pos c_28).symm.trans hz
        have n_28 := nat_lt (a := kc) (b := W) (by simp only [eks, ekc, nI_add, pk_mul]) rfl (by omega) (by omega) c_28
        refine j_aload_n 34 C dX5_worn_33 rfl rfl 0 rfl ?_
        refine k_get 37 C fl_X5_21 dX5_worn_34 rfl 0 (GH_r hG (by decide)) _ rfl (CE_0 _) (.ref (ad 1)) rfl ?_
        refine j_iload_n 38 C dX5_worn_37 rfl rfl 1 rfl ?_
        refine j_iload_n 39 C dX5_worn_38 rfl rfl 2 rfl ?_
        obtain ⟨y39, e39, hz⟩ := ap_x hz
        refine s_V 42 C (As := [.int surface, .int column]) cv_X5_110 (c_X2_placeOf (l := l) (D := D) (K := K) (ad := ad) hG  (hz := e39)) dX5_worn_39 rfl 1 2 (GH_r hG (by decide)) rfl (CE_1 _) rfl rfl rfl rfl rfl rfl ⟨⟨Nat.le_of_ble_eq_true rfl, Nat.le_of_ble_eq_true rfl⟩, Nat.zero_le _, Nat.zero_le _⟩ (Nat.le_of_ble_eq_true rfl) (st' := [.int y39]) rfl (fun hE => ?_)
        refine j_istore_n 43 C [(3, .int y39), (0, .ref (ad 0)), (1, .int surface), (2, .int column)] dX5_worn_42 rfl rfl (by decide) rfl ?_
        refine j_aload_n 44 C dX5_worn_43 rfl rfl 1 rfl ?_
        refine j_iload_n 45 C dX5_worn_44 rfl rfl 0 rfl ?_
        refine j_iconst 46 C (x := nI 1) dX5_worn_45 rfl (by decide) ?_
        obtain ⟨y46, e46, hz⟩ := ap_x hz
        refine s_V 49 C (As := [.int y39, .int (nI 1)]) cv_X5_113 (c_X5_end (l := l) (D := D) (K := K) (ad := ad) hG  (hz := e46)) dX5_worn_46 rfl 0 5 (GH_r hG (by decide)) rfl (CE_0 _) rfl rfl rfl rfl rfl rfl ⟨⟨Nat.le_of_ble_eq_true rfl, Nat.le_of_ble_eq_true rfl⟩, Nat.zero_le _, Nat.zero_le _⟩ (Nat.le_of_ble_eq_true rfl) (st' := [.int y46]) rfl (fun hE => ?_)
        refine j_aload_n 50 C dX5_worn_49 rfl rfl 1 rfl ?_
        refine k_get 53 C fl_X5_43 dX5_worn_50 rfl 0 (GH_r hG (by decide)) _ rfl (CE_0 _) (.ref (ad 35)) rfl ?_
        refine j_iload_n 54 C dX5_worn_53 rfl rfl 3 rfl ?_
        refine k_iald 55 C dX5_worn_54 rfl 35 (GH_r hG (by decide)) (y16.2 35) rfl CE_35 (vp_inE (n := kc) (by simp only [eks, ekc, nI_add, pk_mul]) (by omega) (by omega)) ?_
        refine j_ic_ge 60 58 C dX5_worn_55 rfl rfl (fun c_55 => ?_) (fun c_55 => ?_)
        · replace hz := (if_pos c_55).symm.trans hz
          refine j_aload_n 61 C dX5_worn_60 rfl rfl 1 rfl ?_
          refine j_iload_n 62 C dX5_worn_61 rfl rfl 0 rfl ?_
          refine j_iconst 63 C (x := nI 0) dX5_worn_62 rfl (by decide) ?_
          obtain ⟨y63, e63, hz⟩ := ap_x hz
          refine s_V 66 C (As := [.int y39, .int (nI 0)]) cv_X5_113 (c_X5_end (l := l) (D := D) (K := K) (ad := ad) hG  (hz := e63)) dX5_worn_63 rfl 0 5 (GH_r hG (by decide)) rfl (CE_0 _) rfl rfl rfl rfl rfl rfl ⟨⟨Nat.le_of_ble_eq_true rfl, Nat.le_of_ble_eq_true rfl⟩, Nat.zero_le _, Nat.zero_le _⟩ (Nat.le_of_ble_eq_true rfl) (st' := [.int y63]) rfl (fun hE => ?_)
          refine j_aload_n 67 C dX5_worn_66 rfl rfl 1 rfl ?_
          refine k_get 70 C fl_X5_43 dX5_worn_67 rfl 0 (GH_r hG (by decide)) _ rfl (CE_0 _) (.ref (ad 35)) rfl ?_
          refine j_iload_n 71 C dX5_worn_70 rfl rfl 3 rfl ?_
          refine k_iald 72 C dX5_worn_71 rfl 35 (GH_r hG (by decide)) (y16.2 35) rfl CE_35 (vp_inE (n := kc) (by simp only [eks, ekc, nI_add, pk_mul]) (by omega) (by omega)) ?_
          refine j_ic_ge 79 75 C dX5_worn_72 rfl rfl (fun c_72 => ?_) (fun c_72 => ?_)
          · replace hz := (if_pos c_72).symm.trans hz
            refine j_iconst 80 C (x := nI 0) dX5_worn_79 rfl (by decide) ?_
            subst hz
            exact j_retI C X dX5_worn_80 rfl ⟨rfl, rfl, rfl, rfl, trivial⟩
          · replace hz := (if_neg c_72).symm.trans hz
            refine j_iconst 76 C (x := nI 1) dX5_worn_75 rfl (by decide) ?_
            refine j_goto 80 C dX5_worn_76 rfl ?_
            subst hz
            exact j_retI C X dX5_worn_80 rfl ⟨rfl, rfl, rfl, rfl, trivial⟩
        · replace hz := (if_neg c_55).symm.trans hz
          refine j_iconst 59 C (x := nI 2) dX5_worn_58 rfl (by decide) ?_
          subst hz
          exact j_retI C X dX5_worn_59 rfl ⟨rfl, rfl, rfl, rfl, trivial⟩
      · replace hz := (if_neg c_28).symm.trans hz
        have n_28 := nat_nlt (a := kc) (b := W) (by simp only [eks, ekc, nI_add, pk_mul]) rfl (by omega) (by omega) c_28
        refine j_iconst 32 C (x := (-1)) dX5_worn_31 rfl (by decide) ?_
        subst hz
        exact j_retI C X dX5_worn_32 rfl ⟨rfl, rfl, rfl, rfl, trivial⟩
def m_X5_gain_L24 (W S ns nc : Nat) (B : Nat → Option Nat) (σ : Nat → Nat → Int32) (place : Int32) (i24 : Nat) (c24 : Int32) : Int32 := ap (m_X1_openSumAfterBore W S ns nc B σ 11 place (nI i24)) (fun (y36 : Int32) => ap ((if c24 < y36 then y36 else c24)) (fun (x42 : Int32) => x42))
def m_X5_gain (W S ns nc : Nat) (B : Nat → Option Nat) (σ : Nat → Nat → Int32) (place : Int32) : Int32 := ap (m_X0_agreed W S ns nc B σ) (fun (y4 : ) => ap (m_X1_greatest W S ns nc B σ 11 place) (fun (y10 : Int32) => ap (m_X1_least W S ns nc B σ 11 place) (fun (y19 : Int32) => ap (lp (m_X5_gain_L24 W S ns nc B σ place) (((y10).toNatClampNeg) + 1 - ((y19).toNatClampNeg)) ((y19).toNatClampNeg) (nI 0)) (fun (z24 : Int32) => ap (m_X1_openSum W S ns nc B σ 11) (fun (y51 : Int32) => y51 - z24)))))
abbrev rm_X5_gain : Room := { frames := 4, cells := 0, slots := 0, locals := 86 }
set_option maxHeartbeats 4000000 in
set_option maxRecDepth 100000 in
theorem c_X5_gain {l : Launch} {D : va_G} {K : Nat → ClassId} {W S ns nc N : Nat} {ad : Nat → Nat} {B : Nat → Option Nat} {σ : Nat → Nat → Int32} (hG : GH W S ns nc N) {lo hi : Nat} {place : Int32}  {z : Int32} (hz : m_X5_gain W S ns nc B σ place = z) (hlo4 : lo < 4000) (hhi4 : hi < 4000) (hlo : m_X1_least W S ns nc B σ 11 place = nI lo) (hhi : m_X1_greatest W S ns nc B σ 11 place = nI hi) : MC l yX5_gain cX5_gain 6 (some .int) rm_X5_gain D (TY K) N ad (CT K W S ns nc ad B σ) [.ref (ad 0), .int place] (BS (some (.int z)) N ad (CT K W S ns nc ad B σ) True) := by
  have hW := hG.1; have hW8 := hG.2.1; have hS := hG.2.2.1; have hS4 := hG.2.2.2.1; have hns := hG.2.2.2.2.1; have hnc := hG.2.2.2.2.2.1; have hWS := GH_ws hG
  refine MC.of (by decide) (Nat.le_of_ble_eq_true rfl) (fun p e s m args below meth c Q A H0 C X => ?_)
  replace C : Cx p s m args meth c cX5_gain RX5 6 D (TY K) A H0 := C
  show J p l e rm_X5_gain s m args below meth c Q D A H0 6 0 0 N ad (CT K W S ns nc ad B σ) 0 [(0, .ref (ad 0)), (1, .int place)] []
  unfold m_X5_gain at hz
  refine j_aload_n 1 C dX5_gain_0 rfl rfl 0 rfl ?_
  refine k_get 4 C fl_X5_39 dX5_gain_1 rfl 0 (GH_r hG (by decide)) _ rfl (CE_0 _) (.ref (ad 9)) rfl ?_
  obtain ⟨y4, e4, hz⟩ := ap_x hz
  refine s_V 7 C (As := []) cv_X5_116 (c_X0_agreed (l := l) (D := D) (K := K) (ad := ad) hG  (hz := e4)) dX5_gain_4 rfl 9 0 (GH_r hG (by decide)) rfl (CE_9 _) rfl rfl rfl rfl rfl rfl ⟨⟨Nat.le_of_ble_eq_true rfl, Nat.le_of_ble_eq_true rfl⟩, Nat.zero_le _, Nat.zero_le _⟩ (Nat.le_of_ble_eq_true rfl) (st' := [.ref (ad 33)]) rfl (fun hE => ?_)
  refine j_astore_n 8 C [(2, .ref (ad 33)), (0, .ref (ad 0)), (1, .int place)] dX5_gain_7 rfl rfl (by decide) rfl ?_
  refine j_aload_n 9 C dX5_gain_8 rfl rfl 0 rfl ?_
  refine j_iload_n 10 C dX5_gain_9 rfl rfl 2 rfl ?_
  obtain ⟨y10, e10, hz⟩ := ap_x hz
  refine s_V 13 C (As := [.int place]) cv_X5_178 (c_X1_greatest (l := l) (D := D) (K := K) (ad := ad) hG (hg := by decide) (hz := e10)) dX5_gain_10 rfl 33 1 (GH_r hG (by decide)) rfl (CE_go (g := 11) (by decide) _) rfl rfl rfl rfl rfl rfl ⟨⟨Nat.le_of_ble_eq_true rfl, Nat.le_of_ble_eq_true rfl⟩, Nat.zero_le _, Nat.zero_le _⟩ (Nat.le_of_ble_eq_true rfl) (st' := [.int y10]) rfl (fun hE => ?_)
  have hy10 : (y10).toNatClampNeg = hi := by rw [← e10, hhi]; exact nI_clamp (by omega)
  have ey10 : y10 = nI (y10).toNatClampNeg := by rw [hy10, ← e10, hhi]
  refine j_st (st' := [.int (nI ((y10).toNatClampNeg))]) (by rw [← ey10]) ?_
  refine j_istore_n 14 C [(3, .int (nI ((y10).toNatClampNeg))), (2, .ref (ad 33)), (0, .ref (ad 0)), (1, .int place)] dX5_gain_13 rfl rfl (by decide) rfl ?_
  refine j_iconst 15 C (x := nI 0) dX5_gain_14 rfl (by decide) ?_
  refine j_istore 17 C [(4, .int (nI 0)), (3, .int (nI ((y10).toNatClampNeg))), (2, .ref (ad 33)), (0, .ref (ad 0)), (1, .int place)] dX5_gain_15 rfl (by decide) rfl ?_
  refine j_aload_n 18 C dX5_gain_17 rfl rfl 2 rfl ?_
  refine j_iload_n 19 C dX5_gain_18 rfl rfl 4 rfl ?_
  obtain ⟨y19, e19, hz⟩ := ap_x hz
  refine s_V 22 C (As := [.int place]) cv_X5_175 (c_X1_least (l := l) (D := D) (K := K) (ad := ad) hG (hg := by decide) (hz := e19)) dX5_gain_19 rfl 33 1 (GH_r hG (by decide)) rfl (CE_go (g := 11) (by decide) _) rfl rfl rfl rfl rfl rfl ⟨⟨Nat.le_of_ble_eq_true rfl, Nat.le_of_ble_eq_true rfl⟩, Nat.zero_le _, Nat.zero_le _⟩ (Nat.le_of_ble_eq_true rfl) (st' := [.int y19]) rfl (fun hE => ?_)
  have hy19 : (y19).toNatClampNeg = lo := by rw [← e19, hlo]; exact nI_clamp (by omega)
  have ey19 : y19 = nI (y19).toNatClampNeg := by rw [hy19, ← e19, hlo]
  refine j_st (st' := [.int (nI ((y19).toNatClampNeg))]) (by rw [← ey19]) ?_
  refine j_istore 24 C [(5, .int (nI ((y19).toNatClampNeg))), (4, .int (nI 0)), (3, .int (nI ((y10).toNatClampNeg))), (2, .ref (ad 33)), (0, .ref (ad 0)), (1, .int place)] dX5_gain_22 rfl (by decide) rfl ?_
  skip
  obtain ⟨z24, ez24, hz⟩ := ap_x hz
  have L24 : ∀ (n24 i24 : Nat) (c24 : Int32), 0 ≤ i24 → i24 < 5000 → n24 = ((y10).toNatClampNeg) + 1 - i24 → lp (m_X5_gain_L24 W S ns nc B σ place) n24 i24 c24 = z24 → J p l e rm_X5_gain s m args below meth c Q D A H0 6 0 0 N ad (CT K W S ns nc ad B σ) 24 [(1, .int place), (2, .ref (ad 33)), (3, .int (nI ((y10).toNatClampNeg))), (4, .int c24), (5, .int (nI i24))] [] := by
    intro n24
    induction n24 with
    | zero =>
      intro i24 c24 hl24 hi24 hn24 hz24
      refine j_iload 26 C dX5_gain_24 rfl 4 rfl ?_
      refine j_iload_n 27 C dX5_gain_26 rfl rfl 2 rfl ?_
      refine j_ic_gt 50 30 C dX5_gain_27 rfl rfl (fun c_27 => ?_) (fun c_27 => ?_)
      · skip
        have n_27 := nat_lt (a := ((y10).toNatClampNeg)) (b := i24) rfl rfl (by omega) (by omega) c_27
        have hq24 : c24 = z24 := hz24
        subst hq24
        refine j_aload_n 51 C dX5_gain_50 rfl rfl 1 rfl ?_
        obtain ⟨y51, e51, hz⟩ := ap_x hz
        refine s_V 54 C (As := []) cv_X5_120 (c_X1_openSum (l := l) (D := D) (K := K) (ad := ad) hG (hg := by decide) (hz := e51)) dX5_gain_51 rfl 33 1 (GH_r hG (by decide)) rfl (CE_go (g := 11) (by decide) _) rfl rfl rfl rfl rfl rfl ⟨⟨Nat.le_of_ble_eq_true rfl, Nat.le_of_ble_eq_true rfl⟩, Nat.zero_le _, Nat.zero_le _⟩ (Nat.le_of_ble_eq_true rfl) (st' := [.int y51]) rfl (fun hE => ?_)
        refine j_iload 56 C dX5_gain_54 rfl 3 rfl ?_
        refine j_isub 57 C dX5_gain_56 rfl rfl ?_
        subst hz
        exact j_retI C X dX5_gain_57 rfl ⟨rfl, rfl, rfl, rfl, trivial⟩
      · exfalso
        have n_27 := nat_nlt (a := ((y10).toNatClampNeg)) (b := i24) rfl rfl (by omega) (by omega) c_27
        omega
    | succ n24 ih24 =>
      intro i24 c24 hl24 hi24 hn24 hz24
      refine j_iload 26 C dX5_gain_24 rfl 4 rfl ?_
      refine j_iload_n 27 C dX5_gain_26 rfl rfl 2 rfl ?_
      refine j_ic_gt 50 30 C dX5_gain_27 rfl rfl (fun c_27 => ?_) (fun c_27 => ?_)
      · exfalso
        have n_27 := nat_lt (a := ((y10).toNatClampNeg)) (b := i24) rfl rfl (by omega) (by omega) c_27
        omega
      · skip
        have n_27 := nat_nlt (a := ((y10).toNatClampNeg)) (b := i24) rfl rfl (by omega) (by omega) c_27
        obtain ⟨w24, hw24, hz24⟩ := lp_s hz24
        have ho24 := hz
        clear hz
        have hz := hw24
        clear hw24
        unfold m_X5_gain_L24 at hz
        refine j_iload 32 C dX5_gain_30 rfl 3 rfl ?_
        refine j_aload_n 33 C dX5_gain_32 rfl rfl 1 rfl ?_
        refine j_iload_n 34 C dX5_gain_33 rfl rfl 0 rfl ?_
        refine j_iload 36 C dX5_gain_34 rfl 4 rfl ?_
        obtain ⟨y36, e36, hz⟩ := ap_x hz
        refine s_V 39 C (As := [.int place, .int (nI i24)]) cv_X5_181 (c_X1_openSumAfterBore (l := l) (D := D) (K := K) (ad := ad) hG (hg := by decide) (hz := e36)) dX5_gain_36 rfl 33 1 (GH_r hG (by decide)) rfl (CE_go (g := 11) (by decide) _) rfl rfl rfl rfl rfl rfl ⟨⟨Nat.le_of_ble_eq_true rfl, Nat.le_of_ble_eq_true rfl⟩, Nat.zero_le _, Nat.zero_le _⟩ (Nat.le_of_ble_eq_true rfl) (st' := [.int y36, .int c24]) rfl (fun hE => ?_)
        refine j_mmax 42 C wl_X5_13 rfl dX5_gain_39 rfl (Nat.le_of_ble_eq_true rfl) (Nat.le_of_ble_eq_true rfl) (Nat.zero_le _) (Nat.zero_le _) ?_
        obtain ⟨x42, e42, hz⟩ := ap_x hz
        refine j_st (st' := [.int x42]) (by rw [← e42]) ?_
        refine j_istore 44 C [(4, .int x42), (1, .int place), (2, .ref (ad 33)), (3, .int (nI ((y10).toNatClampNeg))), (5, .int (nI i24))] dX5_gain_42 rfl (by decide) rfl ?_
        refine j_iinc 47 C (x' := nI (i24 + 1)) [(5, .int (nI (i24 + 1))), (4, .int x42), (1, .int place), (2, .ref (ad 33)), (3, .int (nI ((y10).toNatClampNeg)))] dX5_gain_44 rfl 4 rfl (by rw [show Int32.ofInt 1 = nI 1 from by decide, nI_add]) (by decide) rfl ?_
        refine j_goto 24 C dX5_gain_47 rfl ?_
        subst hz
        refine j_lv [2, 3, 4, 1, 0] (lv' := [(1, .int place), (2, .ref (ad 33)), (3, .int (nI ((y10).toNatClampNeg))), (4, .int x42), (5, .int (nI (i24 + 1)))]) rfl ?_
        have hz := ho24
        exact ih24 (i24 + 1) x42 (by omega) (by omega) (by omega) hz24
  refine j_lv [5, 3, 2, 1, 0] (lv' := [(1, .int place), (2, .ref (ad 33)), (3, .int (nI ((y10).toNatClampNeg))), (4, .int (nI 0)), (5, .int (nI ((y19).toNatClampNeg)))]) rfl ?_
  exact L24 _ ((y19).toNatClampNeg) (nI 0) (by omega) (by omega) rfl ez24
def SpX (W S ns nc : Nat) (B : Nat → Option Nat) (σ : Nat → Nat → Int32) : Prop := ∀ (k j : Nat), k < S → j < W → ∃ lo hi : Nat, lo < 4000 ∧ hi < 4000 ∧ m_X1_least W S ns nc B σ 11 (nI ((1 + (k * W)) + j)) = nI lo ∧ m_X1_greatest W S ns nc B σ 11 (nI ((1 + (k * W)) + j)) = nI hi
def AsOK (W S ns nc : Nat) (B : Nat → Option Nat) (σ : Nat → Nat → Int32) : Prop := ∀ y, m_X0_areSome W S ns nc B σ = y → ¬ y.1 = 0 → SpX W S ns nc B y.2
theorem m_X2_placeOf_n {W S ns nc : Nat} {B : Nat → Option Nat} {σ : Nat → Nat → Int32} {x y : Int32} {a b : Nat} (hx : x = nI a) (hy : y = nI b) : m_X2_placeOf W S ns nc B σ x y = nI ((1 + (a * W)) + b) := by
  subst hx; subst hy; unfold m_X2_placeOf; simp only [nI_add, pk_mul]
def m_X5_tells (W S ns nc : Nat) (B : Nat → Option Nat) (σ : Nat → Nat → Int32) (surface : Int32) (column : Int32) : Int32 × (Nat → Nat → Int32) := ap (m_X2_hasPlace W S ns nc B σ surface column) (fun (y6 : Int32) => (if y6 = 0 then ((-1), σ) else ap (m_X0_areSome W S ns nc B σ) (fun (y16 : Int32 × (Nat → Nat → Int32)) => (if y16.1 = 0 then ((-1), y16.2) else ap (m_X2_placeOf W S ns nc B y16.2 surface column) (fun (y31 : Int32) => ap (m_X5_gain W S ns nc B y16.2 y31) (fun (y34 : Int32) => (y34, y16.2)))))))
abbrev rm_X5_tells : Room := { frames := 18, cells := 0, slots := 0, locals := 540 }
set_option maxHeartbeats 4000000 in
set_option maxRecDepth 100000 in
theorem c_X5_tells {l : Launch} {D : va_G} {K : Nat → ClassId} {W S ns nc N : Nat} {ad : Nat → Nat} {B : Nat → Option Nat} {σ : Nat → Nat → Int32} (hG : GH W S ns nc N) {surface : Int32} {column : Int32}  {z : Int32 × (Nat → Nat → Int32)} (hz : m_X5_tells W S ns nc B σ surface column = z) (hB : BOK B N) (hb7 : bl (σ 9 7)) (has : AsOK W S ns nc B σ) : MC l yX5_tells cX5_tells 3 (some .int) rm_X5_tells D (TY K) N ad (CT K W S ns nc ad B σ) [.ref (ad 0), .int surface, .int column] (BS (some (.int z.1)) N ad (CT K W S ns nc ad B z.2) True) := by
  have hW := hG.1; have hW8 := hG.2.1; have hS := hG.2.2.1; have hS4 := hG.2.2.2.1; have hns := hG.2.2.2.2.1; have hnc := hG.2.2.2.2.2.1; have hWS := GH_ws hG
  refine MC.of (by decide) (Nat.le_of_ble_eq_true rfl) (fun p e s m args below meth c Q A H0 C X => ?_)
  replace C : Cx p s m args meth c cX5_tells RX5 3 D (TY K) A H0 := C
  show J p l e rm_X5_tells s m args below meth c Q D A H0 3 0 0 N ad (CT K W S ns nc ad B σ) 0 [(0, .ref (ad 0)), (1, .int surface), (2, .int column)] []
  unfold m_X5_tells at hz
  refine j_aload_n 1 C dX5_tells_0 rfl rfl 0 rfl ?_
  refine k_get 4 C fl_X5_21 dX5_tells_1 rfl 0 (GH_r hG (by decide)) _ rfl (CE_0 _) (.ref (ad 1)) rfl ?_
  refine j_iload_n 5 C dX5_tells_4 rfl rfl 1 rfl ?_
  refine j_iload_n 6 C dX5_tells_5 rfl rfl 2 rfl ?_
  obtain ⟨y6, e6, hz⟩ := ap_x hz
  refine s_V 9 C (As := [.int surface, .int column]) cv_X5_81 (c_X2_hasPlace (l := l) (D := D) (K := K) (ad := ad) hG  (hz := e6)) dX5_tells_6 rfl 1 2 (GH_r hG (by decide)) rfl (CE_1 _) rfl rfl rfl rfl rfl rfl ⟨⟨Nat.le_of_ble_eq_true rfl, Nat.le_of_ble_eq_true rfl⟩, Nat.zero_le _, Nat.zero_le _⟩ (Nat.le_of_ble_eq_true rfl) (st' := [.int y6]) rfl (fun hE => ?_)
  have hbl6 : bl y6 := hE
  refine j_if_eq 22 12 C dX5_tells_9 rfl rfl (fun c_9 => ?_) (fun c_9 => ?_)
  · replace hz := (if_pos c_9).symm.trans hz
    refine j_iconst 23 C (x := (-1)) dX5_tells_22 rfl (by decide) ?_
    subst hz
    exact j_retI C X dX5_tells_23 rfl ⟨rfl, rfl, rfl, rfl, trivial⟩
  · replace hz := (if_neg c_9).symm.trans hz
    obtain ⟨ks, kc, hks, hkc, eks, ekc⟩ := hasPlace_nat hG e6 c_9
    refine j_aload_n 13 C dX5_tells_12 rfl rfl 0 rfl ?_
    refine k_get 16 C fl_X5_39 dX5_tells_13 rfl 0 (GH_r hG (by decide)) _ rfl (CE_0 _) (.ref (ad 9)) rfl ?_
    obtain ⟨y16, e16, hz⟩ := ap_x hz
    refine s_V 19 C (As := []) cv_X5_99 (c_X0_areSome (l := l) (D := D) (K := K) (ad := ad) hG (hB := hB) (hb7 := hb7) (hz := e16)) dX5_tells_16 rfl 9 0 (GH_r hG (by decide)) rfl (CE_9 _) rfl rfl rfl rfl rfl rfl ⟨⟨Nat.le_of_ble_eq_true rfl, Nat.le_of_ble_eq_true rfl⟩, Nat.zero_le _, Nat.zero_le _⟩ (Nat.le_of_ble_eq_true rfl) (st' := [.int y16.1]) rfl (fun hE => ?_)
    have hbl16 : bl y16.1 := hE
    refine j_if_ne 24 22 C dX5_tells_19 rfl rfl (fun c_19 => ?_) (fun c_19 => ?_)
    · replace hz := (if_neg c_19).symm.trans hz
      refine j_aload_n 25 C dX5_tells_24 rfl rfl 0 rfl ?_
      refine j_aload_n 26 C dX5_tells_25 rfl rfl 0 rfl ?_
      refine k_get 29 C fl_X5_21 dX5_tells_26 rfl 0 (GH_r hG (by decide)) _ rfl (CE_0 _) (.ref (ad 1)) rfl ?_
      refine j_iload_n 30 C dX5_tells_29 rfl rfl 1 rfl ?_
      refine j_iload_n 31 C dX5_tells_30 rfl rfl 2 rfl ?_
      obtain ⟨y31, e31, hz⟩ := ap_x hz
      refine s_V 34 C (As := [.int surface, .int column]) cv_X5_110 (c_X2_placeOf (l := l) (D := D) (K := K) (ad := ad) hG  (hz := e31)) dX5_tells_31 rfl 1 2 (GH_r hG (by decide)) rfl (CE_1 _) rfl rfl rfl rfl rfl rfl ⟨⟨Nat.le_of_ble_eq_true rfl, Nat.le_of_ble_eq_true rfl⟩, Nat.zero_le _, Nat.zero_le _⟩ (Nat.le_of_ble_eq_true rfl) (st' := [.int y31, .ref (ad 0)]) rfl (fun hE => ?_)
      obtain ⟨lo, hi, hlo4, hhi4, hlo, hhi⟩ := has _ e16 c_19 ks kc hks hkc
      rw [← m_X2_placeOf_n (B := B) (σ := y16.2) (ns := ns) (nc := nc) (S := S) eks ekc, e31] at hlo hhi
      obtain ⟨y34, e34, hz⟩ := ap_x hz
      refine s_V 37 C (As := [.int y31]) cv_X5_135 (c_X5_gain (l := l) (D := D) (K := K) (ad := ad) hG (hlo4 := hlo4) (hhi4 := hhi4) (hlo := hlo) (hhi := hhi) (hz := e34)) dX5_tells_34 rfl 0 5 (GH_r hG (by decide)) rfl (CE_0 _) rfl rfl rfl rfl rfl rfl ⟨⟨Nat.le_of_ble_eq_true rfl, Nat.le_of_ble_eq_true rfl⟩, Nat.zero_le _, Nat.zero_le _⟩ (Nat.le_of_ble_eq_true rfl) (st' := [.int y34]) rfl (fun hE => ?_)
      subst hz
      exact j_retI C X dX5_tells_37 rfl ⟨rfl, rfl, rfl, rfl, trivial⟩
    · replace hz := (if_pos c_19).symm.trans hz
      refine j_iconst 23 C (x := (-1)) dX5_tells_22 rfl (by decide) ?_
      subst hz
      exact j_retI C X dX5_tells_23 rfl ⟨rfl, rfl, rfl, rfl, trivial⟩
def m_X5_next_L32 (W S ns nc : Nat) (B : Nat → Option Nat) (σ : Nat → Nat → Int32) (y4 : Int32 × (Nat → Nat → Int32)) (i18 : Nat) (i32 : Nat) (c32 : Int32 × Int32) : Int32 × Int32 := ap (m_X2_placeOf W S ns nc B y4.2 (nI i18) (nI i32)) (fun (y52 : Int32) => ap (m_X5_gain W S ns nc B y4.2 y52) (fun (y55 : Int32) => (if y55 ≤ c32.2 then (c32.1, c32.2) else (((nI i18) * (nI 10)) + (nI i32), y55))))
def m_X5_next_L18 (W S ns nc : Nat) (B : Nat → Option Nat) (σ : Nat → Nat → Int32) (y4 : Int32 × (Nat → Nat → Int32)) (i18 : Nat) (c18 : Int32 × Int32) : Int32 × Int32 := ap (lp (m_X5_next_L32 W S ns nc B σ y4 i18) (W - 0) 0 (c18.1, c18.2)) (fun (z32 : Int32 × Int32) => (z32.1, z32.2))
def m_X5_next (W S ns nc : Nat) (B : Nat → Option Nat) (σ : Nat → Nat → Int32) : Int32 × (Nat → Nat → Int32) := ap (m_X0_areSome W S ns nc B σ) (fun (y4 : Int32 × (Nat → Nat → Int32)) => (if y4.1 = 0 then ((-1), y4.2) else ap (lp (m_X5_next_L18 W S ns nc B σ y4) (S - 0) 0 ((-1), (-1))) (fun (z18 : Int32 × Int32) => (z18.1, y4.2))))
abbrev rm_X5_next : Room := { frames := 18, cells := 0, slots := 0, locals := 540 }
set_option maxHeartbeats 4000000 in
set_option maxRecDepth 100000 in
theorem c_X5_next {l : Launch} {D : va_G} {K : Nat → ClassId} {W S ns nc N : Nat} {ad : Nat → Nat} {B : Nat → Option Nat} {σ : Nat → Nat → Int32} (hG : GH W S ns nc N)   {z : Int32 × (Nat → Nat → Int32)} (hz : m_X5_next W S ns nc B σ = z) (hB : BOK B N) (hb7 : bl (σ 9 7)) (has : AsOK W S ns nc B σ) : MC l yX5_next cX5_next 6 (some .int) rm_X5_next D (TY K) N ad (CT K W S ns nc ad B σ) [.ref (ad 0)] (BS (some (.int z.1)) N ad (CT K W S ns nc ad B z.2) True) := by
  have hW := hG.1; have hW8 := hG.2.1; have hS := hG.2.2.1; have hS4 := hG.2.2.2.1; have hns := hG.2.2.2.2.1; have hnc := hG.2.2.2.2.2.1; have hWS := GH_ws hG
  refine MC.of (by decide) (Nat.le_of_ble_eq_true rfl) (fun p e s m args below meth c Q A H0 C X => ?_)
  replace C : Cx p s m args meth c cX5_next RX5 6 D (TY K) A H0 := C
  show J p l e rm_X5_next s m args below meth c Q D A H0 6 0 0 N ad (CT K W S ns nc ad B σ) 0 [(0, .ref (ad 0))] []
  unfold m_X5_next at hz
  refine j_aload_n 1 C dX5_next_0 rfl rfl 0 rfl ?_
  refine k_get 4 C fl_X5_39 dX5_next_1 rfl 0 (GH_r hG (by decide)) _ rfl (CE_0 _) (.ref (ad 9)) rfl ?_
  obtain ⟨y4, e4, hz⟩ := ap_x hz
  refine s_V 7 C (As := []) cv_X5_99 (c_X0_areSome (l := l) (D := D) (K := K) (ad := ad) hG (hB := hB) (hb7 := hb7) (hz := e4)) dX5_next_4 rfl 9 0 (GH_r hG (by decide)) rfl (CE_9 _) rfl rfl rfl rfl rfl rfl ⟨⟨Nat.le_of_ble_eq_true rfl, Nat.le_of_ble_eq_true rfl⟩, Nat.zero_le _, Nat.zero_le _⟩ (Nat.le_of_ble_eq_true rfl) (st' := [.int y4.1]) rfl (fun hE => ?_)
  have hbl4 : bl y4.1 := hE
  refine j_if_ne 12 10 C dX5_next_7 rfl rfl (fun c_7 => ?_) (fun c_7 => ?_)
  · replace hz := (if_neg c_7).symm.trans hz
    refine j_iconst 13 C (x := (-1)) dX5_next_12 rfl (by decide) ?_
    refine j_istore_n 14 C [(1, .int (-1)), (0, .ref (ad 0))] dX5_next_13 rfl rfl (by decide) rfl ?_
    refine j_iconst 15 C (x := (-1)) dX5_next_14 rfl (by decide) ?_
    refine j_istore_n 16 C [(2, .int (-1)), (1, .int (-1)), (0, .ref (ad 0))] dX5_next_15 rfl rfl (by decide) rfl ?_
    refine j_iconst 17 C (x := nI 0) dX5_next_16 rfl (by decide) ?_
    refine j_istore_n 18 C [(3, .int (nI 0)), (2, .int (-1)), (1, .int (-1)), (0, .ref (ad 0))] dX5_next_17 rfl rfl (by decide) rfl ?_
    skip
    obtain ⟨z18, ez18, hz⟩ := ap_x hz
    have L18 : ∀ (n18 i18 : Nat) (c18 : Int32 × Int32), 0 ≤ i18 → i18 < 5000 → n18 = S - i18 → lp (m_X5_next_L18 W S ns nc B σ y4) n18 i18 c18 = z18 → J p l e rm_X5_next s m args below meth c Q D A H0 6 0 0 N ad (CT K W S ns nc ad B y4.2) 18 [(0, .ref (ad 0)), (1, .int c18.1), (2, .int c18.2), (3, .int (nI i18))] [] := by
      intro n18
      induction n18 with
      | zero =>
        intro i18 c18 hl18 hi18 hn18 hz18
        refine j_iload_n 19 C dX5_next_18 rfl rfl 3 rfl ?_
        refine j_aload_n 20 C dX5_next_19 rfl rfl 0 rfl ?_
        refine k_get 23 C fl_X5_21 dX5_next_20 rfl 0 (GH_r hG (by decide)) _ rfl (CE_0 _) (.ref (ad 1)) rfl ?_
        refine s_V 26 C (As := []) cv_X5_125 (c_X2_surfaces (l := l) (D := D) (K := K) (ad := ad) hG  (hz := rfl)) dX5_next_23 rfl 1 2 (GH_r hG (by decide)) rfl (CE_1 _) rfl rfl rfl rfl rfl rfl ⟨⟨Nat.le_of_ble_eq_true rfl, Nat.le_of_ble_eq_true rfl⟩, Nat.zero_le _, Nat.zero_le _⟩ (Nat.le_of_ble_eq_true rfl) (st' := [.int (m_X2_surfaces W S ns nc B y4.2), .int (nI i18)]) rfl (fun hE => ?_)
        have ey23 : (m_X2_surfaces W S ns nc B y4.2) = nI S := rfl
        refine j_ic_ge 89 29 C dX5_next_26 rfl rfl (fun c_26 => ?_) (fun c_26 => ?_)
        · skip
          have n_26 := nat_le (a := S) (b := i18) (by simp only [ey23, nI_add, pk_mul]) rfl (by omega) (by omega) c_26
          have hq18 : c18 = z18 := hz18
          subst hq18
          refine j_iload_n 90 C dX5_next_89 rfl rfl 1 rfl ?_
          subst hz
          exact j_retI C X dX5_next_90 rfl ⟨rfl, rfl, rfl, rfl, trivial⟩
        · exfalso
          have n_26 := nat_nle (a := S) (b := i18) (by simp only [ey23, nI_add, pk_mul]) rfl (by omega) (by omega) c_26
          omega
      | succ n18 ih18 =>
        intro i18 c18 hl18 hi18 hn18 hz18
        refine j_iload_n 19 C dX5_next_18 rfl rfl 3 rfl ?_
        refine j_aload_n 20 C dX5_next_19 rfl rfl 0 rfl ?_
        refine k_get 23 C fl_X5_21 dX5_next_20 rfl 0 (GH_r hG (by decide)) _ rfl (CE_0 _) (.ref (ad 1)) rfl ?_
        refine s_V 26 C (As := []) cv_X5_125 (c_X2_surfaces (l := l) (D := D) (K := K) (ad := ad) hG  (hz := rfl)) dX5_next_23 rfl 1 2 (GH_r hG (by decide)) rfl (CE_1 _) rfl rfl rfl rfl rfl rfl ⟨⟨Nat.le_of_ble_eq_true rfl, Nat.le_of_ble_eq_true rfl⟩, Nat.zero_le _, Nat.zero_le _⟩ (Nat.le_of_ble_eq_true rfl) (st' := [.int (m_X2_surfaces W S ns nc B y4.2), .int (nI i18)]) rfl (fun hE => ?_)
        have ey23 : (m_X2_surfaces W S ns nc B y4.2) = nI S := rfl
        refine j_ic_ge 89 29 C dX5_next_26 rfl rfl (fun c_26 => ?_) (fun c_26 => ?_)
        · exfalso
          have n_26 := nat_le (a := S) (b := i18) (by simp only [ey23, nI_add, pk_mul]) rfl (by omega) (by omega) c_26
          omega
        · skip
          have n_26 := nat_nle (a := S) (b := i18) (by simp only [ey23, nI_add, pk_mul]) rfl (by omega) (by omega) c_26
          obtain ⟨w18, hw18, hz18⟩ := lp_s hz18
          have ho18 := hz
          clear hz
          have hz := hw18
          clear hw18
          unfold m_X5_next_L18 at hz
          refine j_iconst 30 C (x := nI 0) dX5_next_29 rfl (by decide) ?_
          refine j_istore 32 C [(4, .int (nI 0)), (0, .ref (ad 0)), (1, .int c18.1), (2, .int c18.2), (3, .int (nI i18))] dX5_next_30 rfl (by decide) rfl ?_
          skip
          obtain ⟨z32, ez32, hz⟩ := ap_x hz
          have L32 : ∀ (n32 i32 : Nat) (c32 : Int32 × Int32), 0 ≤ i32 → i32 < 5000 → n32 = W - i32 → lp (m_X5_next_L32 W S ns nc B σ y4 i18) n32 i32 c32 = z32 → J p l e rm_X5_next s m args below meth c Q D A H0 6 0 0 N ad (CT K W S ns nc ad B y4.2) 32 [(0, .ref (ad 0)), (1, .int c32.1), (2, .int c32.2), (3, .int (nI i18)), (4, .int (nI i32))] [] := by
            intro n32
            induction n32 with
            | zero =>
              intro i32 c32 hl32 hi32 hn32 hz32
              refine j_iload 34 C dX5_next_32 rfl 4 rfl ?_
              refine j_aload_n 35 C dX5_next_34 rfl rfl 0 rfl ?_
              refine k_get 38 C fl_X5_21 dX5_next_35 rfl 0 (GH_r hG (by decide)) _ rfl (CE_0 _) (.ref (ad 1)) rfl ?_
              refine s_V 41 C (As := []) cv_X5_139 (c_X2_columns (l := l) (D := D) (K := K) (ad := ad) hG  (hz := rfl)) dX5_next_38 rfl 1 2 (GH_r hG (by decide)) rfl (CE_1 _) rfl rfl rfl rfl rfl rfl ⟨⟨Nat.le_of_ble_eq_true rfl, Nat.le_of_ble_eq_true rfl⟩, Nat.zero_le _, Nat.zero_le _⟩ (Nat.le_of_ble_eq_true rfl) (st' := [.int (m_X2_columns W S ns nc B y4.2), .int (nI i32)]) rfl (fun hE => ?_)
              have ey38 : (m_X2_columns W S ns nc B y4.2) = nI W := rfl
              refine j_ic_ge 83 44 C dX5_next_41 rfl rfl (fun c_41 => ?_) (fun c_41 => ?_)
              · skip
                have n_41 := nat_le (a := W) (b := i32) (by simp only [ey23, ey38, nI_add, pk_mul]) rfl (by omega) (by omega) c_41
                have hq32 : c32 = z32 := hz32
                subst hq32
                refine j_iinc 86 C (x' := nI (i18 + 1)) [(3, .int (nI (i18 + 1))), (0, .ref (ad 0)), (1, .int c32.1), (2, .int c32.2), (4, .int (nI i32))] dX5_next_83 rfl 3 rfl (by rw [show Int32.ofInt 1 = nI 1 from by decide, nI_add]) (by decide) rfl ?_
                refine j_goto 18 C dX5_next_86 rfl ?_
                subst hz
                refine j_lv [1, 2, 3, 0] (lv' := [(0, .ref (ad 0)), (1, .int c32.1), (2, .int c32.2), (3, .int (nI (i18 + 1)))]) rfl ?_
                have hz := ho18
                exact ih18 (i18 + 1) (c32.1, c32.2) (by omega) (by omega) (by omega) hz18
              · exfalso
                have n_41 := nat_nle (a := W) (b := i32) (by simp only [ey23, ey38, nI_add, pk_mul]) rfl (by omega) (by omega) c_41
                omega
            | succ n32 ih32 =>
              intro i32 c32 hl32 hi32 hn32 hz32
              refine j_iload 34 C dX5_next_32 rfl 4 rfl ?_
              refine j_aload_n 35 C dX5_next_34 rfl rfl 0 rfl ?_
              refine k_get 38 C fl_X5_21 dX5_next_35 rfl 0 (GH_r hG (by decide)) _ rfl (CE_0 _) (.ref (ad 1)) rfl ?_
              refine s_V 41 C (As := []) cv_X5_139 (c_X2_columns (l := l) (D := D) (K := K) (ad := ad) hG  (hz := rfl)) dX5_next_38 rfl 1 2 (GH_r hG (by decide)) rfl (CE_1 _) rfl rfl rfl rfl rfl rfl ⟨⟨Nat.le_of_ble_eq_true rfl, Nat.le_of_ble_eq_true rfl⟩, Nat.zero_le _, Nat.zero_le _⟩ (Nat.le_of_ble_eq_true rfl) (st' := [.int (m_X2_columns W S ns nc B y4.2), .int (nI i32)]) rfl (fun hE => ?_)
              have ey38 : (m_X2_columns W S ns nc B y4.2) = nI W := rfl
              refine j_ic_ge 83 44 C dX5_next_41 rfl rfl (fun c_41 => ?_) (fun c_41 => ?_)
              · exfalso
                have n_41 := nat_le (a := W) (b := i32) (by simp only [ey23, ey38, nI_add, pk_mul]) rfl (by omega) (by omega) c_41
                omega
              · skip
                have n_41 := nat_nle (a := W) (b := i32) (by simp only [ey23, ey38, nI_add, pk_mul]) rfl (by omega) (by omega) c_41
                obtain ⟨w32, hw32, hz32⟩ := lp_s hz32
                have ho32 := hz
                clear hz
                have hz := hw32
                clear hw32
                unfold m_X5_next_L32 at hz
                refine j_aload_n 45 C dX5_next_44 rfl rfl 0 rfl ?_
                refine j_aload_n 46 C dX5_next_45 rfl rfl 0 rfl ?_
                refine k_get 49 C fl_X5_21 dX5_next_46 rfl 0 (GH_r hG (by decide)) _ rfl (CE_0 _) (.ref (ad 1)) rfl ?_
                refine j_iload_n 50 C dX5_next_49 rfl rfl 3 rfl ?_
                refine j_iload 52 C dX5_next_50 rfl 4 rfl ?_
                obtain ⟨y52, e52, hz⟩ := ap_x hz
                refine s_V 55 C (As := [.int (nI i18), .int (nI i32)]) cv_X5_110 (c_X2_placeOf (l := l) (D := D) (K := K) (ad := ad) hG  (hz := e52)) dX5_next_52 rfl 1 2 (GH_r hG (by decide)) rfl (CE_1 _) rfl rfl rfl rfl rfl rfl ⟨⟨Nat.le_of_ble_eq_true rfl, Nat.le_of_ble_eq_true rfl⟩, Nat.zero_le _, Nat.zero_le _⟩ (Nat.le_of_ble_eq_true rfl) (st' := [.int y52, .ref (ad 0)]) rfl (fun hE => ?_)
                obtain ⟨lo, hi, hlo4, hhi4, hlo, hhi⟩ := has _ e4 c_7 i18 i32 (by omega) (by omega)
                rw [← m_X2_placeOf_n (B := B) (σ := y4.2) (ns := ns) (nc := nc) (S := S) rfl rfl, e52] at hlo hhi
                obtain ⟨y55, e55, hz⟩ := ap_x hz
                refine s_V 58 C (As := [.int y52]) cv_X5_135 (c_X5_gain (l := l) (D := D) (K := K) (ad := ad) hG (hlo4 := hlo4) (hhi4 := hhi4) (hlo := hlo) (hhi := hhi) (hz := e55)) dX5_next_55 rfl 0 5 (GH_r hG (by decide)) rfl (CE_0 _) rfl rfl rfl rfl rfl rfl ⟨⟨Nat.le_of_ble_eq_true rfl, Nat.le_of_ble_eq_true rfl⟩, Nat.zero_le _, Nat.zero_le _⟩ (Nat.le_of_ble_eq_true rfl) (st' := [.int y55]) rfl (fun hE => ?_)
                refine j_istore 60 C [(5, .int y55), (0, .ref (ad 0)), (1, .int c32.1), (2, .int c32.2), (3, .int (nI i18)), (4, .int (nI i32))] dX5_next_58 rfl (by decide) rfl ?_
                refine j_iload 62 C dX5_next_60 rfl 0 rfl ?_
                refine j_iload_n 63 C dX5_next_62 rfl rfl 3 rfl ?_
                refine j_ic_le 77 66 C dX5_next_63 rfl rfl (fun c_63 => ?_) (fun c_63 => ?_)
                · replace hz := (if_pos c_63).symm.trans hz
                  refine j_iinc 80 C (x' := nI (i32 + 1)) [(4, .int (nI (i32 + 1))), (5, .int y55), (0, .ref (ad 0)), (1, .int c32.1), (2, .int c32.2), (3, .int (nI i18))] dX5_next_77 rfl 5 rfl (by rw [show Int32.ofInt 1 = nI 1 from by decide, nI_add]) (by decide) rfl ?_
                  refine j_goto 32 C dX5_next_80 rfl ?_
                  subst hz
                  refine j_lv [2, 3, 4, 5, 0] (lv' := [(0, .ref (ad 0)), (1, .int c32.1), (2, .int c32.2), (3, .int (nI i18)), (4, .int (nI (i32 + 1)))]) rfl ?_
                  have hz := ho32
                  exact ih32 (i32 + 1) (c32.1, c32.2) (by omega) (by omega) (by omega) hz32
                · replace hz := (if_neg c_63).symm.trans hz
                  refine j_iload 68 C dX5_next_66 rfl 0 rfl ?_
                  refine j_istore_n 69 C [(2, .int y55), (5, .int y55), (0, .ref (ad 0)), (1, .int c32.1), (3, .int (nI i18)), (4, .int (nI i32))] dX5_next_68 rfl rfl (by decide) rfl ?_
                  refine j_iload_n 70 C dX5_next_69 rfl rfl 4 rfl ?_
                  refine j_bipush 72 C (x := nI 10) dX5_next_70 rfl (by decide) ?_
                  refine j_imul 73 C dX5_next_72 rfl rfl ?_
                  refine j_iload 75 C dX5_next_73 rfl 5 rfl ?_
                  refine j_iadd 76 C dX5_next_75 rfl rfl ?_
                  refine j_istore_n 77 C [(1, .int (((nI i18) * (nI 10)) + (nI i32))), (2, .int y55), (5, .int y55), (0, .ref (ad 0)), (3, .int (nI i18)), (4, .int (nI i32))] dX5_next_76 rfl rfl (by decide) rfl ?_
                  refine j_iinc 80 C (x' := nI (i32 + 1)) [(4, .int (nI (i32 + 1))), (1, .int (((nI i18) * (nI 10)) + (nI i32))), (2, .int y55), (5, .int y55), (0, .ref (ad 0)), (3, .int (nI i18))] dX5_next_77 rfl 5 rfl (by rw [show Int32.ofInt 1 = nI 1 from by decide, nI_add]) (by decide) rfl ?_
                  refine j_goto 32 C dX5_next_80 rfl ?_
                  subst hz
                  refine j_lv [4, 1, 2, 5, 0] (lv' := [(0, .ref (ad 0)), (1, .int (((nI i18) * (nI 10)) + (nI i32))), (2, .int y55), (3, .int (nI i18)), (4, .int (nI (i32 + 1)))]) rfl ?_
                  have hz := ho32
                  exact ih32 (i32 + 1) (((nI i18) * (nI 10)) + (nI i32), y55) (by omega) (by omega) (by omega) hz32
          refine j_lv [1, 2, 3, 4, 0] (lv' := [(0, .ref (ad 0)), (1, .int c18.1), (2, .int c18.2), (3, .int (nI i18)), (4, .int (nI 0))]) rfl ?_
          exact L32 _ 0 (c18.1, c18.2) (by omega) (by omega) rfl ez32
    refine j_lv [3, 2, 1, 0] (lv' := [(0, .ref (ad 0)), (1, .int (-1)), (2, .int (-1)), (3, .int (nI 0))]) rfl ?_
    exact L18 _ 0 ((-1), (-1)) (by omega) (by omega) rfl ez18
  · replace hz := (if_pos c_7).symm.trans hz
    refine j_iconst 11 C (x := (-1)) dX5_next_10 rfl (by decide) ?_
    subst hz
    exact j_retI C X dX5_next_11 rfl ⟨rfl, rfl, rfl, rfl, trivial⟩
def m_X5_bend_L37 (W S ns nc : Nat) (B : Nat → Option Nat) (σ : Nat → Nat → Int32) (what : Int32) (y11 : Int32 × (Nat → Nat → Int32)) (i23 : Nat) (i37 : Nat) (c37 : Int32) : Int32 := ap (m_X2_placeOf W S ns nc B y11.2 (nI i23) (nI i37)) (fun (y59 : Int32) => ap (m_X5_end W S ns nc B y11.2 y59 what) (fun (y63 : Int32) => ap (m_X2_placeOf W S ns nc B y11.2 (nI i23) ((nI i37) - (nI 1))) (fun (y78 : Int32) => ap (m_X5_end W S ns nc B y11.2 y78 what) (fun (y82 : Int32) => ap (m_X2_placeOf W S ns nc B y11.2 (nI i23) ((nI i37) + (nI 1))) (fun (y97 : Int32) => ap (m_X5_end W S ns nc B y11.2 y97 what) (fun (y101 : Int32) => ap (c37 + (if 0 ≤ ((((nI 2) * y63) - y82) - y101) then ((((nI 2) * y63) - y82) - y101) else 0 - ((((nI 2) * y63) - y82) - y101))) (fun (x121 : Int32) => x121)))))))
def m_X5_bend_L23 (W S ns nc : Nat) (B : Nat → Option Nat) (σ : Nat → Nat → Int32) (what : Int32) (y11 : Int32 × (Nat → Nat → Int32)) (i23 : Nat) (c23 : Int32) : Int32 := ap (lp (m_X5_bend_L37 W S ns nc B σ what y11 i23) (W - (1 + 1)) 1 c23) (fun (z37 : Int32) => z37)
def m_X5_bend (W S ns nc : Nat) (B : Nat → Option Nat) (σ : Nat → Nat → Int32) (what : Int32) : Int32 × (Nat → Nat → Int32) := ap (m_X5_isEnd W S ns nc B σ what) (fun (y1 : Int32) => (if y1 = 0 then ((-1), σ) else ap (m_X0_areSome W S ns nc B σ) (fun (y11 : Int32 × (Nat → Nat → Int32)) => (if y11.1 = 0 then ((-1), y11.2) else ap (lp (m_X5_bend_L23 W S ns nc B σ what y11) (S - 0) 0 (nI 0)) (fun (z23 : Int32) => (z23, y11.2))))))
abbrev rm_X5_bend : Room := { frames := 18, cells := 0, slots := 0, locals := 540 }
set_option maxHeartbeats 4000000 in
set_option maxRecDepth 100000 in
theorem c_X5_bend {l : Launch} {D : va_G} {K : Nat → ClassId} {W S ns nc N : Nat} {ad : Nat → Nat} {B : Nat → Option Nat} {σ : Nat → Nat → Int32} (hG : GH W S ns nc N) {what : Int32}  {z : Int32 × (Nat → Nat → Int32)} (hz : m_X5_bend W S ns nc B σ what = z) (hB : BOK B N) (hb7 : bl (σ 9 7)) : MC l yX5_bend cX5_bend 8 (some .int) rm_X5_bend D (TY K) N ad (CT K W S ns nc ad B σ) [.ref (ad 0), .int what] (BS (some (.int z.1)) N ad (CT K W S ns nc ad B z.2) True) := by
  have hW := hG.1; have hW8 := hG.2.1; have hS := hG.2.2.1; have hS4 := hG.2.2.2.1; have hns := hG.2.2.2.2.1; have hnc := hG.2.2.2.2.2.1; have hWS := GH_ws hG
  refine MC.of (by decide) (Nat.le_of_ble_eq_true rfl) (fun p e s m args below meth c Q A H0 C X => ?_)
  replace C : Cx p s m args meth c cX5_bend RX5 8 D (TY K) A H0 := C
  show J p l e rm_X5_bend s m args below meth c Q D A H0 8 0 0 N ad (CT K W S ns nc ad B σ) 0 [(0, .ref (ad 0)), (1, .int what)] []
  unfold m_X5_bend at hz
  refine j_iload_n 1 C dX5_bend_0 rfl rfl 1 rfl ?_
  obtain ⟨y1, e1, hz⟩ := ap_x hz
  refine s_S 4 C (As := [.int what]) cs_X5_107 (c_X5_isEnd (l := l) (D := D) (K := K) (ad := ad) hG  (hz := e1)) dX5_bend_1 rfl rfl rfl rfl rfl ⟨⟨Nat.le_of_ble_eq_true rfl, Nat.le_of_ble_eq_true rfl⟩, Nat.zero_le _, Nat.zero_le _⟩ (Nat.le_of_ble_eq_true rfl) (st' := [.int y1]) rfl (fun hE => ?_)
  have hbl1 : bl y1 := hE
  refine j_if_eq 17 7 C dX5_bend_4 rfl rfl (fun c_4 => ?_) (fun c_4 => ?_)
  · replace hz := (if_pos c_4).symm.trans hz
    refine j_iconst 18 C (x := (-1)) dX5_bend_17 rfl (by decide) ?_
    subst hz
    exact j_retI C X dX5_bend_18 rfl ⟨rfl, rfl, rfl, rfl, trivial⟩
  · replace hz := (if_neg c_4).symm.trans hz
    refine j_aload_n 8 C dX5_bend_7 rfl rfl 0 rfl ?_
    refine k_get 11 C fl_X5_39 dX5_bend_8 rfl 0 (GH_r hG (by decide)) _ rfl (CE_0 _) (.ref (ad 9)) rfl ?_
    obtain ⟨y11, e11, hz⟩ := ap_x hz
    refine s_V 14 C (As := []) cv_X5_99 (c_X0_areSome (l := l) (D := D) (K := K) (ad := ad) hG (hB := hB) (hb7 := hb7) (hz := e11)) dX5_bend_11 rfl 9 0 (GH_r hG (by decide)) rfl (CE_9 _) rfl rfl rfl rfl rfl rfl ⟨⟨Nat.le_of_ble_eq_true rfl, Nat.le_of_ble_eq_true rfl⟩, Nat.zero_le _, Nat.zero_le _⟩ (Nat.le_of_ble_eq_true rfl) (st' := [.int y11.1]) rfl (fun hE => ?_)
    have hbl11 : bl y11.1 := hE
    refine j_if_ne 19 17 C dX5_bend_14 rfl rfl (fun c_14 => ?_) (fun c_14 => ?_)
    · replace hz := (if_neg c_14).symm.trans hz
      refine j_iconst 20 C (x := nI 0) dX5_bend_19 rfl (by decide) ?_
      refine j_istore_n 21 C [(2, .int (nI 0)), (0, .ref (ad 0)), (1, .int what)] dX5_bend_20 rfl rfl (by decide) rfl ?_
      refine j_iconst 22 C (x := nI 0) dX5_bend_21 rfl (by decide) ?_
      refine j_istore_n 23 C [(3, .int (nI 0)), (2, .int (nI 0)), (0, .ref (ad 0)), (1, .int what)] dX5_bend_22 rfl rfl (by decide) rfl ?_
      skip
      obtain ⟨z23, ez23, hz⟩ := ap_x hz
      have L23 : ∀ (n23 i23 : Nat) (c23 : Int32), 0 ≤ i23 → i23 < 5000 → n23 = S - i23 → lp (m_X5_bend_L23 W S ns nc B σ what y11) n23 i23 c23 = z23 → J p l e rm_X5_bend s m args below meth c Q D A H0 8 0 0 N ad (CT K W S ns nc ad B y11.2) 23 [(0, .ref (ad 0)), (1, .int what), (2, .int c23), (3, .int (nI i23))] [] := by
        intro n23
        induction n23 with
        | zero =>
          intro i23 c23 hl23 hi23 hn23 hz23
          refine j_iload_n 24 C dX5_bend_23 rfl rfl 3 rfl ?_
          refine j_aload_n 25 C dX5_bend_24 rfl rfl 0 rfl ?_
          refine k_get 28 C fl_X5_21 dX5_bend_25 rfl 0 (GH_r hG (by decide)) _ rfl (CE_0 _) (.ref (ad 1)) rfl ?_
          refine s_V 31 C (As := []) cv_X5_125 (c_X2_surfaces (l := l) (D := D) (K := K) (ad := ad) hG  (hz := rfl)) dX5_bend_28 rfl 1 2 (GH_r hG (by decide)) rfl (CE_1 _) rfl rfl rfl rfl rfl rfl ⟨⟨Nat.le_of_ble_eq_true rfl, Nat.le_of_ble_eq_true rfl⟩, Nat.zero_le _, Nat.zero_le _⟩ (Nat.le_of_ble_eq_true rfl) (st' := [.int (m_X2_surfaces W S ns nc B y11.2), .int (nI i23)]) rfl (fun hE => ?_)
          have ey28 : (m_X2_surfaces W S ns nc B y11.2) = nI S := rfl
          refine j_ic_ge 134 34 C dX5_bend_31 rfl rfl (fun c_31 => ?_) (fun c_31 => ?_)
          · skip
            have n_31 := nat_le (a := S) (b := i23) (by simp only [ey28, nI_add, pk_mul]) rfl (by omega) (by omega) c_31
            have hq23 : c23 = z23 := hz23
            subst hq23
            refine j_iload_n 135 C dX5_bend_134 rfl rfl 2 rfl ?_
            subst hz
            exact j_retI C X dX5_bend_135 rfl ⟨rfl, rfl, rfl, rfl, trivial⟩
          · exfalso
            have n_31 := nat_nle (a := S) (b := i23) (by simp only [ey28, nI_add, pk_mul]) rfl (by omega) (by omega) c_31
            omega
        | succ n23 ih23 =>
          intro i23 c23 hl23 hi23 hn23 hz23
          refine j_iload_n 24 C dX5_bend_23 rfl rfl 3 rfl ?_
          refine j_aload_n 25 C dX5_bend_24 rfl rfl 0 rfl ?_
          refine k_get 28 C fl_X5_21 dX5_bend_25 rfl 0 (GH_r hG (by decide)) _ rfl (CE_0 _) (.ref (ad 1)) rfl ?_
          refine s_V 31 C (As := []) cv_X5_125 (c_X2_surfaces (l := l) (D := D) (K := K) (ad := ad) hG  (hz := rfl)) dX5_bend_28 rfl 1 2 (GH_r hG (by decide)) rfl (CE_1 _) rfl rfl rfl rfl rfl rfl ⟨⟨Nat.le_of_ble_eq_true rfl, Nat.le_of_ble_eq_true rfl⟩, Nat.zero_le _, Nat.zero_le _⟩ (Nat.le_of_ble_eq_true rfl) (st' := [.int (m_X2_surfaces W S ns nc B y11.2), .int (nI i23)]) rfl (fun hE => ?_)
          have ey28 : (m_X2_surfaces W S ns nc B y11.2) = nI S := rfl
          refine j_ic_ge 134 34 C dX5_bend_31 rfl rfl (fun c_31 => ?_) (fun c_31 => ?_)
          · exfalso
            have n_31 := nat_le (a := S) (b := i23) (by simp only [ey28, nI_add, pk_mul]) rfl (by omega) (by omega) c_31
            omega
          · skip
            have n_31 := nat_nle (a := S) (b := i23) (by simp only [ey28, nI_add, pk_mul]) rfl (by omega) (by omega) c_31
            obtain ⟨w23, hw23, hz23⟩ := lp_s hz23
            have ho23 := hz
            clear hz
            have hz := hw23
            clear hw23
            unfold m_X5_bend_L23 at hz
            refine j_iconst 35 C (x := nI 1) dX5_bend_34 rfl (by decide) ?_
            refine j_istore 37 C [(4, .int (nI 1)), (0, .ref (ad 0)), (1, .int what), (2, .int c23), (3, .int (nI i23))] dX5_bend_35 rfl (by decide) rfl ?_
            skip
            obtain ⟨z37, ez37, hz⟩ := ap_x hz
            have L37 : ∀ (n37 i37 : Nat) (c37 : Int32), 1 ≤ i37 → i37 < 5000 → n37 = W - (i37 + 1) → lp (m_X5_bend_L37 W S ns nc B σ what y11 i23) n37 i37 c37 = z37 → J p l e rm_X5_bend s m args below meth c Q D A H0 8 0 0 N ad (CT K W S ns nc ad B y11.2) 37 [(0, .ref (ad 0)), (1, .int what), (2, .int c37), (3, .int (nI i23)), (4, .int (nI i37))] [] := by
              intro n37
              induction n37 with
              | zero =>
                intro i37 c37 hl37 hi37 hn37 hz37
                refine j_iload 39 C dX5_bend_37 rfl 4 rfl ?_
                refine j_iconst 40 C (x := nI 1) dX5_bend_39 rfl (by decide) ?_
                refine j_iadd 41 C dX5_bend_40 rfl rfl ?_
                refine j_aload_n 42 C dX5_bend_41 rfl rfl 0 rfl ?_
                refine k_get 45 C fl_X5_21 dX5_bend_42 rfl 0 (GH_r hG (by decide)) _ rfl (CE_0 _) (.ref (ad 1)) rfl ?_
                refine s_V 48 C (As := []) cv_X5_139 (c_X2_columns (l := l) (D := D) (K := K) (ad := ad) hG  (hz := rfl)) dX5_bend_45 rfl 1 2 (GH_r hG (by decide)) rfl (CE_1 _) rfl rfl rfl rfl rfl rfl ⟨⟨Nat.le_of_ble_eq_true rfl, Nat.le_of_ble_eq_true rfl⟩, Nat.zero_le _, Nat.zero_le _⟩ (Nat.le_of_ble_eq_true rfl) (st' := [.int (m_X2_columns W S ns nc B y11.2), .int ((nI i37) + (nI 1))]) rfl (fun hE => ?_)
                have ey45 : (m_X2_columns W S ns nc B y11.2) = nI W := rfl
                refine j_ic_ge 128 51 C dX5_bend_48 rfl rfl (fun c_48 => ?_) (fun c_48 => ?_)
                · skip
                  have n_48 := nat_le (a := W) (b := (i37 + 1)) (by simp only [ey28, ey45, nI_add, pk_mul]) (by simp only [ey28, ey45, nI_add, pk_mul]) (by omega) (by omega) c_48
                  have hq37 : c37 = z37 := hz37
                  subst hq37
                  refine j_iinc 131 C (x' := nI (i23 + 1)) [(3, .int (nI (i23 + 1))), (0, .ref (ad 0)), (1, .int what), (2, .int c37), (4, .int (nI i37))] dX5_bend_128 rfl 3 rfl (by rw [show Int32.ofInt 1 = nI 1 from by decide, nI_add]) (by decide) rfl ?_
                  refine j_goto 23 C dX5_bend_131 rfl ?_
                  subst hz
                  refine j_lv [1, 2, 3, 0] (lv' := [(0, .ref (ad 0)), (1, .int what), (2, .int c37), (3, .int (nI (i23 + 1)))]) rfl ?_
                  have hz := ho23
                  exact ih23 (i23 + 1) c37 (by omega) (by omega) (by omega) hz23
                · exfalso
                  have n_48 := nat_nle (a := W) (b := (i37 + 1)) (by simp only [ey28, ey45, nI_add, pk_mul]) (by simp only [ey28, ey45, nI_add, pk_mul]) (by omega) (by omega) c_48
                  omega
              | succ n37 ih37 =>
                intro i37 c37 hl37 hi37 hn37 hz37
                refine j_iload 39 C dX5_bend_37 rfl 4 rfl ?_
                refine j_iconst 40 C (x := nI 1) dX5_bend_39 rfl (by decide) ?_
                refine j_iadd 41 C dX5_bend_40 rfl rfl ?_
                refine j_aload_n 42 C dX5_bend_41 rfl rfl 0 rfl ?_
                refine k_get 45 C fl_X5_21 dX5_bend_42 rfl 0 (GH_r hG (by decide)) _ rfl (CE_0 _) (.ref (ad 1)) rfl ?_
                refine s_V 48 C (As := []) cv_X5_139 (c_X2_columns (l := l) (D := D) (K := K) (ad := ad) hG  (hz := rfl)) dX5_bend_45 rfl 1 2 (GH_r hG (by decide)) rfl (CE_1 _) rfl rfl rfl rfl rfl rfl ⟨⟨Nat.le_of_ble_eq_true rfl, Nat.le_of_ble_eq_true rfl⟩, Nat.zero_le _, Nat.zero_le _⟩ (Nat.le_of_ble_eq_true rfl) (st' := [.int (m_X2_columns W S ns nc B y11.2), .int ((nI i37) + (nI 1))]) rfl (fun hE => ?_)
                have ey45 : (m_X2_columns W S ns nc B y11.2) = nI W := rfl
                refine j_ic_ge 128 51 C dX5_bend_48 rfl rfl (fun c_48 => ?_) (fun c_48 => ?_)
                · exfalso
                  have n_48 := nat_le (a := W) (b := (i37 + 1)) (by simp only [ey28, ey45, nI_add, pk_mul]) (by simp only [ey28, ey45, nI_add, pk_mul]) (by omega) (by omega) c_48
                  omega
                · skip
                  have n_48 := nat_nle (a := W) (b := (i37 + 1)) (by simp only [ey28, ey45, nI_add, pk_mul]) (by simp only [ey28, ey45, nI_add, pk_mul]) (by omega) (by omega) c_48
                  obtain ⟨w37, hw37, hz37⟩ := lp_s hz37
                  have ho37 := hz
                  clear hz
                  have hz := hw37
                  clear hw37
                  unfold m_X5_bend_L37 at hz
                  refine j_aload_n 52 C dX5_bend_51 rfl rfl 0 rfl ?_
                  refine j_aload_n 53 C dX5_bend_52 rfl rfl 0 rfl ?_
                  refine k_get 56 C fl_X5_21 dX5_bend_53 rfl 0 (GH_r hG (by decide)) _ rfl (CE_0 _) (.ref (ad 1)) rfl ?_
                  refine j_iload_n 57 C dX5_bend_56 rfl rfl 3 rfl ?_
                  refine j_iload 59 C dX5_bend_57 rfl 4 rfl ?_
                  obtain ⟨y59, e59, hz⟩ := ap_x hz
                  refine s_V 62 C (As := [.int (nI i23), .int (nI i37)]) cv_X5_110 (c_X2_placeOf (l := l) (D := D) (K := K) (ad := ad) hG  (hz := e59)) dX5_bend_59 rfl 1 2 (GH_r hG (by decide)) rfl (CE_1 _) rfl rfl rfl rfl rfl rfl ⟨⟨Nat.le_of_ble_eq_true rfl, Nat.le_of_ble_eq_true rfl⟩, Nat.zero_le _, Nat.zero_le _⟩ (Nat.le_of_ble_eq_true rfl) (st' := [.int y59, .ref (ad 0)]) rfl (fun hE => ?_)
                  refine j_iload_n 63 C dX5_bend_62 rfl rfl 1 rfl ?_
                  obtain ⟨y63, e63, hz⟩ := ap_x hz
                  refine s_V 66 C (As := [.int y59, .int what]) cv_X5_113 (c_X5_end (l := l) (D := D) (K := K) (ad := ad) hG  (hz := e63)) dX5_bend_63 rfl 0 5 (GH_r hG (by decide)) rfl (CE_0 _) rfl rfl rfl rfl rfl rfl ⟨⟨Nat.le_of_ble_eq_true rfl, Nat.le_of_ble_eq_true rfl⟩, Nat.zero_le _, Nat.zero_le _⟩ (Nat.le_of_ble_eq_true rfl) (st' := [.int y63]) rfl (fun hE => ?_)
                  refine j_istore 68 C [(5, .int y63), (0, .ref (ad 0)), (1, .int what), (2, .int c37), (3, .int (nI i23)), (4, .int (nI i37))] dX5_bend_66 rfl (by decide) rfl ?_
                  refine j_aload_n 69 C dX5_bend_68 rfl rfl 1 rfl ?_
                  refine j_aload_n 70 C dX5_bend_69 rfl rfl 1 rfl ?_
                  refine k_get 73 C fl_X5_21 dX5_bend_70 rfl 0 (GH_r hG (by decide)) _ rfl (CE_0 _) (.ref (ad 1)) rfl ?_
                  refine j_iload_n 74 C dX5_bend_73 rfl rfl 4 rfl ?_
                  refine j_iload 76 C dX5_bend_74 rfl 5 rfl ?_
                  refine j_iconst 77 C (x := nI 1) dX5_bend_76 rfl (by decide) ?_
                  refine j_isub 78 C dX5_bend_77 rfl rfl ?_
                  obtain ⟨y78, e78, hz⟩ := ap_x hz
                  refine s_V 81 C (As := [.int (nI i23), .int ((nI i37) - (nI 1))]) cv_X5_110 (c_X2_placeOf (l := l) (D := D) (K := K) (ad := ad) hG  (hz := e78)) dX5_bend_78 rfl 1 2 (GH_r hG (by decide)) rfl (CE_1 _) rfl rfl rfl rfl rfl rfl ⟨⟨Nat.le_of_ble_eq_true rfl, Nat.le_of_ble_eq_true rfl⟩, Nat.zero_le _, Nat.zero_le _⟩ (Nat.le_of_ble_eq_true rfl) (st' := [.int y78, .ref (ad 0)]) rfl (fun hE => ?_)
                  refine j_iload_n 82 C dX5_bend_81 rfl rfl 2 rfl ?_
                  obtain ⟨y82, e82, hz⟩ := ap_x hz
                  refine s_V 85 C (As := [.int y78, .int what]) cv_X5_113 (c_X5_end (l := l) (D := D) (K := K) (ad := ad) hG  (hz := e82)) dX5_bend_82 rfl 0 5 (GH_r hG (by decide)) rfl (CE_0 _) rfl rfl rfl rfl rfl rfl ⟨⟨Nat.le_of_ble_eq_true rfl, Nat.le_of_ble_eq_true rfl⟩, Nat.zero_le _, Nat.zero_le _⟩ (Nat.le_of_ble_eq_true rfl) (st' := [.int y82]) rfl (fun hE => ?_)
                  refine j_istore 87 C [(6, .int y82), (5, .int y63), (0, .ref (ad 0)), (1, .int what), (2, .int c37), (3, .int (nI i23)), (4, .int (nI i37))] dX5_bend_85 rfl (by decide) rfl ?_
                  refine j_aload_n 88 C dX5_bend_87 rfl rfl 2 rfl ?_
                  refine j_aload_n 89 C dX5_bend_88 rfl rfl 2 rfl ?_
                  refine k_get 92 C fl_X5_21 dX5_bend_89 rfl 0 (GH_r hG (by decide)) _ rfl (CE_0 _) (.ref (ad 1)) rfl ?_
                  refine j_iload_n 93 C dX5_bend_92 rfl rfl 5 rfl ?_
                  refine j_iload 95 C dX5_bend_93 rfl 6 rfl ?_
                  refine j_iconst 96 C (x := nI 1) dX5_bend_95 rfl (by decide) ?_
                  refine j_iadd 97 C dX5_bend_96 rfl rfl ?_
                  obtain ⟨y97, e97, hz⟩ := ap_x hz
                  refine s_V 100 C (As := [.int (nI i23), .int ((nI i37) + (nI 1))]) cv_X5_110 (c_X2_placeOf (l := l) (D := D) (K := K) (ad := ad) hG  (hz := e97)) dX5_bend_97 rfl 1 2 (GH_r hG (by decide)) rfl (CE_1 _) rfl rfl rfl rfl rfl rfl ⟨⟨Nat.le_of_ble_eq_true rfl, Nat.le_of_ble_eq_true rfl⟩, Nat.zero_le _, Nat.zero_le _⟩ (Nat.le_of_ble_eq_true rfl) (st' := [.int y97, .ref (ad 0)]) rfl (fun hE => ?_)
                  refine j_iload_n 101 C dX5_bend_100 rfl rfl 3 rfl ?_
                  obtain ⟨y101, e101, hz⟩ := ap_x hz
                  refine s_V 104 C (As := [.int y97, .int what]) cv_X5_113 (c_X5_end (l := l) (D := D) (K := K) (ad := ad) hG  (hz := e101)) dX5_bend_101 rfl 0 5 (GH_r hG (by decide)) rfl (CE_0 _) rfl rfl rfl rfl rfl rfl ⟨⟨Nat.le_of_ble_eq_true rfl, Nat.le_of_ble_eq_true rfl⟩, Nat.zero_le _, Nat.zero_le _⟩ (Nat.le_of_ble_eq_true rfl) (st' := [.int y101]) rfl (fun hE => ?_)
                  refine j_istore 106 C [(7, .int y101), (6, .int y82), (5, .int y63), (0, .ref (ad 0)), (1, .int what), (2, .int c37), (3, .int (nI i23)), (4, .int (nI i37))] dX5_bend_104 rfl (by decide) rfl ?_
                  refine j_iload_n 107 C dX5_bend_106 rfl rfl 5 rfl ?_
                  refine j_iconst 108 C (x := nI 2) dX5_bend_107 rfl (by decide) ?_
                  refine j_iload 110 C dX5_bend_108 rfl 2 rfl ?_
                  refine j_imul 111 C dX5_bend_110 rfl rfl ?_
                  refine j_iload 113 C dX5_bend_111 rfl 1 rfl ?_
                  refine j_isub 114 C dX5_bend_113 rfl rfl ?_
                  refine j_iload 116 C dX5_bend_114 rfl 0 rfl ?_
                  refine j_isub 117 C dX5_bend_116 rfl rfl ?_
                  refine j_mabs 120 C wl_X5_142 rfl dX5_bend_117 rfl (Nat.le_of_ble_eq_true rfl) (Nat.le_of_ble_eq_true rfl) (Nat.zero_le _) (Nat.zero_le _) ?_
                  refine j_iadd 121 C dX5_bend_120 rfl rfl ?_
                  obtain ⟨x121, e121, hz⟩ := ap_x hz
                  refine j_st (st' := [.int x121]) (by rw [← e121]) ?_
                  refine j_istore_n 122 C [(2, .int x121), (7, .int y101), (6, .int y82), (5, .int y63), (0, .ref (ad 0)), (1, .int what), (3, .int (nI i23)), (4, .int (nI i37))] dX5_bend_121 rfl rfl (by decide) rfl ?_
                  refine j_iinc 125 C (x' := nI (i37 + 1)) [(4, .int (nI (i37 + 1))), (2, .int x121), (7, .int y101), (6, .int y82), (5, .int y63), (0, .ref (ad 0)), (1, .int what), (3, .int (nI i23))] dX5_bend_122 rfl 7 rfl (by rw [show Int32.ofInt 1 = nI 1 from by decide, nI_add]) (by decide) rfl ?_
                  refine j_goto 37 C dX5_bend_125 rfl ?_
                  subst hz
                  refine j_lv [5, 6, 1, 7, 0] (lv' := [(0, .ref (ad 0)), (1, .int what), (2, .int x121), (3, .int (nI i23)), (4, .int (nI (i37 + 1)))]) rfl ?_
                  have hz := ho37
                  exact ih37 (i37 + 1) x121 (by omega) (by omega) (by omega) hz37
            refine j_lv [1, 2, 3, 4, 0] (lv' := [(0, .ref (ad 0)), (1, .int what), (2, .int c23), (3, .int (nI i23)), (4, .int (nI 1))]) rfl ?_
            exact L37 _ 1 c23 (by omega) (by omega) rfl ez37
      refine j_lv [2, 3, 1, 0] (lv' := [(0, .ref (ad 0)), (1, .int what), (2, .int (nI 0)), (3, .int (nI 0))]) rfl ?_
      exact L23 _ 0 (nI 0) (by omega) (by omega) rfl ez23
    · replace hz := (if_pos c_14).symm.trans hz
      refine j_iconst 18 C (x := (-1)) dX5_bend_17 rfl (by decide) ?_
      subst hz
      exact j_retI C X dX5_bend_18 rfl ⟨rfl, rfl, rfl, rfl, trivial⟩
def m_X5_told (W S ns nc : Nat) (B : Nat → Option Nat) (σ : Nat → Nat → Int32) (sight : Int32) (what : Int32) : Int32 × (Nat → Nat → Int32) := ap (m_X4_at W S ns nc B σ sight) (fun (y5 : Option Nat) => (Option.elim y5 ((-2147483648), σ) (fun (q10 : Nat) => (if what = nI 0 then ap (m_X3_surface W S ns nc B σ q10) (fun (y57 : Int32) => (y57, σ)) else (if what = nI 1 then ap (m_X3_column W S ns nc B σ q10) (fun (y62 : Int32) => (y62, σ)) else (if what = nI 2 then ap (m_X3_kind W S ns nc B σ q10) (fun (y67 : Int32) => (y67, σ)) else (if what = nI 3 then ap (m_X3_z W S ns nc B σ q10) (fun (y72 : Int32) => (y72, σ)) else (if what = nI 4 then ap (m_X3_miss W S ns nc B σ q10) (fun (y77 : Int32) => (y77, σ)) else (if what = nI 5 then ap (m_X0_areSome W S ns nc B σ) (fun (y85 : Int32 × (Nat → Nat → Int32)) => (if y85.1 = 0 then ((-2147483648), y85.2) else ap (m_X0_leftOut W S ns nc B y85.2) (fun (y95 : Int32) => ((y95 >>> (sight &&& 31)) &&& (nI 1), y85.2)))) else ((-2147483648), σ))))))))))
abbrev rm_X5_told : Room := { frames := 18, cells := 0, slots := 0, locals := 540 }
set_option maxHeartbeats 4000000 in
set_option maxRecDepth 100000 in
theorem c_X5_told {l : Launch} {D : va_G} {K : Nat → ClassId} {W S ns nc N : Nat} {ad : Nat → Nat} {B : Nat → Option Nat} {σ : Nat → Nat → Int32} (hG : GH W S ns nc N) {sight : Int32} {what : Int32}  {z : Int32 × (Nat → Nat → Int32)} (hz : m_X5_told W S ns nc B σ sight what = z) (hB : BOK B N) (hb7 : bl (σ 9 7)) : MC l yX5_told cX5_told 4 (some .int) rm_X5_told D (TY K) N ad (CT K W S ns nc ad B σ) [.ref (ad 0), .int sight, .int what] (BS (some (.int z.1)) N ad (CT K W S ns nc ad B z.2) True) := by
  have hW := hG.1; have hW8 := hG.2.1; have hS := hG.2.2.1; have hS4 := hG.2.2.2.1; have hns := hG.2.2.2.2.1; have hnc := hG.2.2.2.2.2.1; have hWS := GH_ws hG
  refine MC.of (by decide) (Nat.le_of_ble_eq_true rfl) (fun p e s m args below meth c Q A H0 C X => ?_)
  replace C : Cx p s m args meth c cX5_told RX5 4 D (TY K) A H0 := C
  show J p l e rm_X5_told s m args below meth c Q D A H0 4 0 0 N ad (CT K W S ns nc ad B σ) 0 [(0, .ref (ad 0)), (1, .int sight), (2, .int what)] []
  unfold m_X5_told at hz
  refine j_aload_n 1 C dX5_told_0 rfl rfl 0 rfl ?_
  refine k_get 4 C fl_X5_30 dX5_told_1 rfl 0 (GH_r hG (by decide)) _ rfl (CE_0 _) (.ref (ad 7)) rfl ?_
  refine j_iload_n 5 C dX5_told_4 rfl rfl 1 rfl ?_
  obtain ⟨y5, e5, hz⟩ := ap_x hz
  refine s_V 8 C (As := [.int sight]) cv_X5_145 (c_X4_at (l := l) (D := D) (K := K) (ad := ad) hG  (hz := e5)) dX5_told_5 rfl 7 4 (GH_r hG (by decide)) rfl (CE_7 _) rfl rfl rfl rfl rfl rfl ⟨⟨Nat.le_of_ble_eq_true rfl, Nat.le_of_ble_eq_true rfl⟩, Nat.zero_le _, Nat.zero_le _⟩ (Nat.le_of_ble_eq_true rfl) (st' := [va_rf (y5.map ad)]) rfl (fun hE => ?_)
  refine j_astore_no 9 C [(3, va_rf (y5.map ad)), (0, .ref (ad 0)), (1, .int sight), (2, .int what)] dX5_told_8 rfl rfl (by decide) rfl ?_
  refine j_aload_no 10 C dX5_told_9 rfl rfl 0 rfl ?_
  refine j_ifnonnull 16 13 C dX5_told_10 rfl rfl (fun a_10 c_10 => ?_) (fun c_10 => ?_)
  · skip
    obtain ⟨q10, c_10⟩ := om_s c_10
    replace hz := oe_s c_10 hz
    obtain ⟨hq_q10, hN_q10⟩ := at_q hB e5 c_10
    rw [c_10]
    refine j_lv [0, 1, 2, 3] (lv' := [(3, .ref (ad q10)), (0, .ref (ad 0)), (1, .int sight), (2, .int what)]) rfl ?_
    refine j_iload_n 17 C dX5_told_16 rfl rfl 3 rfl ?_
    rcases Classical.em (what = nI 0) with c_1700 | c_1700
    · replace hz := (if_pos c_1700).symm.trans hz
      refine j_swIn 56 C dX5_told_17 (off := 39) (by rw [c_1700]; decide) (by rw [c_1700]; decide) (by rw [c_1700]; decide) rfl ?_
      refine j_aload_n 57 C dX5_told_56 rfl rfl 0 rfl ?_
      obtain ⟨y57, e57, hz⟩ := ap_x hz
      refine s_V 60 C (As := []) cv_X5_149 (c_X3_surface (l := l) (D := D) (K := K) (ad := ad) hG (hq_q := hq_q10) (hN_q := hN_q10) (hz := e57)) dX5_told_57 rfl q10 3 hN_q10 rfl (CE_q hq_q10 _) rfl rfl rfl rfl rfl rfl ⟨⟨Nat.le_of_ble_eq_true rfl, Nat.le_of_ble_eq_true rfl⟩, Nat.zero_le _, Nat.zero_le _⟩ (Nat.le_of_ble_eq_true rfl) (st' := [.int y57]) rfl (fun hE => ?_)
      subst hz
      exact j_retI C X dX5_told_60 rfl ⟨rfl, rfl, rfl, rfl, trivial⟩
    · replace hz := (if_neg c_1700).symm.trans hz
      rcases Classical.em (what = nI 1) with c_1701 | c_1701
      · replace hz := (if_pos c_1701).symm.trans hz
        refine j_swIn 61 C dX5_told_17 (off := 44) (by rw [c_1701]; decide) (by rw [c_1701]; decide) (by rw [c_1701]; decide) rfl ?_
        refine j_aload_n 62 C dX5_told_61 rfl rfl 0 rfl ?_
        obtain ⟨y62, e62, hz⟩ := ap_x hz
        refine s_V 65 C (As := []) cv_X5_152 (c_X3_column (l := l) (D := D) (K := K) (ad := ad) hG (hq_q := hq_q10) (hN_q := hN_q10) (hz := e62)) dX5_told_62 rfl q10 3 hN_q10 rfl (CE_q hq_q10 _) rfl rfl rfl rfl rfl rfl ⟨⟨Nat.le_of_ble_eq_true rfl, Nat.le_of_ble_eq_true rfl⟩, Nat.zero_le _, Nat.zero_le _⟩ (Nat.le_of_ble_eq_true rfl) (st' := [.int y62]) rfl (fun hE => ?_)
        subst hz
        exact j_retI C X dX5_told_65 rfl ⟨rfl, rfl, rfl, rfl, trivial⟩
      · replace hz := (if_neg c_1701).symm.trans hz
        rcases Classical.em (what = nI 2) with c_1702 | c_1702
        · replace hz := (if_pos c_1702).symm.trans hz
          refine j_swIn 66 C dX5_told_17 (off := 49) (by rw [c_1702]; decide) (by rw [c_1702]; decide) (by rw [c_1702]; decide) rfl ?_
          refine j_aload_n 67 C dX5_told_66 rfl rfl 0 rfl ?_
          obtain ⟨y67, e67, hz⟩ := ap_x hz
          refine s_V 70 C (As := []) cv_X5_155 (c_X3_kind (l := l) (D := D) (K := K) (ad := ad) hG (hq_q := hq_q10) (hN_q := hN_q10) (hz := e67)) dX5_told_67 rfl q10 3 hN_q10 rfl (CE_q hq_q10 _) rfl rfl rfl rfl rfl rfl ⟨⟨Nat.le_of_ble_eq_true rfl, Nat.le_of_ble_eq_true rfl⟩, Nat.zero_le _, Nat.zero_le _⟩ (Nat.le_of_ble_eq_true rfl) (st' := [.int y67]) rfl (fun hE => ?_)
          subst hz
          exact j_retI C X dX5_told_70 rfl ⟨rfl, rfl, rfl, rfl, trivial⟩
        · replace hz := (if_neg c_1702).symm.trans hz
          rcases Classical.em (what = nI 3) with c_1703 | c_1703
          · replace hz := (if_pos c_1703).symm.trans hz
            refine j_swIn 71 C dX5_told_17 (off := 54) (by rw [c_1703]; decide) (by rw [c_1703]; decide) (by rw [c_1703]; decide) rfl ?_
            refine j_aload_n 72 C dX5_told_71 rfl rfl 0 rfl ?_
            obtain ⟨y72, e72, hz⟩ := ap_x hz
            refine s_V 75 C (As := []) cv_X5_158 (c_X3_z (l := l) (D := D) (K := K) (ad := ad) hG (hq_q := hq_q10) (hN_q := hN_q10) (hz := e72)) dX5_told_72 rfl q10 3 hN_q10 rfl (CE_q hq_q10 _) rfl rfl rfl rfl rfl rfl ⟨⟨Nat.le_of_ble_eq_true rfl, Nat.le_of_ble_eq_true rfl⟩, Nat.zero_le _, Nat.zero_le _⟩ (Nat.le_of_ble_eq_true rfl) (st' := [.int y72]) rfl (fun hE => ?_)
            subst hz
            exact j_retI C X dX5_told_75 rfl ⟨rfl, rfl, rfl, rfl, trivial⟩
          · replace hz := (if_neg c_1703).symm.trans hz
            rcases Classical.em (what = nI 4) with c_1704 | c_1704
            · replace hz := (if_pos c_1704).symm.trans hz
              refine j_swIn 76 C dX5_told_17 (off := 59) (by rw [c_1704]; decide) (by rw [c_1704]; decide) (by rw [c_1704]; decide) rfl ?_
              refine j_aload_n 77 C dX5_told_76 rfl rfl 0 rfl ?_
              obtain ⟨y77, e77, hz⟩ := ap_x hz
              refine s_V 80 C (As := []) cv_X5_161 (c_X3_miss (l := l) (D := D) (K := K) (ad := ad) hG (hq_q := hq_q10) (hN_q := hN_q10) (hz := e77)) dX5_told_77 rfl q10 3 hN_q10 rfl (CE_q hq_q10 _) rfl rfl rfl rfl rfl rfl ⟨⟨Nat.le_of_ble_eq_true rfl, Nat.le_of_ble_eq_true rfl⟩, Nat.zero_le _, Nat.zero_le _⟩ (Nat.le_of_ble_eq_true rfl) (st' := [.int y77]) rfl (fun hE => ?_)
              subst hz
              exact j_retI C X dX5_told_80 rfl ⟨rfl, rfl, rfl, rfl, trivial⟩
            · replace hz := (if_neg c_1704).symm.trans hz
              rcases Classical.em (what = nI 5) with c_1705 | c_1705
              · replace hz := (if_pos c_1705).symm.trans hz
                refine j_swIn 81 C dX5_told_17 (off := 64) (by rw [c_1705]; decide) (by rw [c_1705]; decide) (by rw [c_1705]; decide) rfl ?_
                refine j_aload_n 82 C dX5_told_81 rfl rfl 1 rfl ?_
                refine k_get 85 C fl_X5_39 dX5_told_82 rfl 0 (GH_r hG (by decide)) _ rfl (CE_0 _) (.ref (ad 9)) rfl ?_
                obtain ⟨y85, e85, hz⟩ := ap_x hz
                refine s_V 88 C (As := []) cv_X5_99 (c_X0_areSome (l := l) (D := D) (K := K) (ad := ad) hG (hB := hB) (hb7 := hb7) (hz := e85)) dX5_told_85 rfl 9 0 (GH_r hG (by decide)) rfl (CE_9 _) rfl rfl rfl rfl rfl rfl ⟨⟨Nat.le_of_ble_eq_true rfl, Nat.le_of_ble_eq_true rfl⟩, Nat.zero_le _, Nat.zero_le _⟩ (Nat.le_of_ble_eq_true rfl) (st' := [.int y85.1]) rfl (fun hE => ?_)
                have hbl85 : bl y85.1 := hE
                refine j_if_eq 105 91 C dX5_told_88 rfl rfl (fun c_88 => ?_) (fun c_88 => ?_)
                · replace hz := (if_pos c_88).symm.trans hz
                  refine j_ldc 107 C (x' := (-2147483648)) wv_X5_131 dX5_told_105 rfl (by decide) ?_
                  subst hz
                  exact j_retI C X dX5_told_107 rfl ⟨rfl, rfl, rfl, rfl, trivial⟩
                · replace hz := (if_neg c_88).symm.trans hz
                  refine j_aload_n 92 C dX5_told_91 rfl rfl 1 rfl ?_
                  refine k_get 95 C fl_X5_39 dX5_told_92 rfl 0 (GH_r hG (by decide)) _ rfl (CE_0 _) (.ref (ad 9)) rfl ?_
                  obtain ⟨y95, e95, hz⟩ := ap_x hz
                  refine s_V 98 C (As := []) cv_X5_103 (c_X0_leftOut (l := l) (D := D) (K := K) (ad := ad) hG  (hz := e95)) dX5_told_95 rfl 9 0 (GH_r hG (by decide)) rfl (CE_9 _) rfl rfl rfl rfl rfl rfl ⟨⟨Nat.le_of_ble_eq_true rfl, Nat.le_of_ble_eq_true rfl⟩, Nat.zero_le _, Nat.zero_le _⟩ (Nat.le_of_ble_eq_true rfl) (st' := [.int y95]) rfl (fun hE => ?_)
                  refine j_iload_n 99 C dX5_told_98 rfl rfl 2 rfl ?_
                  refine j_ishr 100 C dX5_told_99 rfl rfl ?_
                  refine j_iconst 101 C (x := nI 1) dX5_told_100 rfl (by decide) ?_
                  refine j_iand 102 C dX5_told_101 rfl rfl ?_
                  refine j_goto 107 C dX5_told_102 rfl ?_
                  subst hz
                  exact j_retI C X dX5_told_107 rfl ⟨rfl, rfl, rfl, rfl, trivial⟩
              · replace hz := (if_neg c_1705).symm.trans hz
                refine j_swOut 108 C dX5_told_17 (sw_out6 c_1700 c_1701 c_1702 c_1703 c_1704 c_1705) rfl ?_
                refine j_ldc 110 C (x' := (-2147483648)) wv_X5_131 dX5_told_108 rfl (by decide) ?_
                subst hz
                exact j_retI C X dX5_told_110 rfl ⟨rfl, rfl, rfl, rfl, trivial⟩
  · skip
    replace c_10 := om_n c_10
    replace hz := oe_n c_10 hz
    refine j_ldc 15 C (x' := (-2147483648)) wv_X5_131 dX5_told_13 rfl (by decide) ?_
    subst hz
    exact j_retI C X dX5_told_15 rfl ⟨rfl, rfl, rfl, rfl, trivial⟩
def m_X5_count (W S ns nc : Nat) (B : Nat → Option Nat) (σ : Nat → Nat → Int32) (what : Int32) : Int32 := (if what = nI 0 then ap (m_X2_columns W S ns nc B σ) (fun (y36 : Int32) => y36) else (if what = nI 1 then ap (m_X2_surfaces W S ns nc B σ) (fun (y44 : Int32) => y44) else (if what = nI 2 then ap (m_X4_heap W S ns nc B σ) (fun (y52 : Int32) => ap (m_J6_bitCount_0f7a4 W S ns nc B σ y52) (fun (y55 : Int32) => y55)) else (if what = nI 3 then ap (m_X2_faults W S ns nc B σ) (fun (y63 : Int32) => y63) else (-1)))))
abbrev rm_X5_count : Room := { frames := 3, cells := 0, slots := 0, locals := 64 }
set_option maxHeartbeats 4000000 in
set_option maxRecDepth 100000 in
theorem c_X5_count {l : Launch} {D : va_G} {K : Nat → ClassId} {W S ns nc N : Nat} {ad : Nat → Nat} {B : Nat → Option Nat} {σ : Nat → Nat → Int32} (hG : GH W S ns nc N) {what : Int32}  {z : Int32} (hz : m_X5_count W S ns nc B σ what = z) (hB : BOK B N) : MC l yX5_count cX5_count 2 (some .int) rm_X5_count D (TY K) N ad (CT K W S ns nc ad B σ) [.ref (ad 0), .int what] (BS (some (.int z)) N ad (CT K W S ns nc ad B σ) True) := by
  have hW := hG.1; have hW8 := hG.2.1; have hS := hG.2.2.1; have hS4 := hG.2.2.2.1; have hns := hG.2.2.2.2.1; have hnc := hG.2.2.2.2.2.1; have hWS := GH_ws hG
  refine MC.of (by decide) (Nat.le_of_ble_eq_true rfl) (fun p e s m args below meth c Q A H0 C X => ?_)
  replace C : Cx p s m args meth c cX5_count RX5 2 D (TY K) A H0 := C
  show J p l e rm_X5_count s m args below meth c Q D A H0 2 0 0 N ad (CT K W S ns nc ad B σ) 0 [(0, .ref (ad 0)), (1, .int what)] []
  unfold m_X5_count at hz
  refine j_iload_n 1 C dX5_count_0 rfl rfl 1 rfl ?_
  rcases Classical.em (what = nI 0) with c_100 | c_100
  · replace hz := (if_pos c_100).symm.trans hz
    refine j_swIn 32 C dX5_count_1 (off := 31) (by rw [c_100]; decide) (by rw [c_100]; decide) (by rw [c_100]; decide) rfl ?_
    refine j_aload_n 33 C dX5_count_32 rfl rfl 0 rfl ?_
    refine k_get 36 C fl_X5_21 dX5_count_33 rfl 0 (GH_r hG (by decide)) _ rfl (CE_0 _) (.ref (ad 1)) rfl ?_
    obtain ⟨y36, e36, hz⟩ := ap_x hz
    refine s_V 39 C (As := []) cv_X5_139 (c_X2_columns (l := l) (D := D) (K := K) (ad := ad) hG  (hz := e36)) dX5_count_36 rfl 1 2 (GH_r hG (by decide)) rfl (CE_1 _) rfl rfl rfl rfl rfl rfl ⟨⟨Nat.le_of_ble_eq_true rfl, Nat.le_of_ble_eq_true rfl⟩, Nat.zero_le _, Nat.zero_le _⟩ (Nat.le_of_ble_eq_true rfl) (st' := [.int y36]) rfl (fun hE => ?_)
    have ey36 : y36 = nI W := by rw [← e36]; exact rfl
    subst hz
    exact j_retI C X dX5_count_39 rfl ⟨rfl, rfl, rfl, rfl, trivial⟩
  · replace hz := (if_neg c_100).symm.trans hz
    rcases Classical.em (what = nI 1) with c_101 | c_101
    · replace hz := (if_pos c_101).symm.trans hz
      refine j_swIn 40 C dX5_count_1 (off := 39) (by rw [c_101]; decide) (by rw [c_101]; decide) (by rw [c_101]; decide) rfl ?_
      refine j_aload_n 41 C dX5_count_40 rfl rfl 0 rfl ?_
      refine k_get 44 C fl_X5_21 dX5_count_41 rfl 0 (GH_r hG (by decide)) _ rfl (CE_0 _) (.ref (ad 1)) rfl ?_
      obtain ⟨y44, e44, hz⟩ := ap_x hz
      refine s_V 47 C (As := []) cv_X5_125 (c_X2_surfaces (l := l) (D := D) (K := K) (ad := ad) hG  (hz := e44)) dX5_count_44 rfl 1 2 (GH_r hG (by decide)) rfl (CE_1 _) rfl rfl rfl rfl rfl rfl ⟨⟨Nat.le_of_ble_eq_true rfl, Nat.le_of_ble_eq_true rfl⟩, Nat.zero_le _, Nat.zero_le _⟩ (Nat.le_of_ble_eq_true rfl) (st' := [.int y44]) rfl (fun hE => ?_)
      have ey44 : y44 = nI S := by rw [← e44]; exact rfl
      subst hz
      exact j_retI C X dX5_count_47 rfl ⟨rfl, rfl, rfl, rfl, trivial⟩
    · replace hz := (if_neg c_101).symm.trans hz
      rcases Classical.em (what = nI 2) with c_102 | c_102
      · replace hz := (if_pos c_102).symm.trans hz
        refine j_swIn 48 C dX5_count_1 (off := 47) (by rw [c_102]; decide) (by rw [c_102]; decide) (by rw [c_102]; decide) rfl ?_
        refine j_aload_n 49 C dX5_count_48 rfl rfl 0 rfl ?_
        refine k_get 52 C fl_X5_30 dX5_count_49 rfl 0 (GH_r hG (by decide)) _ rfl (CE_0 _) (.ref (ad 7)) rfl ?_
        obtain ⟨y52, e52, hz⟩ := ap_x hz
        refine s_V 55 C (As := []) cv_X5_164 (c_X4_heap (l := l) (D := D) (K := K) (ad := ad) hG (hB := hB) (hz := e52)) dX5_count_52 rfl 7 4 (GH_r hG (by decide)) rfl (CE_7 _) rfl rfl rfl rfl rfl rfl ⟨⟨Nat.le_of_ble_eq_true rfl, Nat.le_of_ble_eq_true rfl⟩, Nat.zero_le _, Nat.zero_le _⟩ (Nat.le_of_ble_eq_true rfl) (st' := [.int y52]) rfl (fun hE => ?_)
        obtain ⟨y55, e55, hz⟩ := ap_x hz
        refine s_S 58 C (As := [.int y52]) cs_X5_167 (c_J6_bitCount_0f7a4 (l := l) (D := D) (K := K) (ad := ad) hG  (hz := e55)) dX5_count_55 rfl rfl rfl rfl rfl ⟨⟨Nat.le_of_ble_eq_true rfl, Nat.le_of_ble_eq_true rfl⟩, Nat.zero_le _, Nat.zero_le _⟩ (Nat.le_of_ble_eq_true rfl) (st' := [.int y55]) rfl (fun hE => ?_)
        subst hz
        exact j_retI C X dX5_count_58 rfl ⟨rfl, rfl, rfl, rfl, trivial⟩
      · replace hz := (if_neg c_102).symm.trans hz
        rcases Classical.em (what = nI 3) with c_103 | c_103
        · replace hz := (if_pos c_103).symm.trans hz
          refine j_swIn 59 C dX5_count_1 (off := 58) (by rw [c_103]; decide) (by rw [c_103]; decide) (by rw [c_103]; decide) rfl ?_
          refine j_aload_n 60 C dX5_count_59 rfl rfl 0 rfl ?_
          refine k_get 63 C fl_X5_21 dX5_count_60 rfl 0 (GH_r hG (by decide)) _ rfl (CE_0 _) (.ref (ad 1)) rfl ?_
          obtain ⟨y63, e63, hz⟩ := ap_x hz
          refine s_V 66 C (As := []) cv_X5_172 (c_X2_faults (l := l) (D := D) (K := K) (ad := ad) hG  (hz := e63)) dX5_count_63 rfl 1 2 (GH_r hG (by decide)) rfl (CE_1 _) rfl rfl rfl rfl rfl rfl ⟨⟨Nat.le_of_ble_eq_true rfl, Nat.le_of_ble_eq_true rfl⟩, Nat.zero_le _, Nat.zero_le _⟩ (Nat.le_of_ble_eq_true rfl) (st' := [.int y63]) rfl (fun hE => ?_)
          subst hz
          exact j_retI C X dX5_count_66 rfl ⟨rfl, rfl, rfl, rfl, trivial⟩
        · replace hz := (if_neg c_103).symm.trans hz
          refine j_swOut 67 C dX5_count_1 (sw_out4 c_100 c_101 c_102 c_103) rfl ?_
          refine j_iconst 68 C (x := (-1)) dX5_count_67 rfl (by decide) ?_
          subst hz
          exact j_retI C X dX5_count_68 rfl ⟨rfl, rfl, rfl, rfl, trivial⟩

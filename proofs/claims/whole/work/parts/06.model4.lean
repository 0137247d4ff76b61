def m_X6_thick (W S ns nc : Nat) (B : Nat → Option Nat) (σ : Nat → Nat → Int32) (surface : Int32) (from_ : Int32) (to_ : Int32) : Int32 × (Nat → Int32) × (Nat → Int32) × (Nat → Int32) := ap (m_X6_in W S ns nc B σ surface (nI 0) ((nI S) - (nI 2))) (fun (y8 : Int32) => (if y8 = 0 then (nI 0, (σ 36), (σ 37), (σ 38)) else ap (m_X6_in W S ns nc B σ from_ (nI 0) (nI 60)) (fun (y18 : Int32) => (if y18 = 0 then (nI 0, (σ 36), (σ 37), (σ 38)) else ap (m_X6_in W S ns nc B σ to_ from_ (nI 60)) (fun (y28 : Int32) => (if y28 = 0 then (nI 0, (σ 36), (σ 37), (σ 38)) else (nI 1, (upd (σ 36) 16 (nI 0)), (upd (σ 37) (surface).toNatClampNeg from_), (upd (σ 38) (surface).toNatClampNeg to_))))))))
abbrev rm_X6_thick : Room := { frames := 1, cells := 0, slots := 0, locals := 22 }
set_option maxHeartbeats 4000000 in
set_option maxRecDepth 100000 in
theorem c_X6_thick {l : Launch} {D : va_G} {K : Nat → ClassId} {W S ns nc N : Nat} {ad : Nat → Nat} {B : Nat → Option Nat} {σ : Nat → Nat → Int32} (hG : GH W S ns nc N) {surface : Int32} {from_ : Int32} {to_ : Int32}  {z : Int32 × (Nat → Int32) × (Nat → Int32) × (Nat → Int32)} (hz : m_X6_thick W S ns nc B σ surface from_ to_ = z)  : MC l yX6_thick cX6_thick 4 (some .boolean) rm_X6_thick D (TY K) N ad (CT K W S ns nc ad B σ) [.ref (ad 36), .int surface, .int from_, .int to_] (BS (some (.int z.1)) N ad (CT K W S ns nc ad B (sA (sA (sA σ 36 z.2.1) 37 z.2.2.1) 38 z.2.2.2)) (bl z.1)) := by
  have hW := hG.1; have hW8 := hG.2.1; have hS := hG.2.2.1; have hS4 := hG.2.2.2.1; have hns := hG.2.2.2.2.1; have hnc := hG.2.2.2.2.2.1; have hWS := GH_ws hG
  refine MC.of (by decide) (Nat.le_of_ble_eq_true rfl) (fun p e s m args below meth c Q A H0 C X => ?_)
  replace C : Cx p s m args meth c cX6_thick RX6 4 D (TY K) A H0 := C
  show J p l e rm_X6_thick s m args below meth c Q D A H0 4 0 0 N ad (CT K W S ns nc ad B σ) 0 [(0, .ref (ad 36)), (1, .int surface), (2, .int from_), (3, .int to_)] []
  unfold m_X6_thick at hz
  refine j_iload_n 1 C dX6_thick_0 rfl rfl 1 rfl ?_
  refine j_iconst 2 C (x := nI 0) dX6_thick_1 rfl (by decide) ?_
  refine j_aload_n 3 C dX6_thick_2 rfl rfl 0 rfl ?_
  refine k_get 6 C fl_X6_54 dX6_thick_3 rfl 36 (GH_r hG (by decide)) (σ 36) rfl (CE_36 _) (.int (nI S)) rfl ?_
  refine j_iconst 7 C (x := nI 2) dX6_thick_6 rfl (by decide) ?_
  refine j_isub 8 C dX6_thick_7 rfl rfl ?_
  obtain ⟨y8, e8, hz⟩ := ap_x hz
  refine s_S 11 C (As := [.int surface, .int (nI 0), .int ((nI S) - (nI 2))]) cs_X6_57 (c_X6_in (l := l) (D := D) (K := K) (ad := ad) hG  (hz := e8)) dX6_thick_8 rfl rfl rfl rfl rfl ⟨⟨Nat.le_of_ble_eq_true rfl, Nat.le_of_ble_eq_true rfl⟩, Nat.zero_le _, Nat.zero_le _⟩ (Nat.le_of_ble_eq_true rfl) (st' := [.int y8]) rfl (fun hE => ?_)
  have hbl8 : bl y8 := hE
  refine j_if_eq 34 14 C dX6_thick_11 rfl rfl (fun c_11 => ?_) (fun c_11 => ?_)
  · replace hz := (if_pos c_11).symm.trans hz
    refine j_iconst 35 C (x := nI 0) dX6_thick_34 rfl (by decide) ?_
    subst hz
    exact j_retI C X dX6_thick_35 (bl_nar bl_0) ⟨rfl, rfl, rfl, (CT_x (by intro a; (by_cases h0 : a = 36; (· (first | (subst h0; simp [sA]; done) | (rw [h0]; simp [sA]; done))); by_cases h1 : a = 37; (· (first | (subst h1; simp [sA]; done) | (rw [h1]; simp [sA]; done))); by_cases h2 : a = 38; (· (first | (subst h2; simp [sA]; done) | (rw [h2]; simp [sA]; done))); simp [sA, h0, h1, h2]))), bl_0⟩
  · replace hz := (if_neg c_11).symm.trans hz
    obtain ⟨ks, hks, eks⟩ := in_hi (M := S - 1) e8 c_11 (by rw [sub_toInt (by omega) (by omega)]; omega)
    refine j_iload_n 15 C dX6_thick_14 rfl rfl 2 rfl ?_
    refine j_iconst 16 C (x := nI 0) dX6_thick_15 rfl (by decide) ?_
    refine j_bipush 18 C (x := nI 60) dX6_thick_16 rfl (by decide) ?_
    obtain ⟨y18, e18, hz⟩ := ap_x hz
    refine s_S 21 C (As := [.int from_, .int (nI 0), .int (nI 60)]) cs_X6_57 (c_X6_in (l := l) (D := D) (K := K) (ad := ad) hG  (hz := e18)) dX6_thick_18 rfl rfl rfl rfl rfl ⟨⟨Nat.le_of_ble_eq_true rfl, Nat.le_of_ble_eq_true rfl⟩, Nat.zero_le _, Nat.zero_le _⟩ (Nat.le_of_ble_eq_true rfl) (st' := [.int y18]) rfl (fun hE => ?_)
    have hbl18 : bl y18 := hE
    refine j_if_eq 34 24 C dX6_thick_21 rfl rfl (fun c_21 => ?_) (fun c_21 => ?_)
    · replace hz := (if_pos c_21).symm.trans hz
      refine j_iconst 35 C (x := nI 0) dX6_thick_34 rfl (by decide) ?_
      subst hz
      exact j_retI C X dX6_thick_35 (bl_nar bl_0) ⟨rfl, rfl, rfl, (CT_x (by intro a; (by_cases h0 : a = 36; (· (first | (subst h0; simp [sA]; done) | (rw [h0]; simp [sA]; done))); by_cases h1 : a = 37; (· (first | (subst h1; simp [sA]; done) | (rw [h1]; simp [sA]; done))); by_cases h2 : a = 38; (· (first | (subst h2; simp [sA]; done) | (rw [h2]; simp [sA]; done))); simp [sA, h0, h1, h2]))), bl_0⟩
    · replace hz := (if_neg c_21).symm.trans hz
      refine j_iload_n 25 C dX6_thick_24 rfl rfl 3 rfl ?_
      refine j_iload_n 26 C dX6_thick_25 rfl rfl 2 rfl ?_
      refine j_bipush 28 C (x := nI 60) dX6_thick_26 rfl (by decide) ?_
      obtain ⟨y28, e28, hz⟩ := ap_x hz
      refine s_S 31 C (As := [.int to_, .int from_, .int (nI 60)]) cs_X6_57 (c_X6_in (l := l) (D := D) (K := K) (ad := ad) hG  (hz := e28)) dX6_thick_28 rfl rfl rfl rfl rfl ⟨⟨Nat.le_of_ble_eq_true rfl, Nat.le_of_ble_eq_true rfl⟩, Nat.zero_le _, Nat.zero_le _⟩ (Nat.le_of_ble_eq_true rfl) (st' := [.int y28]) rfl (fun hE => ?_)
      have hbl28 : bl y28 := hE
      refine j_if_ne 36 34 C dX6_thick_31 rfl rfl (fun c_31 => ?_) (fun c_31 => ?_)
      · replace hz := (if_neg c_31).symm.trans hz
        refine j_aload_n 37 C dX6_thick_36 rfl rfl 0 rfl ?_
        refine k_get 40 C fl_X6_9 dX6_thick_37 rfl 36 (GH_r hG (by decide)) (σ 36) rfl (CE_36 _) (.ref (ad 37)) rfl ?_
        refine j_iload_n 41 C dX6_thick_40 rfl rfl 1 rfl ?_
        refine j_iload_n 42 C dX6_thick_41 rfl rfl 2 rfl ?_
        refine k_iast 43 C dX6_thick_42 rfl 37 (GH_r hG (by decide)) (σ 37) rfl CE_37 (vp_inE (n := ks) (by simp only [eks, nI_add, pk_mul]) (by omega) (by omega)) (sA σ 37 (upd (σ 37) (surface).toNatClampNeg from_)) rfl ?_
        refine j_aload_n 44 C dX6_thick_43 rfl rfl 0 rfl ?_
        refine k_get 47 C fl_X6_13 dX6_thick_44 rfl 36 (GH_r hG (by decide)) (σ 36) (by rfl) (CE_36 _) (.ref (ad 38)) rfl ?_
        refine j_iload_n 48 C dX6_thick_47 rfl rfl 1 rfl ?_
        refine j_iload_n 49 C dX6_thick_48 rfl rfl 3 rfl ?_
        refine k_iast 50 C dX6_thick_49 rfl 38 (GH_r hG (by decide)) (σ 38) (by rfl) CE_38 (vp_inE (n := ks) (by simp only [eks, nI_add, pk_mul]) (by omega) (by omega)) (sA (sA σ 37 (upd (σ 37) (surface).toNatClampNeg from_)) 38 (upd (σ 38) (surface).toNatClampNeg to_)) rfl ?_
        refine j_aload_n 51 C dX6_thick_50 rfl rfl 0 rfl ?_
        refine j_iconst 52 C (x := nI 0) dX6_thick_51 rfl (by decide) ?_
        refine k_put 55 C fl_X6_61 fp_X6 rfl dX6_thick_52 rfl 36 (GH_r hG (by decide)) (σ 36) (by rfl) (CE_36 _) (bl_nar bl_0) (bl_fit bl_0) (Nat.le_of_ble_eq_true rfl) rfl (sA (sA (sA σ 37 (upd (σ 37) (surface).toNatClampNeg from_)) 38 (upd (σ 38) (surface).toNatClampNeg to_)) 36 (upd (σ 36) 16 (nI 0))) rfl ?_
        refine j_iconst 56 C (x := nI 1) dX6_thick_55 rfl (by decide) ?_
        subst hz
        exact j_retI C X dX6_thick_56 (bl_nar bl_1) ⟨rfl, rfl, rfl, (CT_x (by intro a; (by_cases h0 : a = 36; (· (first | (subst h0; simp [sA]; done) | (rw [h0]; simp [sA]; done))); by_cases h1 : a = 37; (· (first | (subst h1; simp [sA]; done) | (rw [h1]; simp [sA]; done))); by_cases h2 : a = 38; (· (first | (subst h2; simp [sA]; done) | (rw [h2]; simp [sA]; done))); simp [sA, h0, h1, h2]))), bl_1⟩
      · replace hz := (if_pos c_31).symm.trans hz
        refine j_iconst 35 C (x := nI 0) dX6_thick_34 rfl (by decide) ?_
        subst hz
        exact j_retI C X dX6_thick_35 (bl_nar bl_0) ⟨rfl, rfl, rfl, (CT_x (by intro a; (by_cases h0 : a = 36; (· (first | (subst h0; simp [sA]; done) | (rw [h0]; simp [sA]; done))); by_cases h1 : a = 37; (· (first | (subst h1; simp [sA]; done) | (rw [h1]; simp [sA]; done))); by_cases h2 : a = 38; (· (first | (subst h2; simp [sA]; done) | (rw [h2]; simp [sA]; done))); simp [sA, h0, h1, h2]))), bl_0⟩
def m_X6_steep (W S ns nc : Nat) (B : Nat → Option Nat) (σ : Nat → Nat → Int32) (surface : Int32) (most : Int32) : Int32 × (Nat → Int32) × (Nat → Int32) := ap (m_X6_in W S ns nc B σ surface (nI 0) ((nI S) - (nI 1))) (fun (y8 : Int32) => (if y8 = 0 then (nI 0, (σ 36), (σ 39)) else ap (m_X6_in W S ns nc B σ most (nI 0) (nI 60)) (fun (y18 : Int32) => (if y18 = 0 then (nI 0, (σ 36), (σ 39)) else (nI 1, (upd (σ 36) 16 (nI 0)), (upd (σ 39) (surface).toNatClampNeg most))))))
abbrev rm_X6_steep : Room := { frames := 1, cells := 0, slots := 0, locals := 22 }
set_option maxHeartbeats 4000000 in
set_option maxRecDepth 100000 in
theorem c_X6_steep {l : Launch} {D : va_G} {K : Nat → ClassId} {W S ns nc N : Nat} {ad : Nat → Nat} {B : Nat → Option Nat} {σ : Nat → Nat → Int32} (hG : GH W S ns nc N) {surface : Int32} {most : Int32}  {z : Int32 × (Nat → Int32) × (Nat → Int32)} (hz : m_X6_steep W S ns nc B σ surface most = z)  : MC l yX6_steep cX6_steep 3 (some .boolean) rm_X6_steep D (TY K) N ad (CT K W S ns nc ad B σ) [.ref (ad 36), .int surface, .int most] (BS (some (.int z.1)) N ad (CT K W S ns nc ad B (sA (sA σ 36 z.2.1) 39 z.2.2)) (bl z.1)) := by
  have hW := hG.1; have hW8 := hG.2.1; have hS := hG.2.2.1; have hS4 := hG.2.2.2.1; have hns := hG.2.2.2.2.1; have hnc := hG.2.2.2.2.2.1; have hWS := GH_ws hG
  refine MC.of (by decide) (Nat.le_of_ble_eq_true rfl) (fun p e s m args below meth c Q A H0 C X => ?_)
  replace C : Cx p s m args meth c cX6_steep RX6 3 D (TY K) A H0 := C
  show J p l e rm_X6_steep s m args below meth c Q D A H0 3 0 0 N ad (CT K W S ns nc ad B σ) 0 [(0, .ref (ad 36)), (1, .int surface), (2, .int most)] []
  unfold m_X6_steep at hz
  refine j_iload_n 1 C dX6_steep_0 rfl rfl 1 rfl ?_
  refine j_iconst 2 C (x := nI 0) dX6_steep_1 rfl (by decide) ?_
  refine j_aload_n 3 C dX6_steep_2 rfl rfl 0 rfl ?_
  refine k_get 6 C fl_X6_54 dX6_steep_3 rfl 36 (GH_r hG (by decide)) (σ 36) rfl (CE_36 _) (.int (nI S)) rfl ?_
  refine j_iconst 7 C (x := nI 1) dX6_steep_6 rfl (by decide) ?_
  refine j_isub 8 C dX6_steep_7 rfl rfl ?_
  obtain ⟨y8, e8, hz⟩ := ap_x hz
  refine s_S 11 C (As := [.int surface, .int (nI 0), .int ((nI S) - (nI 1))]) cs_X6_57 (c_X6_in (l := l) (D := D) (K := K) (ad := ad) hG  (hz := e8)) dX6_steep_8 rfl rfl rfl rfl rfl ⟨⟨Nat.le_of_ble_eq_true rfl, Nat.le_of_ble_eq_true rfl⟩, Nat.zero_le _, Nat.zero_le _⟩ (Nat.le_of_ble_eq_true rfl) (st' := [.int y8]) rfl (fun hE => ?_)
  have hbl8 : bl y8 := hE
  refine j_if_eq 24 14 C dX6_steep_11 rfl rfl (fun c_11 => ?_) (fun c_11 => ?_)
  · replace hz := (if_pos c_11).symm.trans hz
    refine j_iconst 25 C (x := nI 0) dX6_steep_24 rfl (by decide) ?_
    subst hz
    exact j_retI C X dX6_steep_25 (bl_nar bl_0) ⟨rfl, rfl, rfl, (CT_x (by intro a; (by_cases h0 : a = 36; (· (first | (subst h0; simp [sA]; done) | (rw [h0]; simp [sA]; done))); by_cases h1 : a = 39; (· (first | (subst h1; simp [sA]; done) | (rw [h1]; simp [sA]; done))); simp [sA, h0, h1]))), bl_0⟩
  · replace hz := (if_neg c_11).symm.trans hz
    obtain ⟨ks, hks, eks⟩ := in_hi (M := S) e8 c_11 (by rw [sub_toInt (by omega) (by omega)]; omega)
    refine j_iload_n 15 C dX6_steep_14 rfl rfl 2 rfl ?_
    refine j_iconst 16 C (x := nI 0) dX6_steep_15 rfl (by decide) ?_
    refine j_bipush 18 C (x := nI 60) dX6_steep_16 rfl (by decide) ?_
    obtain ⟨y18, e18, hz⟩ := ap_x hz
    refine s_S 21 C (As := [.int most, .int (nI 0), .int (nI 60)]) cs_X6_57 (c_X6_in (l := l) (D := D) (K := K) (ad := ad) hG  (hz := e18)) dX6_steep_18 rfl rfl rfl rfl rfl ⟨⟨Nat.le_of_ble_eq_true rfl, Nat.le_of_ble_eq_true rfl⟩, Nat.zero_le _, Nat.zero_le _⟩ (Nat.le_of_ble_eq_true rfl) (st' := [.int y18]) rfl (fun hE => ?_)
    have hbl18 : bl y18 := hE
    refine j_if_ne 26 24 C dX6_steep_21 rfl rfl (fun c_21 => ?_) (fun c_21 => ?_)
    · replace hz := (if_neg c_21).symm.trans hz
      refine j_aload_n 27 C dX6_steep_26 rfl rfl 0 rfl ?_
      refine k_get 30 C fl_X6_16 dX6_steep_27 rfl 36 (GH_r hG (by decide)) (σ 36) rfl (CE_36 _) (.ref (ad 39)) rfl ?_
      refine j_iload_n 31 C dX6_steep_30 rfl rfl 1 rfl ?_
      refine j_iload_n 32 C dX6_steep_31 rfl rfl 2 rfl ?_
      refine k_iast 33 C dX6_steep_32 rfl 39 (GH_r hG (by decide)) (σ 39) rfl CE_39 (vp_inE (n := ks) (by simp only [eks, nI_add, pk_mul]) (by omega) (by omega)) (sA σ 39 (upd (σ 39) (surface).toNatClampNeg most)) rfl ?_
      refine j_aload_n 34 C dX6_steep_33 rfl rfl 0 rfl ?_
      refine j_iconst 35 C (x := nI 0) dX6_steep_34 rfl (by decide) ?_
      refine k_put 38 C fl_X6_61 fp_X6 rfl dX6_steep_35 rfl 36 (GH_r hG (by decide)) (σ 36) (by rfl) (CE_36 _) (bl_nar bl_0) (bl_fit bl_0) (Nat.le_of_ble_eq_true rfl) rfl (sA (sA σ 39 (upd (σ 39) (surface).toNatClampNeg most)) 36 (upd (σ 36) 16 (nI 0))) rfl ?_
      refine j_iconst 39 C (x := nI 1) dX6_steep_38 rfl (by decide) ?_
      subst hz
      exact j_retI C X dX6_steep_39 (bl_nar bl_1) ⟨rfl, rfl, rfl, (CT_x (by intro a; (by_cases h0 : a = 36; (· (first | (subst h0; simp [sA]; done) | (rw [h0]; simp [sA]; done))); by_cases h1 : a = 39; (· (first | (subst h1; simp [sA]; done) | (rw [h1]; simp [sA]; done))); simp [sA, h0, h1]))), bl_1⟩
    · replace hz := (if_pos c_21).symm.trans hz
      refine j_iconst 25 C (x := nI 0) dX6_steep_24 rfl (by decide) ?_
      subst hz
      exact j_retI C X dX6_steep_25 (bl_nar bl_0) ⟨rfl, rfl, rfl, (CT_x (by intro a; (by_cases h0 : a = 36; (· (first | (subst h0; simp [sA]; done) | (rw [h0]; simp [sA]; done))); by_cases h1 : a = 39; (· (first | (subst h1; simp [sA]; done) | (rw [h1]; simp [sA]; done))); simp [sA, h0, h1]))), bl_0⟩
def m_X6_fault (W S ns nc : Nat) (B : Nat → Option Nat) (σ : Nat → Nat → Int32) (column : Int32) (thrown : Int32) : Int32 × (Nat → Int32) × (Nat → Int32) × (Nat → Int32) := ap (m_X6_in W S ns nc B σ column (nI 0) ((nI W) - (nI 2))) (fun (y8 : Int32) => (if y8 = 0 then (nI 0, (σ 36), (σ 40), (σ 41)) else ap (m_X6_in W S ns nc B σ thrown (-30) (nI 30)) (fun (y19 : Int32) => (if y19 = 0 then (nI 0, (σ 36), (σ 40), (σ 41)) else (nI 1, (upd (σ 36) 16 (nI 0)), (upd (σ 40) (column).toNatClampNeg (nI 1)), (upd (σ 41) (column).toNatClampNeg thrown))))))
abbrev rm_X6_fault : Room := { frames := 1, cells := 0, slots := 0, locals := 22 }
set_option maxHeartbeats 4000000 in
set_option maxRecDepth 100000 in
theorem c_X6_fault {l : Launch} {D : va_G} {K : Nat → ClassId} {W S ns nc N : Nat} {ad : Nat → Nat} {B : Nat → Option Nat} {σ : Nat → Nat → Int32} (hG : GH W S ns nc N) {column : Int32} {thrown : Int32}  {z : Int32 × (Nat → Int32) × (Nat → Int32) × (Nat → Int32)} (hz : m_X6_fault W S ns nc B σ column thrown = z)  : MC l yX6_fault cX6_fault 3 (some .boolean) rm_X6_fault D (TY K) N ad (CT K W S ns nc ad B σ) [.ref (ad 36), .int column, .int thrown] (BS (some (.int z.1)) N ad (CT K W S ns nc ad B (sA (sA (sA σ 36 z.2.1) 40 z.2.2.1) 41 z.2.2.2)) (bl z.1)) := by
  have hW := hG.1; have hW8 := hG.2.1; have hS := hG.2.2.1; have hS4 := hG.2.2.2.1; have hns := hG.2.2.2.2.1; have hnc := hG.2.2.2.2.2.1; have hWS := GH_ws hG
  refine MC.of (by decide) (Nat.le_of_ble_eq_true rfl) (fun p e s m args below meth c Q A H0 C X => ?_)
  replace C : Cx p s m args meth c cX6_fault RX6 3 D (TY K) A H0 := C
  show J p l e rm_X6_fault s m args below meth c Q D A H0 3 0 0 N ad (CT K W S ns nc ad B σ) 0 [(0, .ref (ad 36)), (1, .int column), (2, .int thrown)] []
  unfold m_X6_fault at hz
  refine j_iload_n 1 C dX6_fault_0 rfl rfl 1 rfl ?_
  refine j_iconst 2 C (x := nI 0) dX6_fault_1 rfl (by decide) ?_
  refine j_aload_n 3 C dX6_fault_2 rfl rfl 0 rfl ?_
  refine k_get 6 C fl_X6_50 dX6_fault_3 rfl 36 (GH_r hG (by decide)) (σ 36) rfl (CE_36 _) (.int (nI W)) rfl ?_
  refine j_iconst 7 C (x := nI 2) dX6_fault_6 rfl (by decide) ?_
  refine j_isub 8 C dX6_fault_7 rfl rfl ?_
  obtain ⟨y8, e8, hz⟩ := ap_x hz
  refine s_S 11 C (As := [.int column, .int (nI 0), .int ((nI W) - (nI 2))]) cs_X6_57 (c_X6_in (l := l) (D := D) (K := K) (ad := ad) hG  (hz := e8)) dX6_fault_8 rfl rfl rfl rfl rfl ⟨⟨Nat.le_of_ble_eq_true rfl, Nat.le_of_ble_eq_true rfl⟩, Nat.zero_le _, Nat.zero_le _⟩ (Nat.le_of_ble_eq_true rfl) (st' := [.int y8]) rfl (fun hE => ?_)
  have hbl8 : bl y8 := hE
  refine j_if_eq 25 14 C dX6_fault_11 rfl rfl (fun c_11 => ?_) (fun c_11 => ?_)
  · replace hz := (if_pos c_11).symm.trans hz
    refine j_iconst 26 C (x := nI 0) dX6_fault_25 rfl (by decide) ?_
    subst hz
    exact j_retI C X dX6_fault_26 (bl_nar bl_0) ⟨rfl, rfl, rfl, (CT_x (by intro a; (by_cases h0 : a = 36; (· (first | (subst h0; simp [sA]; done) | (rw [h0]; simp [sA]; done))); by_cases h1 : a = 40; (· (first | (subst h1; simp [sA]; done) | (rw [h1]; simp [sA]; done))); by_cases h2 : a = 41; (· (first | (subst h2; simp [sA]; done) | (rw [h2]; simp [sA]; done))); simp [sA, h0, h1, h2]))), bl_0⟩
  · replace hz := (if_neg c_11).symm.trans hz
    obtain ⟨kc, hkc, ekc⟩ := in_hi (M := W - 1) e8 c_11 (by rw [sub_toInt (by omega) (by omega)]; omega)
    refine j_iload_n 15 C dX6_fault_14 rfl rfl 2 rfl ?_
    refine j_bipush 17 C (x := (-30)) dX6_fault_15 rfl (by decide) ?_
    refine j_bipush 19 C (x := nI 30) dX6_fault_17 rfl (by decide) ?_
    obtain ⟨y19, e19, hz⟩ := ap_x hz
    refine s_S 22 C (As := [.int thrown, .int (-30), .int (nI 30)]) cs_X6_57 (c_X6_in (l := l) (D := D) (K := K) (ad := ad) hG  (hz := e19)) dX6_fault_19 rfl rfl rfl rfl rfl ⟨⟨Nat.le_of_ble_eq_true rfl, Nat.le_of_ble_eq_true rfl⟩, Nat.zero_le _, Nat.zero_le _⟩ (Nat.le_of_ble_eq_true rfl) (st' := [.int y19]) rfl (fun hE => ?_)
    have hbl19 : bl y19 := hE
    refine j_if_ne 27 25 C dX6_fault_22 rfl rfl (fun c_22 => ?_) (fun c_22 => ?_)
    · replace hz := (if_neg c_22).symm.trans hz
      refine j_aload_n 28 C dX6_fault_27 rfl rfl 0 rfl ?_
      refine k_get 31 C fl_X6_19 dX6_fault_28 rfl 36 (GH_r hG (by decide)) (σ 36) rfl (CE_36 _) (.ref (ad 40)) rfl ?_
      refine j_iload_n 32 C dX6_fault_31 rfl rfl 1 rfl ?_
      refine j_iconst 33 C (x := nI 1) dX6_fault_32 rfl (by decide) ?_
      refine k_zast 34 C dX6_fault_33 rfl 40 (GH_r hG (by decide)) (σ 40) rfl CE_40 (vp_inE (n := kc) (by simp only [ekc, nI_add, pk_mul]) (by omega) (by omega)) bl_1 (sA σ 40 (upd (σ 40) (column).toNatClampNeg (nI 1))) rfl ?_
      refine j_aload_n 35 C dX6_fault_34 rfl rfl 0 rfl ?_
      refine k_get 38 C fl_X6_23 dX6_fault_35 rfl 36 (GH_r hG (by decide)) (σ 36) (by rfl) (CE_36 _) (.ref (ad 41)) rfl ?_
      refine j_iload_n 39 C dX6_fault_38 rfl rfl 1 rfl ?_
      refine j_iload_n 40 C dX6_fault_39 rfl rfl 2 rfl ?_
      refine k_iast 41 C dX6_fault_40 rfl 41 (GH_r hG (by decide)) (σ 41) (by rfl) CE_41 (vp_inE (n := kc) (by simp only [ekc, nI_add, pk_mul]) (by omega) (by omega)) (sA (sA σ 40 (upd (σ 40) (column).toNatClampNeg (nI 1))) 41 (upd (σ 41) (column).toNatClampNeg thrown)) rfl ?_
      refine j_aload_n 42 C dX6_fault_41 rfl rfl 0 rfl ?_
      refine j_iconst 43 C (x := nI 0) dX6_fault_42 rfl (by decide) ?_
      refine k_put 46 C fl_X6_61 fp_X6 rfl dX6_fault_43 rfl 36 (GH_r hG (by decide)) (σ 36) (by rfl) (CE_36 _) (bl_nar bl_0) (bl_fit bl_0) (Nat.le_of_ble_eq_true rfl) rfl (sA (sA (sA σ 40 (upd (σ 40) (column).toNatClampNeg (nI 1))) 41 (upd (σ 41) (column).toNatClampNeg thrown)) 36 (upd (σ 36) 16 (nI 0))) rfl ?_
      refine j_iconst 47 C (x := nI 1) dX6_fault_46 rfl (by decide) ?_
      subst hz
      exact j_retI C X dX6_fault_47 (bl_nar bl_1) ⟨rfl, rfl, rfl, (CT_x (by intro a; (by_cases h0 : a = 36; (· (first | (subst h0; simp [sA]; done) | (rw [h0]; simp [sA]; done))); by_cases h1 : a = 40; (· (first | (subst h1; simp [sA]; done) | (rw [h1]; simp [sA]; done))); by_cases h2 : a = 41; (· (first | (subst h2; simp [sA]; done) | (rw [h2]; simp [sA]; done))); simp [sA, h0, h1, h2]))), bl_1⟩
    · replace hz := (if_pos c_22).symm.trans hz
      refine j_iconst 26 C (x := nI 0) dX6_fault_25 rfl (by decide) ?_
      subst hz
      exact j_retI C X dX6_fault_26 (bl_nar bl_0) ⟨rfl, rfl, rfl, (CT_x (by intro a; (by_cases h0 : a = 36; (· (first | (subst h0; simp [sA]; done) | (rw [h0]; simp [sA]; done))); by_cases h1 : a = 40; (· (first | (subst h1; simp [sA]; done) | (rw [h1]; simp [sA]; done))); by_cases h2 : a = 41; (· (first | (subst h2; simp [sA]; done) | (rw [h2]; simp [sA]; done))); simp [sA, h0, h1, h2]))), bl_0⟩
def m_X6_heal (W S ns nc : Nat) (B : Nat → Option Nat) (σ : Nat → Nat → Int32) (column : Int32) : Int32 × (Nat → Int32) × (Nat → Int32) := ap (m_X6_in W S ns nc B σ column (nI 0) ((nI W) - (nI 2))) (fun (y8 : Int32) => (if y8 = 0 then (nI 0, (σ 36), (σ 40)) else (if ((σ 40) (column).toNatClampNeg) = 0 then (nI 0, (σ 36), (σ 40)) else (nI 1, (upd (σ 36) 16 (nI 0)), (upd (σ 40) (column).toNatClampNeg (nI 0))))))
abbrev rm_X6_heal : Room := { frames := 1, cells := 0, slots := 0, locals := 22 }
set_option maxHeartbeats 4000000 in
set_option maxRecDepth 100000 in
theorem c_X6_heal {l : Launch} {D : va_G} {K : Nat → ClassId} {W S ns nc N : Nat} {ad : Nat → Nat} {B : Nat → Option Nat} {σ : Nat → Nat → Int32} (hG : GH W S ns nc N) {column : Int32}  {z : Int32 × (Nat → Int32) × (Nat → Int32)} (hz : m_X6_heal W S ns nc B σ column = z)  : MC l yX6_heal cX6_heal 2 (some .boolean) rm_X6_heal D (TY K) N ad (CT K W S ns nc ad B σ) [.ref (ad 36), .int column] (BS (some (.int z.1)) N ad (CT K W S ns nc ad B (sA (sA σ 36 z.2.1) 40 z.2.2)) (bl z.1)) := by
  have hW := hG.1; have hW8 := hG.2.1; have hS := hG.2.2.1; have hS4 := hG.2.2.2.1; have hns := hG.2.2.2.2.1; have hnc := hG.2.2.2.2.2.1; have hWS := GH_ws hG
  refine MC.of (by decide) (Nat.le_of_ble_eq_true rfl) (fun p e s m args below meth c Q A H0 C X => ?_)
  replace C : Cx p s m args meth c cX6_heal RX6 2 D (TY K) A H0 := C
  show J p l e rm_X6_heal s m args below meth c Q D A H0 2 0 0 N ad (CT K W S ns nc ad B σ) 0 [(0, .ref (ad 36)), (1, .int column)] []
  unfold m_X6_heal at hz
  refine j_iload_n 1 C dX6_heal_0 rfl rfl 1 rfl ?_
  refine j_iconst 2 C (x := nI 0) dX6_heal_1 rfl (by decide) ?_
  refine j_aload_n 3 C dX6_heal_2 rfl rfl 0 rfl ?_
  refine k_get 6 C fl_X6_50 dX6_heal_3 rfl 36 (GH_r hG (by decide)) (σ 36) rfl (CE_36 _) (.int (nI W)) rfl ?_
  refine j_iconst 7 C (x := nI 2) dX6_heal_6 rfl (by decide) ?_
  refine j_isub 8 C dX6_heal_7 rfl rfl ?_
  obtain ⟨y8, e8, hz⟩ := ap_x hz
  refine s_S 11 C (As := [.int column, .int (nI 0), .int ((nI W) - (nI 2))]) cs_X6_57 (c_X6_in (l := l) (D := D) (K := K) (ad := ad) hG  (hz := e8)) dX6_heal_8 rfl rfl rfl rfl rfl ⟨⟨Nat.le_of_ble_eq_true rfl, Nat.le_of_ble_eq_true rfl⟩, Nat.zero_le _, Nat.zero_le _⟩ (Nat.le_of_ble_eq_true rfl) (st' := [.int y8]) rfl (fun hE => ?_)
  have hbl8 : bl y8 := hE
  refine j_if_eq 23 14 C dX6_heal_11 rfl rfl (fun c_11 => ?_) (fun c_11 => ?_)
  · replace hz := (if_pos c_11).symm.trans hz
    refine j_iconst 24 C (x := nI 0) dX6_heal_23 rfl (by decide) ?_
    subst hz
    exact j_retI C X dX6_heal_24 (bl_nar bl_0) ⟨rfl, rfl, rfl, (CT_x (by intro a; (by_cases h0 : a = 36; (· (first | (subst h0; simp [sA]; done) | (rw [h0]; simp [sA]; done))); by_cases h1 : a = 40; (· (first | (subst h1; simp [sA]; done) | (rw [h1]; simp [sA]; done))); simp [sA, h0, h1]))), bl_0⟩
  · replace hz := (if_neg c_11).symm.trans hz
    obtain ⟨kc, hkc, ekc⟩ := in_hi (M := W - 1) e8 c_11 (by rw [sub_toInt (by omega) (by omega)]; omega)
    refine j_aload_n 15 C dX6_heal_14 rfl rfl 0 rfl ?_
    refine k_get 18 C fl_X6_19 dX6_heal_15 rfl 36 (GH_r hG (by decide)) (σ 36) rfl (CE_36 _) (.ref (ad 40)) rfl ?_
    refine j_iload_n 19 C dX6_heal_18 rfl rfl 1 rfl ?_
    refine k_zald 20 C dX6_heal_19 rfl 40 (GH_r hG (by decide)) (σ 40) rfl CE_40 (vp_inE (n := kc) (by simp only [ekc, nI_add, pk_mul]) (by omega) (by omega)) ?_
    refine j_if_ne 25 23 C dX6_heal_20 rfl rfl (fun c_20 => ?_) (fun c_20 => ?_)
    · replace hz := (if_neg c_20).symm.trans hz
      refine j_aload_n 26 C dX6_heal_25 rfl rfl 0 rfl ?_
      refine k_get 29 C fl_X6_19 dX6_heal_26 rfl 36 (GH_r hG (by decide)) (σ 36) rfl (CE_36 _) (.ref (ad 40)) rfl ?_
      refine j_iload_n 30 C dX6_heal_29 rfl rfl 1 rfl ?_
      refine j_iconst 31 C (x := nI 0) dX6_heal_30 rfl (by decide) ?_
      refine k_zast 32 C dX6_heal_31 rfl 40 (GH_r hG (by decide)) (σ 40) rfl CE_40 (vp_inE (n := kc) (by simp only [ekc, nI_add, pk_mul]) (by omega) (by omega)) bl_0 (sA σ 40 (upd (σ 40) (column).toNatClampNeg (nI 0))) rfl ?_
      refine j_aload_n 33 C dX6_heal_32 rfl rfl 0 rfl ?_
      refine j_iconst 34 C (x := nI 0) dX6_heal_33 rfl (by decide) ?_
      refine k_put 37 C fl_X6_61 fp_X6 rfl dX6_heal_34 rfl 36 (GH_r hG (by decide)) (σ 36) (by rfl) (CE_36 _) (bl_nar bl_0) (bl_fit bl_0) (Nat.le_of_ble_eq_true rfl) rfl (sA (sA σ 40 (upd (σ 40) (column).toNatClampNeg (nI 0))) 36 (upd (σ 36) 16 (nI 0))) rfl ?_
      refine j_iconst 38 C (x := nI 1) dX6_heal_37 rfl (by decide) ?_
      subst hz
      exact j_retI C X dX6_heal_38 (bl_nar bl_1) ⟨rfl, rfl, rfl, (CT_x (by intro a; (by_cases h0 : a = 36; (· (first | (subst h0; simp [sA]; done) | (rw [h0]; simp [sA]; done))); by_cases h1 : a = 40; (· (first | (subst h1; simp [sA]; done) | (rw [h1]; simp [sA]; done))); simp [sA, h0, h1]))), bl_1⟩
    · replace hz := (if_pos c_20).symm.trans hz
      refine j_iconst 24 C (x := nI 0) dX6_heal_23 rfl (by decide) ?_
      subst hz
      exact j_retI C X dX6_heal_24 (bl_nar bl_0) ⟨rfl, rfl, rfl, (CT_x (by intro a; (by_cases h0 : a = 36; (· (first | (subst h0; simp [sA]; done) | (rw [h0]; simp [sA]; done))); by_cases h1 : a = 40; (· (first | (subst h1; simp [sA]; done) | (rw [h1]; simp [sA]; done))); simp [sA, h0, h1]))), bl_0⟩
def m_X6_ground (W S ns nc : Nat) (B : Nat → Option Nat) (σ : Nat → Nat → Int32) (column : Int32) (depth : Int32) : Int32 × (Nat → Int32) := ap (m_X6_in W S ns nc B σ column (nI 0) ((nI W) - (nI 1))) (fun (y8 : Int32) => (if y8 = 0 then (nI 0, (σ 42)) else ap (m_X6_in W S ns nc B σ depth (nI 0) (nI 60)) (fun (y18 : Int32) => (if y18 = 0 then (nI 0, (σ 42)) else (nI 1, (upd (σ 42) (column).toNatClampNeg depth))))))
abbrev rm_X6_ground : Room := { frames := 1, cells := 0, slots := 0, locals := 22 }
set_option maxHeartbeats 4000000 in
set_option maxRecDepth 100000 in
theorem c_X6_ground {l : Launch} {D : va_G} {K : Nat → ClassId} {W S ns nc N : Nat} {ad : Nat → Nat} {B : Nat → Option Nat} {σ : Nat → Nat → Int32} (hG : GH W S ns nc N) {column : Int32} {depth : Int32}  {z : Int32 × (Nat → Int32)} (hz : m_X6_ground W S ns nc B σ column depth = z)  : MC l yX6_ground cX6_ground 3 (some .boolean) rm_X6_ground D (TY K) N ad (CT K W S ns nc ad B σ) [.ref (ad 36), .int column, .int depth] (BS (some (.int z.1)) N ad (CT K W S ns nc ad B (sA σ 42 z.2)) (bl z.1)) := by
  have hW := hG.1; have hW8 := hG.2.1; have hS := hG.2.2.1; have hS4 := hG.2.2.2.1; have hns := hG.2.2.2.2.1; have hnc := hG.2.2.2.2.2.1; have hWS := GH_ws hG
  refine MC.of (by decide) (Nat.le_of_ble_eq_true rfl) (fun p e s m args below meth c Q A H0 C X => ?_)
  replace C : Cx p s m args meth c cX6_ground RX6 3 D (TY K) A H0 := C
  show J p l e rm_X6_ground s m args below meth c Q D A H0 3 0 0 N ad (CT K W S ns nc ad B σ) 0 [(0, .ref (ad 36)), (1, .int column), (2, .int depth)] []
  unfold m_X6_ground at hz
  refine j_iload_n 1 C dX6_ground_0 rfl rfl 1 rfl ?_
  refine j_iconst 2 C (x := nI 0) dX6_ground_1 rfl (by decide) ?_
  refine j_aload_n 3 C dX6_ground_2 rfl rfl 0 rfl ?_
  refine k_get 6 C fl_X6_50 dX6_ground_3 rfl 36 (GH_r hG (by decide)) (σ 36) rfl (CE_36 _) (.int (nI W)) rfl ?_
  refine j_iconst 7 C (x := nI 1) dX6_ground_6 rfl (by decide) ?_
  refine j_isub 8 C dX6_ground_7 rfl rfl ?_
  obtain ⟨y8, e8, hz⟩ := ap_x hz
  refine s_S 11 C (As := [.int column, .int (nI 0), .int ((nI W) - (nI 1))]) cs_X6_57 (c_X6_in (l := l) (D := D) (K := K) (ad := ad) hG  (hz := e8)) dX6_ground_8 rfl rfl rfl rfl rfl ⟨⟨Nat.le_of_ble_eq_true rfl, Nat.le_of_ble_eq_true rfl⟩, Nat.zero_le _, Nat.zero_le _⟩ (Nat.le_of_ble_eq_true rfl) (st' := [.int y8]) rfl (fun hE => ?_)
  have hbl8 : bl y8 := hE
  refine j_if_eq 24 14 C dX6_ground_11 rfl rfl (fun c_11 => ?_) (fun c_11 => ?_)
  · replace hz := (if_pos c_11).symm.trans hz
    refine j_iconst 25 C (x := nI 0) dX6_ground_24 rfl (by decide) ?_
    subst hz
    exact j_retI C X dX6_ground_25 (bl_nar bl_0) ⟨rfl, rfl, rfl, (congrArg _ sA_id.symm), bl_0⟩
  · replace hz := (if_neg c_11).symm.trans hz
    obtain ⟨kc, hkc, ekc⟩ := in_hi (M := W) e8 c_11 (by rw [sub_toInt (by omega) (by omega)]; omega)
    refine j_iload_n 15 C dX6_ground_14 rfl rfl 2 rfl ?_
    refine j_iconst 16 C (x := nI 0) dX6_ground_15 rfl (by decide) ?_
    refine j_bipush 18 C (x := nI 60) dX6_ground_16 rfl (by decide) ?_
    obtain ⟨y18, e18, hz⟩ := ap_x hz
    refine s_S 21 C (As := [.int depth, .int (nI 0), .int (nI 60)]) cs_X6_57 (c_X6_in (l := l) (D := D) (K := K) (ad := ad) hG  (hz := e18)) dX6_ground_18 rfl rfl rfl rfl rfl ⟨⟨Nat.le_of_ble_eq_true rfl, Nat.le_of_ble_eq_true rfl⟩, Nat.zero_le _, Nat.zero_le _⟩ (Nat.le_of_ble_eq_true rfl) (st' := [.int y18]) rfl (fun hE => ?_)
    have hbl18 : bl y18 := hE
    refine j_if_ne 26 24 C dX6_ground_21 rfl rfl (fun c_21 => ?_) (fun c_21 => ?_)
    · replace hz := (if_neg c_21).symm.trans hz
      refine j_aload_n 27 C dX6_ground_26 rfl rfl 0 rfl ?_
      refine k_get 30 C fl_X6_26 dX6_ground_27 rfl 36 (GH_r hG (by decide)) (σ 36) rfl (CE_36 _) (.ref (ad 42)) rfl ?_
      refine j_iload_n 31 C dX6_ground_30 rfl rfl 1 rfl ?_
      refine j_iload_n 32 C dX6_ground_31 rfl rfl 2 rfl ?_
      refine k_iast 33 C dX6_ground_32 rfl 42 (GH_r hG (by decide)) (σ 42) rfl CE_42 (vp_inE (n := kc) (by simp only [ekc, nI_add, pk_mul]) (by omega) (by omega)) (sA σ 42 (upd (σ 42) (column).toNatClampNeg depth)) rfl ?_
      refine j_iconst 34 C (x := nI 1) dX6_ground_33 rfl (by decide) ?_
      subst hz
      exact j_retI C X dX6_ground_34 (bl_nar bl_1) ⟨rfl, rfl, rfl, rfl, bl_1⟩
    · replace hz := (if_pos c_21).symm.trans hz
      refine j_iconst 25 C (x := nI 0) dX6_ground_24 rfl (by decide) ?_
      subst hz
      exact j_retI C X dX6_ground_25 (bl_nar bl_0) ⟨rfl, rfl, rfl, (congrArg _ sA_id.symm), bl_0⟩
def m_X6_isSight (W S ns nc : Nat) (B : Nat → Option Nat) (σ : Nat → Nat → Int32) (k : Int32) : Int32 := ap (m_X6_in W S ns nc B σ k (nI 0) ((nI ns) - (nI 1))) (fun (y8 : Int32) => (if y8 = 0 then nI 0 else (if ((σ 46) (k).toNatClampNeg) = 0 then nI 0 else nI 1)))
abbrev rm_X6_isSight : Room := { frames := 1, cells := 0, slots := 0, locals := 22 }
set_option maxHeartbeats 4000000 in
set_option maxRecDepth 100000 in
theorem c_X6_isSight {l : Launch} {D : va_G} {K : Nat → ClassId} {W S ns nc N : Nat} {ad : Nat → Nat} {B : Nat → Option Nat} {σ : Nat → Nat → Int32} (hG : GH W S ns nc N) {k : Int32}  {z : Int32} (hz : m_X6_isSight W S ns nc B σ k = z)  : MC l yX6_isSight cX6_isSight 2 (some .boolean) rm_X6_isSight D (TY K) N ad (CT K W S ns nc ad B σ) [.ref (ad 36), .int k] (BS (some (.int z)) N ad (CT K W S ns nc ad B σ) (bl z)) := by
  have hW := hG.1; have hW8 := hG.2.1; have hS := hG.2.2.1; have hS4 := hG.2.2.2.1; have hns := hG.2.2.2.2.1; have hnc := hG.2.2.2.2.2.1; have hWS := GH_ws hG
  refine MC.of (by decide) (Nat.le_of_ble_eq_true rfl) (fun p e s m args below meth c Q A H0 C X => ?_)
  replace C : Cx p s m args meth c cX6_isSight RX6 2 D (TY K) A H0 := C
  show J p l e rm_X6_isSight s m args below meth c Q D A H0 2 0 0 N ad (CT K W S ns nc ad B σ) 0 [(0, .ref (ad 36)), (1, .int k)] []
  unfold m_X6_isSight at hz
  refine j_iload_n 1 C dX6_isSight_0 rfl rfl 1 rfl ?_
  refine j_iconst 2 C (x := nI 0) dX6_isSight_1 rfl (by decide) ?_
  refine j_aload_n 3 C dX6_isSight_2 rfl rfl 0 rfl ?_
  refine k_get 6 C fl_X6_69 dX6_isSight_3 rfl 36 (GH_r hG (by decide)) (σ 36) rfl (CE_36 _) (.int (nI ns)) rfl ?_
  refine j_iconst 7 C (x := nI 1) dX6_isSight_6 rfl (by decide) ?_
  refine j_isub 8 C dX6_isSight_7 rfl rfl ?_
  obtain ⟨y8, e8, hz⟩ := ap_x hz
  refine s_S 11 C (As := [.int k, .int (nI 0), .int ((nI ns) - (nI 1))]) cs_X6_57 (c_X6_in (l := l) (D := D) (K := K) (ad := ad) hG  (hz := e8)) dX6_isSight_8 rfl rfl rfl rfl rfl ⟨⟨Nat.le_of_ble_eq_true rfl, Nat.le_of_ble_eq_true rfl⟩, Nat.zero_le _, Nat.zero_le _⟩ (Nat.le_of_ble_eq_true rfl) (st' := [.int y8]) rfl (fun hE => ?_)
  have hbl8 : bl y8 := hE
  refine j_if_eq 27 14 C dX6_isSight_11 rfl rfl (fun c_11 => ?_) (fun c_11 => ?_)
  · replace hz := (if_pos c_11).symm.trans hz
    refine j_iconst 28 C (x := nI 0) dX6_isSight_27 rfl (by decide) ?_
    subst hz
    exact j_retI C X dX6_isSight_28 (bl_nar bl_0) ⟨rfl, rfl, rfl, rfl, bl_0⟩
  · replace hz := (if_neg c_11).symm.trans hz
    obtain ⟨kk, hkk, ekk⟩ := in_hi (M := ns) e8 c_11 (by rw [sub_toInt (by omega) (by omega)]; omega)
    refine j_aload_n 15 C dX6_isSight_14 rfl rfl 0 rfl ?_
    refine k_get 18 C fl_X6_38 dX6_isSight_15 rfl 36 (GH_r hG (by decide)) (σ 36) rfl (CE_36 _) (.ref (ad 46)) rfl ?_
    refine j_iload_n 19 C dX6_isSight_18 rfl rfl 1 rfl ?_
    refine k_zald 20 C dX6_isSight_19 rfl 46 (GH_r hG (by decide)) (σ 46) rfl CE_46 (vp_inE (n := kk) (by simp only [ekk, nI_add, pk_mul]) (by omega) (by omega)) ?_
    refine j_if_eq 27 23 C dX6_isSight_20 rfl rfl (fun c_20 => ?_) (fun c_20 => ?_)
    · replace hz := (if_pos c_20).symm.trans hz
      refine j_iconst 28 C (x := nI 0) dX6_isSight_27 rfl (by decide) ?_
      subst hz
      exact j_retI C X dX6_isSight_28 (bl_nar bl_0) ⟨rfl, rfl, rfl, rfl, bl_0⟩
    · replace hz := (if_neg c_20).symm.trans hz
      refine j_iconst 24 C (x := nI 1) dX6_isSight_23 rfl (by decide) ?_
      refine j_goto 28 C dX6_isSight_24 rfl ?_
      subst hz
      exact j_retI C X dX6_isSight_28 (bl_nar bl_1) ⟨rfl, rfl, rfl, rfl, bl_1⟩
theorem isSight_nat {W S ns nc : Nat} {B : Nat → Option Nat} {σ : Nat → Nat → Int32} {N : Nat} (hG : GH W S ns nc N) {v y : Int32} (e : m_X6_isSight W S ns nc B σ v = y) (c : ¬ y = 0) : ∃ k : Nat, k < ns ∧ v = nI k := by
  unfold m_X6_isSight at e
  have hns := hG.2.2.2.2.1
  obtain ⟨y1, e1, e⟩ := ap_x e
  by_cases h0 : y1 = 0
  · rw [if_pos h0] at e; exact absurd e.symm (by rw [nI_0]; exact c)
  exact in_hi (M := ns) e1 h0 (by rw [sub_toInt (by omega) (by omega)]; omega)
def m_X6_take (W S ns nc : Nat) (B : Nat → Option Nat) (σ : Nat → Nat → Int32) (sight : Int32) : Int32 × (Nat → Int32) × (Nat → Int32) := ap (m_X6_isSight W S ns nc B σ sight) (fun (y2 : Int32) => (if y2 = 0 then (nI 0, (σ 36), (σ 46)) else (nI 1, (upd (σ 36) 16 (nI 0)), (upd (σ 46) (sight).toNatClampNeg (nI 0)))))
abbrev rm_X6_take : Room := { frames := 2, cells := 0, slots := 0, locals := 43 }
set_option maxHeartbeats 4000000 in
set_option maxRecDepth 100000 in
theorem c_X6_take {l : Launch} {D : va_G} {K : Nat → ClassId} {W S ns nc N : Nat} {ad : Nat → Nat} {B : Nat → Option Nat} {σ : Nat → Nat → Int32} (hG : GH W S ns nc N) {sight : Int32}  {z : Int32 × (Nat → Int32) × (Nat → Int32)} (hz : m_X6_take W S ns nc B σ sight = z)  : MC l yX6_take cX6_take 2 (some .boolean) rm_X6_take D (TY K) N ad (CT K W S ns nc ad B σ) [.ref (ad 36), .int sight] (BS (some (.int z.1)) N ad (CT K W S ns nc ad B (sA (sA σ 36 z.2.1) 46 z.2.2)) (bl z.1)) := by
  have hW := hG.1; have hW8 := hG.2.1; have hS := hG.2.2.1; have hS4 := hG.2.2.2.1; have hns := hG.2.2.2.2.1; have hnc := hG.2.2.2.2.2.1; have hWS := GH_ws hG
  refine MC.of (by decide) (Nat.le_of_ble_eq_true rfl) (fun p e s m args below meth c Q A H0 C X => ?_)
  replace C : Cx p s m args meth c cX6_take RX6 2 D (TY K) A H0 := C
  show J p l e rm_X6_take s m args below meth c Q D A H0 2 0 0 N ad (CT K W S ns nc ad B σ) 0 [(0, .ref (ad 36)), (1, .int sight)] []
  unfold m_X6_take at hz
  refine j_aload_n 1 C dX6_take_0 rfl rfl 0 rfl ?_
  refine j_iload_n 2 C dX6_take_1 rfl rfl 1 rfl ?_
  obtain ⟨y2, e2, hz⟩ := ap_x hz
  refine s_V 5 C (As := [.int sight]) cv_X6_72 (c_X6_isSight (l := l) (D := D) (K := K) (ad := ad) hG  (hz := e2)) dX6_take_2 rfl 36 6 (GH_r hG (by decide)) rfl (CE_36 _) rfl rfl rfl rfl rfl rfl ⟨⟨Nat.le_of_ble_eq_true rfl, Nat.le_of_ble_eq_true rfl⟩, Nat.zero_le _, Nat.zero_le _⟩ (Nat.le_of_ble_eq_true rfl) (st' := [.int y2]) rfl (fun hE => ?_)
  have hbl2 : bl y2 := hE
  refine j_if_ne 10 8 C dX6_take_5 rfl rfl (fun c_5 => ?_) (fun c_5 => ?_)
  · replace hz := (if_neg c_5).symm.trans hz
    obtain ⟨kk, hkk, ekk⟩ := isSight_nat hG e2 c_5
    refine j_aload_n 11 C dX6_take_10 rfl rfl 0 rfl ?_
    refine k_get 14 C fl_X6_38 dX6_take_11 rfl 36 (GH_r hG (by decide)) (σ 36) rfl (CE_36 _) (.ref (ad 46)) rfl ?_
    refine j_iload_n 15 C dX6_take_14 rfl rfl 1 rfl ?_
    refine j_iconst 16 C (x := nI 0) dX6_take_15 rfl (by decide) ?_
    refine k_zast 17 C dX6_take_16 rfl 46 (GH_r hG (by decide)) (σ 46) rfl CE_46 (vp_inE (n := kk) (by simp only [ekk, nI_add, pk_mul]) (by omega) (by omega)) bl_0 (sA σ 46 (upd (σ 46) (sight).toNatClampNeg (nI 0))) rfl ?_
    refine j_aload_n 18 C dX6_take_17 rfl rfl 0 rfl ?_
    refine j_iconst 19 C (x := nI 0) dX6_take_18 rfl (by decide) ?_
    refine k_put 22 C fl_X6_61 fp_X6 rfl dX6_take_19 rfl 36 (GH_r hG (by decide)) (σ 36) (by rfl) (CE_36 _) (bl_nar bl_0) (bl_fit bl_0) (Nat.le_of_ble_eq_true rfl) rfl (sA (sA σ 46 (upd (σ 46) (sight).toNatClampNeg (nI 0))) 36 (upd (σ 36) 16 (nI 0))) rfl ?_
    refine j_iconst 23 C (x := nI 1) dX6_take_22 rfl (by decide) ?_
    subst hz
    exact j_retI C X dX6_take_23 (bl_nar bl_1) ⟨rfl, rfl, rfl, (CT_x (by intro a; (by_cases h0 : a = 36; (· (first | (subst h0; simp [sA]; done) | (rw [h0]; simp [sA]; done))); by_cases h1 : a = 46; (· (first | (subst h1; simp [sA]; done) | (rw [h1]; simp [sA]; done))); simp [sA, h0, h1]))), bl_1⟩
  · replace hz := (if_pos c_5).symm.trans hz
    refine j_iconst 9 C (x := nI 0) dX6_take_8 rfl (by decide) ?_
    subst hz
    exact j_retI C X dX6_take_9 (bl_nar bl_0) ⟨rfl, rfl, rfl, (CT_x (by intro a; (by_cases h0 : a = 36; (· (first | (subst h0; simp [sA]; done) | (rw [h0]; simp [sA]; done))); by_cases h1 : a = 46; (· (first | (subst h1; simp [sA]; done) | (rw [h1]; simp [sA]; done))); simp [sA, h0, h1]))), bl_0⟩
def m_X6_told (W S ns nc : Nat) (B : Nat → Option Nat) (σ : Nat → Nat → Int32) (sight : Int32) (what : Int32) : Int32 × (Nat → Int32) × (Nat → Int32) × (Nat → Int32) × (Nat → Int32) := ap (m_X6_isSight W S ns nc B σ sight) (fun (y2 : Int32) => (if y2 = 0 then ((-2147483648), (σ 36), (σ 47), (σ 48), (σ 49)) else (if what = nI 0 then (((σ 43) (sight).toNatClampNeg) / (nI 100), (σ 36), (σ 47), (σ 48), (σ 49)) else (if what = nI 1 then ((((σ 43) (sight).toNatClampNeg) / (nI 10)) - (((σ 43) (sight).toNatClampNeg) / (nI 10)) / (nI 10) * (nI 10), (σ 36), (σ 47), (σ 48), (σ 49)) else (if what = nI 2 then (((σ 43) (sight).toNatClampNeg) - ((σ 43) (sight).toNatClampNeg) / (nI 10) * (nI 10), (σ 36), (σ 47), (σ 48), (σ 49)) else (if what = nI 3 then ((σ 44) (sight).toNatClampNeg, (σ 36), (σ 47), (σ 48), (σ 49)) else (if what = nI 4 then ((σ 45) (sight).toNatClampNeg, (σ 36), (σ 47), (σ 48), (σ 49)) else (if what = nI 5 then ap (m_X6_reckons W S ns nc B σ) (fun (y100 : Int32 × (Nat → Int32) × (Nat → Int32) × (Nat → Int32) × (Nat → Int32)) => (if y100.1 = 0 then ((-2147483648), y100.2.1, y100.2.2.1, y100.2.2.2.1, y100.2.2.2.2) else (((y100.2.1 18) >>> (sight &&& 31)) &&& (nI 1), y100.2.1, y100.2.2.1, y100.2.2.2.1, y100.2.2.2.2))) else ((-2147483648), (σ 36), (σ 47), (σ 48), (σ 49))))))))))
abbrev rm_X6_told : Room := { frames := 8, cells := 0, slots := 0, locals := 185 }
set_option maxHeartbeats 4000000 in
set_option maxRecDepth 100000 in
theorem c_X6_told {l : Launch} {D : va_G} {K : Nat → ClassId} {W S ns nc N : Nat} {ad : Nat → Nat} {B : Nat → Option Nat} {σ : Nat → Nat → Int32} (hG : GH W S ns nc N) {sight : Int32} {what : Int32}  {z : Int32 × (Nat → Int32) × (Nat → Int32) × (Nat → Int32) × (Nat → Int32)} (hz : m_X6_told W S ns nc B σ sight what = z) (hsee : SeeOK (σ 43) ns) (hb17 : bl (σ 36 17)) : MC l yX6_told cX6_told 3 (some .int) rm_X6_told D (TY K) N ad (CT K W S ns nc ad B σ) [.ref (ad 36), .int sight, .int what] (BS (some (.int z.1)) N ad (CT K W S ns nc ad B (sA (sA (sA (sA σ 36 z.2.1) 47 z.2.2.1) 48 z.2.2.2.1) 49 z.2.2.2.2)) True) := by
  have hW := hG.1; have hW8 := hG.2.1; have hS := hG.2.2.1; have hS4 := hG.2.2.2.1; have hns := hG.2.2.2.2.1; have hnc := hG.2.2.2.2.2.1; have hWS := GH_ws hG
  refine MC.of (by decide) (Nat.le_of_ble_eq_true rfl) (fun p e s m args below meth c Q A H0 C X => ?_)
  replace C : Cx p s m args meth c cX6_told RX6 3 D (TY K) A H0 := C
  show J p l e rm_X6_told s m args below meth c Q D A H0 3 0 0 N ad (CT K W S ns nc ad B σ) 0 [(0, .ref (ad 36)), (1, .int sight), (2, .int what)] []
  unfold m_X6_told at hz
  refine j_aload_n 1 C dX6_told_0 rfl rfl 0 rfl ?_
  refine j_iload_n 2 C dX6_told_1 rfl rfl 1 rfl ?_
  obtain ⟨y2, e2, hz⟩ := ap_x hz
  refine s_V 5 C (As := [.int sight]) cv_X6_72 (c_X6_isSight (l := l) (D := D) (K := K) (ad := ad) hG  (hz := e2)) dX6_told_2 rfl 36 6 (GH_r hG (by decide)) rfl (CE_36 _) rfl rfl rfl rfl rfl rfl ⟨⟨Nat.le_of_ble_eq_true rfl, Nat.le_of_ble_eq_true rfl⟩, Nat.zero_le _, Nat.zero_le _⟩ (Nat.le_of_ble_eq_true rfl) (st' := [.int y2]) rfl (fun hE => ?_)
  have hbl2 : bl y2 := hE
  refine j_if_ne 11 8 C dX6_told_5 rfl rfl (fun c_5 => ?_) (fun c_5 => ?_)
  · replace hz := (if_neg c_5).symm.trans hz
    obtain ⟨kk, hkk, ekk⟩ := isSight_nat hG e2 c_5
    refine j_iload_n 12 C dX6_told_11 rfl rfl 2 rfl ?_
    rcases Classical.em (what = nI 0) with c_1200 | c_1200
    · replace hz := (if_pos c_1200).symm.trans hz
      refine j_swIn 52 C dX6_told_12 (off := 40) (by rw [c_1200]; decide) (by rw [c_1200]; decide) (by rw [c_1200]; decide) rfl ?_
      refine j_aload_n 53 C dX6_told_52 rfl rfl 0 rfl ?_
      refine k_get 56 C fl_X6_29 dX6_told_53 rfl 36 (GH_r hG (by decide)) (σ 36) rfl (CE_36 _) (.ref (ad 43)) rfl ?_
      refine j_iload_n 57 C dX6_told_56 rfl rfl 1 rfl ?_
      refine k_iald 58 C dX6_told_57 rfl 43 (GH_r hG (by decide)) (σ 43) rfl CE_43 (vp_inE (n := kk) (by simp only [ekk, nI_add, pk_mul]) (by omega) (by omega)) ?_
      refine j_bipush 60 C (x := nI 100) dX6_told_58 rfl (by decide) ?_
      refine j_idiv 61 C dX6_told_60 rfl (by decide) rfl ?_
      subst hz
      exact j_retI C X dX6_told_61 rfl ⟨rfl, rfl, rfl, (CT_x (by intro a; (by_cases h0 : a = 36; (· (first | (subst h0; simp [sA]; done) | (rw [h0]; simp [sA]; done))); by_cases h1 : a = 47; (· (first | (subst h1; simp [sA]; done) | (rw [h1]; simp [sA]; done))); by_cases h2 : a = 48; (· (first | (subst h2; simp [sA]; done) | (rw [h2]; simp [sA]; done))); by_cases h3 : a = 49; (· (first | (subst h3; simp [sA]; done) | (rw [h3]; simp [sA]; done))); simp [sA, h0, h1, h2, h3]))), trivial⟩
    · replace hz := (if_neg c_1200).symm.trans hz
      rcases Classical.em (what = nI 1) with c_1201 | c_1201
      · replace hz := (if_pos c_1201).symm.trans hz
        refine j_swIn 62 C dX6_told_12 (off := 50) (by rw [c_1201]; decide) (by rw [c_1201]; decide) (by rw [c_1201]; decide) rfl ?_
        refine j_aload_n 63 C dX6_told_62 rfl rfl 0 rfl ?_
        refine k_get 66 C fl_X6_29 dX6_told_63 rfl 36 (GH_r hG (by decide)) (σ 36) rfl (CE_36 _) (.ref (ad 43)) rfl ?_
        refine j_iload_n 67 C dX6_told_66 rfl rfl 1 rfl ?_
        refine k_iald 68 C dX6_told_67 rfl 43 (GH_r hG (by decide)) (σ 43) rfl CE_43 (vp_inE (n := kk) (by simp only [ekk, nI_add, pk_mul]) (by omega) (by omega)) ?_
        refine j_bipush 70 C (x := nI 10) dX6_told_68 rfl (by decide) ?_
        refine j_idiv 71 C dX6_told_70 rfl (by decide) rfl ?_
        refine j_bipush 73 C (x := nI 10) dX6_told_71 rfl (by decide) ?_
        refine j_irem 74 C dX6_told_73 rfl (by decide) rfl ?_
        subst hz
        exact j_retI C X dX6_told_74 rfl ⟨rfl, rfl, rfl, (CT_x (by intro a; (by_cases h0 : a = 36; (· (first | (subst h0; simp [sA]; done) | (rw [h0]; simp [sA]; done))); by_cases h1 : a = 47; (· (first | (subst h1; simp [sA]; done) | (rw [h1]; simp [sA]; done))); by_cases h2 : a = 48; (· (first | (subst h2; simp [sA]; done) | (rw [h2]; simp [sA]; done))); by_cases h3 : a = 49; (· (first | (subst h3; simp [sA]; done) | (rw [h3]; simp [sA]; done))); simp [sA, h0, h1, h2, h3]))), trivial⟩
      · replace hz := (if_neg c_1201).symm.trans hz
        rcases Classical.em (what = nI 2) with c_1202 | c_1202
        · replace hz := (if_pos c_1202).symm.trans hz
          refine j_swIn 75 C dX6_told_12 (off := 63) (by rw [c_1202]; decide) (by rw [c_1202]; decide) (by rw [c_1202]; decide) rfl ?_
          refine j_aload_n 76 C dX6_told_75 rfl rfl 0 rfl ?_
          refine k_get 79 C fl_X6_29 dX6_told_76 rfl 36 (GH_r hG (by decide)) (σ 36) rfl (CE_36 _) (.ref (ad 43)) rfl ?_
          refine j_iload_n 80 C dX6_told_79 rfl rfl 1 rfl ?_
          refine k_iald 81 C dX6_told_80 rfl 43 (GH_r hG (by decide)) (σ 43) rfl CE_43 (vp_inE (n := kk) (by simp only [ekk, nI_add, pk_mul]) (by omega) (by omega)) ?_
          refine j_bipush 83 C (x := nI 10) dX6_told_81 rfl (by decide) ?_
          refine j_irem 84 C dX6_told_83 rfl (by decide) rfl ?_
          subst hz
          exact j_retI C X dX6_told_84 rfl ⟨rfl, rfl, rfl, (CT_x (by intro a; (by_cases h0 : a = 36; (· (first | (subst h0; simp [sA]; done) | (rw [h0]; simp [sA]; done))); by_cases h1 : a = 47; (· (first | (subst h1; simp [sA]; done) | (rw [h1]; simp [sA]; done))); by_cases h2 : a = 48; (· (first | (subst h2; simp [sA]; done) | (rw [h2]; simp [sA]; done))); by_cases h3 : a = 49; (· (first | (subst h3; simp [sA]; done) | (rw [h3]; simp [sA]; done))); simp [sA, h0, h1, h2, h3]))), trivial⟩
        · replace hz := (if_neg c_1202).symm.trans hz
          rcases Classical.em (what = nI 3) with c_1203 | c_1203
          · replace hz := (if_pos c_1203).symm.trans hz
            refine j_swIn 85 C dX6_told_12 (off := 73) (by rw [c_1203]; decide) (by rw [c_1203]; decide) (by rw [c_1203]; decide) rfl ?_
            refine j_aload_n 86 C dX6_told_85 rfl rfl 0 rfl ?_
            refine k_get 89 C fl_X6_32 dX6_told_86 rfl 36 (GH_r hG (by decide)) (σ 36) rfl (CE_36 _) (.ref (ad 44)) rfl ?_
            refine j_iload_n 90 C dX6_told_89 rfl rfl 1 rfl ?_
            refine k_iald 91 C dX6_told_90 rfl 44 (GH_r hG (by decide)) (σ 44) rfl CE_44 (vp_inE (n := kk) (by simp only [ekk, nI_add, pk_mul]) (by omega) (by omega)) ?_
            subst hz
            exact j_retI C X dX6_told_91 rfl ⟨rfl, rfl, rfl, (CT_x (by intro a; (by_cases h0 : a = 36; (· (first | (subst h0; simp [sA]; done) | (rw [h0]; simp [sA]; done))); by_cases h1 : a = 47; (· (first | (subst h1; simp [sA]; done) | (rw [h1]; simp [sA]; done))); by_cases h2 : a = 48; (· (first | (subst h2; simp [sA]; done) | (rw [h2]; simp [sA]; done))); by_cases h3 : a = 49; (· (first | (subst h3; simp [sA]; done) | (rw [h3]; simp [sA]; done))); simp [sA, h0, h1, h2, h3]))), trivial⟩
          · replace hz := (if_neg c_1203).symm.trans hz
            rcases Classical.em (what = nI 4) with c_1204 | c_1204
            · replace hz := (if_pos c_1204).symm.trans hz
              refine j_swIn 92 C dX6_told_12 (off := 80) (by rw [c_1204]; decide) (by rw [c_1204]; decide) (by rw [c_1204]; decide) rfl ?_
              refine j_aload_n 93 C dX6_told_92 rfl rfl 0 rfl ?_
              refine k_get 96 C fl_X6_35 dX6_told_93 rfl 36 (GH_r hG (by decide)) (σ 36) rfl (CE_36 _) (.ref (ad 45)) rfl ?_
              refine j_iload_n 97 C dX6_told_96 rfl rfl 1 rfl ?_
              refine k_iald 98 C dX6_told_97 rfl 45 (GH_r hG (by decide)) (σ 45) rfl CE_45 (vp_inE (n := kk) (by simp only [ekk, nI_add, pk_mul]) (by omega) (by omega)) ?_
              subst hz
              exact j_retI C X dX6_told_98 rfl ⟨rfl, rfl, rfl, (CT_x (by intro a; (by_cases h0 : a = 36; (· (first | (subst h0; simp [sA]; done) | (rw [h0]; simp [sA]; done))); by_cases h1 : a = 47; (· (first | (subst h1; simp [sA]; done) | (rw [h1]; simp [sA]; done))); by_cases h2 : a = 48; (· (first | (subst h2; simp [sA]; done) | (rw [h2]; simp [sA]; done))); by_cases h3 : a = 49; (· (first | (subst h3; simp [sA]; done) | (rw [h3]; simp [sA]; done))); simp [sA, h0, h1, h2, h3]))), trivial⟩
            · replace hz := (if_neg c_1204).symm.trans hz
              rcases Classical.em (what = nI 5) with c_1205 | c_1205
              · replace hz := (if_pos c_1205).symm.trans hz
                refine j_swIn 99 C dX6_told_12 (off := 87) (by rw [c_1205]; decide) (by rw [c_1205]; decide) (by rw [c_1205]; decide) rfl ?_
                refine j_aload_n 100 C dX6_told_99 rfl rfl 0 rfl ?_
                obtain ⟨y100, e100, hz⟩ := ap_x hz
                refine s_V 103 C (As := []) cv_X6_124 (c_X6_reckons (l := l) (D := D) (K := K) (ad := ad) hG (hsee := hsee) (hb17 := hb17) (hz := e100)) dX6_told_100 rfl 36 6 (GH_r hG (by decide)) rfl (CE_36 _) rfl rfl rfl rfl rfl rfl ⟨⟨Nat.le_of_ble_eq_true rfl, Nat.le_of_ble_eq_true rfl⟩, Nat.zero_le _, Nat.zero_le _⟩ (Nat.le_of_ble_eq_true rfl) (st' := [.int y100.1]) rfl (fun hE => ?_)
                have hbl100 : bl y100.1 := hE
                refine j_if_eq 117 106 C dX6_told_103 rfl rfl (fun c_103 => ?_) (fun c_103 => ?_)
                · replace hz := (if_pos c_103).symm.trans hz
                  refine j_ldc 119 C (x' := (-2147483648)) wv_X6_137 dX6_told_117 rfl (by decide) ?_
                  subst hz
                  exact j_retI C X dX6_told_119 rfl ⟨rfl, rfl, rfl, rfl, trivial⟩
                · replace hz := (if_neg c_103).symm.trans hz
                  refine j_aload_n 107 C dX6_told_106 rfl rfl 0 rfl ?_
                  refine k_get 110 C fl_X6_121 dX6_told_107 rfl 36 (GH_r hG (by decide)) y100.2.1 (by rfl) (CE_36 _) (.int (y100.2.1 18)) rfl ?_
                  refine j_iload_n 111 C dX6_told_110 rfl rfl 1 rfl ?_
                  refine j_ishr 112 C dX6_told_111 rfl rfl ?_
                  refine j_iconst 113 C (x := nI 1) dX6_told_112 rfl (by decide) ?_
                  refine j_iand 114 C dX6_told_113 rfl rfl ?_
                  refine j_goto 119 C dX6_told_114 rfl ?_
                  subst hz
                  exact j_retI C X dX6_told_119 rfl ⟨rfl, rfl, rfl, rfl, trivial⟩
              · replace hz := (if_neg c_1205).symm.trans hz
                refine j_swOut 120 C dX6_told_12 (sw_out6 c_1200 c_1201 c_1202 c_1203 c_1204 c_1205) rfl ?_
                refine j_ldc 122 C (x' := (-2147483648)) wv_X6_137 dX6_told_120 rfl (by decide) ?_
                subst hz
                exact j_retI C X dX6_told_122 rfl ⟨rfl, rfl, rfl, (CT_x (by intro a; (by_cases h0 : a = 36; (· (first | (subst h0; simp [sA]; done) | (rw [h0]; simp [sA]; done))); by_cases h1 : a = 47; (· (first | (subst h1; simp [sA]; done) | (rw [h1]; simp [sA]; done))); by_cases h2 : a = 48; (· (first | (subst h2; simp [sA]; done) | (rw [h2]; simp [sA]; done))); by_cases h3 : a = 49; (· (first | (subst h3; simp [sA]; done) | (rw [h3]; simp [sA]; done))); simp [sA, h0, h1, h2, h3]))), trivial⟩
  · replace hz := (if_pos c_5).symm.trans hz
    refine j_ldc 10 C (x' := (-2147483648)) wv_X6_137 dX6_told_8 rfl (by decide) ?_
    subst hz
    exact j_retI C X dX6_told_10 rfl ⟨rfl, rfl, rfl, (CT_x (by intro a; (by_cases h0 : a = 36; (· (first | (subst h0; simp [sA]; done) | (rw [h0]; simp [sA]; done))); by_cases h1 : a = 47; (· (first | (subst h1; simp [sA]; done) | (rw [h1]; simp [sA]; done))); by_cases h2 : a = 48; (· (first | (subst h2; simp [sA]; done) | (rw [h2]; simp [sA]; done))); by_cases h3 : a = 49; (· (first | (subst h3; simp [sA]; done) | (rw [h3]; simp [sA]; done))); simp [sA, h0, h1, h2, h3]))), trivial⟩
def m_X6_count_L44 (W S ns nc : Nat) (B : Nat → Option Nat) (σ : Nat → Nat → Int32) (i44 : Nat) (c44 : Int32) : Int32 := (if ((σ 46) (nI i44).toNatClampNeg) = 0 then c44 + (nI 0) else c44 + (nI 1))
def m_X6_count_L79 (W S ns nc : Nat) (B : Nat → Option Nat) (σ : Nat → Nat → Int32) (i79 : Nat) (c79 : Int32) : Int32 := (if ((σ 40) (nI i79).toNatClampNeg) = 0 then c79 + (nI 0) else c79 + (nI 1))
def m_X6_count (W S ns nc : Nat) (B : Nat → Option Nat) (σ : Nat → Nat → Int32) (what : Int32) : Int32 := (if what = nI 0 then nI W else (if what = nI 1 then nI S else (if what = nI 2 then ap (lp (m_X6_count_L44 W S ns nc B σ) (ns - 0) 0 (nI 0)) (fun (z44 : Int32) => z44) else (if what = nI 3 then ap (lp (m_X6_count_L79 W S ns nc B σ) (W - 0) 0 (nI 0)) (fun (z79 : Int32) => z79) else (-1)))))
abbrev rm_X6_count : Room := { frames := 0, cells := 0, slots := 0, locals := 0 }
set_option maxHeartbeats 4000000 in
set_option maxRecDepth 100000 in
theorem c_X6_count {l : Launch} {D : va_G} {K : Nat → ClassId} {W S ns nc N : Nat} {ad : Nat → Nat} {B : Nat → Option Nat} {σ : Nat → Nat → Int32} (hG : GH W S ns nc N) {what : Int32}  {z : Int32} (hz : m_X6_count W S ns nc B σ what = z)  : MC l yX6_count cX6_count 4 (some .int) rm_X6_count D (TY K) N ad (CT K W S ns nc ad B σ) [.ref (ad 36), .int what] (BS (some (.int z)) N ad (CT K W S ns nc ad B σ) True) := by
  have hW := hG.1; have hW8 := hG.2.1; have hS := hG.2.2.1; have hS4 := hG.2.2.2.1; have hns := hG.2.2.2.2.1; have hnc := hG.2.2.2.2.2.1; have hWS := GH_ws hG
  refine MC.of (by decide) (Nat.le_of_ble_eq_true rfl) (fun p e s m args below meth c Q A H0 C X => ?_)
  replace C : Cx p s m args meth c cX6_count RX6 4 D (TY K) A H0 := C
  show J p l e rm_X6_count s m args below meth c Q D A H0 4 0 0 N ad (CT K W S ns nc ad B σ) 0 [(0, .ref (ad 36)), (1, .int what)] []
  unfold m_X6_count at hz
  refine j_iconst 1 C (x := nI 0) dX6_count_0 rfl (by decide) ?_
  refine j_istore_n 2 C [(2, .int (nI 0)), (0, .ref (ad 36)), (1, .int what)] dX6_count_1 rfl rfl (by decide) rfl ?_
  refine j_iload_n 3 C dX6_count_2 rfl rfl 2 rfl ?_
  rcases Classical.em (what = nI 0) with c_300 | c_300
  · replace hz := (if_pos c_300).symm.trans hz
    refine j_swIn 32 C dX6_count_3 (off := 29) (by rw [c_300]; decide) (by rw [c_300]; decide) (by rw [c_300]; decide) rfl ?_
    refine j_aload_n 33 C dX6_count_32 rfl rfl 1 rfl ?_
    refine k_get 36 C fl_X6_50 dX6_count_33 rfl 36 (GH_r hG (by decide)) (σ 36) rfl (CE_36 _) (.int (nI W)) rfl ?_
    subst hz
    exact j_retI C X dX6_count_36 rfl ⟨rfl, rfl, rfl, rfl, trivial⟩
  · replace hz := (if_neg c_300).symm.trans hz
    rcases Classical.em (what = nI 1) with c_301 | c_301
    · replace hz := (if_pos c_301).symm.trans hz
      refine j_swIn 37 C dX6_count_3 (off := 34) (by rw [c_301]; decide) (by rw [c_301]; decide) (by rw [c_301]; decide) rfl ?_
      refine j_aload_n 38 C dX6_count_37 rfl rfl 1 rfl ?_
      refine k_get 41 C fl_X6_54 dX6_count_38 rfl 36 (GH_r hG (by decide)) (σ 36) rfl (CE_36 _) (.int (nI S)) rfl ?_
      subst hz
      exact j_retI C X dX6_count_41 rfl ⟨rfl, rfl, rfl, rfl, trivial⟩
    · replace hz := (if_neg c_301).symm.trans hz
      rcases Classical.em (what = nI 2) with c_302 | c_302
      · replace hz := (if_pos c_302).symm.trans hz
        refine j_swIn 42 C dX6_count_3 (off := 39) (by rw [c_302]; decide) (by rw [c_302]; decide) (by rw [c_302]; decide) rfl ?_
        refine j_iconst 43 C (x := nI 0) dX6_count_42 rfl (by decide) ?_
        refine j_istore_n 44 C [(3, .int (nI 0)), (2, .int (nI 0)), (0, .ref (ad 36)), (1, .int what)] dX6_count_43 rfl rfl (by decide) rfl ?_
        skip
        obtain ⟨z44, ez44, hz⟩ := ap_x hz
        have L44 : ∀ (n44 i44 : Nat) (c44 : Int32), 0 ≤ i44 → i44 < 5000 → n44 = ns - i44 → lp (m_X6_count_L44 W S ns nc B σ) n44 i44 c44 = z44 → J p l e rm_X6_count s m args below meth c Q D A H0 4 0 0 N ad (CT K W S ns nc ad B σ) 44 [(0, .ref (ad 36)), (2, .int c44), (3, .int (nI i44))] [] := by
          intro n44
          induction n44 with
          | zero =>
            intro i44 c44 hl44 hi44 hn44 hz44
            refine j_iload_n 45 C dX6_count_44 rfl rfl 2 rfl ?_
            refine j_aload_n 46 C dX6_count_45 rfl rfl 0 rfl ?_
            refine k_get 49 C fl_X6_69 dX6_count_46 rfl 36 (GH_r hG (by decide)) (σ 36) rfl (CE_36 _) (.int (nI ns)) rfl ?_
            refine j_ic_ge 75 52 C dX6_count_49 rfl rfl (fun c_49 => ?_) (fun c_49 => ?_)
            · skip
              have n_49 := nat_le (a := ns) (b := i44) rfl rfl (by omega) (by omega) c_49
              have hq44 : c44 = z44 := hz44
              subst hq44
              refine j_iload_n 76 C dX6_count_75 rfl rfl 1 rfl ?_
              subst hz
              exact j_retI C X dX6_count_76 rfl ⟨rfl, rfl, rfl, rfl, trivial⟩
            · exfalso
              have n_49 := nat_nle (a := ns) (b := i44) rfl rfl (by omega) (by omega) c_49
              omega
          | succ n44 ih44 =>
            intro i44 c44 hl44 hi44 hn44 hz44
            refine j_iload_n 45 C dX6_count_44 rfl rfl 2 rfl ?_
            refine j_aload_n 46 C dX6_count_45 rfl rfl 0 rfl ?_
            refine k_get 49 C fl_X6_69 dX6_count_46 rfl 36 (GH_r hG (by decide)) (σ 36) rfl (CE_36 _) (.int (nI ns)) rfl ?_
            refine j_ic_ge 75 52 C dX6_count_49 rfl rfl (fun c_49 => ?_) (fun c_49 => ?_)
            · exfalso
              have n_49 := nat_le (a := ns) (b := i44) rfl rfl (by omega) (by omega) c_49
              omega
            · skip
              have n_49 := nat_nle (a := ns) (b := i44) rfl rfl (by omega) (by omega) c_49
              obtain ⟨w44, hw44, hz44⟩ := lp_s hz44
              have ho44 := hz
              clear hz
              have hz := hw44
              clear hw44
              unfold m_X6_count_L44 at hz
              refine j_iload_n 53 C dX6_count_52 rfl rfl 1 rfl ?_
              refine j_aload_n 54 C dX6_count_53 rfl rfl 0 rfl ?_
              refine k_get 57 C fl_X6_38 dX6_count_54 rfl 36 (GH_r hG (by decide)) (σ 36) rfl (CE_36 _) (.ref (ad 46)) rfl ?_
              refine j_iload_n 58 C dX6_count_57 rfl rfl 2 rfl ?_
              refine k_zald 59 C dX6_count_58 rfl 46 (GH_r hG (by decide)) (σ 46) rfl CE_46 (vp_inE (n := i44) rfl (by omega) (by omega)) ?_
              refine j_if_eq 66 62 C dX6_count_59 rfl rfl (fun c_59 => ?_) (fun c_59 => ?_)
              · replace hz := (if_pos c_59).symm.trans hz
                refine j_iconst 67 C (x := nI 0) dX6_count_66 rfl (by decide) ?_
                refine j_iadd 68 C dX6_count_67 rfl rfl ?_
                refine j_istore_n 69 C [(2, .int (c44 + (nI 0))), (0, .ref (ad 36)), (3, .int (nI i44))] dX6_count_68 rfl rfl (by decide) rfl ?_
                refine j_iinc 72 C (x' := nI (i44 + 1)) [(3, .int (nI (i44 + 1))), (2, .int (c44 + (nI 0))), (0, .ref (ad 36))] dX6_count_69 rfl 2 rfl (by rw [show Int32.ofInt 1 = nI 1 from by decide, nI_add]) (by decide) rfl ?_
                refine j_goto 44 C dX6_count_72 rfl ?_
                subst hz
                refine j_lv [2, 1, 0] (lv' := [(0, .ref (ad 36)), (2, .int (c44 + (nI 0))), (3, .int (nI (i44 + 1)))]) rfl ?_
                have hz := ho44
                exact ih44 (i44 + 1) (c44 + (nI 0)) (by omega) (by omega) (by omega) hz44
              · replace hz := (if_neg c_59).symm.trans hz
                refine j_iconst 63 C (x := nI 1) dX6_count_62 rfl (by decide) ?_
                refine j_goto 67 C dX6_count_63 rfl ?_
                refine j_iadd 68 C dX6_count_67 rfl rfl ?_
                refine j_istore_n 69 C [(2, .int (c44 + (nI 1))), (0, .ref (ad 36)), (3, .int (nI i44))] dX6_count_68 rfl rfl (by decide) rfl ?_
                refine j_iinc 72 C (x' := nI (i44 + 1)) [(3, .int (nI (i44 + 1))), (2, .int (c44 + (nI 1))), (0, .ref (ad 36))] dX6_count_69 rfl 2 rfl (by rw [show Int32.ofInt 1 = nI 1 from by decide, nI_add]) (by decide) rfl ?_
                refine j_goto 44 C dX6_count_72 rfl ?_
                subst hz
                refine j_lv [2, 1, 0] (lv' := [(0, .ref (ad 36)), (2, .int (c44 + (nI 1))), (3, .int (nI (i44 + 1)))]) rfl ?_
                have hz := ho44
                exact ih44 (i44 + 1) (c44 + (nI 1)) (by omega) (by omega) (by omega) hz44
        refine j_lv [2, 1, 0] (lv' := [(0, .ref (ad 36)), (2, .int (nI 0)), (3, .int (nI 0))]) rfl ?_
        exact L44 _ 0 (nI 0) (by omega) (by omega) rfl ez44
      · replace hz := (if_neg c_302).symm.trans hz
        rcases Classical.em (what = nI 3) with c_303 | c_303
        · replace hz := (if_pos c_303).symm.trans hz
          refine j_swIn 77 C dX6_count_3 (off := 74) (by rw [c_303]; decide) (by rw [c_303]; decide) (by rw [c_303]; decide) rfl ?_
          refine j_iconst 78 C (x := nI 0) dX6_count_77 rfl (by decide) ?_
          refine j_istore_n 79 C [(3, .int (nI 0)), (2, .int (nI 0)), (0, .ref (ad 36)), (1, .int what)] dX6_count_78 rfl rfl (by decide) rfl ?_
          skip
          obtain ⟨z79, ez79, hz⟩ := ap_x hz
          have L79 : ∀ (n79 i79 : Nat) (c79 : Int32), 0 ≤ i79 → i79 < 5000 → n79 = W - i79 → lp (m_X6_count_L79 W S ns nc B σ) n79 i79 c79 = z79 → J p l e rm_X6_count s m args below meth c Q D A H0 4 0 0 N ad (CT K W S ns nc ad B σ) 79 [(0, .ref (ad 36)), (2, .int c79), (3, .int (nI i79))] [] := by
            intro n79
            induction n79 with
            | zero =>
              intro i79 c79 hl79 hi79 hn79 hz79
              refine j_iload_n 80 C dX6_count_79 rfl rfl 2 rfl ?_
              refine j_aload_n 81 C dX6_count_80 rfl rfl 0 rfl ?_
              refine k_get 84 C fl_X6_50 dX6_count_81 rfl 36 (GH_r hG (by decide)) (σ 36) rfl (CE_36 _) (.int (nI W)) rfl ?_
              refine j_ic_ge 110 87 C dX6_count_84 rfl rfl (fun c_84 => ?_) (fun c_84 => ?_)
              · skip
                have n_84 := nat_le (a := W) (b := i79) rfl rfl (by omega) (by omega) c_84
                have hq79 : c79 = z79 := hz79
                subst hq79
                refine j_iload_n 111 C dX6_count_110 rfl rfl 1 rfl ?_
                subst hz
                exact j_retI C X dX6_count_111 rfl ⟨rfl, rfl, rfl, rfl, trivial⟩
              · exfalso
                have n_84 := nat_nle (a := W) (b := i79) rfl rfl (by omega) (by omega) c_84
                omega
            | succ n79 ih79 =>
              intro i79 c79 hl79 hi79 hn79 hz79
              refine j_iload_n 80 C dX6_count_79 rfl rfl 2 rfl ?_
              refine j_aload_n 81 C dX6_count_80 rfl rfl 0 rfl ?_
              refine k_get 84 C fl_X6_50 dX6_count_81 rfl 36 (GH_r hG (by decide)) (σ 36) rfl (CE_36 _) (.int (nI W)) rfl ?_
              refine j_ic_ge 110 87 C dX6_count_84 rfl rfl (fun c_84 => ?_) (fun c_84 => ?_)
              · exfalso
                have n_84 := nat_le (a := W) (b := i79) rfl rfl (by omega) (by omega) c_84
                omega
              · skip
                have n_84 := nat_nle (a := W) (b := i79) rfl rfl (by omega) (by omega) c_84
                obtain ⟨w79, hw79, hz79⟩ := lp_s hz79
                have ho79 := hz
                clear hz
                have hz := hw79
                clear hw79
                unfold m_X6_count_L79 at hz
                refine j_iload_n 88 C dX6_count_87 rfl rfl 1 rfl ?_
                refine j_aload_n 89 C dX6_count_88 rfl rfl 0 rfl ?_
                refine k_get 92 C fl_X6_19 dX6_count_89 rfl 36 (GH_r hG (by decide)) (σ 36) rfl (CE_36 _) (.ref (ad 40)) rfl ?_
                refine j_iload_n 93 C dX6_count_92 rfl rfl 2 rfl ?_
                refine k_zald 94 C dX6_count_93 rfl 40 (GH_r hG (by decide)) (σ 40) rfl CE_40 (vp_inE (n := i79) rfl (by omega) (by omega)) ?_
                refine j_if_eq 101 97 C dX6_count_94 rfl rfl (fun c_94 => ?_) (fun c_94 => ?_)
                · replace hz := (if_pos c_94).symm.trans hz
                  refine j_iconst 102 C (x := nI 0) dX6_count_101 rfl (by decide) ?_
                  refine j_iadd 103 C dX6_count_102 rfl rfl ?_
                  refine j_istore_n 104 C [(2, .int (c79 + (nI 0))), (0, .ref (ad 36)), (3, .int (nI i79))] dX6_count_103 rfl rfl (by decide) rfl ?_
                  refine j_iinc 107 C (x' := nI (i79 + 1)) [(3, .int (nI (i79 + 1))), (2, .int (c79 + (nI 0))), (0, .ref (ad 36))] dX6_count_104 rfl 2 rfl (by rw [show Int32.ofInt 1 = nI 1 from by decide, nI_add]) (by decide) rfl ?_
                  refine j_goto 79 C dX6_count_107 rfl ?_
                  subst hz
                  refine j_lv [2, 1, 0] (lv' := [(0, .ref (ad 36)), (2, .int (c79 + (nI 0))), (3, .int (nI (i79 + 1)))]) rfl ?_
                  have hz := ho79
                  exact ih79 (i79 + 1) (c79 + (nI 0)) (by omega) (by omega) (by omega) hz79
                · replace hz := (if_neg c_94).symm.trans hz
                  refine j_iconst 98 C (x := nI 1) dX6_count_97 rfl (by decide) ?_
                  refine j_goto 102 C dX6_count_98 rfl ?_
                  refine j_iadd 103 C dX6_count_102 rfl rfl ?_
                  refine j_istore_n 104 C [(2, .int (c79 + (nI 1))), (0, .ref (ad 36)), (3, .int (nI i79))] dX6_count_103 rfl rfl (by decide) rfl ?_
                  refine j_iinc 107 C (x' := nI (i79 + 1)) [(3, .int (nI (i79 + 1))), (2, .int (c79 + (nI 1))), (0, .ref (ad 36))] dX6_count_104 rfl 2 rfl (by rw [show Int32.ofInt 1 = nI 1 from by decide, nI_add]) (by decide) rfl ?_
                  refine j_goto 79 C dX6_count_107 rfl ?_
                  subst hz
                  refine j_lv [2, 1, 0] (lv' := [(0, .ref (ad 36)), (2, .int (c79 + (nI 1))), (3, .int (nI (i79 + 1)))]) rfl ?_
                  have hz := ho79
                  exact ih79 (i79 + 1) (c79 + (nI 1)) (by omega) (by omega) (by omega) hz79
          refine j_lv [2, 1, 0] (lv' := [(0, .ref (ad 36)), (2, .int (nI 0)), (3, .int (nI 0))]) rfl ?_
          exact L79 _ 0 (nI 0) (by omega) (by omega) rfl ez79
        · replace hz := (if_neg c_303).symm.trans hz
          refine j_swOut 112 C dX6_count_3 (sw_out4 c_300 c_301 c_302 c_303) rfl ?_
          refine j_iconst 113 C (x := (-1)) dX6_count_112 rfl (by decide) ?_
          subst hz
          exact j_retI C X dX6_count_113 rfl ⟨rfl, rfl, rfl, rfl, trivial⟩
def m_X6_sight (W S ns nc : Nat) (B : Nat → Option Nat) (σ : Nat → Nat → Int32) (where0 : Int32) (z_ : Int32) (miss0 : Int32) : Int32 × Nat × (Nat → Int32) × (Nat → Int32) × (Nat → Int32) × (Nat → Int32) × (Nat → Int32) := (if where0 < 0 then ((-1), ns, (σ 36), (σ 43), (σ 44), (σ 45), (σ 46)) else ap (m_X6_isPlace W S ns nc B σ (where0 / (nI 100)) ((where0 / (nI 10)) - (where0 / (nI 10)) / (nI 10) * (nI 10))) (fun (y16 : Int32) => (if y16 = 0 then ((-1), ns, (σ 36), (σ 43), (σ 44), (σ 45), (σ 46)) else (if (nI 3) < (where0 - where0 / (nI 10) * (nI 10)) then ((-1), ns, (σ 36), (σ 43), (σ 44), (σ 45), (σ 46)) else (if (where0 - where0 / (nI 10) * (nI 10)) = (nI 3) then (if ((where0 / (nI 10)) - (where0 / (nI 10)) / (nI 10) * (nI 10)) = ((nI W) - (nI 1)) then ((-1), ns, (σ 36), (σ 43), (σ 44), (σ 45), (σ 46)) else ap (m_X6_in W S ns nc B σ z_ (-60) (nI 60)) (fun (y61 : Int32) => (if y61 = 0 then ((-1), ns, (σ 36), (σ 43), (σ 44), (σ 45), (σ 46)) else ap (m_X6_in W S ns nc B σ miss0 (nI 0) (nI 60)) (fun (y71 : Int32) => (if y71 = 0 then ((-1), ns, (σ 36), (σ 43), (σ 44), (σ 45), (σ 46)) else (if (nI ns) = (nI 10) then ((-1), ns, (σ 36), (σ 43), (σ 44), (σ 45), (σ 46)) else ((nI (ns + 1)) - (nI 1), (ns + 1), (upd (σ 36) 16 (nI 0)), (upd (σ 43) (nI ns).toNatClampNeg where0), (upd (σ 44) (nI ns).toNatClampNeg z_), (upd (σ 45) (nI ns).toNatClampNeg miss0), (upd (σ 46) (nI ns).toNatClampNeg (nI 1))))))))) else ap (m_X6_in W S ns nc B σ z_ (-60) (nI 60)) (fun (y61 : Int32) => (if y61 = 0 then ((-1), ns, (σ 36), (σ 43), (σ 44), (σ 45), (σ 46)) else ap (m_X6_in W S ns nc B σ miss0 (nI 0) (nI 60)) (fun (y71 : Int32) => (if y71 = 0 then ((-1), ns, (σ 36), (σ 43), (σ 44), (σ 45), (σ 46)) else (if (nI ns) = (nI 10) then ((-1), ns, (σ 36), (σ 43), (σ 44), (σ 45), (σ 46)) else ((nI (ns + 1)) - (nI 1), (ns + 1), (upd (σ 36) 16 (nI 0)), (upd (σ 43) (nI ns).toNatClampNeg where0), (upd (σ 44) (nI ns).toNatClampNeg z_), (upd (σ 45) (nI ns).toNatClampNeg miss0), (upd (σ 46) (nI ns).toNatClampNeg (nI 1)))))))))))))
abbrev rm_X6_sight : Room := { frames := 2, cells := 0, slots := 0, locals := 44 }
set_option maxHeartbeats 4000000 in
set_option maxRecDepth 100000 in
theorem c_X6_sight {l : Launch} {D : va_G} {K : Nat → ClassId} {W S ns nc N : Nat} {ad : Nat → Nat} {B : Nat → Option Nat} {σ : Nat → Nat → Int32} (hG : GH W S ns nc N) {where0 : Int32} {z_ : Int32} {miss0 : Int32}  {z : Int32 × Nat × (Nat → Int32) × (Nat → Int32) × (Nat → Int32) × (Nat → Int32) × (Nat → Int32)} (hz : m_X6_sight W S ns nc B σ where0 z_ miss0 = z)  : MC l yX6_sight cX6_sight 4 (some .int) rm_X6_sight D (TY K) N ad (CT K W S ns nc ad B σ) [.ref (ad 36), .int where0, .int z_, .int miss0] (BS (some (.int z.1)) N ad (CT K W S z.2.1 nc ad B (sA (sA (sA (sA (sA σ 36 z.2.2.1) 43 z.2.2.2.1) 44 z.2.2.2.2.1) 45 z.2.2.2.2.2.1) 46 z.2.2.2.2.2.2)) True) := by
  have hW := hG.1; have hW8 := hG.2.1; have hS := hG.2.2.1; have hS4 := hG.2.2.2.1; have hns := hG.2.2.2.2.1; have hnc := hG.2.2.2.2.2.1; have hWS := GH_ws hG
  refine MC.of (by decide) (Nat.le_of_ble_eq_true rfl) (fun p e s m args below meth c Q A H0 C X => ?_)
  replace C : Cx p s m args meth c cX6_sight RX6 4 D (TY K) A H0 := C
  show J p l e rm_X6_sight s m args below meth c Q D A H0 4 0 0 N ad (CT K W S ns nc ad B σ) 0 [(0, .ref (ad 36)), (1, .int where0), (2, .int z_), (3, .int miss0)] []
  unfold m_X6_sight at hz
  refine j_iload_n 1 C dX6_sight_0 rfl rfl 1 rfl ?_
  refine j_if_lt 54 4 C dX6_sight_1 rfl rfl (fun c_1 => ?_) (fun c_1 => ?_)
  · replace hz := (if_pos c_1).symm.trans hz
    refine j_iconst 55 C (x := (-1)) dX6_sight_54 rfl (by decide) ?_
    subst hz
    exact j_retI C X dX6_sight_55 rfl ⟨rfl, rfl, rfl, (CT_x (by intro a; (by_cases h0 : a = 36; (· (first | (subst h0; simp [sA]; done) | (rw [h0]; simp [sA]; done))); by_cases h1 : a = 43; (· (first | (subst h1; simp [sA]; done) | (rw [h1]; simp [sA]; done))); by_cases h2 : a = 44; (· (first | (subst h2; simp [sA]; done) | (rw [h2]; simp [sA]; done))); by_cases h3 : a = 45; (· (first | (subst h3; simp [sA]; done) | (rw [h3]; simp [sA]; done))); by_cases h4 : a = 46; (· (first | (subst h4; simp [sA]; done) | (rw [h4]; simp [sA]; done))); simp [sA, h0, h1, h2, h3, h4]))), trivial⟩
  · replace hz := (if_neg c_1).symm.trans hz
    refine j_aload_n 5 C dX6_sight_4 rfl rfl 0 rfl ?_
    refine j_iload_n 6 C dX6_sight_5 rfl rfl 1 rfl ?_
    refine j_bipush 8 C (x := nI 100) dX6_sight_6 rfl (by decide) ?_
    refine j_idiv 9 C dX6_sight_8 rfl (by decide) rfl ?_
    refine j_iload_n 10 C dX6_sight_9 rfl rfl 1 rfl ?_
    refine j_bipush 12 C (x := nI 10) dX6_sight_10 rfl (by decide) ?_
    refine j_idiv 13 C dX6_sight_12 rfl (by decide) rfl ?_
    refine j_bipush 15 C (x := nI 10) dX6_sight_13 rfl (by decide) ?_
    refine j_irem 16 C dX6_sight_15 rfl (by decide) rfl ?_
    obtain ⟨y16, e16, hz⟩ := ap_x hz
    refine s_V 19 C (As := [.int (where0 / (nI 100)), .int ((where0 / (nI 10)) - (where0 / (nI 10)) / (nI 10) * (nI 10))]) cv_X6_65 (c_X6_isPlace (l := l) (D := D) (K := K) (ad := ad) hG  (hz := e16)) dX6_sight_16 rfl 36 6 (GH_r hG (by decide)) rfl (CE_36 _) rfl rfl rfl rfl rfl rfl ⟨⟨Nat.le_of_ble_eq_true rfl, Nat.le_of_ble_eq_true rfl⟩, Nat.zero_le _, Nat.zero_le _⟩ (Nat.le_of_ble_eq_true rfl) (st' := [.int y16]) rfl (fun hE => ?_)
    have hbl16 : bl y16 := hE
    refine j_if_eq 54 22 C dX6_sight_19 rfl rfl (fun c_19 => ?_) (fun c_19 => ?_)
    · replace hz := (if_pos c_19).symm.trans hz
      refine j_iconst 55 C (x := (-1)) dX6_sight_54 rfl (by decide) ?_
      subst hz
      exact j_retI C X dX6_sight_55 rfl ⟨rfl, rfl, rfl, (CT_x (by intro a; (by_cases h0 : a = 36; (· (first | (subst h0; simp [sA]; done) | (rw [h0]; simp [sA]; done))); by_cases h1 : a = 43; (· (first | (subst h1; simp [sA]; done) | (rw [h1]; simp [sA]; done))); by_cases h2 : a = 44; (· (first | (subst h2; simp [sA]; done) | (rw [h2]; simp [sA]; done))); by_cases h3 : a = 45; (· (first | (subst h3; simp [sA]; done) | (rw [h3]; simp [sA]; done))); by_cases h4 : a = 46; (· (first | (subst h4; simp [sA]; done) | (rw [h4]; simp [sA]; done))); simp [sA, h0, h1, h2, h3, h4]))), trivial⟩
    · replace hz := (if_neg c_19).symm.trans hz
      refine j_iload_n 23 C dX6_sight_22 rfl rfl 1 rfl ?_
      refine j_bipush 25 C (x := nI 10) dX6_sight_23 rfl (by decide) ?_
      refine j_irem 26 C dX6_sight_25 rfl (by decide) rfl ?_
      refine j_iconst 27 C (x := nI 3) dX6_sight_26 rfl (by decide) ?_
      refine j_ic_gt 54 30 C dX6_sight_27 rfl rfl (fun c_27 => ?_) (fun c_27 => ?_)
      · replace hz := (if_pos c_27).symm.trans hz
        refine j_iconst 55 C (x := (-1)) dX6_sight_54 rfl (by decide) ?_
        subst hz
        exact j_retI C X dX6_sight_55 rfl ⟨rfl, rfl, rfl, (CT_x (by intro a; (by_cases h0 : a = 36; (· (first | (subst h0; simp [sA]; done) | (rw [h0]; simp [sA]; done))); by_cases h1 : a = 43; (· (first | (subst h1; simp [sA]; done) | (rw [h1]; simp [sA]; done))); by_cases h2 : a = 44; (· (first | (subst h2; simp [sA]; done) | (rw [h2]; simp [sA]; done))); by_cases h3 : a = 45; (· (first | (subst h3; simp [sA]; done) | (rw [h3]; simp [sA]; done))); by_cases h4 : a = 46; (· (first | (subst h4; simp [sA]; done) | (rw [h4]; simp [sA]; done))); simp [sA, h0, h1, h2, h3, h4]))), trivial⟩
      · replace hz := (if_neg c_27).symm.trans hz
        refine j_iload_n 31 C dX6_sight_30 rfl rfl 1 rfl ?_
        refine j_bipush 33 C (x := nI 10) dX6_sight_31 rfl (by decide) ?_
        refine j_irem 34 C dX6_sight_33 rfl (by decide) rfl ?_
        refine j_iconst 35 C (x := nI 3) dX6_sight_34 rfl (by decide) ?_
        refine j_ic_ne 56 38 C dX6_sight_35 rfl rfl (fun c_35 => ?_) (fun c_35 => ?_)
        · replace hz := (if_neg c_35).symm.trans hz
          refine j_iload_n 57 C dX6_sight_56 rfl rfl 2 rfl ?_
          refine j_bipush 59 C (x := (-60)) dX6_sight_57 rfl (by decide) ?_
          refine j_bipush 61 C (x := nI 60) dX6_sight_59 rfl (by decide) ?_
          obtain ⟨y61, e61, hz⟩ := ap_x hz
          refine s_S 64 C (As := [.int z_, .int (-60), .int (nI 60)]) cs_X6_57 (c_X6_in (l := l) (D := D) (K := K) (ad := ad) hG  (hz := e61)) dX6_sight_61 rfl rfl rfl rfl rfl ⟨⟨Nat.le_of_ble_eq_true rfl, Nat.le_of_ble_eq_true rfl⟩, Nat.zero_le _, Nat.zero_le _⟩ (Nat.le_of_ble_eq_true rfl) (st' := [.int y61]) rfl (fun hE => ?_)
          have hbl61 : bl y61 := hE
          refine j_if_eq 86 67 C dX6_sight_64 rfl rfl (fun c_64 => ?_) (fun c_64 => ?_)
          · replace hz := (if_pos c_64).symm.trans hz
            refine j_iconst 87 C (x := (-1)) dX6_sight_86 rfl (by decide) ?_
            subst hz
            exact j_retI C X dX6_sight_87 rfl ⟨rfl, rfl, rfl, (CT_x (by intro a; (by_cases h0 : a = 36; (· (first | (subst h0; simp [sA]; done) | (rw [h0]; simp [sA]; done))); by_cases h1 : a = 43; (· (first | (subst h1; simp [sA]; done) | (rw [h1]; simp [sA]; done))); by_cases h2 : a = 44; (· (first | (subst h2; simp [sA]; done) | (rw [h2]; simp [sA]; done))); by_cases h3 : a = 45; (· (first | (subst h3; simp [sA]; done) | (rw [h3]; simp [sA]; done))); by_cases h4 : a = 46; (· (first | (subst h4; simp [sA]; done) | (rw [h4]; simp [sA]; done))); simp [sA, h0, h1, h2, h3, h4]))), trivial⟩
          · replace hz := (if_neg c_64).symm.trans hz
            refine j_iload_n 68 C dX6_sight_67 rfl rfl 3 rfl ?_
            refine j_iconst 69 C (x := nI 0) dX6_sight_68 rfl (by decide) ?_
            refine j_bipush 71 C (x := nI 60) dX6_sight_69 rfl (by decide) ?_
            obtain ⟨y71, e71, hz⟩ := ap_x hz
            refine s_S 74 C (As := [.int miss0, .int (nI 0), .int (nI 60)]) cs_X6_57 (c_X6_in (l := l) (D := D) (K := K) (ad := ad) hG  (hz := e71)) dX6_sight_71 rfl rfl rfl rfl rfl ⟨⟨Nat.le_of_ble_eq_true rfl, Nat.le_of_ble_eq_true rfl⟩, Nat.zero_le _, Nat.zero_le _⟩ (Nat.le_of_ble_eq_true rfl) (st' := [.int y71]) rfl (fun hE => ?_)
            have hbl71 : bl y71 := hE
            refine j_if_eq 86 77 C dX6_sight_74 rfl rfl (fun c_74 => ?_) (fun c_74 => ?_)
            · replace hz := (if_pos c_74).symm.trans hz
              refine j_iconst 87 C (x := (-1)) dX6_sight_86 rfl (by decide) ?_
              subst hz
              exact j_retI C X dX6_sight_87 rfl ⟨rfl, rfl, rfl, (CT_x (by intro a; (by_cases h0 : a = 36; (· (first | (subst h0; simp [sA]; done) | (rw [h0]; simp [sA]; done))); by_cases h1 : a = 43; (· (first | (subst h1; simp [sA]; done) | (rw [h1]; simp [sA]; done))); by_cases h2 : a = 44; (· (first | (subst h2; simp [sA]; done) | (rw [h2]; simp [sA]; done))); by_cases h3 : a = 45; (· (first | (subst h3; simp [sA]; done) | (rw [h3]; simp [sA]; done))); by_cases h4 : a = 46; (· (first | (subst h4; simp [sA]; done) | (rw [h4]; simp [sA]; done))); simp [sA, h0, h1, h2, h3, h4]))), trivial⟩
            · replace hz := (if_neg c_74).symm.trans hz
              refine j_aload_n 78 C dX6_sight_77 rfl rfl 0 rfl ?_
              refine k_get 81 C fl_X6_69 dX6_sight_78 rfl 36 (GH_r hG (by decide)) (σ 36) rfl (CE_36 _) (.int (nI ns)) rfl ?_
              refine j_bipush 83 C (x := nI 10) dX6_sight_81 rfl (by decide) ?_
              refine j_ic_ne 88 86 C dX6_sight_83 rfl rfl (fun c_83 => ?_) (fun c_83 => ?_)
              · replace hz := (if_neg c_83).symm.trans hz
                have n_83 := nat_ne (a := ns) (b := 10) rfl rfl (by omega) (by omega) c_83
                refine j_aload_n 89 C dX6_sight_88 rfl rfl 0 rfl ?_
                refine k_get 92 C fl_X6_29 dX6_sight_89 rfl 36 (GH_r hG (by decide)) (σ 36) rfl (CE_36 _) (.ref (ad 43)) rfl ?_
                refine j_aload_n 93 C dX6_sight_92 rfl rfl 0 rfl ?_
                refine k_get 96 C fl_X6_69 dX6_sight_93 rfl 36 (GH_r hG (by decide)) (σ 36) rfl (CE_36 _) (.int (nI ns)) rfl ?_
                refine j_iload_n 97 C dX6_sight_96 rfl rfl 1 rfl ?_
                refine k_iast 98 C dX6_sight_97 rfl 43 (GH_r hG (by decide)) (σ 43) rfl CE_43 (vp_inE (n := ns) rfl (by omega) (by omega)) (sA σ 43 (upd (σ 43) (nI ns).toNatClampNeg where0)) rfl ?_
                refine j_aload_n 99 C dX6_sight_98 rfl rfl 0 rfl ?_
                refine k_get 102 C fl_X6_32 dX6_sight_99 rfl 36 (GH_r hG (by decide)) (σ 36) (by rfl) (CE_36 _) (.ref (ad 44)) rfl ?_
                refine j_aload_n 103 C dX6_sight_102 rfl rfl 0 rfl ?_
                refine k_get 106 C fl_X6_69 dX6_sight_103 rfl 36 (GH_r hG (by decide)) (σ 36) (by rfl) (CE_36 _) (.int (nI ns)) rfl ?_
                refine j_iload_n 107 C dX6_sight_106 rfl rfl 2 rfl ?_
                refine k_iast 108 C dX6_sight_107 rfl 44 (GH_r hG (by decide)) (σ 44) (by rfl) CE_44 (vp_inE (n := ns) rfl (by omega) (by omega)) (sA (sA σ 43 (upd (σ 43) (nI ns).toNatClampNeg where0)) 44 (upd (σ 44) (nI ns).toNatClampNeg z_)) rfl ?_
                refine j_aload_n 109 C dX6_sight_108 rfl rfl 0 rfl ?_
                refine k_get 112 C fl_X6_35 dX6_sight_109 rfl 36 (GH_r hG (by decide)) (σ 36) (by rfl) (CE_36 _) (.ref (ad 45)) rfl ?_
                refine j_aload_n 113 C dX6_sight_112 rfl rfl 0 rfl ?_
                refine k_get 116 C fl_X6_69 dX6_sight_113 rfl 36 (GH_r hG (by decide)) (σ 36) (by rfl) (CE_36 _) (.int (nI ns)) rfl ?_
                refine j_iload_n 117 C dX6_sight_116 rfl rfl 3 rfl ?_
                refine k_iast 118 C dX6_sight_117 rfl 45 (GH_r hG (by decide)) (σ 45) (by rfl) CE_45 (vp_inE (n := ns) rfl (by omega) (by omega)) (sA (sA (sA σ 43 (upd (σ 43) (nI ns).toNatClampNeg where0)) 44 (upd (σ 44) (nI ns).toNatClampNeg z_)) 45 (upd (σ 45) (nI ns).toNatClampNeg miss0)) rfl ?_
                refine j_aload_n 119 C dX6_sight_118 rfl rfl 0 rfl ?_
                refine k_get 122 C fl_X6_38 dX6_sight_119 rfl 36 (GH_r hG (by decide)) (σ 36) (by rfl) (CE_36 _) (.ref (ad 46)) rfl ?_
                refine j_aload_n 123 C dX6_sight_122 rfl rfl 0 rfl ?_
                refine k_get 126 C fl_X6_69 dX6_sight_123 rfl 36 (GH_r hG (by decide)) (σ 36) (by rfl) (CE_36 _) (.int (nI ns)) rfl ?_
                refine j_iconst 127 C (x := nI 1) dX6_sight_126 rfl (by decide) ?_
                refine k_zast 128 C dX6_sight_127 rfl 46 (GH_r hG (by decide)) (σ 46) (by rfl) CE_46 (vp_inE (n := ns) rfl (by omega) (by omega)) bl_1 (sA (sA (sA (sA σ 43 (upd (σ 43) (nI ns).toNatClampNeg where0)) 44 (upd (σ 44) (nI ns).toNatClampNeg z_)) 45 (upd (σ 45) (nI ns).toNatClampNeg miss0)) 46 (upd (σ 46) (nI ns).toNatClampNeg (nI 1))) rfl ?_
                refine j_aload_n 129 C dX6_sight_128 rfl rfl 0 rfl ?_
                refine j_dup 130 C dX6_sight_129 rfl rfl ?_
                refine k_get 133 C fl_X6_69 dX6_sight_130 rfl 36 (GH_r hG (by decide)) (σ 36) (by rfl) (CE_36 _) (.int (nI ns)) rfl ?_
                refine j_iconst 134 C (x := nI 1) dX6_sight_133 rfl (by decide) ?_
                refine j_iadd 135 C dX6_sight_134 rfl rfl ?_
                refine k_putns 138 C fl_X6_69 fp_X6 dX6_sight_135 rfl (GH_r hG (by decide)) (ns' := ns + 1) (by simp only [nI_add]) ?_
                refine j_aload_n 139 C dX6_sight_138 rfl rfl 0 rfl ?_
                refine j_iconst 140 C (x := nI 0) dX6_sight_139 rfl (by decide) ?_
                refine k_put 143 C fl_X6_61 fp_X6 rfl dX6_sight_140 rfl 36 (GH_r hG (by decide)) (σ 36) (by rfl) (CE_36 _) (bl_nar bl_0) (bl_fit bl_0) (Nat.le_of_ble_eq_true rfl) rfl (sA (sA (sA (sA (sA σ 43 (upd (σ 43) (nI ns).toNatClampNeg where0)) 44 (upd (σ 44) (nI ns).toNatClampNeg z_)) 45 (upd (σ 45) (nI ns).toNatClampNeg miss0)) 46 (upd (σ 46) (nI ns).toNatClampNeg (nI 1))) 36 (upd (σ 36) 16 (nI 0))) rfl ?_
                refine j_aload_n 144 C dX6_sight_143 rfl rfl 0 rfl ?_
                refine k_get 147 C fl_X6_69 dX6_sight_144 rfl 36 (GH_r hG (by decide)) (upd (σ 36) 16 (nI 0)) rfl (CE_36 _) (.int (nI (ns + 1))) rfl ?_
                refine j_iconst 148 C (x := nI 1) dX6_sight_147 rfl (by decide) ?_
                refine j_isub 149 C dX6_sight_148 rfl rfl ?_
                subst hz
                exact j_retI C X dX6_sight_149 rfl ⟨rfl, rfl, rfl, (CT_x (by intro a; (by_cases h0 : a = 36; (· (first | (subst h0; simp [sA]; done) | (rw [h0]; simp [sA]; done))); by_cases h1 : a = 43; (· (first | (subst h1; simp [sA]; done) | (rw [h1]; simp [sA]; done))); by_cases h2 : a = 44; (· (first | (subst h2; simp [sA]; done) | (rw [h2]; simp [sA]; done))); by_cases h3 : a = 45; (· (first | (subst h3; simp [sA]; done) | (rw [h3]; simp [sA]; done))); by_cases h4 : a = 46; (· (first | (subst h4; simp [sA]; done) | (rw [h4]; simp [sA]; done))); simp [sA, h0, h1, h2, h3, h4]))), trivial⟩
              · replace hz := (if_pos c_83).symm.trans hz
                have n_83 := nat_eq (a := ns) (b := 10) rfl rfl (by omega) (by omega) c_83
                refine j_iconst 87 C (x := (-1)) dX6_sight_86 rfl (by decide) ?_
                subst hz
                exact j_retI C X dX6_sight_87 rfl ⟨rfl, rfl, rfl, (CT_x (by intro a; (by_cases h0 : a = 36; (· (first | (subst h0; simp [sA]; done) | (rw [h0]; simp [sA]; done))); by_cases h1 : a = 43; (· (first | (subst h1; simp [sA]; done) | (rw [h1]; simp [sA]; done))); by_cases h2 : a = 44; (· (first | (subst h2; simp [sA]; done) | (rw [h2]; simp [sA]; done))); by_cases h3 : a = 45; (· (first | (subst h3; simp [sA]; done) | (rw [h3]; simp [sA]; done))); by_cases h4 : a = 46; (· (first | (subst h4; simp [sA]; done) | (rw [h4]; simp [sA]; done))); simp [sA, h0, h1, h2, h3, h4]))), trivial⟩
        · replace hz := (if_pos c_35).symm.trans hz
          refine j_iload_n 39 C dX6_sight_38 rfl rfl 1 rfl ?_
          refine j_bipush 41 C (x := nI 10) dX6_sight_39 rfl (by decide) ?_
          refine j_idiv 42 C dX6_sight_41 rfl (by decide) rfl ?_
          refine j_bipush 44 C (x := nI 10) dX6_sight_42 rfl (by decide) ?_
          refine j_irem 45 C dX6_sight_44 rfl (by decide) rfl ?_
          refine j_aload_n 46 C dX6_sight_45 rfl rfl 0 rfl ?_
          refine k_get 49 C fl_X6_50 dX6_sight_46 rfl 36 (GH_r hG (by decide)) (σ 36) rfl (CE_36 _) (.int (nI W)) rfl ?_
          refine j_iconst 50 C (x := nI 1) dX6_sight_49 rfl (by decide) ?_
          refine j_isub 51 C dX6_sight_50 rfl rfl ?_
          refine j_ic_ne 56 54 C dX6_sight_51 rfl rfl (fun c_51 => ?_) (fun c_51 => ?_)
          · replace hz := (if_neg c_51).symm.trans hz
            refine j_iload_n 57 C dX6_sight_56 rfl rfl 2 rfl ?_
            refine j_bipush 59 C (x := (-60)) dX6_sight_57 rfl (by decide) ?_
            refine j_bipush 61 C (x := nI 60) dX6_sight_59 rfl (by decide) ?_
            obtain ⟨y61, e61, hz⟩ := ap_x hz
            refine s_S 64 C (As := [.int z_, .int (-60), .int (nI 60)]) cs_X6_57 (c_X6_in (l := l) (D := D) (K := K) (ad := ad) hG  (hz := e61)) dX6_sight_61 rfl rfl rfl rfl rfl ⟨⟨Nat.le_of_ble_eq_true rfl, Nat.le_of_ble_eq_true rfl⟩, Nat.zero_le _, Nat.zero_le _⟩ (Nat.le_of_ble_eq_true rfl) (st' := [.int y61]) rfl (fun hE => ?_)
            have hbl61 : bl y61 := hE
            refine j_if_eq 86 67 C dX6_sight_64 rfl rfl (fun c_64 => ?_) (fun c_64 => ?_)
            · replace hz := (if_pos c_64).symm.trans hz
              refine j_iconst 87 C (x := (-1)) dX6_sight_86 rfl (by decide) ?_
              subst hz
              exact j_retI C X dX6_sight_87 rfl ⟨rfl, rfl, rfl, (CT_x (by intro a; (by_cases h0 : a = 36; (· (first | (subst h0; simp [sA]; done) | (rw [h0]; simp [sA]; done))); by_cases h1 : a = 43; (· (first | (subst h1; simp [sA]; done) | (rw [h1]; simp [sA]; done))); by_cases h2 : a = 44; (· (first | (subst h2; simp [sA]; done) | (rw [h2]; simp [sA]; done))); by_cases h3 : a = 45; (· (first | (subst h3; simp [sA]; done) | (rw [h3]; simp [sA]; done))); by_cases h4 : a = 46; (· (first | (subst h4; simp [sA]; done) | (rw [h4]; simp [sA]; done))); simp [sA, h0, h1, h2, h3, h4]))), trivial⟩
            · replace hz := (if_neg c_64).symm.trans hz
              refine j_iload_n 68 C dX6_sight_67 rfl rfl 3 rfl ?_
              refine j_iconst 69 C (x := nI 0) dX6_sight_68 rfl (by decide) ?_
              refine j_bipush 71 C (x := nI 60) dX6_sight_69 rfl (by decide) ?_
              obtain ⟨y71, e71, hz⟩ := ap_x hz
              refine s_S 74 C (As := [.int miss0, .int (nI 0), .int (nI 60)]) cs_X6_57 (c_X6_in (l := l) (D := D) (K := K) (ad := ad) hG  (hz := e71)) dX6_sight_71 rfl rfl rfl rfl rfl ⟨⟨Nat.le_of_ble_eq_true rfl, Nat.le_of_ble_eq_true rfl⟩, Nat.zero_le _, Nat.zero_le _⟩ (Nat.le_of_ble_eq_true rfl) (st' := [.int y71]) rfl (fun hE => ?_)
              have hbl71 : bl y71 := hE
              refine j_if_eq 86 77 C dX6_sight_74 rfl rfl (fun c_74 => ?_) (fun c_74 => ?_)
              · replace hz := (if_pos c_74).symm.trans hz
                refine j_iconst 87 C (x := (-1)) dX6_sight_86 rfl (by decide) ?_
                subst hz
                exact j_retI C X dX6_sight_87 rfl ⟨rfl, rfl, rfl, (CT_x (by intro a; (by_cases h0 : a = 36; (· (first | (subst h0; simp [sA]; done) | (rw [h0]; simp [sA]; done))); by_cases h1 : a = 43; (· (first | (subst h1; simp [sA]; done) | (rw [h1]; simp [sA]; done))); by_cases h2 : a = 44; (· (first | (subst h2; simp [sA]; done) | (rw [h2]; simp [sA]; done))); by_cases h3 : a = 45; (· (first | (subst h3; simp [sA]; done) | (rw [h3]; simp [sA]; done))); by_cases h4 : a = 46; (· (first | (subst h4; simp [sA]; done) | (rw [h4]; simp [sA]; done))); simp [sA, h0, h1, h2, h3, h4]))), trivial⟩
              · replace hz := (if_neg c_74).symm.trans hz
                refine j_aload_n 78 C dX6_sight_77 rfl rfl 0 rfl ?_
                refine k_get 81 C fl_X6_69 dX6_sight_78 rfl 36 (GH_r hG (by decide)) (σ 36) rfl (CE_36 _) (.int (nI ns)) rfl ?_
                refine j_bipush 83 C (x := nI 10) dX6_sight_81 rfl (by decide) ?_
                refine j_ic_ne 88 86 C dX6_sight_83 rfl rfl (fun c_83 => ?_) (fun c_83 => ?_)
                · replace hz := (if_neg c_83).symm.trans hz
                  have n_83 := nat_ne (a := ns) (b := 10) rfl rfl (by omega) (by omega) c_83
                  refine j_aload_n 89 C dX6_sight_88 rfl rfl 0 rfl ?_
                  refine k_get 92 C fl_X6_29 dX6_sight_89 rfl 36 (GH_r hG (by decide)) (σ 36) rfl (CE_36 _) (.ref (ad 43)) rfl ?_
                  refine j_aload_n 93 C dX6_sight_92 rfl rfl 0 rfl ?_
                  refine k_get 96 C fl_X6_69 dX6_sight_93 rfl 36 (GH_r hG (by decide)) (σ 36) rfl (CE_36 _) (.int (nI ns)) rfl ?_
                  refine j_iload_n 97 C dX6_sight_96 rfl rfl 1 rfl ?_
                  refine k_iast 98 C dX6_sight_97 rfl 43 (GH_r hG (by decide)) (σ 43) rfl CE_43 (vp_inE (n := ns) rfl (by omega) (by omega)) (sA σ 43 (upd (σ 43) (nI ns).toNatClampNeg where0)) rfl ?_
                  refine j_aload_n 99 C dX6_sight_98 rfl rfl 0 rfl ?_
                  refine k_get 102 C fl_X6_32 dX6_sight_99 rfl 36 (GH_r hG (by decide)) (σ 36) (by rfl) (CE_36 _) (.ref (ad 44)) rfl ?_
                  refine j_aload_n 103 C dX6_sight_102 rfl rfl 0 rfl ?_
                  refine k_get 106 C fl_X6_69 dX6_sight_103 rfl 36 (GH_r hG (by decide)) (σ 36) (by rfl) (CE_36 _) (.int (nI ns)) rfl ?_
                  refine j_iload_n 107 C dX6_sight_106 rfl rfl 2 rfl ?_
                  refine k_iast 108 C dX6_sight_107 rfl 44 (GH_r hG (by decide)) (σ 44) (by rfl) CE_44 (vp_inE (n := ns) rfl (by omega) (by omega)) (sA (sA σ 43 (upd (σ 43) (nI ns).toNatClampNeg where0)) 44 (upd (σ 44) (nI ns).toNatClampNeg z_)) rfl ?_
                  refine j_aload_n 109 C dX6_sight_108 rfl rfl 0 rfl ?_
                  refine k_get 112 C fl_X6_35 dX6_sight_109 rfl 36 (GH_r hG (by decide)) (σ 36) (by rfl) (CE_36 _) (.ref (ad 45)) rfl ?_
                  refine j_aload_n 113 C dX6_sight_112 rfl rfl 0 rfl ?_
                  refine k_get 116 C fl_X6_69 dX6_sight_113 rfl 36 (GH_r hG (by decide)) (σ 36) (by rfl) (CE_36 _) (.int (nI ns)) rfl ?_
                  refine j_iload_n 117 C dX6_sight_116 rfl rfl 3 rfl ?_
                  refine k_iast 118 C dX6_sight_117 rfl 45 (GH_r hG (by decide)) (σ 45) (by rfl) CE_45 (vp_inE (n := ns) rfl (by omega) (by omega)) (sA (sA (sA σ 43 (upd (σ 43) (nI ns).toNatClampNeg where0)) 44 (upd (σ 44) (nI ns).toNatClampNeg z_)) 45 (upd (σ 45) (nI ns).toNatClampNeg miss0)) rfl ?_
                  refine j_aload_n 119 C dX6_sight_118 rfl rfl 0 rfl ?_
                  refine k_get 122 C fl_X6_38 dX6_sight_119 rfl 36 (GH_r hG (by decide)) (σ 36) (by rfl) (CE_36 _) (.ref (ad 46)) rfl ?_
                  refine j_aload_n 123 C dX6_sight_122 rfl rfl 0 rfl ?_
                  refine k_get 126 C fl_X6_69 dX6_sight_123 rfl 36 (GH_r hG (by decide)) (σ 36) (by rfl) (CE_36 _) (.int (nI ns)) rfl ?_
                  refine j_iconst 127 C (x := nI 1) dX6_sight_126 rfl (by decide) ?_
                  refine k_zast 128 C dX6_sight_127 rfl 46 (GH_r hG (by decide)) (σ 46) (by rfl) CE_46 (vp_inE (n := ns) rfl (by omega) (by omega)) bl_1 (sA (sA (sA (sA σ 43 (upd (σ 43) (nI ns).toNatClampNeg where0)) 44 (upd (σ 44) (nI ns).toNatClampNeg z_)) 45 (upd (σ 45) (nI ns).toNatClampNeg miss0)) 46 (upd (σ 46) (nI ns).toNatClampNeg (nI 1))) rfl ?_
                  refine j_aload_n 129 C dX6_sight_128 rfl rfl 0 rfl ?_
                  refine j_dup 130 C dX6_sight_129 rfl rfl ?_
                  refine k_get 133 C fl_X6_69 dX6_sight_130 rfl 36 (GH_r hG (by decide)) (σ 36) (by rfl) (CE_36 _) (.int (nI ns)) rfl ?_
                  refine j_iconst 134 C (x := nI 1) dX6_sight_133 rfl (by decide) ?_
                  refine j_iadd 135 C dX6_sight_134 rfl rfl ?_
                  refine k_putns 138 C fl_X6_69 fp_X6 dX6_sight_135 rfl (GH_r hG (by decide)) (ns' := ns + 1) (by simp only [nI_add]) ?_
                  refine j_aload_n 139 C dX6_sight_138 rfl rfl 0 rfl ?_
                  refine j_iconst 140 C (x := nI 0) dX6_sight_139 rfl (by decide) ?_
                  refine k_put 143 C fl_X6_61 fp_X6 rfl dX6_sight_140 rfl 36 (GH_r hG (by decide)) (σ 36) (by rfl) (CE_36 _) (bl_nar bl_0) (bl_fit bl_0) (Nat.le_of_ble_eq_true rfl) rfl (sA (sA (sA (sA (sA σ 43 (upd (σ 43) (nI ns).toNatClampNeg where0)) 44 (upd (σ 44) (nI ns).toNatClampNeg z_)) 45 (upd (σ 45) (nI ns).toNatClampNeg miss0)) 46 (upd (σ 46) (nI ns).toNatClampNeg (nI 1))) 36 (upd (σ 36) 16 (nI 0))) rfl ?_
                  refine j_aload_n 144 C dX6_sight_143 rfl rfl 0 rfl ?_
                  refine k_get 147 C fl_X6_69 dX6_sight_144 rfl 36 (GH_r hG (by decide)) (upd (σ 36) 16 (nI 0)) rfl (CE_36 _) (.int (nI (ns + 1))) rfl ?_
                  refine j_iconst 148 C (x := nI 1) dX6_sight_147 rfl (by decide) ?_
                  refine j_isub 149 C dX6_sight_148 rfl rfl ?_
                  subst hz
                  exact j_retI C X dX6_sight_149 rfl ⟨rfl, rfl, rfl, (CT_x (by intro a; (by_cases h0 : a = 36; (· (first | (subst h0; simp [sA]; done) | (rw [h0]; simp [sA]; done))); by_cases h1 : a = 43; (· (first | (subst h1; simp [sA]; done) | (rw [h1]; simp [sA]; done))); by_cases h2 : a = 44; (· (first | (subst h2; simp [sA]; done) | (rw [h2]; simp [sA]; done))); by_cases h3 : a = 45; (· (first | (subst h3; simp [sA]; done) | (rw [h3]; simp [sA]; done))); by_cases h4 : a = 46; (· (first | (subst h4; simp [sA]; done) | (rw [h4]; simp [sA]; done))); simp [sA, h0, h1, h2, h3, h4]))), trivial⟩
                · replace hz := (if_pos c_83).symm.trans hz
                  have n_83 := nat_eq (a := ns) (b := 10) rfl rfl (by omega) (by omega) c_83
                  refine j_iconst 87 C (x := (-1)) dX6_sight_86 rfl (by decide) ?_
                  subst hz
                  exact j_retI C X dX6_sight_87 rfl ⟨rfl, rfl, rfl, (CT_x (by intro a; (by_cases h0 : a = 36; (· (first | (subst h0; simp [sA]; done) | (rw [h0]; simp [sA]; done))); by_cases h1 : a = 43; (· (first | (subst h1; simp [sA]; done) | (rw [h1]; simp [sA]; done))); by_cases h2 : a = 44; (· (first | (subst h2; simp [sA]; done) | (rw [h2]; simp [sA]; done))); by_cases h3 : a = 45; (· (first | (subst h3; simp [sA]; done) | (rw [h3]; simp [sA]; done))); by_cases h4 : a = 46; (· (first | (subst h4; simp [sA]; done) | (rw [h4]; simp [sA]; done))); simp [sA, h0, h1, h2, h3, h4]))), trivial⟩
          · replace hz := (if_pos c_51).symm.trans hz
            refine j_iconst 55 C (x := (-1)) dX6_sight_54 rfl (by decide) ?_
            subst hz
            exact j_retI C X dX6_sight_55 rfl ⟨rfl, rfl, rfl, (CT_x (by intro a; (by_cases h0 : a = 36; (· (first | (subst h0; simp [sA]; done) | (rw [h0]; simp [sA]; done))); by_cases h1 : a = 43; (· (first | (subst h1; simp [sA]; done) | (rw [h1]; simp [sA]; done))); by_cases h2 : a = 44; (· (first | (subst h2; simp [sA]; done) | (rw [h2]; simp [sA]; done))); by_cases h3 : a = 45; (· (first | (subst h3; simp [sA]; done) | (rw [h3]; simp [sA]; done))); by_cases h4 : a = 46; (· (first | (subst h4; simp [sA]; done) | (rw [h4]; simp [sA]; done))); simp [sA, h0, h1, h2, h3, h4]))), trivial⟩

def m_X2_columns (W S ns nc : Nat) (B : Nat → Option Nat) (σ : Nat → Nat → Int32) : Int32 := nI W
abbrev rm_X2_columns : Room := { frames := 0, cells := 0, slots := 0, locals := 0 }
set_option maxHeartbeats 4000000 in
set_option maxRecDepth 100000 in
theorem c_X2_columns {l : Launch} {D : va_G} {K : Nat → ClassId} {W S ns nc N : Nat} {ad : Nat → Nat} {B : Nat → Option Nat} {σ : Nat → Nat → Int32} (hG : GH W S ns nc N)   {z : Int32} (hz : m_X2_columns W S ns nc B σ = z)  : MC l yX2_columns cX2_columns 1 (some .int) rm_X2_columns D (TY K) N ad (CT K W S ns nc ad B σ) [.ref (ad 1)] (BS (some (.int z)) N ad (CT K W S ns nc ad B σ) True) := by
  have hW := hG.1; have hW8 := hG.2.1; have hS := hG.2.2.1; have hS4 := hG.2.2.2.1; have hns := hG.2.2.2.2.1; have hnc := hG.2.2.2.2.2.1; have hWS := GH_ws hG
  refine MC.of (by decide) (Nat.le_of_ble_eq_true rfl) (fun p e s m args below meth c Q A H0 C X => ?_)
  replace C : Cx p s m args meth c cX2_columns RX2 1 D (TY K) A H0 := C
  show J p l e rm_X2_columns s m args below meth c Q D A H0 1 0 0 N ad (CT K W S ns nc ad B σ) 0 [(0, .ref (ad 1))] []
  unfold m_X2_columns at hz
  refine j_aload_n 1 C dX2_columns_0 rfl rfl 0 rfl ?_
  refine k_get 4 C fl_X2_15 dX2_columns_1 rfl 1 (GH_r hG (by decide)) _ rfl (CE_1 _) (.int (nI W)) rfl ?_
  subst hz
  exact j_retI C X dX2_columns_4 rfl ⟨rfl, rfl, rfl, rfl, trivial⟩
def m_X2_surfaces (W S ns nc : Nat) (B : Nat → Option Nat) (σ : Nat → Nat → Int32) : Int32 := nI S
abbrev rm_X2_surfaces : Room := { frames := 0, cells := 0, slots := 0, locals := 0 }
set_option maxHeartbeats 4000000 in
set_option maxRecDepth 100000 in
theorem c_X2_surfaces {l : Launch} {D : va_G} {K : Nat → ClassId} {W S ns nc N : Nat} {ad : Nat → Nat} {B : Nat → Option Nat} {σ : Nat → Nat → Int32} (hG : GH W S ns nc N)   {z : Int32} (hz : m_X2_surfaces W S ns nc B σ = z)  : MC l yX2_surfaces cX2_surfaces 1 (some .int) rm_X2_surfaces D (TY K) N ad (CT K W S ns nc ad B σ) [.ref (ad 1)] (BS (some (.int z)) N ad (CT K W S ns nc ad B σ) True) := by
  have hW := hG.1; have hW8 := hG.2.1; have hS := hG.2.2.1; have hS4 := hG.2.2.2.1; have hns := hG.2.2.2.2.1; have hnc := hG.2.2.2.2.2.1; have hWS := GH_ws hG
  refine MC.of (by decide) (Nat.le_of_ble_eq_true rfl) (fun p e s m args below meth c Q A H0 C X => ?_)
  replace C : Cx p s m args meth c cX2_surfaces RX2 1 D (TY K) A H0 := C
  show J p l e rm_X2_surfaces s m args below meth c Q D A H0 1 0 0 N ad (CT K W S ns nc ad B σ) 0 [(0, .ref (ad 1))] []
  unfold m_X2_surfaces at hz
  refine j_aload_n 1 C dX2_surfaces_0 rfl rfl 0 rfl ?_
  refine k_get 4 C fl_X2_21 dX2_surfaces_1 rfl 1 (GH_r hG (by decide)) _ rfl (CE_1 _) (.int (nI S)) rfl ?_
  subst hz
  exact j_retI C X dX2_surfaces_4 rfl ⟨rfl, rfl, rfl, rfl, trivial⟩
def m_X2_hasSurface (W S ns nc : Nat) (B : Nat → Option Nat) (σ : Nat → Nat → Int32) (surface : Int32) : Int32 := (if surface < 0 then nI 0 else (if (nI S) ≤ surface then nI 0 else nI 1))
abbrev rm_X2_hasSurface : Room := { frames := 0, cells := 0, slots := 0, locals := 0 }
set_option maxHeartbeats 4000000 in
set_option maxRecDepth 100000 in
theorem c_X2_hasSurface {l : Launch} {D : va_G} {K : Nat → ClassId} {W S ns nc N : Nat} {ad : Nat → Nat} {B : Nat → Option Nat} {σ : Nat → Nat → Int32} (hG : GH W S ns nc N) {surface : Int32}  {z : Int32} (hz : m_X2_hasSurface W S ns nc B σ surface = z)  : MC l yX2_hasSurface cX2_hasSurface 2 (some .boolean) rm_X2_hasSurface D (TY K) N ad (CT K W S ns nc ad B σ) [.ref (ad 1), .int surface] (BS (some (.int z)) N ad (CT K W S ns nc ad B σ) (bl z)) := by
  have hW := hG.1; have hW8 := hG.2.1; have hS := hG.2.2.1; have hS4 := hG.2.2.2.1; have hns := hG.2.2.2.2.1; have hnc := hG.2.2.2.2.2.1; have hWS := GH_ws hG
  refine MC.of (by decide) (Nat.le_of_ble_eq_true rfl) (fun p e s m args below meth c Q A H0 C X => ?_)
  replace C : Cx p s m args meth c cX2_hasSurface RX2 2 D (TY K) A H0 := C
  show J p l e rm_X2_hasSurface s m args below meth c Q D A H0 2 0 0 N ad (CT K W S ns nc ad B σ) 0 [(0, .ref (ad 1)), (1, .int surface)] []
  unfold m_X2_hasSurface at hz
  refine j_iload_n 1 C dX2_hasSurface_0 rfl rfl 1 rfl ?_
  refine j_if_lt 16 4 C dX2_hasSurface_1 rfl rfl (fun c_1 => ?_) (fun c_1 => ?_)
  · replace hz := (if_pos c_1).symm.trans hz
    refine j_iconst 17 C (x := nI 0) dX2_hasSurface_16 rfl (by decide) ?_
    subst hz
    exact j_retI C X dX2_hasSurface_17 (bl_nar bl_0) ⟨rfl, rfl, rfl, rfl, bl_0⟩
  · replace hz := (if_neg c_1).symm.trans hz
    refine j_iload_n 5 C dX2_hasSurface_4 rfl rfl 1 rfl ?_
    refine j_aload_n 6 C dX2_hasSurface_5 rfl rfl 0 rfl ?_
    refine k_get 9 C fl_X2_21 dX2_hasSurface_6 rfl 1 (GH_r hG (by decide)) _ rfl (CE_1 _) (.int (nI S)) rfl ?_
    refine j_ic_ge 16 12 C dX2_hasSurface_9 rfl rfl (fun c_9 => ?_) (fun c_9 => ?_)
    · replace hz := (if_pos c_9).symm.trans hz
      refine j_iconst 17 C (x := nI 0) dX2_hasSurface_16 rfl (by decide) ?_
      subst hz
      exact j_retI C X dX2_hasSurface_17 (bl_nar bl_0) ⟨rfl, rfl, rfl, rfl, bl_0⟩
    · replace hz := (if_neg c_9).symm.trans hz
      refine j_iconst 13 C (x := nI 1) dX2_hasSurface_12 rfl (by decide) ?_
      refine j_goto 17 C dX2_hasSurface_13 rfl ?_
      subst hz
      exact j_retI C X dX2_hasSurface_17 (bl_nar bl_1) ⟨rfl, rfl, rfl, rfl, bl_1⟩
theorem hasSurface_nat {W S ns nc : Nat} {B : Nat → Option Nat} {σ : Nat → Nat → Int32} {N : Nat} (hG : GH W S ns nc N) {v y : Int32} (e : m_X2_hasSurface W S ns nc B σ v = y) (c : ¬ y = 0) : ∃ k : Nat, k < S ∧ v = nI k := by
  unfold m_X2_hasSurface at e
  have hS4 := hG.2.2.2.1
  by_cases h0 : v < 0
  · rw [if_pos h0] at e; exact absurd e.symm (by rw [nI_0]; exact c)
  rw [if_neg h0] at e
  by_cases h1 : nI S ≤ v
  · rw [if_pos h1] at e; exact absurd e.symm (by rw [nI_0]; exact c)
  obtain ⟨j, hj, rfl⟩ := nI_of h0
  exact ⟨j, Nat.not_le.mp (fun q => h1 ((nI_leI (by omega) hj).mpr q)), rfl⟩
def m_X2_hasColumn (W S ns nc : Nat) (B : Nat → Option Nat) (σ : Nat → Nat → Int32) (column : Int32) : Int32 := (if column < 0 then nI 0 else (if (nI W) ≤ column then nI 0 else nI 1))
abbrev rm_X2_hasColumn : Room := { frames := 0, cells := 0, slots := 0, locals := 0 }
set_option maxHeartbeats 4000000 in
set_option maxRecDepth 100000 in
theorem c_X2_hasColumn {l : Launch} {D : va_G} {K : Nat → ClassId} {W S ns nc N : Nat} {ad : Nat → Nat} {B : Nat → Option Nat} {σ : Nat → Nat → Int32} (hG : GH W S ns nc N) {column : Int32}  {z : Int32} (hz : m_X2_hasColumn W S ns nc B σ column = z)  : MC l yX2_hasColumn cX2_hasColumn 2 (some .boolean) rm_X2_hasColumn D (TY K) N ad (CT K W S ns nc ad B σ) [.ref (ad 1), .int column] (BS (some (.int z)) N ad (CT K W S ns nc ad B σ) (bl z)) := by
  have hW := hG.1; have hW8 := hG.2.1; have hS := hG.2.2.1; have hS4 := hG.2.2.2.1; have hns := hG.2.2.2.2.1; have hnc := hG.2.2.2.2.2.1; have hWS := GH_ws hG
  refine MC.of (by decide) (Nat.le_of_ble_eq_true rfl) (fun p e s m args below meth c Q A H0 C X => ?_)
  replace C : Cx p s m args meth c cX2_hasColumn RX2 2 D (TY K) A H0 := C
  show J p l e rm_X2_hasColumn s m args below meth c Q D A H0 2 0 0 N ad (CT K W S ns nc ad B σ) 0 [(0, .ref (ad 1)), (1, .int column)] []
  unfold m_X2_hasColumn at hz
  refine j_iload_n 1 C dX2_hasColumn_0 rfl rfl 1 rfl ?_
  refine j_if_lt 16 4 C dX2_hasColumn_1 rfl rfl (fun c_1 => ?_) (fun c_1 => ?_)
  · replace hz := (if_pos c_1).symm.trans hz
    refine j_iconst 17 C (x := nI 0) dX2_hasColumn_16 rfl (by decide) ?_
    subst hz
    exact j_retI C X dX2_hasColumn_17 (bl_nar bl_0) ⟨rfl, rfl, rfl, rfl, bl_0⟩
  · replace hz := (if_neg c_1).symm.trans hz
    refine j_iload_n 5 C dX2_hasColumn_4 rfl rfl 1 rfl ?_
    refine j_aload_n 6 C dX2_hasColumn_5 rfl rfl 0 rfl ?_
    refine k_get 9 C fl_X2_15 dX2_hasColumn_6 rfl 1 (GH_r hG (by decide)) _ rfl (CE_1 _) (.int (nI W)) rfl ?_
    refine j_ic_ge 16 12 C dX2_hasColumn_9 rfl rfl (fun c_9 => ?_) (fun c_9 => ?_)
    · replace hz := (if_pos c_9).symm.trans hz
      refine j_iconst 17 C (x := nI 0) dX2_hasColumn_16 rfl (by decide) ?_
      subst hz
      exact j_retI C X dX2_hasColumn_17 (bl_nar bl_0) ⟨rfl, rfl, rfl, rfl, bl_0⟩
    · replace hz := (if_neg c_9).symm.trans hz
      refine j_iconst 13 C (x := nI 1) dX2_hasColumn_12 rfl (by decide) ?_
      refine j_goto 17 C dX2_hasColumn_13 rfl ?_
      subst hz
      exact j_retI C X dX2_hasColumn_17 (bl_nar bl_1) ⟨rfl, rfl, rfl, rfl, bl_1⟩
theorem hasColumn_nat {W S ns nc : Nat} {B : Nat → Option Nat} {σ : Nat → Nat → Int32} {N : Nat} (hG : GH W S ns nc N) {v y : Int32} (e : m_X2_hasColumn W S ns nc B σ v = y) (c : ¬ y = 0) : ∃ k : Nat, k < W ∧ v = nI k := by
  unfold m_X2_hasColumn at e
  have hW8 := hG.2.1
  by_cases h0 : v < 0
  · rw [if_pos h0] at e; exact absurd e.symm (by rw [nI_0]; exact c)
  rw [if_neg h0] at e
  by_cases h1 : nI W ≤ v
  · rw [if_pos h1] at e; exact absurd e.symm (by rw [nI_0]; exact c)
  obtain ⟨j, hj, rfl⟩ := nI_of h0
  exact ⟨j, Nat.not_le.mp (fun q => h1 ((nI_leI (by omega) hj).mpr q)), rfl⟩
def m_X2_hasNextColumn (W S ns nc : Nat) (B : Nat → Option Nat) (σ : Nat → Nat → Int32) (column : Int32) : Int32 := (if column < 0 then nI 0 else (if ((nI W) - (nI 1)) ≤ column then nI 0 else nI 1))
abbrev rm_X2_hasNextColumn : Room := { frames := 0, cells := 0, slots := 0, locals := 0 }
set_option maxHeartbeats 4000000 in
set_option maxRecDepth 100000 in
theorem c_X2_hasNextColumn {l : Launch} {D : va_G} {K : Nat → ClassId} {W S ns nc N : Nat} {ad : Nat → Nat} {B : Nat → Option Nat} {σ : Nat → Nat → Int32} (hG : GH W S ns nc N) {column : Int32}  {z : Int32} (hz : m_X2_hasNextColumn W S ns nc B σ column = z)  : MC l yX2_hasNextColumn cX2_hasNextColumn 2 (some .boolean) rm_X2_hasNextColumn D (TY K) N ad (CT K W S ns nc ad B σ) [.ref (ad 1), .int column] (BS (some (.int z)) N ad (CT K W S ns nc ad B σ) (bl z)) := by
  have hW := hG.1; have hW8 := hG.2.1; have hS := hG.2.2.1; have hS4 := hG.2.2.2.1; have hns := hG.2.2.2.2.1; have hnc := hG.2.2.2.2.2.1; have hWS := GH_ws hG
  refine MC.of (by decide) (Nat.le_of_ble_eq_true rfl) (fun p e s m args below meth c Q A H0 C X => ?_)
  replace C : Cx p s m args meth c cX2_hasNextColumn RX2 2 D (TY K) A H0 := C
  show J p l e rm_X2_hasNextColumn s m args below meth c Q D A H0 2 0 0 N ad (CT K W S ns nc ad B σ) 0 [(0, .ref (ad 1)), (1, .int column)] []
  unfold m_X2_hasNextColumn at hz
  refine j_iload_n 1 C dX2_hasNextColumn_0 rfl rfl 1 rfl ?_
  refine j_if_lt 18 4 C dX2_hasNextColumn_1 rfl rfl (fun c_1 => ?_) (fun c_1 => ?_)
  · replace hz := (if_pos c_1).symm.trans hz
    refine j_iconst 19 C (x := nI 0) dX2_hasNextColumn_18 rfl (by decide) ?_
    subst hz
    exact j_retI C X dX2_hasNextColumn_19 (bl_nar bl_0) ⟨rfl, rfl, rfl, rfl, bl_0⟩
  · replace hz := (if_neg c_1).symm.trans hz
    refine j_iload_n 5 C dX2_hasNextColumn_4 rfl rfl 1 rfl ?_
    refine j_aload_n 6 C dX2_hasNextColumn_5 rfl rfl 0 rfl ?_
    refine k_get 9 C fl_X2_15 dX2_hasNextColumn_6 rfl 1 (GH_r hG (by decide)) _ rfl (CE_1 _) (.int (nI W)) rfl ?_
    refine j_iconst 10 C (x := nI 1) dX2_hasNextColumn_9 rfl (by decide) ?_
    refine j_isub 11 C dX2_hasNextColumn_10 rfl rfl ?_
    refine j_ic_ge 18 14 C dX2_hasNextColumn_11 rfl rfl (fun c_11 => ?_) (fun c_11 => ?_)
    · replace hz := (if_pos c_11).symm.trans hz
      refine j_iconst 19 C (x := nI 0) dX2_hasNextColumn_18 rfl (by decide) ?_
      subst hz
      exact j_retI C X dX2_hasNextColumn_19 (bl_nar bl_0) ⟨rfl, rfl, rfl, rfl, bl_0⟩
    · replace hz := (if_neg c_11).symm.trans hz
      refine j_iconst 15 C (x := nI 1) dX2_hasNextColumn_14 rfl (by decide) ?_
      refine j_goto 19 C dX2_hasNextColumn_15 rfl ?_
      subst hz
      exact j_retI C X dX2_hasNextColumn_19 (bl_nar bl_1) ⟨rfl, rfl, rfl, rfl, bl_1⟩
theorem hasNext_nat {W S ns nc : Nat} {B : Nat → Option Nat} {σ : Nat → Nat → Int32} {N : Nat} (hG : GH W S ns nc N) {v y : Int32} (e : m_X2_hasNextColumn W S ns nc B σ v = y) (c : ¬ y = 0) : ∃ k : Nat, k < W - 1 ∧ v = nI k := by
  unfold m_X2_hasNextColumn at e
  have hW8 := hG.2.1
  have hW := hG.1
  by_cases h0 : v < 0
  · rw [if_pos h0] at e; exact absurd e.symm (by rw [nI_0]; exact c)
  rw [if_neg h0] at e
  by_cases h1 : nI W - nI 1 ≤ v
  · rw [if_pos h1] at e; exact absurd e.symm (by rw [nI_0]; exact c)
  obtain ⟨j, hj, rfl⟩ := nI_of h0
  rw [pk_sub (by omega)] at h1
  exact ⟨j, Nat.not_le.mp (fun q => h1 ((nI_leI (by omega) hj).mpr q)), rfl⟩
def m_X2_hasPlace (W S ns nc : Nat) (B : Nat → Option Nat) (σ : Nat → Nat → Int32) (surface : Int32) (column : Int32) : Int32 := ap (m_X2_hasSurface W S ns nc B σ surface) (fun (y2 : Int32) => (if y2 = 0 then nI 0 else ap (m_X2_hasColumn W S ns nc B σ column) (fun (y10 : Int32) => (if y10 = 0 then nI 0 else nI 1))))
abbrev rm_X2_hasPlace : Room := { frames := 1, cells := 0, slots := 0, locals := 21 }
set_option maxHeartbeats 4000000 in
set_option maxRecDepth 100000 in
theorem c_X2_hasPlace {l : Launch} {D : va_G} {K : Nat → ClassId} {W S ns nc N : Nat} {ad : Nat → Nat} {B : Nat → Option Nat} {σ : Nat → Nat → Int32} (hG : GH W S ns nc N) {surface : Int32} {column : Int32}  {z : Int32} (hz : m_X2_hasPlace W S ns nc B σ surface column = z)  : MC l yX2_hasPlace cX2_hasPlace 3 (some .boolean) rm_X2_hasPlace D (TY K) N ad (CT K W S ns nc ad B σ) [.ref (ad 1), .int surface, .int column] (BS (some (.int z)) N ad (CT K W S ns nc ad B σ) (bl z)) := by
  have hW := hG.1; have hW8 := hG.2.1; have hS := hG.2.2.1; have hS4 := hG.2.2.2.1; have hns := hG.2.2.2.2.1; have hnc := hG.2.2.2.2.2.1; have hWS := GH_ws hG
  refine MC.of (by decide) (Nat.le_of_ble_eq_true rfl) (fun p e s m args below meth c Q A H0 C X => ?_)
  replace C : Cx p s m args meth c cX2_hasPlace RX2 3 D (TY K) A H0 := C
  show J p l e rm_X2_hasPlace s m args below meth c Q D A H0 3 0 0 N ad (CT K W S ns nc ad B σ) 0 [(0, .ref (ad 1)), (1, .int surface), (2, .int column)] []
  unfold m_X2_hasPlace at hz
  refine j_aload_n 1 C dX2_hasPlace_0 rfl rfl 0 rfl ?_
  refine j_iload_n 2 C dX2_hasPlace_1 rfl rfl 1 rfl ?_
  obtain ⟨y2, e2, hz⟩ := ap_x hz
  refine s_V 5 C (As := [.int surface]) cv_X2_41 (c_X2_hasSurface (l := l) (D := D) (K := K) (ad := ad) hG  (hz := e2)) dX2_hasPlace_2 rfl 1 2 (GH_r hG (by decide)) rfl (CE_1 _) rfl rfl rfl rfl rfl rfl ⟨⟨Nat.le_of_ble_eq_true rfl, Nat.le_of_ble_eq_true rfl⟩, Nat.zero_le _, Nat.zero_le _⟩ (Nat.le_of_ble_eq_true rfl) (st' := [.int y2]) rfl (fun hE => ?_)
  have hbl2 : bl y2 := hE
  refine j_if_eq 20 8 C dX2_hasPlace_5 rfl rfl (fun c_5 => ?_) (fun c_5 => ?_)
  · replace hz := (if_pos c_5).symm.trans hz
    refine j_iconst 21 C (x := nI 0) dX2_hasPlace_20 rfl (by decide) ?_
    subst hz
    exact j_retI C X dX2_hasPlace_21 (bl_nar bl_0) ⟨rfl, rfl, rfl, rfl, bl_0⟩
  · replace hz := (if_neg c_5).symm.trans hz
    refine j_aload_n 9 C dX2_hasPlace_8 rfl rfl 0 rfl ?_
    refine j_iload_n 10 C dX2_hasPlace_9 rfl rfl 2 rfl ?_
    obtain ⟨y10, e10, hz⟩ := ap_x hz
    refine s_V 13 C (As := [.int column]) cv_X2_45 (c_X2_hasColumn (l := l) (D := D) (K := K) (ad := ad) hG  (hz := e10)) dX2_hasPlace_10 rfl 1 2 (GH_r hG (by decide)) rfl (CE_1 _) rfl rfl rfl rfl rfl rfl ⟨⟨Nat.le_of_ble_eq_true rfl, Nat.le_of_ble_eq_true rfl⟩, Nat.zero_le _, Nat.zero_le _⟩ (Nat.le_of_ble_eq_true rfl) (st' := [.int y10]) rfl (fun hE => ?_)
    have hbl10 : bl y10 := hE
    refine j_if_eq 20 16 C dX2_hasPlace_13 rfl rfl (fun c_13 => ?_) (fun c_13 => ?_)
    · replace hz := (if_pos c_13).symm.trans hz
      refine j_iconst 21 C (x := nI 0) dX2_hasPlace_20 rfl (by decide) ?_
      subst hz
      exact j_retI C X dX2_hasPlace_21 (bl_nar bl_0) ⟨rfl, rfl, rfl, rfl, bl_0⟩
    · replace hz := (if_neg c_13).symm.trans hz
      refine j_iconst 17 C (x := nI 1) dX2_hasPlace_16 rfl (by decide) ?_
      refine j_goto 21 C dX2_hasPlace_17 rfl ?_
      subst hz
      exact j_retI C X dX2_hasPlace_21 (bl_nar bl_1) ⟨rfl, rfl, rfl, rfl, bl_1⟩
theorem hasPlace_nat {W S ns nc : Nat} {B : Nat → Option Nat} {σ : Nat → Nat → Int32} {N : Nat} (hG : GH W S ns nc N) {u v y : Int32} (e : m_X2_hasPlace W S ns nc B σ u v = y) (c : ¬ y = 0) : ∃ k j : Nat, k < S ∧ j < W ∧ u = nI k ∧ v = nI j := by
  unfold m_X2_hasPlace at e
  obtain ⟨y1, e1, e⟩ := ap_x e
  by_cases h0 : y1 = 0
  · rw [if_pos h0] at e; exact absurd e.symm (by rw [nI_0]; exact c)
  rw [if_neg h0] at e
  obtain ⟨y2, e2, e⟩ := ap_x e
  by_cases h1 : y2 = 0
  · rw [if_pos h1] at e; exact absurd e.symm (by rw [nI_0]; exact c)
  obtain ⟨k, hk, ek⟩ := hasSurface_nat hG e1 h0
  obtain ⟨j, hj, ej⟩ := hasColumn_nat hG e2 h1
  exact ⟨k, j, hk, hj, ek, ej⟩
def m_X2_placeOf (W S ns nc : Nat) (B : Nat → Option Nat) (σ : Nat → Nat → Int32) (surface : Int32) (column : Int32) : Int32 := ((nI 1) + (surface * (nI W))) + column
abbrev rm_X2_placeOf : Room := { frames := 0, cells := 0, slots := 0, locals := 0 }
set_option maxHeartbeats 4000000 in
set_option maxRecDepth 100000 in
theorem c_X2_placeOf {l : Launch} {D : va_G} {K : Nat → ClassId} {W S ns nc N : Nat} {ad : Nat → Nat} {B : Nat → Option Nat} {σ : Nat → Nat → Int32} (hG : GH W S ns nc N) {surface : Int32} {column : Int32}  {z : Int32} (hz : m_X2_placeOf W S ns nc B σ surface column = z)  : MC l yX2_placeOf cX2_placeOf 3 (some .int) rm_X2_placeOf D (TY K) N ad (CT K W S ns nc ad B σ) [.ref (ad 1), .int surface, .int column] (BS (some (.int z)) N ad (CT K W S ns nc ad B σ) True) := by
  have hW := hG.1; have hW8 := hG.2.1; have hS := hG.2.2.1; have hS4 := hG.2.2.2.1; have hns := hG.2.2.2.2.1; have hnc := hG.2.2.2.2.2.1; have hWS := GH_ws hG
  refine MC.of (by decide) (Nat.le_of_ble_eq_true rfl) (fun p e s m args below meth c Q A H0 C X => ?_)
  replace C : Cx p s m args meth c cX2_placeOf RX2 3 D (TY K) A H0 := C
  show J p l e rm_X2_placeOf s m args below meth c Q D A H0 3 0 0 N ad (CT K W S ns nc ad B σ) 0 [(0, .ref (ad 1)), (1, .int surface), (2, .int column)] []
  unfold m_X2_placeOf at hz
  refine j_iconst 1 C (x := nI 1) dX2_placeOf_0 rfl (by decide) ?_
  refine j_iload_n 2 C dX2_placeOf_1 rfl rfl 1 rfl ?_
  refine j_aload_n 3 C dX2_placeOf_2 rfl rfl 0 rfl ?_
  refine k_get 6 C fl_X2_15 dX2_placeOf_3 rfl 1 (GH_r hG (by decide)) _ rfl (CE_1 _) (.int (nI W)) rfl ?_
  refine j_imul 7 C dX2_placeOf_6 rfl rfl ?_
  refine j_iadd 8 C dX2_placeOf_7 rfl rfl ?_
  refine j_iload_n 9 C dX2_placeOf_8 rfl rfl 2 rfl ?_
  refine j_iadd 10 C dX2_placeOf_9 rfl rfl ?_
  subst hz
  exact j_retI C X dX2_placeOf_10 rfl ⟨rfl, rfl, rfl, rfl, trivial⟩
def m_X2_places (W S ns nc : Nat) (B : Nat → Option Nat) (σ : Nat → Nat → Int32) : Int32 := (nI W) * (nI S)
abbrev rm_X2_places : Room := { frames := 0, cells := 0, slots := 0, locals := 0 }
set_option maxHeartbeats 4000000 in
set_option maxRecDepth 100000 in
theorem c_X2_places {l : Launch} {D : va_G} {K : Nat → ClassId} {W S ns nc N : Nat} {ad : Nat → Nat} {B : Nat → Option Nat} {σ : Nat → Nat → Int32} (hG : GH W S ns nc N)   {z : Int32} (hz : m_X2_places W S ns nc B σ = z)  : MC l yX2_places cX2_places 1 (some .int) rm_X2_places D (TY K) N ad (CT K W S ns nc ad B σ) [.ref (ad 1)] (BS (some (.int z)) N ad (CT K W S ns nc ad B σ) True) := by
  have hW := hG.1; have hW8 := hG.2.1; have hS := hG.2.2.1; have hS4 := hG.2.2.2.1; have hns := hG.2.2.2.2.1; have hnc := hG.2.2.2.2.2.1; have hWS := GH_ws hG
  refine MC.of (by decide) (Nat.le_of_ble_eq_true rfl) (fun p e s m args below meth c Q A H0 C X => ?_)
  replace C : Cx p s m args meth c cX2_places RX2 1 D (TY K) A H0 := C
  show J p l e rm_X2_places s m args below meth c Q D A H0 1 0 0 N ad (CT K W S ns nc ad B σ) 0 [(0, .ref (ad 1))] []
  unfold m_X2_places at hz
  refine j_aload_n 1 C dX2_places_0 rfl rfl 0 rfl ?_
  refine k_get 4 C fl_X2_15 dX2_places_1 rfl 1 (GH_r hG (by decide)) _ rfl (CE_1 _) (.int (nI W)) rfl ?_
  refine j_aload_n 5 C dX2_places_4 rfl rfl 0 rfl ?_
  refine k_get 8 C fl_X2_21 dX2_places_5 rfl 1 (GH_r hG (by decide)) _ rfl (CE_1 _) (.int (nI S)) rfl ?_
  refine j_imul 9 C dX2_places_8 rfl rfl ?_
  subst hz
  exact j_retI C X dX2_places_9 rfl ⟨rfl, rfl, rfl, rfl, trivial⟩
def m_X2_setThick (W S ns nc : Nat) (B : Nat → Option Nat) (σ : Nat → Nat → Int32) (surface : Int32) (from_ : Int32) (to_ : Int32) : (Nat → Int32) × (Nat → Int32) := ap (m_X2_hasSurface W S ns nc B σ surface) (fun (y2 : Int32) => (if y2 = 0 then ((σ 2), (σ 3)) else ((upd (σ 2) (surface).toNatClampNeg from_), (upd (σ 3) (surface).toNatClampNeg to_))))
abbrev rm_X2_setThick : Room := { frames := 1, cells := 0, slots := 0, locals := 21 }
set_option maxHeartbeats 4000000 in
set_option maxRecDepth 100000 in
theorem c_X2_setThick {l : Launch} {D : va_G} {K : Nat → ClassId} {W S ns nc N : Nat} {ad : Nat → Nat} {B : Nat → Option Nat} {σ : Nat → Nat → Int32} (hG : GH W S ns nc N) {surface : Int32} {from_ : Int32} {to_ : Int32}  {z : (Nat → Int32) × (Nat → Int32)} (hz : m_X2_setThick W S ns nc B σ surface from_ to_ = z)  : MC l yX2_setThick cX2_setThick 4 none rm_X2_setThick D (TY K) N ad (CT K W S ns nc ad B σ) [.ref (ad 1), .int surface, .int from_, .int to_] (BS none N ad (CT K W S ns nc ad B (sA (sA σ 2 z.1) 3 z.2)) True) := by
  have hW := hG.1; have hW8 := hG.2.1; have hS := hG.2.2.1; have hS4 := hG.2.2.2.1; have hns := hG.2.2.2.2.1; have hnc := hG.2.2.2.2.2.1; have hWS := GH_ws hG
  refine MC.of (by decide) (Nat.le_of_ble_eq_true rfl) (fun p e s m args below meth c Q A H0 C X => ?_)
  replace C : Cx p s m args meth c cX2_setThick RX2 4 D (TY K) A H0 := C
  show J p l e rm_X2_setThick s m args below meth c Q D A H0 4 0 0 N ad (CT K W S ns nc ad B σ) 0 [(0, .ref (ad 1)), (1, .int surface), (2, .int from_), (3, .int to_)] []
  unfold m_X2_setThick at hz
  refine j_aload_n 1 C dX2_setThick_0 rfl rfl 0 rfl ?_
  refine j_iload_n 2 C dX2_setThick_1 rfl rfl 1 rfl ?_
  obtain ⟨y2, e2, hz⟩ := ap_x hz
  refine s_V 5 C (As := [.int surface]) cv_X2_41 (c_X2_hasSurface (l := l) (D := D) (K := K) (ad := ad) hG  (hz := e2)) dX2_setThick_2 rfl 1 2 (GH_r hG (by decide)) rfl (CE_1 _) rfl rfl rfl rfl rfl rfl ⟨⟨Nat.le_of_ble_eq_true rfl, Nat.le_of_ble_eq_true rfl⟩, Nat.zero_le _, Nat.zero_le _⟩ (Nat.le_of_ble_eq_true rfl) (st' := [.int y2]) rfl (fun hE => ?_)
  have hbl2 : bl y2 := hE
  refine j_if_eq 22 8 C dX2_setThick_5 rfl rfl (fun c_5 => ?_) (fun c_5 => ?_)
  · replace hz := (if_pos c_5).symm.trans hz
    subst hz
    exact j_retV C X dX2_setThick_22 ⟨rfl, rfl, rfl, (CT_x (by intro a; (by_cases h0 : a = 2; (· (first | (subst h0; simp [sA]; done) | (rw [h0]; simp [sA]; done))); by_cases h1 : a = 3; (· (first | (subst h1; simp [sA]; done) | (rw [h1]; simp [sA]; done))); simp [sA, h0, h1]))), trivial⟩
  · replace hz := (if_neg c_5).symm.trans hz
    obtain ⟨ks, hks, eks⟩ := hasSurface_nat hG e2 c_5
    refine j_aload_n 9 C dX2_setThick_8 rfl rfl 0 rfl ?_
    refine k_get 12 C fl_X2_24 dX2_setThick_9 rfl 1 (GH_r hG (by decide)) _ rfl (CE_1 _) (.ref (ad 2)) rfl ?_
    refine j_iload_n 13 C dX2_setThick_12 rfl rfl 1 rfl ?_
    refine j_iload_n 14 C dX2_setThick_13 rfl rfl 2 rfl ?_
    refine k_iast 15 C dX2_setThick_14 rfl 2 (GH_r hG (by decide)) (σ 2) rfl CE_2 (vp_inE (n := ks) (by simp only [eks, nI_add, pk_mul]) (by omega) (by omega)) (sA σ 2 (upd (σ 2) (surface).toNatClampNeg from_)) rfl ?_
    refine j_aload_n 16 C dX2_setThick_15 rfl rfl 0 rfl ?_
    refine k_get 19 C fl_X2_28 dX2_setThick_16 rfl 1 (GH_r hG (by decide)) _ rfl (CE_1 _) (.ref (ad 3)) rfl ?_
    refine j_iload_n 20 C dX2_setThick_19 rfl rfl 1 rfl ?_
    refine j_iload_n 21 C dX2_setThick_20 rfl rfl 3 rfl ?_
    refine k_iast 22 C dX2_setThick_21 rfl 3 (GH_r hG (by decide)) (σ 3) (by rfl) CE_3 (vp_inE (n := ks) (by simp only [eks, nI_add, pk_mul]) (by omega) (by omega)) (sA (sA σ 2 (upd (σ 2) (surface).toNatClampNeg from_)) 3 (upd (σ 3) (surface).toNatClampNeg to_)) rfl ?_
    subst hz
    exact j_retV C X dX2_setThick_22 ⟨rfl, rfl, rfl, rfl, trivial⟩
def m_X2_setSteep (W S ns nc : Nat) (B : Nat → Option Nat) (σ : Nat → Nat → Int32) (surface : Int32) (most : Int32) : (Nat → Int32) := ap (m_X2_hasSurface W S ns nc B σ surface) (fun (y2 : Int32) => (if y2 = 0 then (σ 4) else (upd (σ 4) (surface).toNatClampNeg most)))
abbrev rm_X2_setSteep : Room := { frames := 1, cells := 0, slots := 0, locals := 21 }
set_option maxHeartbeats 4000000 in
set_option maxRecDepth 100000 in
theorem c_X2_setSteep {l : Launch} {D : va_G} {K : Nat → ClassId} {W S ns nc N : Nat} {ad : Nat → Nat} {B : Nat → Option Nat} {σ : Nat → Nat → Int32} (hG : GH W S ns nc N) {surface : Int32} {most : Int32}  {z : (Nat → Int32)} (hz : m_X2_setSteep W S ns nc B σ surface most = z)  : MC l yX2_setSteep cX2_setSteep 3 none rm_X2_setSteep D (TY K) N ad (CT K W S ns nc ad B σ) [.ref (ad 1), .int surface, .int most] (BS none N ad (CT K W S ns nc ad B (sA σ 4 z)) True) := by
  have hW := hG.1; have hW8 := hG.2.1; have hS := hG.2.2.1; have hS4 := hG.2.2.2.1; have hns := hG.2.2.2.2.1; have hnc := hG.2.2.2.2.2.1; have hWS := GH_ws hG
  refine MC.of (by decide) (Nat.le_of_ble_eq_true rfl) (fun p e s m args below meth c Q A H0 C X => ?_)
  replace C : Cx p s m args meth c cX2_setSteep RX2 3 D (TY K) A H0 := C
  show J p l e rm_X2_setSteep s m args below meth c Q D A H0 3 0 0 N ad (CT K W S ns nc ad B σ) 0 [(0, .ref (ad 1)), (1, .int surface), (2, .int most)] []
  unfold m_X2_setSteep at hz
  refine j_aload_n 1 C dX2_setSteep_0 rfl rfl 0 rfl ?_
  refine j_iload_n 2 C dX2_setSteep_1 rfl rfl 1 rfl ?_
  obtain ⟨y2, e2, hz⟩ := ap_x hz
  refine s_V 5 C (As := [.int surface]) cv_X2_41 (c_X2_hasSurface (l := l) (D := D) (K := K) (ad := ad) hG  (hz := e2)) dX2_setSteep_2 rfl 1 2 (GH_r hG (by decide)) rfl (CE_1 _) rfl rfl rfl rfl rfl rfl ⟨⟨Nat.le_of_ble_eq_true rfl, Nat.le_of_ble_eq_true rfl⟩, Nat.zero_le _, Nat.zero_le _⟩ (Nat.le_of_ble_eq_true rfl) (st' := [.int y2]) rfl (fun hE => ?_)
  have hbl2 : bl y2 := hE
  refine j_if_eq 15 8 C dX2_setSteep_5 rfl rfl (fun c_5 => ?_) (fun c_5 => ?_)
  · replace hz := (if_pos c_5).symm.trans hz
    subst hz
    exact j_retV C X dX2_setSteep_15 ⟨rfl, rfl, rfl, (congrArg _ sA_id.symm), trivial⟩
  · replace hz := (if_neg c_5).symm.trans hz
    obtain ⟨ks, hks, eks⟩ := hasSurface_nat hG e2 c_5
    refine j_aload_n 9 C dX2_setSteep_8 rfl rfl 0 rfl ?_
    refine k_get 12 C fl_X2_31 dX2_setSteep_9 rfl 1 (GH_r hG (by decide)) _ rfl (CE_1 _) (.ref (ad 4)) rfl ?_
    refine j_iload_n 13 C dX2_setSteep_12 rfl rfl 1 rfl ?_
    refine j_iload_n 14 C dX2_setSteep_13 rfl rfl 2 rfl ?_
    refine k_iast 15 C dX2_setSteep_14 rfl 4 (GH_r hG (by decide)) (σ 4) rfl CE_4 (vp_inE (n := ks) (by simp only [eks, nI_add, pk_mul]) (by omega) (by omega)) (sA σ 4 (upd (σ 4) (surface).toNatClampNeg most)) rfl ?_
    subst hz
    exact j_retV C X dX2_setSteep_15 ⟨rfl, rfl, rfl, rfl, trivial⟩
def m_X2_breakAt (W S ns nc : Nat) (B : Nat → Option Nat) (σ : Nat → Nat → Int32) (column : Int32) (thrown : Int32) : (Nat → Int32) × (Nat → Int32) := ap (m_X2_hasNextColumn W S ns nc B σ column) (fun (y2 : Int32) => (if y2 = 0 then ((σ 5), (σ 6)) else ((upd (σ 5) (column).toNatClampNeg thrown), (upd (σ 6) (column).toNatClampNeg (nI 1)))))
abbrev rm_X2_breakAt : Room := { frames := 1, cells := 0, slots := 0, locals := 21 }
set_option maxHeartbeats 4000000 in
set_option maxRecDepth 100000 in
theorem c_X2_breakAt {l : Launch} {D : va_G} {K : Nat → ClassId} {W S ns nc N : Nat} {ad : Nat → Nat} {B : Nat → Option Nat} {σ : Nat → Nat → Int32} (hG : GH W S ns nc N) {column : Int32} {thrown : Int32}  {z : (Nat → Int32) × (Nat → Int32)} (hz : m_X2_breakAt W S ns nc B σ column thrown = z)  : MC l yX2_breakAt cX2_breakAt 3 none rm_X2_breakAt D (TY K) N ad (CT K W S ns nc ad B σ) [.ref (ad 1), .int column, .int thrown] (BS none N ad (CT K W S ns nc ad B (sA (sA σ 5 z.1) 6 z.2)) True) := by
  have hW := hG.1; have hW8 := hG.2.1; have hS := hG.2.2.1; have hS4 := hG.2.2.2.1; have hns := hG.2.2.2.2.1; have hnc := hG.2.2.2.2.2.1; have hWS := GH_ws hG
  refine MC.of (by decide) (Nat.le_of_ble_eq_true rfl) (fun p e s m args below meth c Q A H0 C X => ?_)
  replace C : Cx p s m args meth c cX2_breakAt RX2 3 D (TY K) A H0 := C
  show J p l e rm_X2_breakAt s m args below meth c Q D A H0 3 0 0 N ad (CT K W S ns nc ad B σ) 0 [(0, .ref (ad 1)), (1, .int column), (2, .int thrown)] []
  unfold m_X2_breakAt at hz
  refine j_aload_n 1 C dX2_breakAt_0 rfl rfl 0 rfl ?_
  refine j_iload_n 2 C dX2_breakAt_1 rfl rfl 1 rfl ?_
  obtain ⟨y2, e2, hz⟩ := ap_x hz
  refine s_V 5 C (As := [.int column]) cv_X2_50 (c_X2_hasNextColumn (l := l) (D := D) (K := K) (ad := ad) hG  (hz := e2)) dX2_breakAt_2 rfl 1 2 (GH_r hG (by decide)) rfl (CE_1 _) rfl rfl rfl rfl rfl rfl ⟨⟨Nat.le_of_ble_eq_true rfl, Nat.le_of_ble_eq_true rfl⟩, Nat.zero_le _, Nat.zero_le _⟩ (Nat.le_of_ble_eq_true rfl) (st' := [.int y2]) rfl (fun hE => ?_)
  have hbl2 : bl y2 := hE
  refine j_if_eq 22 8 C dX2_breakAt_5 rfl rfl (fun c_5 => ?_) (fun c_5 => ?_)
  · replace hz := (if_pos c_5).symm.trans hz
    subst hz
    exact j_retV C X dX2_breakAt_22 ⟨rfl, rfl, rfl, (CT_x (by intro a; (by_cases h0 : a = 5; (· (first | (subst h0; simp [sA]; done) | (rw [h0]; simp [sA]; done))); by_cases h1 : a = 6; (· (first | (subst h1; simp [sA]; done) | (rw [h1]; simp [sA]; done))); simp [sA, h0, h1]))), trivial⟩
  · replace hz := (if_neg c_5).symm.trans hz
    obtain ⟨kc, hkc, ekc⟩ := hasNext_nat hG e2 c_5
    refine j_aload_n 9 C dX2_breakAt_8 rfl rfl 0 rfl ?_
    refine k_get 12 C fl_X2_34 dX2_breakAt_9 rfl 1 (GH_r hG (by decide)) _ rfl (CE_1 _) (.ref (ad 5)) rfl ?_
    refine j_iload_n 13 C dX2_breakAt_12 rfl rfl 1 rfl ?_
    refine j_iload_n 14 C dX2_breakAt_13 rfl rfl 2 rfl ?_
    refine k_iast 15 C dX2_breakAt_14 rfl 5 (GH_r hG (by decide)) (σ 5) rfl CE_5 (vp_inE (n := kc) (by simp only [ekc, nI_add, pk_mul]) (by omega) (by omega)) (sA σ 5 (upd (σ 5) (column).toNatClampNeg thrown)) rfl ?_
    refine j_aload_n 16 C dX2_breakAt_15 rfl rfl 0 rfl ?_
    refine k_get 19 C fl_X2_37 dX2_breakAt_16 rfl 1 (GH_r hG (by decide)) _ rfl (CE_1 _) (.ref (ad 6)) rfl ?_
    refine j_iload_n 20 C dX2_breakAt_19 rfl rfl 1 rfl ?_
    refine j_iconst 21 C (x := nI 1) dX2_breakAt_20 rfl (by decide) ?_
    refine k_zast 22 C dX2_breakAt_21 rfl 6 (GH_r hG (by decide)) (σ 6) (by rfl) CE_6 (vp_inE (n := kc) (by simp only [ekc, nI_add, pk_mul]) (by omega) (by omega)) bl_1 (sA (sA σ 5 (upd (σ 5) (column).toNatClampNeg thrown)) 6 (upd (σ 6) (column).toNatClampNeg (nI 1))) rfl ?_
    subst hz
    exact j_retV C X dX2_breakAt_22 ⟨rfl, rfl, rfl, rfl, trivial⟩
def m_X2_mendAt (W S ns nc : Nat) (B : Nat → Option Nat) (σ : Nat → Nat → Int32) (column : Int32) : (Nat → Int32) × (Nat → Int32) := ap (m_X2_hasNextColumn W S ns nc B σ column) (fun (y2 : Int32) => (if y2 = 0 then ((σ 5), (σ 6)) else ((upd (σ 5) (column).toNatClampNeg (nI 0)), (upd (σ 6) (column).toNatClampNeg (nI 0)))))
abbrev rm_X2_mendAt : Room := { frames := 1, cells := 0, slots := 0, locals := 21 }
set_option maxHeartbeats 4000000 in
set_option maxRecDepth 100000 in
theorem c_X2_mendAt {l : Launch} {D : va_G} {K : Nat → ClassId} {W S ns nc N : Nat} {ad : Nat → Nat} {B : Nat → Option Nat} {σ : Nat → Nat → Int32} (hG : GH W S ns nc N) {column : Int32}  {z : (Nat → Int32) × (Nat → Int32)} (hz : m_X2_mendAt W S ns nc B σ column = z)  : MC l yX2_mendAt cX2_mendAt 2 none rm_X2_mendAt D (TY K) N ad (CT K W S ns nc ad B σ) [.ref (ad 1), .int column] (BS none N ad (CT K W S ns nc ad B (sA (sA σ 5 z.1) 6 z.2)) True) := by
  have hW := hG.1; have hW8 := hG.2.1; have hS := hG.2.2.1; have hS4 := hG.2.2.2.1; have hns := hG.2.2.2.2.1; have hnc := hG.2.2.2.2.2.1; have hWS := GH_ws hG
  refine MC.of (by decide) (Nat.le_of_ble_eq_true rfl) (fun p e s m args below meth c Q A H0 C X => ?_)
  replace C : Cx p s m args meth c cX2_mendAt RX2 2 D (TY K) A H0 := C
  show J p l e rm_X2_mendAt s m args below meth c Q D A H0 2 0 0 N ad (CT K W S ns nc ad B σ) 0 [(0, .ref (ad 1)), (1, .int column)] []
  unfold m_X2_mendAt at hz
  refine j_aload_n 1 C dX2_mendAt_0 rfl rfl 0 rfl ?_
  refine j_iload_n 2 C dX2_mendAt_1 rfl rfl 1 rfl ?_
  obtain ⟨y2, e2, hz⟩ := ap_x hz
  refine s_V 5 C (As := [.int column]) cv_X2_50 (c_X2_hasNextColumn (l := l) (D := D) (K := K) (ad := ad) hG  (hz := e2)) dX2_mendAt_2 rfl 1 2 (GH_r hG (by decide)) rfl (CE_1 _) rfl rfl rfl rfl rfl rfl ⟨⟨Nat.le_of_ble_eq_true rfl, Nat.le_of_ble_eq_true rfl⟩, Nat.zero_le _, Nat.zero_le _⟩ (Nat.le_of_ble_eq_true rfl) (st' := [.int y2]) rfl (fun hE => ?_)
  have hbl2 : bl y2 := hE
  refine j_if_eq 22 8 C dX2_mendAt_5 rfl rfl (fun c_5 => ?_) (fun c_5 => ?_)
  · replace hz := (if_pos c_5).symm.trans hz
    subst hz
    exact j_retV C X dX2_mendAt_22 ⟨rfl, rfl, rfl, (CT_x (by intro a; (by_cases h0 : a = 5; (· (first | (subst h0; simp [sA]; done) | (rw [h0]; simp [sA]; done))); by_cases h1 : a = 6; (· (first | (subst h1; simp [sA]; done) | (rw [h1]; simp [sA]; done))); simp [sA, h0, h1]))), trivial⟩
  · replace hz := (if_neg c_5).symm.trans hz
    obtain ⟨kc, hkc, ekc⟩ := hasNext_nat hG e2 c_5
    refine j_aload_n 9 C dX2_mendAt_8 rfl rfl 0 rfl ?_
    refine k_get 12 C fl_X2_34 dX2_mendAt_9 rfl 1 (GH_r hG (by decide)) _ rfl (CE_1 _) (.ref (ad 5)) rfl ?_
    refine j_iload_n 13 C dX2_mendAt_12 rfl rfl 1 rfl ?_
    refine j_iconst 14 C (x := nI 0) dX2_mendAt_13 rfl (by decide) ?_
    refine k_iast 15 C dX2_mendAt_14 rfl 5 (GH_r hG (by decide)) (σ 5) rfl CE_5 (vp_inE (n := kc) (by simp only [ekc, nI_add, pk_mul]) (by omega) (by omega)) (sA σ 5 (upd (σ 5) (column).toNatClampNeg (nI 0))) rfl ?_
    refine j_aload_n 16 C dX2_mendAt_15 rfl rfl 0 rfl ?_
    refine k_get 19 C fl_X2_37 dX2_mendAt_16 rfl 1 (GH_r hG (by decide)) _ rfl (CE_1 _) (.ref (ad 6)) rfl ?_
    refine j_iload_n 20 C dX2_mendAt_19 rfl rfl 1 rfl ?_
    refine j_iconst 21 C (x := nI 0) dX2_mendAt_20 rfl (by decide) ?_
    refine k_zast 22 C dX2_mendAt_21 rfl 6 (GH_r hG (by decide)) (σ 6) (by rfl) CE_6 (vp_inE (n := kc) (by simp only [ekc, nI_add, pk_mul]) (by omega) (by omega)) bl_0 (sA (sA σ 5 (upd (σ 5) (column).toNatClampNeg (nI 0))) 6 (upd (σ 6) (column).toNatClampNeg (nI 0))) rfl ?_
    subst hz
    exact j_retV C X dX2_mendAt_22 ⟨rfl, rfl, rfl, rfl, trivial⟩
def m_X2_isBroken (W S ns nc : Nat) (B : Nat → Option Nat) (σ : Nat → Nat → Int32) (column : Int32) : Int32 := ap (m_X2_hasNextColumn W S ns nc B σ column) (fun (y2 : Int32) => (if y2 = 0 then nI 0 else (if ((σ 6) (column).toNatClampNeg) = 0 then nI 0 else nI 1)))
abbrev rm_X2_isBroken : Room := { frames := 1, cells := 0, slots := 0, locals := 21 }
set_option maxHeartbeats 4000000 in
set_option maxRecDepth 100000 in
theorem c_X2_isBroken {l : Launch} {D : va_G} {K : Nat → ClassId} {W S ns nc N : Nat} {ad : Nat → Nat} {B : Nat → Option Nat} {σ : Nat → Nat → Int32} (hG : GH W S ns nc N) {column : Int32}  {z : Int32} (hz : m_X2_isBroken W S ns nc B σ column = z)  : MC l yX2_isBroken cX2_isBroken 2 (some .boolean) rm_X2_isBroken D (TY K) N ad (CT K W S ns nc ad B σ) [.ref (ad 1), .int column] (BS (some (.int z)) N ad (CT K W S ns nc ad B σ) (bl z)) := by
  have hW := hG.1; have hW8 := hG.2.1; have hS := hG.2.2.1; have hS4 := hG.2.2.2.1; have hns := hG.2.2.2.2.1; have hnc := hG.2.2.2.2.2.1; have hWS := GH_ws hG
  refine MC.of (by decide) (Nat.le_of_ble_eq_true rfl) (fun p e s m args below meth c Q A H0 C X => ?_)
  replace C : Cx p s m args meth c cX2_isBroken RX2 2 D (TY K) A H0 := C
  show J p l e rm_X2_isBroken s m args below meth c Q D A H0 2 0 0 N ad (CT K W S ns nc ad B σ) 0 [(0, .ref (ad 1)), (1, .int column)] []
  unfold m_X2_isBroken at hz
  refine j_aload_n 1 C dX2_isBroken_0 rfl rfl 0 rfl ?_
  refine j_iload_n 2 C dX2_isBroken_1 rfl rfl 1 rfl ?_
  obtain ⟨y2, e2, hz⟩ := ap_x hz
  refine s_V 5 C (As := [.int column]) cv_X2_50 (c_X2_hasNextColumn (l := l) (D := D) (K := K) (ad := ad) hG  (hz := e2)) dX2_isBroken_2 rfl 1 2 (GH_r hG (by decide)) rfl (CE_1 _) rfl rfl rfl rfl rfl rfl ⟨⟨Nat.le_of_ble_eq_true rfl, Nat.le_of_ble_eq_true rfl⟩, Nat.zero_le _, Nat.zero_le _⟩ (Nat.le_of_ble_eq_true rfl) (st' := [.int y2]) rfl (fun hE => ?_)
  have hbl2 : bl y2 := hE
  refine j_if_eq 21 8 C dX2_isBroken_5 rfl rfl (fun c_5 => ?_) (fun c_5 => ?_)
  · replace hz := (if_pos c_5).symm.trans hz
    refine j_iconst 22 C (x := nI 0) dX2_isBroken_21 rfl (by decide) ?_
    subst hz
    exact j_retI C X dX2_isBroken_22 (bl_nar bl_0) ⟨rfl, rfl, rfl, rfl, bl_0⟩
  · replace hz := (if_neg c_5).symm.trans hz
    obtain ⟨kc, hkc, ekc⟩ := hasNext_nat hG e2 c_5
    refine j_aload_n 9 C dX2_isBroken_8 rfl rfl 0 rfl ?_
    refine k_get 12 C fl_X2_37 dX2_isBroken_9 rfl 1 (GH_r hG (by decide)) _ rfl (CE_1 _) (.ref (ad 6)) rfl ?_
    refine j_iload_n 13 C dX2_isBroken_12 rfl rfl 1 rfl ?_
    refine k_zald 14 C dX2_isBroken_13 rfl 6 (GH_r hG (by decide)) (σ 6) rfl CE_6 (vp_inE (n := kc) (by simp only [ekc, nI_add, pk_mul]) (by omega) (by omega)) ?_
    refine j_if_eq 21 17 C dX2_isBroken_14 rfl rfl (fun c_14 => ?_) (fun c_14 => ?_)
    · replace hz := (if_pos c_14).symm.trans hz
      refine j_iconst 22 C (x := nI 0) dX2_isBroken_21 rfl (by decide) ?_
      subst hz
      exact j_retI C X dX2_isBroken_22 (bl_nar bl_0) ⟨rfl, rfl, rfl, rfl, bl_0⟩
    · replace hz := (if_neg c_14).symm.trans hz
      refine j_iconst 18 C (x := nI 1) dX2_isBroken_17 rfl (by decide) ?_
      refine j_goto 22 C dX2_isBroken_18 rfl ?_
      subst hz
      exact j_retI C X dX2_isBroken_22 (bl_nar bl_1) ⟨rfl, rfl, rfl, rfl, bl_1⟩
def m_X2_faults_L4 (W S ns nc : Nat) (B : Nat → Option Nat) (σ : Nat → Nat → Int32) (i4 : Nat) (c4 : Int32) : Int32 := ap (m_X2_isBroken W S ns nc B σ (nI i4)) (fun (y14 : Int32) => (if y14 = 0 then c4 else c4 + nI 1))
def m_X2_faults (W S ns nc : Nat) (B : Nat → Option Nat) (σ : Nat → Nat → Int32) : Int32 := ap (lp (m_X2_faults_L4 W S ns nc B σ) (W - 0) 0 (nI 0)) (fun (z4 : Int32) => z4)
abbrev rm_X2_faults : Room := { frames := 2, cells := 0, slots := 0, locals := 42 }
set_option maxHeartbeats 4000000 in
set_option maxRecDepth 100000 in
theorem c_X2_faults {l : Launch} {D : va_G} {K : Nat → ClassId} {W S ns nc N : Nat} {ad : Nat → Nat} {B : Nat → Option Nat} {σ : Nat → Nat → Int32} (hG : GH W S ns nc N)   {z : Int32} (hz : m_X2_faults W S ns nc B σ = z)  : MC l yX2_faults cX2_faults 3 (some .int) rm_X2_faults D (TY K) N ad (CT K W S ns nc ad B σ) [.ref (ad 1)] (BS (some (.int z)) N ad (CT K W S ns nc ad B σ) True) := by
  have hW := hG.1; have hW8 := hG.2.1; have hS := hG.2.2.1; have hS4 := hG.2.2.2.1; have hns := hG.2.2.2.2.1; have hnc := hG.2.2.2.2.2.1; have hWS := GH_ws hG
  refine MC.of (by decide) (Nat.le_of_ble_eq_true rfl) (fun p e s m args below meth c Q A H0 C X => ?_)
  replace C : Cx p s m args meth c cX2_faults RX2 3 D (TY K) A H0 := C
  show J p l e rm_X2_faults s m args below meth c Q D A H0 3 0 0 N ad (CT K W S ns nc ad B σ) 0 [(0, .ref (ad 1))] []
  unfold m_X2_faults at hz
  refine j_iconst 1 C (x := nI 0) dX2_faults_0 rfl (by decide) ?_
  refine j_istore_n 2 C [(1, .int (nI 0)), (0, .ref (ad 1))] dX2_faults_1 rfl rfl (by decide) rfl ?_
  refine j_iconst 3 C (x := nI 0) dX2_faults_2 rfl (by decide) ?_
  refine j_istore_n 4 C [(2, .int (nI 0)), (1, .int (nI 0)), (0, .ref (ad 1))] dX2_faults_3 rfl rfl (by decide) rfl ?_
  skip
  obtain ⟨z4, ez4, hz⟩ := ap_x hz
  have L4 : ∀ (n4 i4 : Nat) (c4 : Int32), 0 ≤ i4 → i4 < 5000 → n4 = W - i4 → lp (m_X2_faults_L4 W S ns nc B σ) n4 i4 c4 = z4 → J p l e rm_X2_faults s m args below meth c Q D A H0 3 0 0 N ad (CT K W S ns nc ad B σ) 4 [(0, .ref (ad 1)), (1, .int c4), (2, .int (nI i4))] [] := by
    intro n4
    induction n4 with
    | zero =>
      intro i4 c4 hl4 hi4 hn4 hz4
      refine j_iload_n 5 C dX2_faults_4 rfl rfl 2 rfl ?_
      refine j_aload_n 6 C dX2_faults_5 rfl rfl 0 rfl ?_
      refine k_get 9 C fl_X2_15 dX2_faults_6 rfl 1 (GH_r hG (by decide)) _ rfl (CE_1 _) (.int (nI W)) rfl ?_
      refine j_ic_ge 29 12 C dX2_faults_9 rfl rfl (fun c_9 => ?_) (fun c_9 => ?_)
      · skip
        have n_9 := nat_le (a := W) (b := i4) rfl rfl (by omega) (by omega) c_9
        have hq4 : c4 = z4 := hz4
        subst hq4
        refine j_iload_n 30 C dX2_faults_29 rfl rfl 1 rfl ?_
        subst hz
        exact j_retI C X dX2_faults_30 rfl ⟨rfl, rfl, rfl, rfl, trivial⟩
      · exfalso
        have n_9 := nat_nle (a := W) (b := i4) rfl rfl (by omega) (by omega) c_9
        omega
    | succ n4 ih4 =>
      intro i4 c4 hl4 hi4 hn4 hz4
      refine j_iload_n 5 C dX2_faults_4 rfl rfl 2 rfl ?_
      refine j_aload_n 6 C dX2_faults_5 rfl rfl 0 rfl ?_
      refine k_get 9 C fl_X2_15 dX2_faults_6 rfl 1 (GH_r hG (by decide)) _ rfl (CE_1 _) (.int (nI W)) rfl ?_
      refine j_ic_ge 29 12 C dX2_faults_9 rfl rfl (fun c_9 => ?_) (fun c_9 => ?_)
      · exfalso
        have n_9 := nat_le (a := W) (b := i4) rfl rfl (by omega) (by omega) c_9
        omega
      · skip
        have n_9 := nat_nle (a := W) (b := i4) rfl rfl (by omega) (by omega) c_9
        obtain ⟨w4, hw4, hz4⟩ := lp_s hz4
        have ho4 := hz
        clear hz
        have hz := hw4
        clear hw4
        unfold m_X2_faults_L4 at hz
        refine j_aload_n 13 C dX2_faults_12 rfl rfl 0 rfl ?_
        refine j_iload_n 14 C dX2_faults_13 rfl rfl 2 rfl ?_
        obtain ⟨y14, e14, hz⟩ := ap_x hz
        refine s_V 17 C (As := [.int (nI i4)]) cv_X2_53 (c_X2_isBroken (l := l) (D := D) (K := K) (ad := ad) hG  (hz := e14)) dX2_faults_14 rfl 1 2 (GH_r hG (by decide)) rfl (CE_1 _) rfl rfl rfl rfl rfl rfl ⟨⟨Nat.le_of_ble_eq_true rfl, Nat.le_of_ble_eq_true rfl⟩, Nat.zero_le _, Nat.zero_le _⟩ (Nat.le_of_ble_eq_true rfl) (st' := [.int y14]) rfl (fun hE => ?_)
        have hbl14 : bl y14 := hE
        refine j_if_eq 23 20 C dX2_faults_17 rfl rfl (fun c_17 => ?_) (fun c_17 => ?_)
        · replace hz := (if_pos c_17).symm.trans hz
          refine j_iinc 26 C (x' := nI (i4 + 1)) [(2, .int (nI (i4 + 1))), (0, .ref (ad 1)), (1, .int c4)] dX2_faults_23 rfl 2 rfl (by rw [show Int32.ofInt 1 = nI 1 from by decide, nI_add]) (by decide) rfl ?_
          refine j_goto 4 C dX2_faults_26 rfl ?_
          subst hz
          refine j_lv [1, 2, 0] (lv' := [(0, .ref (ad 1)), (1, .int c4), (2, .int (nI (i4 + 1)))]) rfl ?_
          have hz := ho4
          exact ih4 (i4 + 1) c4 (by omega) (by omega) (by omega) hz4
        · replace hz := (if_neg c_17).symm.trans hz
          refine j_iinc 23 C (x' := c4 + nI 1) [(1, .int (c4 + nI 1)), (0, .ref (ad 1)), (2, .int (nI i4))] dX2_faults_20 rfl 1 rfl (by rw [show Int32.ofInt 1 = nI 1 from by decide]) (by decide) rfl ?_
          refine j_iinc 26 C (x' := nI (i4 + 1)) [(2, .int (nI (i4 + 1))), (1, .int (c4 + nI 1)), (0, .ref (ad 1))] dX2_faults_23 rfl 2 rfl (by rw [show Int32.ofInt 1 = nI 1 from by decide, nI_add]) (by decide) rfl ?_
          refine j_goto 4 C dX2_faults_26 rfl ?_
          subst hz
          refine j_lv [2, 1, 0] (lv' := [(0, .ref (ad 1)), (1, .int (c4 + nI 1)), (2, .int (nI (i4 + 1)))]) rfl ?_
          have hz := ho4
          exact ih4 (i4 + 1) (c4 + nI 1) (by omega) (by omega) (by omega) hz4
  refine j_lv [2, 1, 0] (lv' := [(0, .ref (ad 1)), (1, .int (nI 0)), (2, .int (nI 0))]) rfl ?_
  exact L4 _ 0 (nI 0) (by omega) (by omega) rfl ez4
def m_X2_bindThick (W S ns nc : Nat) (B : Nat → Option Nat) (σ : Nat → Nat → Int32) (g : Nat) (surface : Int32) (column : Int32) : Int32 × (Nat → Int32) := ap (m_X2_hasPlace W S ns nc B σ surface column) (fun (y3 : Int32) => (if y3 = 0 then (nI 1, (σ (12 + 2 * g))) else ap (m_X2_hasSurface W S ns nc B σ (surface + (nI 1))) (fun (y13 : Int32) => (if y13 = 0 then (nI 1, (σ (12 + 2 * g))) else ap (m_X2_placeOf W S ns nc B σ surface column) (fun (y24 : Int32) => ap (m_X2_placeOf W S ns nc B σ (surface + (nI 1)) column) (fun (y34 : Int32) => ap (m_X1_hold W S ns nc B σ g y24 y34 ((σ 2) surface.toNatClampNeg) ((σ 3) surface.toNatClampNeg)) (fun (y56 : Int32 × (Nat → Int32)) => (y56.1, y56.2))))))))
abbrev rm_X2_bindThick : Room := { frames := 3, cells := 0, slots := 0, locals := 91 }
set_option maxHeartbeats 4000000 in
set_option maxRecDepth 100000 in
theorem c_X2_bindThick {l : Launch} {D : va_G} {K : Nat → ClassId} {W S ns nc N : Nat} {ad : Nat → Nat} {B : Nat → Option Nat} {σ : Nat → Nat → Int32} (hG : GH W S ns nc N) {g : Nat} {surface : Int32} {a_surface : Nat} {column : Int32} {a_column : Nat} (h_g : g < 12) (e_surface : surface = nI a_surface) (h_surface : a_surface < S) (e_column : column = nI a_column) (h_column : a_column < W) {z : Int32 × (Nat → Int32)} (hz : m_X2_bindThick W S ns nc B σ g surface column = z)  : MC l yX2_bindThick cX2_bindThick 6 (some .boolean) rm_X2_bindThick D (TY K) N ad (CT K W S ns nc ad B σ) [.ref (ad 1), .ref (ad (11 + 2 * g)), .int surface, .int column] (BS (some (.int z.1)) N ad (CT K W S ns nc ad B (sA σ (12 + 2 * g) z.2)) (bl z.1)) := by
  have hW := hG.1; have hW8 := hG.2.1; have hS := hG.2.2.1; have hS4 := hG.2.2.2.1; have hns := hG.2.2.2.2.1; have hnc := hG.2.2.2.2.2.1; have hWS := GH_ws hG
  subst e_surface
  subst e_column
  refine MC.of (by decide) (Nat.le_of_ble_eq_true rfl) (fun p e s m args below meth c Q A H0 C X => ?_)
  replace C : Cx p s m args meth c cX2_bindThick RX2 6 D (TY K) A H0 := C
  show J p l e rm_X2_bindThick s m args below meth c Q D A H0 6 0 0 N ad (CT K W S ns nc ad B σ) 0 [(0, .ref (ad 1)), (1, .ref (ad (11 + 2 * g))), (2, .int (nI a_surface)), (3, .int (nI a_column))] []
  unfold m_X2_bindThick at hz
  refine j_aload_n 1 C dX2_bindThick_0 rfl rfl 0 rfl ?_
  refine j_iload_n 2 C dX2_bindThick_1 rfl rfl 2 rfl ?_
  refine j_iload_n 3 C dX2_bindThick_2 rfl rfl 3 rfl ?_
  obtain ⟨y3, e3, hz⟩ := ap_x hz
  refine s_V 6 C (As := [.int (nI a_surface), .int (nI a_column)]) cv_X2_63 (c_X2_hasPlace (l := l) (D := D) (K := K) (ad := ad) hG  (hz := e3)) dX2_bindThick_3 rfl 1 2 (GH_r hG (by decide)) rfl (CE_1 _) rfl rfl rfl rfl rfl rfl ⟨⟨Nat.le_of_ble_eq_true rfl, Nat.le_of_ble_eq_true rfl⟩, Nat.zero_le _, Nat.zero_le _⟩ (Nat.le_of_ble_eq_true rfl) (st' := [.int y3]) rfl (fun hE => ?_)
  have hbl3 : bl y3 := hE
  refine j_if_eq 19 9 C dX2_bindThick_6 rfl rfl (fun c_6 => ?_) (fun c_6 => ?_)
  · replace hz := (if_pos c_6).symm.trans hz
    refine j_iconst 20 C (x := nI 1) dX2_bindThick_19 rfl (by decide) ?_
    subst hz
    exact j_retI C X dX2_bindThick_20 (bl_nar bl_1) ⟨rfl, rfl, rfl, (congrArg _ sA_id.symm), bl_1⟩
  · replace hz := (if_neg c_6).symm.trans hz
    refine j_aload_n 10 C dX2_bindThick_9 rfl rfl 0 rfl ?_
    refine j_iload_n 11 C dX2_bindThick_10 rfl rfl 2 rfl ?_
    refine j_iconst 12 C (x := nI 1) dX2_bindThick_11 rfl (by decide) ?_
    refine j_iadd 13 C dX2_bindThick_12 rfl rfl ?_
    obtain ⟨y13, e13, hz⟩ := ap_x hz
    refine s_V 16 C (As := [.int ((nI a_surface) + (nI 1))]) cv_X2_41 (c_X2_hasSurface (l := l) (D := D) (K := K) (ad := ad) hG  (hz := e13)) dX2_bindThick_13 rfl 1 2 (GH_r hG (by decide)) rfl (CE_1 _) rfl rfl rfl rfl rfl rfl ⟨⟨Nat.le_of_ble_eq_true rfl, Nat.le_of_ble_eq_true rfl⟩, Nat.zero_le _, Nat.zero_le _⟩ (Nat.le_of_ble_eq_true rfl) (st' := [.int y13]) rfl (fun hE => ?_)
    have hbl13 : bl y13 := hE
    refine j_if_ne 21 19 C dX2_bindThick_16 rfl rfl (fun c_16 => ?_) (fun c_16 => ?_)
    · replace hz := (if_neg c_16).symm.trans hz
      refine j_aload_n 22 C dX2_bindThick_21 rfl rfl 0 rfl ?_
      refine j_iload_n 23 C dX2_bindThick_22 rfl rfl 2 rfl ?_
      refine j_iload_n 24 C dX2_bindThick_23 rfl rfl 3 rfl ?_
      obtain ⟨y24, e24, hz⟩ := ap_x hz
      refine s_V 27 C (As := [.int (nI a_surface), .int (nI a_column)]) cv_X2_67 (c_X2_placeOf (l := l) (D := D) (K := K) (ad := ad) hG  (hz := e24)) dX2_bindThick_24 rfl 1 2 (GH_r hG (by decide)) rfl (CE_1 _) rfl rfl rfl rfl rfl rfl ⟨⟨Nat.le_of_ble_eq_true rfl, Nat.le_of_ble_eq_true rfl⟩, Nat.zero_le _, Nat.zero_le _⟩ (Nat.le_of_ble_eq_true rfl) (st' := [.int y24]) rfl (fun hE => ?_)
      refine j_istore 29 C [(4, .int y24), (0, .ref (ad 1)), (1, .ref (ad (11 + 2 * g))), (2, .int (nI a_surface)), (3, .int (nI a_column))] dX2_bindThick_27 rfl (by decide) rfl ?_
      refine j_aload_n 30 C dX2_bindThick_29 rfl rfl 1 rfl ?_
      refine j_iload_n 31 C dX2_bindThick_30 rfl rfl 3 rfl ?_
      refine j_iconst 32 C (x := nI 1) dX2_bindThick_31 rfl (by decide) ?_
      refine j_iadd 33 C dX2_bindThick_32 rfl rfl ?_
      refine j_iload_n 34 C dX2_bindThick_33 rfl rfl 4 rfl ?_
      obtain ⟨y34, e34, hz⟩ := ap_x hz
      refine s_V 37 C (As := [.int ((nI a_surface) + (nI 1)), .int (nI a_column)]) cv_X2_67 (c_X2_placeOf (l := l) (D := D) (K := K) (ad := ad) hG  (hz := e34)) dX2_bindThick_34 rfl 1 2 (GH_r hG (by decide)) rfl (CE_1 _) rfl rfl rfl rfl rfl rfl ⟨⟨Nat.le_of_ble_eq_true rfl, Nat.le_of_ble_eq_true rfl⟩, Nat.zero_le _, Nat.zero_le _⟩ (Nat.le_of_ble_eq_true rfl) (st' := [.int y34]) rfl (fun hE => ?_)
      refine j_istore 39 C [(5, .int y34), (4, .int y24), (0, .ref (ad 1)), (1, .ref (ad (11 + 2 * g))), (2, .int (nI a_surface)), (3, .int (nI a_column))] dX2_bindThick_37 rfl (by decide) rfl ?_
      refine j_aload_n 40 C dX2_bindThick_39 rfl rfl 3 rfl ?_
      refine j_iload 42 C dX2_bindThick_40 rfl 1 rfl ?_
      refine j_iload 44 C dX2_bindThick_42 rfl 0 rfl ?_
      refine j_aload_n 45 C dX2_bindThick_44 rfl rfl 2 rfl ?_
      refine k_get 48 C fl_X2_24 dX2_bindThick_45 rfl 1 (GH_r hG (by decide)) _ rfl (CE_1 _) (.ref (ad 2)) rfl ?_
      refine j_iload_n 49 C dX2_bindThick_48 rfl rfl 4 rfl ?_
      refine k_iald 50 C dX2_bindThick_49 rfl 2 (GH_r hG (by decide)) (σ 2) rfl CE_2 (vp_inE (n := a_surface) rfl (by omega) (by omega)) ?_
      refine j_aload_n 51 C dX2_bindThick_50 rfl rfl 2 rfl ?_
      refine k_get 54 C fl_X2_28 dX2_bindThick_51 rfl 1 (GH_r hG (by decide)) _ rfl (CE_1 _) (.ref (ad 3)) rfl ?_
      refine j_iload_n 55 C dX2_bindThick_54 rfl rfl 4 rfl ?_
      refine k_iald 56 C dX2_bindThick_55 rfl 3 (GH_r hG (by decide)) (σ 3) rfl CE_3 (vp_inE (n := a_surface) rfl (by omega) (by omega)) ?_
      obtain ⟨y56, e56, hz⟩ := ap_x hz
      refine s_V 59 C (As := [.int y24, .int y34, .int ((σ 2) (nI a_surface).toNatClampNeg), .int ((σ 3) (nI a_surface).toNatClampNeg)]) cv_X2_70 (c_X1_hold (l := l) (D := D) (K := K) (ad := ad) hG (hg := by omega) (hz := e56)) dX2_bindThick_56 rfl (11 + 2 * g) 1 (GH_r hG (by omega)) rfl (CE_go (by omega) _) rfl rfl rfl rfl rfl rfl ⟨⟨Nat.le_of_ble_eq_true rfl, Nat.le_of_ble_eq_true rfl⟩, Nat.zero_le _, Nat.zero_le _⟩ (Nat.le_of_ble_eq_true rfl) (st' := [.int y56.1]) rfl (fun hE => ?_)
      have hbl56 : bl y56.1 := hE
      subst hz
      exact j_retI C X dX2_bindThick_59 (bl_nar hbl56) ⟨rfl, rfl, rfl, rfl, hbl56⟩
    · replace hz := (if_pos c_16).symm.trans hz
      refine j_iconst 20 C (x := nI 1) dX2_bindThick_19 rfl (by decide) ?_
      subst hz
      exact j_retI C X dX2_bindThick_20 (bl_nar bl_1) ⟨rfl, rfl, rfl, (congrArg _ sA_id.symm), bl_1⟩
def m_X2_bindStep (W S ns nc : Nat) (B : Nat → Option Nat) (σ : Nat → Nat → Int32) (g : Nat) (surface : Int32) (column : Int32) : Int32 × (Nat → Int32) := ap (m_X2_hasSurface W S ns nc B σ surface) (fun (y2 : Int32) => (if y2 = 0 then (nI 1, (σ (12 + 2 * g))) else ap (m_X2_hasNextColumn W S ns nc B σ column) (fun (y10 : Int32) => (if y10 = 0 then (nI 1, (σ (12 + 2 * g))) else ap (m_X2_placeOf W S ns nc B σ surface column) (fun (y21 : Int32) => ap (m_X2_placeOf W S ns nc B σ surface (column + (nI 1))) (fun (y31 : Int32) => ap ((σ 5) column.toNatClampNeg) (fun (x42 : Int32) => ap ((σ 4) surface.toNatClampNeg) (fun (x50 : Int32) => ap (m_X1_hold W S ns nc B σ g y21 y31 (x42 - x50) (x42 + x50)) (fun (y67 : Int32 × (Nat → Int32)) => (y67.1, y67.2))))))))))
abbrev rm_X2_bindStep : Room := { frames := 3, cells := 0, slots := 0, locals := 91 }
set_option maxHeartbeats 4000000 in
set_option maxRecDepth 100000 in
theorem c_X2_bindStep {l : Launch} {D : va_G} {K : Nat → ClassId} {W S ns nc N : Nat} {ad : Nat → Nat} {B : Nat → Option Nat} {σ : Nat → Nat → Int32} (hG : GH W S ns nc N) {g : Nat} {surface : Int32} {a_surface : Nat} {column : Int32} {a_column : Nat} (h_g : g < 12) (e_surface : surface = nI a_surface) (h_surface : a_surface < S) (e_column : column = nI a_column) (h_column : a_column < W) {z : Int32 × (Nat → Int32)} (hz : m_X2_bindStep W S ns nc B σ g surface column = z)  : MC l yX2_bindStep cX2_bindStep 8 (some .boolean) rm_X2_bindStep D (TY K) N ad (CT K W S ns nc ad B σ) [.ref (ad 1), .ref (ad (11 + 2 * g)), .int surface, .int column] (BS (some (.int z.1)) N ad (CT K W S ns nc ad B (sA σ (12 + 2 * g) z.2)) (bl z.1)) := by
  have hW := hG.1; have hW8 := hG.2.1; have hS := hG.2.2.1; have hS4 := hG.2.2.2.1; have hns := hG.2.2.2.2.1; have hnc := hG.2.2.2.2.2.1; have hWS := GH_ws hG
  subst e_surface
  subst e_column
  refine MC.of (by decide) (Nat.le_of_ble_eq_true rfl) (fun p e s m args below meth c Q A H0 C X => ?_)
  replace C : Cx p s m args meth c cX2_bindStep RX2 8 D (TY K) A H0 := C
  show J p l e rm_X2_bindStep s m args below meth c Q D A H0 8 0 0 N ad (CT K W S ns nc ad B σ) 0 [(0, .ref (ad 1)), (1, .ref (ad (11 + 2 * g))), (2, .int (nI a_surface)), (3, .int (nI a_column))] []
  unfold m_X2_bindStep at hz
  refine j_aload_n 1 C dX2_bindStep_0 rfl rfl 0 rfl ?_
  refine j_iload_n 2 C dX2_bindStep_1 rfl rfl 2 rfl ?_
  obtain ⟨y2, e2, hz⟩ := ap_x hz
  refine s_V 5 C (As := [.int (nI a_surface)]) cv_X2_41 (c_X2_hasSurface (l := l) (D := D) (K := K) (ad := ad) hG  (hz := e2)) dX2_bindStep_2 rfl 1 2 (GH_r hG (by decide)) rfl (CE_1 _) rfl rfl rfl rfl rfl rfl ⟨⟨Nat.le_of_ble_eq_true rfl, Nat.le_of_ble_eq_true rfl⟩, Nat.zero_le _, Nat.zero_le _⟩ (Nat.le_of_ble_eq_true rfl) (st' := [.int y2]) rfl (fun hE => ?_)
  have hbl2 : bl y2 := hE
  refine j_if_eq 16 8 C dX2_bindStep_5 rfl rfl (fun c_5 => ?_) (fun c_5 => ?_)
  · replace hz := (if_pos c_5).symm.trans hz
    refine j_iconst 17 C (x := nI 1) dX2_bindStep_16 rfl (by decide) ?_
    subst hz
    exact j_retI C X dX2_bindStep_17 (bl_nar bl_1) ⟨rfl, rfl, rfl, (congrArg _ sA_id.symm), bl_1⟩
  · replace hz := (if_neg c_5).symm.trans hz
    refine j_aload_n 9 C dX2_bindStep_8 rfl rfl 0 rfl ?_
    refine j_iload_n 10 C dX2_bindStep_9 rfl rfl 3 rfl ?_
    obtain ⟨y10, e10, hz⟩ := ap_x hz
    refine s_V 13 C (As := [.int (nI a_column)]) cv_X2_50 (c_X2_hasNextColumn (l := l) (D := D) (K := K) (ad := ad) hG  (hz := e10)) dX2_bindStep_10 rfl 1 2 (GH_r hG (by decide)) rfl (CE_1 _) rfl rfl rfl rfl rfl rfl ⟨⟨Nat.le_of_ble_eq_true rfl, Nat.le_of_ble_eq_true rfl⟩, Nat.zero_le _, Nat.zero_le _⟩ (Nat.le_of_ble_eq_true rfl) (st' := [.int y10]) rfl (fun hE => ?_)
    have hbl10 : bl y10 := hE
    refine j_if_ne 18 16 C dX2_bindStep_13 rfl rfl (fun c_13 => ?_) (fun c_13 => ?_)
    · replace hz := (if_neg c_13).symm.trans hz
      refine j_aload_n 19 C dX2_bindStep_18 rfl rfl 0 rfl ?_
      refine j_iload_n 20 C dX2_bindStep_19 rfl rfl 2 rfl ?_
      refine j_iload_n 21 C dX2_bindStep_20 rfl rfl 3 rfl ?_
      obtain ⟨y21, e21, hz⟩ := ap_x hz
      refine s_V 24 C (As := [.int (nI a_surface), .int (nI a_column)]) cv_X2_67 (c_X2_placeOf (l := l) (D := D) (K := K) (ad := ad) hG  (hz := e21)) dX2_bindStep_21 rfl 1 2 (GH_r hG (by decide)) rfl (CE_1 _) rfl rfl rfl rfl rfl rfl ⟨⟨Nat.le_of_ble_eq_true rfl, Nat.le_of_ble_eq_true rfl⟩, Nat.zero_le _, Nat.zero_le _⟩ (Nat.le_of_ble_eq_true rfl) (st' := [.int y21]) rfl (fun hE => ?_)
      refine j_istore 26 C [(4, .int y21), (0, .ref (ad 1)), (1, .ref (ad (11 + 2 * g))), (2, .int (nI a_surface)), (3, .int (nI a_column))] dX2_bindStep_24 rfl (by decide) rfl ?_
      refine j_aload_n 27 C dX2_bindStep_26 rfl rfl 1 rfl ?_
      refine j_iload_n 28 C dX2_bindStep_27 rfl rfl 3 rfl ?_
      refine j_iload_n 29 C dX2_bindStep_28 rfl rfl 4 rfl ?_
      refine j_iconst 30 C (x := nI 1) dX2_bindStep_29 rfl (by decide) ?_
      refine j_iadd 31 C dX2_bindStep_30 rfl rfl ?_
      obtain ⟨y31, e31, hz⟩ := ap_x hz
      refine s_V 34 C (As := [.int (nI a_surface), .int ((nI a_column) + (nI 1))]) cv_X2_67 (c_X2_placeOf (l := l) (D := D) (K := K) (ad := ad) hG  (hz := e31)) dX2_bindStep_31 rfl 1 2 (GH_r hG (by decide)) rfl (CE_1 _) rfl rfl rfl rfl rfl rfl ⟨⟨Nat.le_of_ble_eq_true rfl, Nat.le_of_ble_eq_true rfl⟩, Nat.zero_le _, Nat.zero_le _⟩ (Nat.le_of_ble_eq_true rfl) (st' := [.int y31]) rfl (fun hE => ?_)
      refine j_istore 36 C [(5, .int y31), (4, .int y21), (0, .ref (ad 1)), (1, .ref (ad (11 + 2 * g))), (2, .int (nI a_surface)), (3, .int (nI a_column))] dX2_bindStep_34 rfl (by decide) rfl ?_
      refine j_aload_n 37 C dX2_bindStep_36 rfl rfl 2 rfl ?_
      refine k_get 40 C fl_X2_34 dX2_bindStep_37 rfl 1 (GH_r hG (by decide)) _ rfl (CE_1 _) (.ref (ad 5)) rfl ?_
      refine j_iload_n 41 C dX2_bindStep_40 rfl rfl 5 rfl ?_
      refine k_iald 42 C dX2_bindStep_41 rfl 5 (GH_r hG (by decide)) (σ 5) rfl CE_5 (vp_inE (n := a_column) rfl (by omega) (by omega)) ?_
      obtain ⟨x42, e42, hz⟩ := ap_x hz
      refine j_st (st' := [.int x42]) (by rw [← e42]) ?_
      refine j_istore 44 C [(6, .int x42), (5, .int y31), (4, .int y21), (0, .ref (ad 1)), (1, .ref (ad (11 + 2 * g))), (2, .int (nI a_surface)), (3, .int (nI a_column))] dX2_bindStep_42 rfl (by decide) rfl ?_
      refine j_aload_n 45 C dX2_bindStep_44 rfl rfl 3 rfl ?_
      refine k_get 48 C fl_X2_31 dX2_bindStep_45 rfl 1 (GH_r hG (by decide)) _ rfl (CE_1 _) (.ref (ad 4)) rfl ?_
      refine j_iload_n 49 C dX2_bindStep_48 rfl rfl 5 rfl ?_
      refine k_iald 50 C dX2_bindStep_49 rfl 4 (GH_r hG (by decide)) (σ 4) rfl CE_4 (vp_inE (n := a_surface) rfl (by omega) (by omega)) ?_
      obtain ⟨x50, e50, hz⟩ := ap_x hz
      refine j_st (st' := [.int x50]) (by rw [← e50]) ?_
      refine j_istore 52 C [(7, .int x50), (6, .int x42), (5, .int y31), (4, .int y21), (0, .ref (ad 1)), (1, .ref (ad (11 + 2 * g))), (2, .int (nI a_surface)), (3, .int (nI a_column))] dX2_bindStep_50 rfl (by decide) rfl ?_
      refine j_aload_n 53 C dX2_bindStep_52 rfl rfl 5 rfl ?_
      refine j_iload 55 C dX2_bindStep_53 rfl 3 rfl ?_
      refine j_iload 57 C dX2_bindStep_55 rfl 2 rfl ?_
      refine j_iload 59 C dX2_bindStep_57 rfl 1 rfl ?_
      refine j_iload 61 C dX2_bindStep_59 rfl 0 rfl ?_
      refine j_isub 62 C dX2_bindStep_61 rfl rfl ?_
      refine j_iload 64 C dX2_bindStep_62 rfl 1 rfl ?_
      refine j_iload 66 C dX2_bindStep_64 rfl 0 rfl ?_
      refine j_iadd 67 C dX2_bindStep_66 rfl rfl ?_
      obtain ⟨y67, e67, hz⟩ := ap_x hz
      refine s_V 70 C (As := [.int y21, .int y31, .int (x42 - x50), .int (x42 + x50)]) cv_X2_70 (c_X1_hold (l := l) (D := D) (K := K) (ad := ad) hG (hg := by omega) (hz := e67)) dX2_bindStep_67 rfl (11 + 2 * g) 1 (GH_r hG (by omega)) rfl (CE_go (by omega) _) rfl rfl rfl rfl rfl rfl ⟨⟨Nat.le_of_ble_eq_true rfl, Nat.le_of_ble_eq_true rfl⟩, Nat.zero_le _, Nat.zero_le _⟩ (Nat.le_of_ble_eq_true rfl) (st' := [.int y67.1]) rfl (fun hE => ?_)
      have hbl67 : bl y67.1 := hE
      subst hz
      exact j_retI C X dX2_bindStep_70 (bl_nar hbl67) ⟨rfl, rfl, rfl, rfl, hbl67⟩
    · replace hz := (if_pos c_13).symm.trans hz
      refine j_iconst 17 C (x := nI 1) dX2_bindStep_16 rfl (by decide) ?_
      subst hz
      exact j_retI C X dX2_bindStep_17 (bl_nar bl_1) ⟨rfl, rfl, rfl, (congrArg _ sA_id.symm), bl_1⟩
def m_X2_bind_L12 (W S ns nc : Nat) (B : Nat → Option Nat) (σ : Nat → Nat → Int32) (g : Nat) (i2 : Nat) (i12 : Nat) (c12 : (Nat → Int32)) : (Int32 × (Nat → Int32)) ⊕ ((Nat → Int32)) := ap (m_X2_bindThick W S ns nc B (sA σ (12 + 2 * g) c12) g (nI i2) (nI i12)) (fun (y24 : Int32 × (Nat → Int32)) => (if y24.1 = 0 then (Sum.inl (nI 0, y24.2)) else ap (m_X2_bindStep W S ns nc B (sA σ (12 + 2 * g) y24.2) g (nI i2) (nI i12)) (fun (y34 : Int32 × (Nat → Int32)) => (if y34.1 = 0 then (Sum.inl (nI 0, y34.2)) else (Sum.inr y34.2)))))
def m_X2_bind_L2 (W S ns nc : Nat) (B : Nat → Option Nat) (σ : Nat → Nat → Int32) (g : Nat) (i2 : Nat) (c2 : (Nat → Int32)) : (Int32 × (Nat → Int32)) ⊕ ((Nat → Int32)) := ap (lpe (m_X2_bind_L12 W S ns nc B σ g i2) (W - 0) 0 c2) (fun (z12 : (Int32 × (Nat → Int32)) ⊕ ((Nat → Int32))) => ((z12).elim Sum.inl (fun (kz12 : (Nat → Int32)) => (Sum.inr kz12))))
def m_X2_bind (W S ns nc : Nat) (B : Nat → Option Nat) (σ : Nat → Nat → Int32) (g : Nat) : Int32 × (Nat → Int32) := ap (lpe (m_X2_bind_L2 W S ns nc B σ g) (S - 0) 0 (σ (12 + 2 * g))) (fun (z2 : (Int32 × (Nat → Int32)) ⊕ ((Nat → Int32))) => ((z2).elim id (fun (kz2 : (Nat → Int32)) => (nI 1, kz2))))
abbrev rm_X2_bind : Room := { frames := 4, cells := 0, slots := 0, locals := 118 }
set_option maxHeartbeats 4000000 in
set_option maxRecDepth 100000 in
theorem c_X2_bind {l : Launch} {D : va_G} {K : Nat → ClassId} {W S ns nc N : Nat} {ad : Nat → Nat} {B : Nat → Option Nat} {σ : Nat → Nat → Int32} (hG : GH W S ns nc N) {g : Nat} (h_g : g < 12) {z : Int32 × (Nat → Int32)} (hz : m_X2_bind W S ns nc B σ g = z)  : MC l yX2_bind cX2_bind 4 (some .boolean) rm_X2_bind D (TY K) N ad (CT K W S ns nc ad B σ) [.ref (ad 1), .ref (ad (11 + 2 * g))] (BS (some (.int z.1)) N ad (CT K W S ns nc ad B (sA σ (12 + 2 * g) z.2)) (bl z.1)) := by
  have hW := hG.1; have hW8 := hG.2.1; have hS := hG.2.2.1; have hS4 := hG.2.2.2.1; have hns := hG.2.2.2.2.1; have hnc := hG.2.2.2.2.2.1; have hWS := GH_ws hG
  refine MC.of (by decide) (Nat.le_of_ble_eq_true rfl) (fun p e s m args below meth c Q A H0 C X => ?_)
  replace C : Cx p s m args meth c cX2_bind RX2 4 D (TY K) A H0 := C
  show J p l e rm_X2_bind s m args below meth c Q D A H0 4 0 0 N ad (CT K W S ns nc ad B σ) 0 [(0, .ref (ad 1)), (1, .ref (ad (11 + 2 * g)))] []
  unfold m_X2_bind at hz
  refine j_iconst 1 C (x := nI 0) dX2_bind_0 rfl (by decide) ?_
  refine j_istore_n 2 C [(2, .int (nI 0)), (0, .ref (ad 1)), (1, .ref (ad (11 + 2 * g)))] dX2_bind_1 rfl rfl (by decide) rfl ?_
  skip
  obtain ⟨z2, ez2, hz⟩ := ap_x hz
  have L2 : ∀ (n2 i2 : Nat) (c2 : (Nat → Int32)), 0 ≤ i2 → i2 < 5000 → n2 = S - i2 → lpe (m_X2_bind_L2 W S ns nc B σ g) n2 i2 c2 = z2 → J p l e rm_X2_bind s m args below meth c Q D A H0 4 0 0 N ad (CT K W S ns nc ad B (sA σ (12 + 2 * g) c2)) 2 [(0, .ref (ad 1)), (1, .ref (ad (11 + 2 * g))), (2, .int (nI i2))] [] := by
    intro n2
    induction n2 with
    | zero =>
      intro i2 c2 hl2 hi2 hn2 hz2
      refine j_iload_n 3 C dX2_bind_2 rfl rfl 2 rfl ?_
      refine j_aload_n 4 C dX2_bind_3 rfl rfl 0 rfl ?_
      refine k_get 7 C fl_X2_21 dX2_bind_4 rfl 1 (GH_r hG (by decide)) _ rfl (CE_1 _) (.int (nI S)) rfl ?_
      refine j_ic_ge 54 10 C dX2_bind_7 rfl rfl (fun c_7 => ?_) (fun c_7 => ?_)
      · skip
        have n_7 := nat_le (a := S) (b := i2) rfl rfl (by omega) (by omega) c_7
        have hq2 : Sum.inr c2 = z2 := hz2
        subst hq2
        replace hz := el_r hz
        refine j_iconst 55 C (x := nI 1) dX2_bind_54 rfl (by decide) ?_
        subst hz
        exact j_retI C X dX2_bind_55 (bl_nar bl_1) ⟨rfl, rfl, rfl, rfl, bl_1⟩
      · exfalso
        have n_7 := nat_nle (a := S) (b := i2) rfl rfl (by omega) (by omega) c_7
        omega
    | succ n2 ih2 =>
      intro i2 c2 hl2 hi2 hn2 hz2
      refine j_iload_n 3 C dX2_bind_2 rfl rfl 2 rfl ?_
      refine j_aload_n 4 C dX2_bind_3 rfl rfl 0 rfl ?_
      refine k_get 7 C fl_X2_21 dX2_bind_4 rfl 1 (GH_r hG (by decide)) _ rfl (CE_1 _) (.int (nI S)) rfl ?_
      refine j_ic_ge 54 10 C dX2_bind_7 rfl rfl (fun c_7 => ?_) (fun c_7 => ?_)
      · exfalso
        have n_7 := nat_le (a := S) (b := i2) rfl rfl (by omega) (by omega) c_7
        omega
      · skip
        have n_7 := nat_nle (a := S) (b := i2) rfl rfl (by omega) (by omega) c_7
        obtain ⟨w2, hw2, hz2⟩ := lpe_s hz2
        have ho2 := hz
        clear hz
        have hz := hw2
        clear hw2
        unfold m_X2_bind_L2 at hz
        refine j_iconst 11 C (x := nI 0) dX2_bind_10 rfl (by decide) ?_
        refine j_istore_n 12 C [(3, .int (nI 0)), (0, .ref (ad 1)), (1, .ref (ad (11 + 2 * g))), (2, .int (nI i2))] dX2_bind_11 rfl rfl (by decide) rfl ?_
        skip
        obtain ⟨z12, ez12, hz⟩ := ap_x hz
        have L12 : ∀ (n12 i12 : Nat) (c12 : (Nat → Int32)), 0 ≤ i12 → i12 < 5000 → n12 = W - i12 → lpe (m_X2_bind_L12 W S ns nc B σ g i2) n12 i12 c12 = z12 → J p l e rm_X2_bind s m args below meth c Q D A H0 4 0 0 N ad (CT K W S ns nc ad B (sA σ (12 + 2 * g) c12)) 12 [(0, .ref (ad 1)), (1, .ref (ad (11 + 2 * g))), (2, .int (nI i2)), (3, .int (nI i12))] [] := by
          intro n12
          induction n12 with
          | zero =>
            intro i12 c12 hl12 hi12 hn12 hz12
            refine j_iload_n 13 C dX2_bind_12 rfl rfl 3 rfl ?_
            refine j_aload_n 14 C dX2_bind_13 rfl rfl 0 rfl ?_
            refine k_get 17 C fl_X2_15 dX2_bind_14 rfl 1 (GH_r hG (by decide)) _ rfl (CE_1 _) (.int (nI W)) rfl ?_
            refine j_ic_ge 48 20 C dX2_bind_17 rfl rfl (fun c_17 => ?_) (fun c_17 => ?_)
            · skip
              have n_17 := nat_le (a := W) (b := i12) rfl rfl (by omega) (by omega) c_17
              have hq12 : Sum.inr c12 = z12 := hz12
              subst hq12
              replace hz := el_r hz
              refine j_iinc 51 C (x' := nI (i2 + 1)) [(2, .int (nI (i2 + 1))), (0, .ref (ad 1)), (1, .ref (ad (11 + 2 * g))), (3, .int (nI i12))] dX2_bind_48 rfl 2 rfl (by rw [show Int32.ofInt 1 = nI 1 from by decide, nI_add]) (by decide) rfl ?_
              refine j_goto 2 C dX2_bind_51 rfl ?_
              subst hz
              refine j_lv [1, 2, 0] (lv' := [(0, .ref (ad 1)), (1, .ref (ad (11 + 2 * g))), (2, .int (nI (i2 + 1)))]) rfl ?_
              have hz := ho2
              exact ih2 (i2 + 1) c12 (by omega) (by omega) (by omega) hz2
            · exfalso
              have n_17 := nat_nle (a := W) (b := i12) rfl rfl (by omega) (by omega) c_17
              omega
          | succ n12 ih12 =>
            intro i12 c12 hl12 hi12 hn12 hz12
            refine j_iload_n 13 C dX2_bind_12 rfl rfl 3 rfl ?_
            refine j_aload_n 14 C dX2_bind_13 rfl rfl 0 rfl ?_
            refine k_get 17 C fl_X2_15 dX2_bind_14 rfl 1 (GH_r hG (by decide)) _ rfl (CE_1 _) (.int (nI W)) rfl ?_
            refine j_ic_ge 48 20 C dX2_bind_17 rfl rfl (fun c_17 => ?_) (fun c_17 => ?_)
            · exfalso
              have n_17 := nat_le (a := W) (b := i12) rfl rfl (by omega) (by omega) c_17
              omega
            · skip
              have n_17 := nat_nle (a := W) (b := i12) rfl rfl (by omega) (by omega) c_17
              obtain ⟨w12, hw12, hz12⟩ := lpe_s hz12
              have ho12 := hz
              clear hz
              have hz := hw12
              clear hw12
              unfold m_X2_bind_L12 at hz
              refine j_aload_n 21 C dX2_bind_20 rfl rfl 0 rfl ?_
              refine j_aload_n 22 C dX2_bind_21 rfl rfl 1 rfl ?_
              refine j_iload_n 23 C dX2_bind_22 rfl rfl 2 rfl ?_
              refine j_iload_n 24 C dX2_bind_23 rfl rfl 3 rfl ?_
              obtain ⟨y24, e24, hz⟩ := ap_x hz
              refine s_V 27 C (As := [.ref (ad (11 + 2 * g)), .int (nI i2), .int (nI i12)]) cv_X2_56 (c_X2_bindThick (l := l) (D := D) (K := K) (ad := ad) hG (h_g := by omega) (a_surface := i2) (e_surface := rfl) (h_surface := by omega) (a_column := i12) (e_column := rfl) (h_column := by omega) (hz := e24)) dX2_bind_24 rfl 1 2 (GH_r hG (by decide)) rfl (CE_1 _) rfl rfl rfl rfl rfl rfl ⟨⟨Nat.le_of_ble_eq_true rfl, Nat.le_of_ble_eq_true rfl⟩, Nat.zero_le _, Nat.zero_le _⟩ (Nat.le_of_ble_eq_true rfl) (st' := [.int y24.1]) rfl (fun hE => ?_)
              refine j_ct (ct' := CT K W S ns nc ad B (sA σ (12 + 2 * g) y24.2)) (fun r _ => congrFun (congrArg (CT K W S ns nc ad B) sA_top) r) ?_
              have hbl24 : bl y24.1 := hE
              refine j_if_eq 40 30 C dX2_bind_27 rfl rfl (fun c_27 => ?_) (fun c_27 => ?_)
              · replace hz := (if_pos c_27).symm.trans hz
                refine j_iconst 41 C (x := nI 0) dX2_bind_40 rfl (by decide) ?_
                subst hz
                have hz : Sum.inl (nI 0, y24.2) = z12 := hz12
                subst hz
                have hz := ho12
                replace hz : Sum.inl (nI 0, y24.2) = _ := hz
                subst hz
                have hz : Sum.inl (nI 0, y24.2) = z2 := hz2
                subst hz
                have hz := ho2
                replace hz : (nI 0, y24.2) = _ := hz
                subst hz
                exact j_retI C X dX2_bind_41 (bl_nar bl_0) ⟨rfl, rfl, rfl, rfl, bl_0⟩
              · replace hz := (if_neg c_27).symm.trans hz
                refine j_aload_n 31 C dX2_bind_30 rfl rfl 0 rfl ?_
                refine j_aload_n 32 C dX2_bind_31 rfl rfl 1 rfl ?_
                refine j_iload_n 33 C dX2_bind_32 rfl rfl 2 rfl ?_
                refine j_iload_n 34 C dX2_bind_33 rfl rfl 3 rfl ?_
                obtain ⟨y34, e34, hz⟩ := ap_x hz
                refine s_V 37 C (As := [.ref (ad (11 + 2 * g)), .int (nI i2), .int (nI i12)]) cv_X2_60 (c_X2_bindStep (l := l) (D := D) (K := K) (ad := ad) hG (h_g := by omega) (a_surface := i2) (e_surface := rfl) (h_surface := by omega) (a_column := i12) (e_column := rfl) (h_column := by omega) (hz := e34)) dX2_bind_34 rfl 1 2 (GH_r hG (by decide)) rfl (CE_1 _) rfl rfl rfl rfl rfl rfl ⟨⟨Nat.le_of_ble_eq_true rfl, Nat.le_of_ble_eq_true rfl⟩, Nat.zero_le _, Nat.zero_le _⟩ (Nat.le_of_ble_eq_true rfl) (st' := [.int y34.1]) rfl (fun hE => ?_)
                refine j_ct (ct' := CT K W S ns nc ad B (sA σ (12 + 2 * g) y34.2)) (fun r _ => congrFun (congrArg (CT K W S ns nc ad B) sA_top) r) ?_
                have hbl34 : bl y34.1 := hE
                refine j_if_ne 42 40 C dX2_bind_37 rfl rfl (fun c_37 => ?_) (fun c_37 => ?_)
                · replace hz := (if_neg c_37).symm.trans hz
                  refine j_iinc 45 C (x' := nI (i12 + 1)) [(3, .int (nI (i12 + 1))), (0, .ref (ad 1)), (1, .ref (ad (11 + 2 * g))), (2, .int (nI i2))] dX2_bind_42 rfl 3 rfl (by rw [show Int32.ofInt 1 = nI 1 from by decide, nI_add]) (by decide) rfl ?_
                  refine j_goto 12 C dX2_bind_45 rfl ?_
                  subst hz
                  refine j_lv [1, 2, 3, 0] (lv' := [(0, .ref (ad 1)), (1, .ref (ad (11 + 2 * g))), (2, .int (nI i2)), (3, .int (nI (i12 + 1)))]) rfl ?_
                  have hz := ho12
                  exact ih12 (i12 + 1) y34.2 (by omega) (by omega) (by omega) hz12
                · replace hz := (if_pos c_37).symm.trans hz
                  refine j_iconst 41 C (x := nI 0) dX2_bind_40 rfl (by decide) ?_
                  subst hz
                  have hz : Sum.inl (nI 0, y34.2) = z12 := hz12
                  subst hz
                  have hz := ho12
                  replace hz : Sum.inl (nI 0, y34.2) = _ := hz
                  subst hz
                  have hz : Sum.inl (nI 0, y34.2) = z2 := hz2
                  subst hz
                  have hz := ho2
                  replace hz : (nI 0, y34.2) = _ := hz
                  subst hz
                  exact j_retI C X dX2_bind_41 (bl_nar bl_0) ⟨rfl, rfl, rfl, rfl, bl_0⟩
        refine j_lv [1, 2, 3, 0] (lv' := [(0, .ref (ad 1)), (1, .ref (ad (11 + 2 * g))), (2, .int (nI i2)), (3, .int (nI 0))]) rfl ?_
        exact L12 _ 0 c2 (by omega) (by omega) rfl ez12
  refine j_lv [1, 2, 0] (lv' := [(0, .ref (ad 1)), (1, .ref (ad (11 + 2 * g))), (2, .int (nI 0))]) rfl ?_
  refine j_ct (ct' := CT K W S ns nc ad B (sA σ (12 + 2 * g) (σ (12 + 2 * g)))) (fun r _ => congrFun (congrArg (CT K W S ns nc ad B) (sA_idr (by rfl))) r) ?_
  exact L2 _ 0 (σ (12 + 2 * g)) (by omega) (by omega) rfl ez2

def m_X6_in (W S ns nc : Nat) (B : Nat → Option Nat) (σ : Nat → Nat → Int32) (v : Int32) (low : Int32) (high : Int32) : Int32 := (if v < low then nI 0 else (if high < v then nI 0 else nI 1))
abbrev rm_X6_in : Room := { frames := 0, cells := 0, slots := 0, locals := 0 }
set_option maxHeartbeats 4000000 in
set_option maxRecDepth 100000 in
theorem c_X6_in {l : Launch} {D : va_G} {K : Nat → ClassId} {W S ns nc N : Nat} {ad : Nat → Nat} {B : Nat → Option Nat} {σ : Nat → Nat → Int32} (hG : GH W S ns nc N) {v : Int32} {low : Int32} {high : Int32}  {z : Int32} (hz : m_X6_in W S ns nc B σ v low high = z)  : MC l yX6_in cX6_in 3 (some .boolean) rm_X6_in D (TY K) N ad (CT K W S ns nc ad B σ) [.int v, .int low, .int high] (BS (some (.int z)) N ad (CT K W S ns nc ad B σ) (bl z)) := by
  have hW := hG.1; have hW8 := hG.2.1; have hS := hG.2.2.1; have hS4 := hG.2.2.2.1; have hns := hG.2.2.2.2.1; have hnc := hG.2.2.2.2.2.1; have hWS := GH_ws hG
  refine MC.of (by decide) (Nat.le_of_ble_eq_true rfl) (fun p e s m args below meth c Q A H0 C X => ?_)
  replace C : Cx p s m args meth c cX6_in RX6 3 D (TY K) A H0 := C
  show J p l e rm_X6_in s m args below meth c Q D A H0 3 0 0 N ad (CT K W S ns nc ad B σ) 0 [(0, .int v), (1, .int low), (2, .int high)] []
  unfold m_X6_in at hz
  refine j_iload_n 1 C dX6_in_0 rfl rfl 0 rfl ?_
  refine j_iload_n 2 C dX6_in_1 rfl rfl 1 rfl ?_
  refine j_ic_lt 14 5 C dX6_in_2 rfl rfl (fun c_2 => ?_) (fun c_2 => ?_)
  · replace hz := (if_pos c_2).symm.trans hz
    refine j_iconst 15 C (x := nI 0) dX6_in_14 rfl (by decide) ?_
    subst hz
    exact j_retI C X dX6_in_15 (bl_nar bl_0) ⟨rfl, rfl, rfl, rfl, bl_0⟩
  · replace hz := (if_neg c_2).symm.trans hz
    refine j_iload_n 6 C dX6_in_5 rfl rfl 0 rfl ?_
    refine j_iload_n 7 C dX6_in_6 rfl rfl 2 rfl ?_
    refine j_ic_gt 14 10 C dX6_in_7 rfl rfl (fun c_7 => ?_) (fun c_7 => ?_)
    · replace hz := (if_pos c_7).symm.trans hz
      refine j_iconst 15 C (x := nI 0) dX6_in_14 rfl (by decide) ?_
      subst hz
      exact j_retI C X dX6_in_15 (bl_nar bl_0) ⟨rfl, rfl, rfl, rfl, bl_0⟩
    · replace hz := (if_neg c_7).symm.trans hz
      refine j_iconst 11 C (x := nI 1) dX6_in_10 rfl (by decide) ?_
      refine j_goto 15 C dX6_in_11 rfl ?_
      subst hz
      exact j_retI C X dX6_in_15 (bl_nar bl_1) ⟨rfl, rfl, rfl, rfl, bl_1⟩
theorem in_hi {W S ns nc : Nat} {B : Nat → Option Nat} {σ : Nat → Nat → Int32} {v h y : Int32} {M : Nat} (e : m_X6_in W S ns nc B σ v (nI 0) h = y) (c : ¬ y = 0) (hM : h.toInt < M) : ∃ k : Nat, k < M ∧ v = nI k := by
  unfold m_X6_in at e
  by_cases h0 : v < nI 0
  · rw [if_pos h0] at e; exact absurd e.symm (by rw [nI_0]; exact c)
  rw [if_neg h0] at e
  by_cases h1 : h < v
  · rw [if_pos h1] at e; exact absurd e.symm (by rw [nI_0]; exact c)
  exact nat_le_of h0 h1 hM
def m_X6_isPlace (W S ns nc : Nat) (B : Nat → Option Nat) (σ : Nat → Nat → Int32) (surface : Int32) (column : Int32) : Int32 := ap (m_X6_in W S ns nc B σ surface (nI 0) ((nI S) - (nI 1))) (fun (y8 : Int32) => (if y8 = 0 then nI 0 else ap (m_X6_in W S ns nc B σ column (nI 0) ((nI W) - (nI 1))) (fun (y22 : Int32) => (if y22 = 0 then nI 0 else nI 1))))
abbrev rm_X6_isPlace : Room := { frames := 1, cells := 0, slots := 0, locals := 22 }
set_option maxHeartbeats 4000000 in
set_option maxRecDepth 100000 in
theorem c_X6_isPlace {l : Launch} {D : va_G} {K : Nat → ClassId} {W S ns nc N : Nat} {ad : Nat → Nat} {B : Nat → Option Nat} {σ : Nat → Nat → Int32} (hG : GH W S ns nc N) {surface : Int32} {column : Int32}  {z : Int32} (hz : m_X6_isPlace W S ns nc B σ surface column = z)  : MC l yX6_isPlace cX6_isPlace 3 (some .boolean) rm_X6_isPlace D (TY K) N ad (CT K W S ns nc ad B σ) [.ref (ad 36), .int surface, .int column] (BS (some (.int z)) N ad (CT K W S ns nc ad B σ) (bl z)) := by
  have hW := hG.1; have hW8 := hG.2.1; have hS := hG.2.2.1; have hS4 := hG.2.2.2.1; have hns := hG.2.2.2.2.1; have hnc := hG.2.2.2.2.2.1; have hWS := GH_ws hG
  refine MC.of (by decide) (Nat.le_of_ble_eq_true rfl) (fun p e s m args below meth c Q A H0 C X => ?_)
  replace C : Cx p s m args meth c cX6_isPlace RX6 3 D (TY K) A H0 := C
  show J p l e rm_X6_isPlace s m args below meth c Q D A H0 3 0 0 N ad (CT K W S ns nc ad B σ) 0 [(0, .ref (ad 36)), (1, .int surface), (2, .int column)] []
  unfold m_X6_isPlace at hz
  refine j_iload_n 1 C dX6_isPlace_0 rfl rfl 1 rfl ?_
  refine j_iconst 2 C (x := nI 0) dX6_isPlace_1 rfl (by decide) ?_
  refine j_aload_n 3 C dX6_isPlace_2 rfl rfl 0 rfl ?_
  refine k_get 6 C fl_X6_54 dX6_isPlace_3 rfl 36 (GH_r hG (by decide)) (σ 36) rfl (CE_36 _) (.int (nI S)) rfl ?_
  refine j_iconst 7 C (x := nI 1) dX6_isPlace_6 rfl (by decide) ?_
  refine j_isub 8 C dX6_isPlace_7 rfl rfl ?_
  obtain ⟨y8, e8, hz⟩ := ap_x hz
  refine s_S 11 C (As := [.int surface, .int (nI 0), .int ((nI S) - (nI 1))]) cs_X6_57 (c_X6_in (l := l) (D := D) (K := K) (ad := ad) hG  (hz := e8)) dX6_isPlace_8 rfl rfl rfl rfl rfl ⟨⟨Nat.le_of_ble_eq_true rfl, Nat.le_of_ble_eq_true rfl⟩, Nat.zero_le _, Nat.zero_le _⟩ (Nat.le_of_ble_eq_true rfl) (st' := [.int y8]) rfl (fun hE => ?_)
  have hbl8 : bl y8 := hE
  refine j_if_eq 32 14 C dX6_isPlace_11 rfl rfl (fun c_11 => ?_) (fun c_11 => ?_)
  · replace hz := (if_pos c_11).symm.trans hz
    refine j_iconst 33 C (x := nI 0) dX6_isPlace_32 rfl (by decide) ?_
    subst hz
    exact j_retI C X dX6_isPlace_33 (bl_nar bl_0) ⟨rfl, rfl, rfl, rfl, bl_0⟩
  · replace hz := (if_neg c_11).symm.trans hz
    refine j_iload_n 15 C dX6_isPlace_14 rfl rfl 2 rfl ?_
    refine j_iconst 16 C (x := nI 0) dX6_isPlace_15 rfl (by decide) ?_
    refine j_aload_n 17 C dX6_isPlace_16 rfl rfl 0 rfl ?_
    refine k_get 20 C fl_X6_50 dX6_isPlace_17 rfl 36 (GH_r hG (by decide)) (σ 36) rfl (CE_36 _) (.int (nI W)) rfl ?_
    refine j_iconst 21 C (x := nI 1) dX6_isPlace_20 rfl (by decide) ?_
    refine j_isub 22 C dX6_isPlace_21 rfl rfl ?_
    obtain ⟨y22, e22, hz⟩ := ap_x hz
    refine s_S 25 C (As := [.int column, .int (nI 0), .int ((nI W) - (nI 1))]) cs_X6_57 (c_X6_in (l := l) (D := D) (K := K) (ad := ad) hG  (hz := e22)) dX6_isPlace_22 rfl rfl rfl rfl rfl ⟨⟨Nat.le_of_ble_eq_true rfl, Nat.le_of_ble_eq_true rfl⟩, Nat.zero_le _, Nat.zero_le _⟩ (Nat.le_of_ble_eq_true rfl) (st' := [.int y22]) rfl (fun hE => ?_)
    have hbl22 : bl y22 := hE
    refine j_if_eq 32 28 C dX6_isPlace_25 rfl rfl (fun c_25 => ?_) (fun c_25 => ?_)
    · replace hz := (if_pos c_25).symm.trans hz
      refine j_iconst 33 C (x := nI 0) dX6_isPlace_32 rfl (by decide) ?_
      subst hz
      exact j_retI C X dX6_isPlace_33 (bl_nar bl_0) ⟨rfl, rfl, rfl, rfl, bl_0⟩
    · replace hz := (if_neg c_25).symm.trans hz
      refine j_iconst 29 C (x := nI 1) dX6_isPlace_28 rfl (by decide) ?_
      refine j_goto 33 C dX6_isPlace_29 rfl ?_
      subst hz
      exact j_retI C X dX6_isPlace_33 (bl_nar bl_1) ⟨rfl, rfl, rfl, rfl, bl_1⟩
theorem isPlace_nat {W S ns nc : Nat} {B : Nat → Option Nat} {σ : Nat → Nat → Int32} {N : Nat} (hG : GH W S ns nc N) {u v y : Int32} (e : m_X6_isPlace W S ns nc B σ u v = y) (c : ¬ y = 0) : ∃ k j : Nat, k < S ∧ j < W ∧ u = nI k ∧ v = nI j := by
  unfold m_X6_isPlace at e
  have hW8 := hG.2.1
  have hS4 := hG.2.2.2.1
  obtain ⟨y1, e1, e⟩ := ap_x e
  by_cases h0 : y1 = 0
  · rw [if_pos h0] at e; exact absurd e.symm (by rw [nI_0]; exact c)
  rw [if_neg h0] at e
  obtain ⟨y2, e2, e⟩ := ap_x e
  by_cases h1 : y2 = 0
  · rw [if_pos h1] at e; exact absurd e.symm (by rw [nI_0]; exact c)
  obtain ⟨k, hk, ek⟩ := in_hi (M := S) e1 h0 (by rw [sub_toInt (by omega) (by omega)]; omega)
  obtain ⟨j, hj, ej⟩ := in_hi (M := W) e2 h1 (by rw [sub_toInt (by omega) (by omega)]; omega)
  exact ⟨k, j, hk, hj, ek, ej⟩
def m_X6_node (W S ns nc : Nat) (B : Nat → Option Nat) (σ : Nat → Nat → Int32) (surface : Int32) (column : Int32) : Int32 := ((nI 8) * surface) + column
abbrev rm_X6_node : Room := { frames := 0, cells := 0, slots := 0, locals := 0 }
set_option maxHeartbeats 4000000 in
set_option maxRecDepth 100000 in
theorem c_X6_node {l : Launch} {D : va_G} {K : Nat → ClassId} {W S ns nc N : Nat} {ad : Nat → Nat} {B : Nat → Option Nat} {σ : Nat → Nat → Int32} (hG : GH W S ns nc N) {surface : Int32} {column : Int32}  {z : Int32} (hz : m_X6_node W S ns nc B σ surface column = z)  : MC l yX6_node cX6_node 2 (some .int) rm_X6_node D (TY K) N ad (CT K W S ns nc ad B σ) [.int surface, .int column] (BS (some (.int z)) N ad (CT K W S ns nc ad B σ) True) := by
  have hW := hG.1; have hW8 := hG.2.1; have hS := hG.2.2.1; have hS4 := hG.2.2.2.1; have hns := hG.2.2.2.2.1; have hnc := hG.2.2.2.2.2.1; have hWS := GH_ws hG
  refine MC.of (by decide) (Nat.le_of_ble_eq_true rfl) (fun p e s m args below meth c Q A H0 C X => ?_)
  replace C : Cx p s m args meth c cX6_node RX6 2 D (TY K) A H0 := C
  show J p l e rm_X6_node s m args below meth c Q D A H0 2 0 0 N ad (CT K W S ns nc ad B σ) 0 [(0, .int surface), (1, .int column)] []
  unfold m_X6_node at hz
  refine j_bipush 2 C (x := nI 8) dX6_node_0 rfl (by decide) ?_
  refine j_iload_n 3 C dX6_node_2 rfl rfl 0 rfl ?_
  refine j_imul 4 C dX6_node_3 rfl rfl ?_
  refine j_iload_n 5 C dX6_node_4 rfl rfl 1 rfl ?_
  refine j_iadd 6 C dX6_node_5 rfl rfl ?_
  subst hz
  exact j_retI C X dX6_node_6 rfl ⟨rfl, rfl, rfl, rfl, trivial⟩
theorem m_X6_node_n {W S ns nc : Nat} {B : Nat → Option Nat} {σ : Nat → Nat → Int32} {x y : Int32} {a b : Nat} (hx : x = nI a) (hy : y = nI b) : m_X6_node W S ns nc B σ x y = nI ((8 * a) + b) := by
  subst hx; subst hy; unfold m_X6_node; simp only [nI_add, pk_mul]
def m_X6_bounds (W S ns nc : Nat) (B : Nat → Option Nat) (σ : Nat → Nat → Int32) (one : Int32) (other : Int32) (v : Int32) : (Nat → Int32) := (if ((σ 47) (((nI 33) * one) + other).toNatClampNeg) ≤ v then (σ 47) else ap (upd (σ 47) (((nI 33) * one) + other).toNatClampNeg v) (fun (f26 : Nat → Int32) => f26))
abbrev rm_X6_bounds : Room := { frames := 0, cells := 0, slots := 0, locals := 0 }
set_option maxHeartbeats 4000000 in
set_option maxRecDepth 100000 in
theorem c_X6_bounds {l : Launch} {D : va_G} {K : Nat → ClassId} {W S ns nc N : Nat} {ad : Nat → Nat} {B : Nat → Option Nat} {σ : Nat → Nat → Int32} (hG : GH W S ns nc N) {one : Int32} {a_one : Nat} {other : Int32} {a_other : Nat} {v : Int32} (e_one : one = nI a_one) (h_one : a_one < 33) (e_other : other = nI a_other) (h_other : a_other < 33) {z : (Nat → Int32)} (hz : m_X6_bounds W S ns nc B σ one other v = z)  : MC l yX6_bounds cX6_bounds 4 none rm_X6_bounds D (TY K) N ad (CT K W S ns nc ad B σ) [.ref (ad 36), .int one, .int other, .int v] (BS none N ad (CT K W S ns nc ad B (sA σ 47 z)) True) := by
  have hW := hG.1; have hW8 := hG.2.1; have hS := hG.2.2.1; have hS4 := hG.2.2.2.1; have hns := hG.2.2.2.2.1; have hnc := hG.2.2.2.2.2.1; have hWS := GH_ws hG
  subst e_one
  subst e_other
  refine MC.of (by decide) (Nat.le_of_ble_eq_true rfl) (fun p e s m args below meth c Q A H0 C X => ?_)
  replace C : Cx p s m args meth c cX6_bounds RX6 4 D (TY K) A H0 := C
  show J p l e rm_X6_bounds s m args below meth c Q D A H0 4 0 0 N ad (CT K W S ns nc ad B σ) 0 [(0, .ref (ad 36)), (1, .int (nI a_one)), (2, .int (nI a_other)), (3, .int v)] []
  unfold m_X6_bounds at hz
  refine j_iload_n 1 C dX6_bounds_0 rfl rfl 3 rfl ?_
  refine j_aload_n 2 C dX6_bounds_1 rfl rfl 0 rfl ?_
  refine k_get 5 C fl_X6_41 dX6_bounds_2 rfl 36 (GH_r hG (by decide)) (σ 36) rfl (CE_36 _) (.ref (ad 47)) rfl ?_
  refine j_bipush 7 C (x := nI 33) dX6_bounds_5 rfl (by decide) ?_
  refine j_iload_n 8 C dX6_bounds_7 rfl rfl 1 rfl ?_
  refine j_imul 9 C dX6_bounds_8 rfl rfl ?_
  refine j_iload_n 10 C dX6_bounds_9 rfl rfl 2 rfl ?_
  refine j_iadd 11 C dX6_bounds_10 rfl rfl ?_
  refine k_iald 12 C dX6_bounds_11 rfl 47 (GH_r hG (by decide)) (σ 47) rfl CE_47 (vp_inE (n := ((33 * a_one) + a_other)) (by simp only [nI_add, pk_mul]) (by omega) (by omega)) ?_
  refine j_ic_ge 27 15 C dX6_bounds_12 rfl rfl (fun c_12 => ?_) (fun c_12 => ?_)
  · replace hz := (if_pos c_12).symm.trans hz
    subst hz
    exact j_retV C X dX6_bounds_27 ⟨rfl, rfl, rfl, (congrArg _ sA_id.symm), trivial⟩
  · replace hz := (if_neg c_12).symm.trans hz
    refine j_aload_n 16 C dX6_bounds_15 rfl rfl 0 rfl ?_
    refine k_get 19 C fl_X6_41 dX6_bounds_16 rfl 36 (GH_r hG (by decide)) (σ 36) rfl (CE_36 _) (.ref (ad 47)) rfl ?_
    refine j_bipush 21 C (x := nI 33) dX6_bounds_19 rfl (by decide) ?_
    refine j_iload_n 22 C dX6_bounds_21 rfl rfl 1 rfl ?_
    refine j_imul 23 C dX6_bounds_22 rfl rfl ?_
    refine j_iload_n 24 C dX6_bounds_23 rfl rfl 2 rfl ?_
    refine j_iadd 25 C dX6_bounds_24 rfl rfl ?_
    refine j_iload_n 26 C dX6_bounds_25 rfl rfl 3 rfl ?_
    refine k_iast 27 C dX6_bounds_26 rfl 47 (GH_r hG (by decide)) (σ 47) rfl CE_47 (vp_inE (n := ((33 * a_one) + a_other)) (by simp only [nI_add, pk_mul]) (by omega) (by omega)) (sA σ 47 (upd (σ 47) (((nI 33) * (nI a_one)) + (nI a_other)).toNatClampNeg v)) rfl ?_
    obtain ⟨f26, e26, hz⟩ := ap_x hz
    rw [e26]
    subst hz
    exact j_retV C X dX6_bounds_27 ⟨rfl, rfl, rfl, rfl, trivial⟩
def m_X6_within (W S ns nc : Nat) (B : Nat → Option Nat) (σ : Nat → Nat → Int32) (one : Int32) (other : Int32) (v : Int32) (by_ : Int32) : (Nat → Int32) := ap (m_X6_bounds W S ns nc B σ one other (v + by_)) (fun (y7 : (Nat → Int32)) => ap (m_X6_bounds W S ns nc B (sA σ 47 y7) other one (by_ - v)) (fun (y17 : (Nat → Int32)) => y17))
abbrev rm_X6_within : Room := { frames := 1, cells := 0, slots := 0, locals := 23 }
set_option maxHeartbeats 4000000 in
set_option maxRecDepth 100000 in
theorem c_X6_within {l : Launch} {D : va_G} {K : Nat → ClassId} {W S ns nc N : Nat} {ad : Nat → Nat} {B : Nat → Option Nat} {σ : Nat → Nat → Int32} (hG : GH W S ns nc N) {one : Int32} {a_one : Nat} {other : Int32} {a_other : Nat} {v : Int32} {by_ : Int32} (e_one : one = nI a_one) (h_one : a_one < 33) (e_other : other = nI a_other) (h_other : a_other < 33) {z : (Nat → Int32)} (hz : m_X6_within W S ns nc B σ one other v by_ = z)  : MC l yX6_within cX6_within 5 none rm_X6_within D (TY K) N ad (CT K W S ns nc ad B σ) [.ref (ad 36), .int one, .int other, .int v, .int by_] (BS none N ad (CT K W S ns nc ad B (sA σ 47 z)) True) := by
  have hW := hG.1; have hW8 := hG.2.1; have hS := hG.2.2.1; have hS4 := hG.2.2.2.1; have hns := hG.2.2.2.2.1; have hnc := hG.2.2.2.2.2.1; have hWS := GH_ws hG
  subst e_one
  subst e_other
  refine MC.of (by decide) (Nat.le_of_ble_eq_true rfl) (fun p e s m args below meth c Q A H0 C X => ?_)
  replace C : Cx p s m args meth c cX6_within RX6 5 D (TY K) A H0 := C
  show J p l e rm_X6_within s m args below meth c Q D A H0 5 0 0 N ad (CT K W S ns nc ad B σ) 0 [(0, .ref (ad 36)), (1, .int (nI a_one)), (2, .int (nI a_other)), (3, .int v), (4, .int by_)] []
  unfold m_X6_within at hz
  refine j_aload_n 1 C dX6_within_0 rfl rfl 0 rfl ?_
  refine j_iload_n 2 C dX6_within_1 rfl rfl 1 rfl ?_
  refine j_iload_n 3 C dX6_within_2 rfl rfl 2 rfl ?_
  refine j_iload_n 4 C dX6_within_3 rfl rfl 3 rfl ?_
  refine j_iload 6 C dX6_within_4 rfl 4 rfl ?_
  refine j_iadd 7 C dX6_within_6 rfl rfl ?_
  obtain ⟨y7, e7, hz⟩ := ap_x hz
  refine s_V 10 C (As := [.int (nI a_one), .int (nI a_other), .int (v + by_)]) cv_X6_76 (c_X6_bounds (l := l) (D := D) (K := K) (ad := ad) hG (a_one := a_one) (e_one := rfl) (h_one := by omega) (a_other := a_other) (e_other := rfl) (h_other := by omega) (hz := e7)) dX6_within_7 rfl 36 6 (GH_r hG (by decide)) rfl (CE_36 _) rfl rfl rfl rfl rfl rfl ⟨⟨Nat.le_of_ble_eq_true rfl, Nat.le_of_ble_eq_true rfl⟩, Nat.zero_le _, Nat.zero_le _⟩ (Nat.le_of_ble_eq_true rfl) (st' := []) rfl (fun hE => ?_)
  refine j_aload_n 11 C dX6_within_10 rfl rfl 0 rfl ?_
  refine j_iload_n 12 C dX6_within_11 rfl rfl 2 rfl ?_
  refine j_iload_n 13 C dX6_within_12 rfl rfl 1 rfl ?_
  refine j_iload 15 C dX6_within_13 rfl 4 rfl ?_
  refine j_iload_n 16 C dX6_within_15 rfl rfl 3 rfl ?_
  refine j_isub 17 C dX6_within_16 rfl rfl ?_
  obtain ⟨y17, e17, hz⟩ := ap_x hz
  refine s_V 20 C (As := [.int (nI a_other), .int (nI a_one), .int (by_ - v)]) cv_X6_76 (c_X6_bounds (l := l) (D := D) (K := K) (ad := ad) hG (a_one := a_other) (e_one := rfl) (h_one := by omega) (a_other := a_one) (e_other := rfl) (h_other := by omega) (hz := e17)) dX6_within_17 rfl 36 6 (GH_r hG (by decide)) rfl (CE_36 _) rfl rfl rfl rfl rfl rfl ⟨⟨Nat.le_of_ble_eq_true rfl, Nat.le_of_ble_eq_true rfl⟩, Nat.zero_le _, Nat.zero_le _⟩ (Nat.le_of_ble_eq_true rfl) (st' := []) rfl (fun hE => ?_)
  refine j_ct (ct' := CT K W S ns nc ad B (sA σ 47 y17)) (fun r _ => congrFun (congrArg (CT K W S ns nc ad B) sA_top) r) ?_
  subst hz
  exact j_retV C X dX6_within_20 ⟨rfl, rfl, rfl, rfl, trivial⟩
def m_X6_adds_L72 (W S ns nc : Nat) (B : Nat → Option Nat) (σ : Nat → Nat → Int32) (other : Int32) (v : Int32) (i38 : Nat) (x57 : Int32) (i72 : Nat) (c72 : (Nat → Int32)) : (Nat → Int32) := (if (nI 50000) ≤ (c72 (((nI 33) * other) + (nI i72)).toNatClampNeg) then c72 else ap (m_X6_bounds W S ns nc B (sA σ 47 c72) (nI i38) (nI i72) ((x57 + v) + (c72 (((nI 33) * other) + (nI i72)).toNatClampNeg))) (fun (y118 : (Nat → Int32)) => y118))
def m_X6_adds_L38 (W S ns nc : Nat) (B : Nat → Option Nat) (σ : Nat → Nat → Int32) (one : Int32) (other : Int32) (v : Int32) (i38 : Nat) (c38 : (Nat → Int32)) : (Nat → Int32) := ap (c38 (((nI 33) * (nI i38)) + one).toNatClampNeg) (fun (x57 : Int32) => (if x57 < (nI 50000) then ap (lp (m_X6_adds_L72 W S ns nc B σ other v i38 x57) (33 - 0) 0 c38) (fun (z72 : (Nat → Int32)) => z72) else c38))
def m_X6_adds (W S ns nc : Nat) (B : Nat → Option Nat) (σ : Nat → Nat → Int32) (one : Int32) (other : Int32) (v : Int32) : Int32 × (Nat → Int32) := (if v < ((σ 47) (((nI 33) * one) + other).toNatClampNeg) then (if 0 ≤ (((σ 47) (((nI 33) * other) + one).toNatClampNeg) + v) then ap (lp (m_X6_adds_L38 W S ns nc B σ one other v) (33 - 0) 0 (σ 47)) (fun (z38 : (Nat → Int32)) => (nI 1, z38)) else (nI 0, (σ 47))) else (nI 1, (σ 47)))
abbrev rm_X6_adds : Room := { frames := 1, cells := 0, slots := 0, locals := 23 }
set_option maxHeartbeats 4000000 in
set_option maxRecDepth 100000 in
theorem c_X6_adds {l : Launch} {D : va_G} {K : Nat → ClassId} {W S ns nc N : Nat} {ad : Nat → Nat} {B : Nat → Option Nat} {σ : Nat → Nat → Int32} (hG : GH W S ns nc N) {one : Int32} {a_one : Nat} {other : Int32} {a_other : Nat} {v : Int32} (e_one : one = nI a_one) (h_one : a_one < 33) (e_other : other = nI a_other) (h_other : a_other < 33) {z : Int32 × (Nat → Int32)} (hz : m_X6_adds W S ns nc B σ one other v = z)  : MC l yX6_adds cX6_adds 7 (some .boolean) rm_X6_adds D (TY K) N ad (CT K W S ns nc ad B σ) [.ref (ad 36), .int one, .int other, .int v] (BS (some (.int z.1)) N ad (CT K W S ns nc ad B (sA σ 47 z.2)) (bl z.1)) := by
  have hW := hG.1; have hW8 := hG.2.1; have hS := hG.2.2.1; have hS4 := hG.2.2.2.1; have hns := hG.2.2.2.2.1; have hnc := hG.2.2.2.2.2.1; have hWS := GH_ws hG
  subst e_one
  subst e_other
  refine MC.of (by decide) (Nat.le_of_ble_eq_true rfl) (fun p e s m args below meth c Q A H0 C X => ?_)
  replace C : Cx p s m args meth c cX6_adds RX6 7 D (TY K) A H0 := C
  show J p l e rm_X6_adds s m args below meth c Q D A H0 7 0 0 N ad (CT K W S ns nc ad B σ) 0 [(0, .ref (ad 36)), (1, .int (nI a_one)), (2, .int (nI a_other)), (3, .int v)] []
  unfold m_X6_adds at hz
  refine j_aload_n 1 C dX6_adds_0 rfl rfl 0 rfl ?_
  refine k_get 4 C fl_X6_41 dX6_adds_1 rfl 36 (GH_r hG (by decide)) (σ 36) rfl (CE_36 _) (.ref (ad 47)) rfl ?_
  refine j_bipush 6 C (x := nI 33) dX6_adds_4 rfl (by decide) ?_
  refine j_iload_n 7 C dX6_adds_6 rfl rfl 1 rfl ?_
  refine j_imul 8 C dX6_adds_7 rfl rfl ?_
  refine j_iload_n 9 C dX6_adds_8 rfl rfl 2 rfl ?_
  refine j_iadd 10 C dX6_adds_9 rfl rfl ?_
  refine k_iald 11 C dX6_adds_10 rfl 47 (GH_r hG (by decide)) (σ 47) rfl CE_47 (vp_inE (n := ((33 * a_one) + a_other)) (by simp only [nI_add, pk_mul]) (by omega) (by omega)) ?_
  refine j_iload_n 12 C dX6_adds_11 rfl rfl 3 rfl ?_
  refine j_ic_gt 17 15 C dX6_adds_12 rfl rfl (fun c_12 => ?_) (fun c_12 => ?_)
  · replace hz := (if_pos c_12).symm.trans hz
    refine j_aload_n 18 C dX6_adds_17 rfl rfl 0 rfl ?_
    refine k_get 21 C fl_X6_41 dX6_adds_18 rfl 36 (GH_r hG (by decide)) (σ 36) rfl (CE_36 _) (.ref (ad 47)) rfl ?_
    refine j_bipush 23 C (x := nI 33) dX6_adds_21 rfl (by decide) ?_
    refine j_iload_n 24 C dX6_adds_23 rfl rfl 2 rfl ?_
    refine j_imul 25 C dX6_adds_24 rfl rfl ?_
    refine j_iload_n 26 C dX6_adds_25 rfl rfl 1 rfl ?_
    refine j_iadd 27 C dX6_adds_26 rfl rfl ?_
    refine k_iald 28 C dX6_adds_27 rfl 47 (GH_r hG (by decide)) (σ 47) rfl CE_47 (vp_inE (n := ((33 * a_other) + a_one)) (by simp only [nI_add, pk_mul]) (by omega) (by omega)) ?_
    refine j_iload_n 29 C dX6_adds_28 rfl rfl 3 rfl ?_
    refine j_iadd 30 C dX6_adds_29 rfl rfl ?_
    refine j_if_ge 35 33 C dX6_adds_30 rfl rfl (fun c_30 => ?_) (fun c_30 => ?_)
    · replace hz := (if_pos c_30).symm.trans hz
      refine j_iconst 36 C (x := nI 0) dX6_adds_35 rfl (by decide) ?_
      refine j_istore 38 C [(4, .int (nI 0)), (0, .ref (ad 36)), (1, .int (nI a_one)), (2, .int (nI a_other)), (3, .int v)] dX6_adds_36 rfl (by decide) rfl ?_
      skip
      obtain ⟨z38, ez38, hz⟩ := ap_x hz
      have L38 : ∀ (n38 i38 : Nat) (c38 : (Nat → Int32)), 0 ≤ i38 → i38 < 5000 → n38 = 33 - i38 → lp (m_X6_adds_L38 W S ns nc B σ (nI a_one) (nI a_other) v) n38 i38 c38 = z38 → J p l e rm_X6_adds s m args below meth c Q D A H0 7 0 0 N ad (CT K W S ns nc ad B (sA σ 47 c38)) 38 [(0, .ref (ad 36)), (1, .int (nI a_one)), (2, .int (nI a_other)), (3, .int v), (4, .int (nI i38))] [] := by
        intro n38
        induction n38 with
        | zero =>
          intro i38 c38 hl38 hi38 hn38 hz38
          refine j_iload 40 C dX6_adds_38 rfl 4 rfl ?_
          refine j_bipush 42 C (x := nI 33) dX6_adds_40 rfl (by decide) ?_
          refine j_ic_ge 133 45 C dX6_adds_42 rfl rfl (fun c_42 => ?_) (fun c_42 => ?_)
          · skip
            have n_42 := nat_le (a := 33) (b := i38) rfl rfl (by omega) (by omega) c_42
            have hq38 : c38 = z38 := hz38
            subst hq38
            refine j_iconst 134 C (x := nI 1) dX6_adds_133 rfl (by decide) ?_
            subst hz
            exact j_retI C X dX6_adds_134 (bl_nar bl_1) ⟨rfl, rfl, rfl, rfl, bl_1⟩
          · exfalso
            have n_42 := nat_nle (a := 33) (b := i38) rfl rfl (by omega) (by omega) c_42
            omega
        | succ n38 ih38 =>
          intro i38 c38 hl38 hi38 hn38 hz38
          refine j_iload 40 C dX6_adds_38 rfl 4 rfl ?_
          refine j_bipush 42 C (x := nI 33) dX6_adds_40 rfl (by decide) ?_
          refine j_ic_ge 133 45 C dX6_adds_42 rfl rfl (fun c_42 => ?_) (fun c_42 => ?_)
          · exfalso
            have n_42 := nat_le (a := 33) (b := i38) rfl rfl (by omega) (by omega) c_42
            omega
          · skip
            have n_42 := nat_nle (a := 33) (b := i38) rfl rfl (by omega) (by omega) c_42
            obtain ⟨w38, hw38, hz38⟩ := lp_s hz38
            have ho38 := hz
            clear hz
            have hz := hw38
            clear hw38
            unfold m_X6_adds_L38 at hz
            refine j_aload_n 46 C dX6_adds_45 rfl rfl 0 rfl ?_
            refine k_get 49 C fl_X6_41 dX6_adds_46 rfl 36 (GH_r hG (by decide)) (σ 36) (by rfl) (CE_36 _) (.ref (ad 47)) rfl ?_
            refine j_bipush 51 C (x := nI 33) dX6_adds_49 rfl (by decide) ?_
            refine j_iload 53 C dX6_adds_51 rfl 4 rfl ?_
            refine j_imul 54 C dX6_adds_53 rfl rfl ?_
            refine j_iload_n 55 C dX6_adds_54 rfl rfl 1 rfl ?_
            refine j_iadd 56 C dX6_adds_55 rfl rfl ?_
            refine k_iald 57 C dX6_adds_56 rfl 47 (GH_r hG (by decide)) c38 rfl CE_47 (vp_inE (n := ((33 * i38) + a_one)) (by simp only [nI_add, pk_mul]) (by omega) (by omega)) ?_
            obtain ⟨x57, e57, hz⟩ := ap_x hz
            refine j_st (st' := [.int x57]) (by rw [← e57]) ?_
            refine j_istore 59 C [(5, .int x57), (0, .ref (ad 36)), (1, .int (nI a_one)), (2, .int (nI a_other)), (3, .int v), (4, .int (nI i38))] dX6_adds_57 rfl (by decide) rfl ?_
            refine j_iload 61 C dX6_adds_59 rfl 0 rfl ?_
            refine j_ldc 63 C (x' := nI 50000) wv_X6_89 dX6_adds_61 rfl (by decide) ?_
            refine j_ic_lt 69 66 C dX6_adds_63 rfl rfl (fun c_63 => ?_) (fun c_63 => ?_)
            · replace hz := (if_pos c_63).symm.trans hz
              refine j_iconst 70 C (x := nI 0) dX6_adds_69 rfl (by decide) ?_
              refine j_istore 72 C [(6, .int (nI 0)), (5, .int x57), (0, .ref (ad 36)), (1, .int (nI a_one)), (2, .int (nI a_other)), (3, .int v), (4, .int (nI i38))] dX6_adds_70 rfl (by decide) rfl ?_
              skip
              obtain ⟨z72, ez72, hz⟩ := ap_x hz
              have L72 : ∀ (n72 i72 : Nat) (c72 : (Nat → Int32)), 0 ≤ i72 → i72 < 5000 → n72 = 33 - i72 → lp (m_X6_adds_L72 W S ns nc B σ (nI a_other) v i38 x57) n72 i72 c72 = z72 → J p l e rm_X6_adds s m args below meth c Q D A H0 7 0 0 N ad (CT K W S ns nc ad B (sA σ 47 c72)) 72 [(0, .ref (ad 36)), (1, .int (nI a_one)), (2, .int (nI a_other)), (3, .int v), (4, .int (nI i38)), (5, .int x57), (6, .int (nI i72))] [] := by
                intro n72
                induction n72 with
                | zero =>
                  intro i72 c72 hl72 hi72 hn72 hz72
                  refine j_iload 74 C dX6_adds_72 rfl 6 rfl ?_
                  refine j_bipush 76 C (x := nI 33) dX6_adds_74 rfl (by decide) ?_
                  refine j_ic_ge 127 79 C dX6_adds_76 rfl rfl (fun c_76 => ?_) (fun c_76 => ?_)
                  · skip
                    have n_76 := nat_le (a := 33) (b := i72) rfl rfl (by omega) (by omega) c_76
                    have hq72 : c72 = z72 := hz72
                    subst hq72
                    refine j_iinc 130 C (x' := nI (i38 + 1)) [(4, .int (nI (i38 + 1))), (0, .ref (ad 36)), (1, .int (nI a_one)), (2, .int (nI a_other)), (3, .int v), (5, .int x57), (6, .int (nI i72))] dX6_adds_127 rfl 4 rfl (by rw [show Int32.ofInt 1 = nI 1 from by decide, nI_add]) (by decide) rfl ?_
                    refine j_goto 38 C dX6_adds_130 rfl ?_
                    subst hz
                    refine j_lv [1, 2, 3, 4, 0] (lv' := [(0, .ref (ad 36)), (1, .int (nI a_one)), (2, .int (nI a_other)), (3, .int v), (4, .int (nI (i38 + 1)))]) rfl ?_
                    have hz := ho38
                    exact ih38 (i38 + 1) c72 (by omega) (by omega) (by omega) hz38
                  · exfalso
                    have n_76 := nat_nle (a := 33) (b := i72) rfl rfl (by omega) (by omega) c_76
                    omega
                | succ n72 ih72 =>
                  intro i72 c72 hl72 hi72 hn72 hz72
                  refine j_iload 74 C dX6_adds_72 rfl 6 rfl ?_
                  refine j_bipush 76 C (x := nI 33) dX6_adds_74 rfl (by decide) ?_
                  refine j_ic_ge 127 79 C dX6_adds_76 rfl rfl (fun c_76 => ?_) (fun c_76 => ?_)
                  · exfalso
                    have n_76 := nat_le (a := 33) (b := i72) rfl rfl (by omega) (by omega) c_76
                    omega
                  · skip
                    have n_76 := nat_nle (a := 33) (b := i72) rfl rfl (by omega) (by omega) c_76
                    obtain ⟨w72, hw72, hz72⟩ := lp_s hz72
                    have ho72 := hz
                    clear hz
                    have hz := hw72
                    clear hw72
                    unfold m_X6_adds_L72 at hz
                    refine j_aload_n 80 C dX6_adds_79 rfl rfl 0 rfl ?_
                    refine k_get 83 C fl_X6_41 dX6_adds_80 rfl 36 (GH_r hG (by decide)) (σ 36) (by rfl) (CE_36 _) (.ref (ad 47)) rfl ?_
                    refine j_bipush 85 C (x := nI 33) dX6_adds_83 rfl (by decide) ?_
                    refine j_iload_n 86 C dX6_adds_85 rfl rfl 2 rfl ?_
                    refine j_imul 87 C dX6_adds_86 rfl rfl ?_
                    refine j_iload 89 C dX6_adds_87 rfl 6 rfl ?_
                    refine j_iadd 90 C dX6_adds_89 rfl rfl ?_
                    refine k_iald 91 C dX6_adds_90 rfl 47 (GH_r hG (by decide)) c72 rfl CE_47 (vp_inE (n := ((33 * a_other) + i72)) (by simp only [nI_add, pk_mul]) (by omega) (by omega)) ?_
                    refine j_ldc 93 C (x' := nI 50000) wv_X6_89 dX6_adds_91 rfl (by decide) ?_
                    refine j_ic_ge 121 96 C dX6_adds_93 rfl rfl (fun c_93 => ?_) (fun c_93 => ?_)
                    · replace hz := (if_pos c_93).symm.trans hz
                      refine j_iinc 124 C (x' := nI (i72 + 1)) [(6, .int (nI (i72 + 1))), (0, .ref (ad 36)), (1, .int (nI a_one)), (2, .int (nI a_other)), (3, .int v), (4, .int (nI i38)), (5, .int x57)] dX6_adds_121 rfl 6 rfl (by rw [show Int32.ofInt 1 = nI 1 from by decide, nI_add]) (by decide) rfl ?_
                      refine j_goto 72 C dX6_adds_124 rfl ?_
                      subst hz
                      refine j_lv [1, 2, 3, 4, 5, 6, 0] (lv' := [(0, .ref (ad 36)), (1, .int (nI a_one)), (2, .int (nI a_other)), (3, .int v), (4, .int (nI i38)), (5, .int x57), (6, .int (nI (i72 + 1)))]) rfl ?_
                      have hz := ho72
                      exact ih72 (i72 + 1) c72 (by omega) (by omega) (by omega) hz72
                    · replace hz := (if_neg c_93).symm.trans hz
                      refine j_aload_n 97 C dX6_adds_96 rfl rfl 0 rfl ?_
                      refine j_iload 99 C dX6_adds_97 rfl 4 rfl ?_
                      refine j_iload 101 C dX6_adds_99 rfl 6 rfl ?_
                      refine j_iload 103 C dX6_adds_101 rfl 5 rfl ?_
                      refine j_iload_n 104 C dX6_adds_103 rfl rfl 3 rfl ?_
                      refine j_iadd 105 C dX6_adds_104 rfl rfl ?_
                      refine j_aload_n 106 C dX6_adds_105 rfl rfl 0 rfl ?_
                      refine k_get 109 C fl_X6_41 dX6_adds_106 rfl 36 (GH_r hG (by decide)) (σ 36) (by rfl) (CE_36 _) (.ref (ad 47)) rfl ?_
                      refine j_bipush 111 C (x := nI 33) dX6_adds_109 rfl (by decide) ?_
                      refine j_iload_n 112 C dX6_adds_111 rfl rfl 2 rfl ?_
                      refine j_imul 113 C dX6_adds_112 rfl rfl ?_
                      refine j_iload 115 C dX6_adds_113 rfl 6 rfl ?_
                      refine j_iadd 116 C dX6_adds_115 rfl rfl ?_
                      refine k_iald 117 C dX6_adds_116 rfl 47 (GH_r hG (by decide)) c72 rfl CE_47 (vp_inE (n := ((33 * a_other) + i72)) (by simp only [nI_add, pk_mul]) (by omega) (by omega)) ?_
                      refine j_iadd 118 C dX6_adds_117 rfl rfl ?_
                      obtain ⟨y118, e118, hz⟩ := ap_x hz
                      refine s_V 121 C (As := [.int (nI i38), .int (nI i72), .int ((x57 + v) + (c72 (((nI 33) * (nI a_other)) + (nI i72)).toNatClampNeg))]) cv_X6_76 (c_X6_bounds (l := l) (D := D) (K := K) (ad := ad) hG (a_one := i38) (e_one := rfl) (h_one := by omega) (a_other := i72) (e_other := rfl) (h_other := by omega) (hz := e118)) dX6_adds_118 rfl 36 6 (GH_r hG (by decide)) rfl (CE_36 _) rfl rfl rfl rfl rfl rfl ⟨⟨Nat.le_of_ble_eq_true rfl, Nat.le_of_ble_eq_true rfl⟩, Nat.zero_le _, Nat.zero_le _⟩ (Nat.le_of_ble_eq_true rfl) (st' := []) rfl (fun hE => ?_)
                      refine j_ct (ct' := CT K W S ns nc ad B (sA σ 47 y118)) (fun r _ => congrFun (congrArg (CT K W S ns nc ad B) sA_top) r) ?_
                      refine j_iinc 124 C (x' := nI (i72 + 1)) [(6, .int (nI (i72 + 1))), (0, .ref (ad 36)), (1, .int (nI a_one)), (2, .int (nI a_other)), (3, .int v), (4, .int (nI i38)), (5, .int x57)] dX6_adds_121 rfl 6 rfl (by rw [show Int32.ofInt 1 = nI 1 from by decide, nI_add]) (by decide) rfl ?_
                      refine j_goto 72 C dX6_adds_124 rfl ?_
                      subst hz
                      refine j_lv [1, 2, 3, 4, 5, 6, 0] (lv' := [(0, .ref (ad 36)), (1, .int (nI a_one)), (2, .int (nI a_other)), (3, .int v), (4, .int (nI i38)), (5, .int x57), (6, .int (nI (i72 + 1)))]) rfl ?_
                      have hz := ho72
                      exact ih72 (i72 + 1) y118 (by omega) (by omega) (by omega) hz72
              refine j_lv [2, 3, 4, 5, 6, 1, 0] (lv' := [(0, .ref (ad 36)), (1, .int (nI a_one)), (2, .int (nI a_other)), (3, .int v), (4, .int (nI i38)), (5, .int x57), (6, .int (nI 0))]) rfl ?_
              exact L72 _ 0 c38 (by omega) (by omega) rfl ez72
            · replace hz := (if_neg c_63).symm.trans hz
              refine j_goto 127 C dX6_adds_66 rfl ?_
              refine j_iinc 130 C (x' := nI (i38 + 1)) [(4, .int (nI (i38 + 1))), (5, .int x57), (0, .ref (ad 36)), (1, .int (nI a_one)), (2, .int (nI a_other)), (3, .int v)] dX6_adds_127 rfl 5 rfl (by rw [show Int32.ofInt 1 = nI 1 from by decide, nI_add]) (by decide) rfl ?_
              refine j_goto 38 C dX6_adds_130 rfl ?_
              subst hz
              refine j_lv [2, 3, 4, 5, 0] (lv' := [(0, .ref (ad 36)), (1, .int (nI a_one)), (2, .int (nI a_other)), (3, .int v), (4, .int (nI (i38 + 1)))]) rfl ?_
              have hz := ho38
              exact ih38 (i38 + 1) c38 (by omega) (by omega) (by omega) hz38
      refine j_lv [1, 2, 3, 4, 0] (lv' := [(0, .ref (ad 36)), (1, .int (nI a_one)), (2, .int (nI a_other)), (3, .int v), (4, .int (nI 0))]) rfl ?_
      refine j_ct (ct' := CT K W S ns nc ad B (sA σ 47 (σ 47))) (fun r _ => congrFun (congrArg (CT K W S ns nc ad B) (sA_idr (by rfl))) r) ?_
      exact L38 _ 0 (σ 47) (by omega) (by omega) rfl ez38
    · replace hz := (if_neg c_30).symm.trans hz
      refine j_iconst 34 C (x := nI 0) dX6_adds_33 rfl (by decide) ?_
      subst hz
      exact j_retI C X dX6_adds_34 (bl_nar bl_0) ⟨rfl, rfl, rfl, (congrArg _ sA_id.symm), bl_0⟩
  · replace hz := (if_neg c_12).symm.trans hz
    refine j_iconst 16 C (x := nI 1) dX6_adds_15 rfl (by decide) ?_
    subst hz
    exact j_retI C X dX6_adds_16 (bl_nar bl_1) ⟨rfl, rfl, rfl, (congrArg _ sA_id.symm), bl_1⟩
def m_X6_addsWithin (W S ns nc : Nat) (B : Nat → Option Nat) (σ : Nat → Nat → Int32) (one : Int32) (other : Int32) (v : Int32) (by_ : Int32) : Int32 × (Nat → Int32) := ap (m_X6_adds W S ns nc B σ one other (v + by_)) (fun (y7 : Int32 × (Nat → Int32)) => (if y7.1 = 0 then (nI 0, y7.2) else ap (m_X6_adds W S ns nc B (sA σ 47 y7.2) other one (by_ - v)) (fun (y20 : Int32 × (Nat → Int32)) => (if y20.1 = 0 then (nI 0, y20.2) else (nI 1, y20.2)))))
abbrev rm_X6_addsWithin : Room := { frames := 2, cells := 0, slots := 0, locals := 49 }
set_option maxHeartbeats 4000000 in
set_option maxRecDepth 100000 in
theorem c_X6_addsWithin {l : Launch} {D : va_G} {K : Nat → ClassId} {W S ns nc N : Nat} {ad : Nat → Nat} {B : Nat → Option Nat} {σ : Nat → Nat → Int32} (hG : GH W S ns nc N) {one : Int32} {a_one : Nat} {other : Int32} {a_other : Nat} {v : Int32} {by_ : Int32} (e_one : one = nI a_one) (h_one : a_one < 33) (e_other : other = nI a_other) (h_other : a_other < 33) {z : Int32 × (Nat → Int32)} (hz : m_X6_addsWithin W S ns nc B σ one other v by_ = z)  : MC l yX6_addsWithin cX6_addsWithin 5 (some .boolean) rm_X6_addsWithin D (TY K) N ad (CT K W S ns nc ad B σ) [.ref (ad 36), .int one, .int other, .int v, .int by_] (BS (some (.int z.1)) N ad (CT K W S ns nc ad B (sA σ 47 z.2)) (bl z.1)) := by
  have hW := hG.1; have hW8 := hG.2.1; have hS := hG.2.2.1; have hS4 := hG.2.2.2.1; have hns := hG.2.2.2.2.1; have hnc := hG.2.2.2.2.2.1; have hWS := GH_ws hG
  subst e_one
  subst e_other
  refine MC.of (by decide) (Nat.le_of_ble_eq_true rfl) (fun p e s m args below meth c Q A H0 C X => ?_)
  replace C : Cx p s m args meth c cX6_addsWithin RX6 5 D (TY K) A H0 := C
  show J p l e rm_X6_addsWithin s m args below meth c Q D A H0 5 0 0 N ad (CT K W S ns nc ad B σ) 0 [(0, .ref (ad 36)), (1, .int (nI a_one)), (2, .int (nI a_other)), (3, .int v), (4, .int by_)] []
  unfold m_X6_addsWithin at hz
  refine j_aload_n 1 C dX6_addsWithin_0 rfl rfl 0 rfl ?_
  refine j_iload_n 2 C dX6_addsWithin_1 rfl rfl 1 rfl ?_
  refine j_iload_n 3 C dX6_addsWithin_2 rfl rfl 2 rfl ?_
  refine j_iload_n 4 C dX6_addsWithin_3 rfl rfl 3 rfl ?_
  refine j_iload 6 C dX6_addsWithin_4 rfl 4 rfl ?_
  refine j_iadd 7 C dX6_addsWithin_6 rfl rfl ?_
  obtain ⟨y7, e7, hz⟩ := ap_x hz
  refine s_V 10 C (As := [.int (nI a_one), .int (nI a_other), .int (v + by_)]) cv_X6_90 (c_X6_adds (l := l) (D := D) (K := K) (ad := ad) hG (a_one := a_one) (e_one := rfl) (h_one := by omega) (a_other := a_other) (e_other := rfl) (h_other := by omega) (hz := e7)) dX6_addsWithin_7 rfl 36 6 (GH_r hG (by decide)) rfl (CE_36 _) rfl rfl rfl rfl rfl rfl ⟨⟨Nat.le_of_ble_eq_true rfl, Nat.le_of_ble_eq_true rfl⟩, Nat.zero_le _, Nat.zero_le _⟩ (Nat.le_of_ble_eq_true rfl) (st' := [.int y7.1]) rfl (fun hE => ?_)
  have hbl7 : bl y7.1 := hE
  refine j_if_eq 30 13 C dX6_addsWithin_10 rfl rfl (fun c_10 => ?_) (fun c_10 => ?_)
  · replace hz := (if_pos c_10).symm.trans hz
    refine j_iconst 31 C (x := nI 0) dX6_addsWithin_30 rfl (by decide) ?_
    subst hz
    exact j_retI C X dX6_addsWithin_31 (bl_nar bl_0) ⟨rfl, rfl, rfl, rfl, bl_0⟩
  · replace hz := (if_neg c_10).symm.trans hz
    refine j_aload_n 14 C dX6_addsWithin_13 rfl rfl 0 rfl ?_
    refine j_iload_n 15 C dX6_addsWithin_14 rfl rfl 2 rfl ?_
    refine j_iload_n 16 C dX6_addsWithin_15 rfl rfl 1 rfl ?_
    refine j_iload 18 C dX6_addsWithin_16 rfl 4 rfl ?_
    refine j_iload_n 19 C dX6_addsWithin_18 rfl rfl 3 rfl ?_
    refine j_isub 20 C dX6_addsWithin_19 rfl rfl ?_
    obtain ⟨y20, e20, hz⟩ := ap_x hz
    refine s_V 23 C (As := [.int (nI a_other), .int (nI a_one), .int (by_ - v)]) cv_X6_90 (c_X6_adds (l := l) (D := D) (K := K) (ad := ad) hG (a_one := a_other) (e_one := rfl) (h_one := by omega) (a_other := a_one) (e_other := rfl) (h_other := by omega) (hz := e20)) dX6_addsWithin_20 rfl 36 6 (GH_r hG (by decide)) rfl (CE_36 _) rfl rfl rfl rfl rfl rfl ⟨⟨Nat.le_of_ble_eq_true rfl, Nat.le_of_ble_eq_true rfl⟩, Nat.zero_le _, Nat.zero_le _⟩ (Nat.le_of_ble_eq_true rfl) (st' := [.int y20.1]) rfl (fun hE => ?_)
    refine j_ct (ct' := CT K W S ns nc ad B (sA σ 47 y20.2)) (fun r _ => congrFun (congrArg (CT K W S ns nc ad B) sA_top) r) ?_
    have hbl20 : bl y20.1 := hE
    refine j_if_eq 30 26 C dX6_addsWithin_23 rfl rfl (fun c_23 => ?_) (fun c_23 => ?_)
    · replace hz := (if_pos c_23).symm.trans hz
      refine j_iconst 31 C (x := nI 0) dX6_addsWithin_30 rfl (by decide) ?_
      subst hz
      exact j_retI C X dX6_addsWithin_31 (bl_nar bl_0) ⟨rfl, rfl, rfl, rfl, bl_0⟩
    · replace hz := (if_neg c_23).symm.trans hz
      refine j_iconst 27 C (x := nI 1) dX6_addsWithin_26 rfl (by decide) ?_
      refine j_goto 31 C dX6_addsWithin_27 rfl ?_
      subst hz
      exact j_retI C X dX6_addsWithin_31 (bl_nar bl_1) ⟨rfl, rfl, rfl, rfl, bl_1⟩

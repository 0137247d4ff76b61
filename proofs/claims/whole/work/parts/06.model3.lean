def m_X6_quarrel (W S ns nc : Nat) (B : Nat → Option Nat) (σ : Nat → Nat → Int32) : Int32 × (Nat → Int32) × (Nat → Int32) × (Nat → Int32) × (Nat → Int32) := ap (m_X6_reckons W S ns nc B σ) (fun (y1 : Int32 × (Nat → Int32) × (Nat → Int32) × (Nat → Int32) × (Nat → Int32)) => (if y1.1 = 0 then ((-1), y1.2.1, y1.2.2.1, y1.2.2.2.1, y1.2.2.2.2) else (y1.2.1 18, y1.2.1, y1.2.2.1, y1.2.2.2.1, y1.2.2.2.2)))
abbrev rm_X6_quarrel : Room := { frames := 8, cells := 0, slots := 0, locals := 185 }
set_option maxHeartbeats 4000000 in
set_option maxRecDepth 100000 in
theorem c_X6_quarrel {l : Launch} {D : va_G} {K : Nat → ClassId} {W S ns nc N : Nat} {ad : Nat → Nat} {B : Nat → Option Nat} {σ : Nat → Nat → Int32} (hG : GH W S ns nc N)   {z : Int32 × (Nat → Int32) × (Nat → Int32) × (Nat → Int32) × (Nat → Int32)} (hz : m_X6_quarrel W S ns nc B σ = z) (hsee : SeeOK (σ 43) ns) (hb17 : bl (σ 36 17)) : MC l yX6_quarrel cX6_quarrel 1 (some .int) rm_X6_quarrel D (TY K) N ad (CT K W S ns nc ad B σ) [.ref (ad 36)] (BS (some (.int z.1)) N ad (CT K W S ns nc ad B (sA (sA (sA (sA σ 36 z.2.1) 47 z.2.2.1) 48 z.2.2.2.1) 49 z.2.2.2.2)) True) := by
  have hW := hG.1; have hW8 := hG.2.1; have hS := hG.2.2.1; have hS4 := hG.2.2.2.1; have hns := hG.2.2.2.2.1; have hnc := hG.2.2.2.2.2.1; have hWS := GH_ws hG
  refine MC.of (by decide) (Nat.le_of_ble_eq_true rfl) (fun p e s m args below meth c Q A H0 C X => ?_)
  replace C : Cx p s m args meth c cX6_quarrel RX6 1 D (TY K) A H0 := C
  show J p l e rm_X6_quarrel s m args below meth c Q D A H0 1 0 0 N ad (CT K W S ns nc ad B σ) 0 [(0, .ref (ad 36))] []
  unfold m_X6_quarrel at hz
  refine j_aload_n 1 C dX6_quarrel_0 rfl rfl 0 rfl ?_
  obtain ⟨y1, e1, hz⟩ := ap_x hz
  refine s_V 4 C (As := []) cv_X6_124 (c_X6_reckons (l := l) (D := D) (K := K) (ad := ad) hG (hsee := hsee) (hb17 := hb17) (hz := e1)) dX6_quarrel_1 rfl 36 6 (GH_r hG (by decide)) rfl (CE_36 _) rfl rfl rfl rfl rfl rfl ⟨⟨Nat.le_of_ble_eq_true rfl, Nat.le_of_ble_eq_true rfl⟩, Nat.zero_le _, Nat.zero_le _⟩ (Nat.le_of_ble_eq_true rfl) (st' := [.int y1.1]) rfl (fun hE => ?_)
  have hbl1 : bl y1.1 := hE
  refine j_if_eq 14 7 C dX6_quarrel_4 rfl rfl (fun c_4 => ?_) (fun c_4 => ?_)
  · replace hz := (if_pos c_4).symm.trans hz
    refine j_iconst 15 C (x := (-1)) dX6_quarrel_14 rfl (by decide) ?_
    subst hz
    exact j_retI C X dX6_quarrel_15 rfl ⟨rfl, rfl, rfl, rfl, trivial⟩
  · replace hz := (if_neg c_4).symm.trans hz
    refine j_aload_n 8 C dX6_quarrel_7 rfl rfl 0 rfl ?_
    refine k_get 11 C fl_X6_121 dX6_quarrel_8 rfl 36 (GH_r hG (by decide)) y1.2.1 (by rfl) (CE_36 _) (.int (y1.2.1 18)) rfl ?_
    refine j_goto 15 C dX6_quarrel_11 rfl ?_
    subst hz
    exact j_retI C X dX6_quarrel_15 rfl ⟨rfl, rfl, rfl, rfl, trivial⟩
def m_X6_high (W S ns nc : Nat) (B : Nat → Option Nat) (σ : Nat → Nat → Int32) (n_ : Int32) : Int32 := (σ 47) ((nI 1056) + n_).toNatClampNeg
abbrev rm_X6_high : Room := { frames := 0, cells := 0, slots := 0, locals := 0 }
set_option maxHeartbeats 4000000 in
set_option maxRecDepth 100000 in
theorem c_X6_high {l : Launch} {D : va_G} {K : Nat → ClassId} {W S ns nc N : Nat} {ad : Nat → Nat} {B : Nat → Option Nat} {σ : Nat → Nat → Int32} (hG : GH W S ns nc N) {n_ : Int32} {a_n_ : Nat} (e_n_ : n_ = nI a_n_) (h_n_ : a_n_ < 33) {z : Int32} (hz : m_X6_high W S ns nc B σ n_ = z)  : MC l yX6_high cX6_high 2 (some .int) rm_X6_high D (TY K) N ad (CT K W S ns nc ad B σ) [.ref (ad 36), .int n_] (BS (some (.int z)) N ad (CT K W S ns nc ad B σ) True) := by
  have hW := hG.1; have hW8 := hG.2.1; have hS := hG.2.2.1; have hS4 := hG.2.2.2.1; have hns := hG.2.2.2.2.1; have hnc := hG.2.2.2.2.2.1; have hWS := GH_ws hG
  subst e_n_
  refine MC.of (by decide) (Nat.le_of_ble_eq_true rfl) (fun p e s m args below meth c Q A H0 C X => ?_)
  replace C : Cx p s m args meth c cX6_high RX6 2 D (TY K) A H0 := C
  show J p l e rm_X6_high s m args below meth c Q D A H0 2 0 0 N ad (CT K W S ns nc ad B σ) 0 [(0, .ref (ad 36)), (1, .int (nI a_n_))] []
  unfold m_X6_high at hz
  refine j_aload_n 1 C dX6_high_0 rfl rfl 0 rfl ?_
  refine k_get 4 C fl_X6_41 dX6_high_1 rfl 36 (GH_r hG (by decide)) (σ 36) rfl (CE_36 _) (.ref (ad 47)) rfl ?_
  refine j_sipush 7 C (x := nI 1056) dX6_high_4 rfl (by decide) ?_
  refine j_iload_n 8 C dX6_high_7 rfl rfl 1 rfl ?_
  refine j_iadd 9 C dX6_high_8 rfl rfl ?_
  refine k_iald 10 C dX6_high_9 rfl 47 (GH_r hG (by decide)) (σ 47) rfl CE_47 (vp_inE (n := (1056 + a_n_)) (by simp only [nI_add, pk_mul]) (by omega) (by omega)) ?_
  subst hz
  exact j_retI C X dX6_high_10 rfl ⟨rfl, rfl, rfl, rfl, trivial⟩
def m_X6_low (W S ns nc : Nat) (B : Nat → Option Nat) (σ : Nat → Nat → Int32) (n_ : Int32) : Int32 := -((σ 47) ((((nI 33) * n_) + (nI 33)) - (nI 1)).toNatClampNeg)
abbrev rm_X6_low : Room := { frames := 0, cells := 0, slots := 0, locals := 0 }
set_option maxHeartbeats 4000000 in
set_option maxRecDepth 100000 in
theorem c_X6_low {l : Launch} {D : va_G} {K : Nat → ClassId} {W S ns nc N : Nat} {ad : Nat → Nat} {B : Nat → Option Nat} {σ : Nat → Nat → Int32} (hG : GH W S ns nc N) {n_ : Int32} {a_n_ : Nat} (e_n_ : n_ = nI a_n_) (h_n_ : a_n_ < 33) {z : Int32} (hz : m_X6_low W S ns nc B σ n_ = z)  : MC l yX6_low cX6_low 2 (some .int) rm_X6_low D (TY K) N ad (CT K W S ns nc ad B σ) [.ref (ad 36), .int n_] (BS (some (.int z)) N ad (CT K W S ns nc ad B σ) True) := by
  have hW := hG.1; have hW8 := hG.2.1; have hS := hG.2.2.1; have hS4 := hG.2.2.2.1; have hns := hG.2.2.2.2.1; have hnc := hG.2.2.2.2.2.1; have hWS := GH_ws hG
  subst e_n_
  refine MC.of (by decide) (Nat.le_of_ble_eq_true rfl) (fun p e s m args below meth c Q A H0 C X => ?_)
  replace C : Cx p s m args meth c cX6_low RX6 2 D (TY K) A H0 := C
  show J p l e rm_X6_low s m args below meth c Q D A H0 2 0 0 N ad (CT K W S ns nc ad B σ) 0 [(0, .ref (ad 36)), (1, .int (nI a_n_))] []
  unfold m_X6_low at hz
  refine j_aload_n 1 C dX6_low_0 rfl rfl 0 rfl ?_
  refine k_get 4 C fl_X6_41 dX6_low_1 rfl 36 (GH_r hG (by decide)) (σ 36) rfl (CE_36 _) (.ref (ad 47)) rfl ?_
  refine j_bipush 6 C (x := nI 33) dX6_low_4 rfl (by decide) ?_
  refine j_iload_n 7 C dX6_low_6 rfl rfl 1 rfl ?_
  refine j_imul 8 C dX6_low_7 rfl rfl ?_
  refine j_bipush 10 C (x := nI 33) dX6_low_8 rfl (by decide) ?_
  refine j_iadd 11 C dX6_low_10 rfl rfl ?_
  refine j_iconst 12 C (x := nI 1) dX6_low_11 rfl (by decide) ?_
  refine j_isub 13 C dX6_low_12 rfl rfl ?_
  have en12 : (((nI 33) * (nI a_n_)) + (nI 33)) - (nI 1) = nI ((33 * a_n_) + 32) := by simp only [nI_add, pk_mul]; exact pk_sub (by omega)
  refine k_iald 14 C dX6_low_13 rfl 47 (GH_r hG (by decide)) (σ 47) rfl CE_47 (vp_inE (n := ((33 * a_n_) + 32)) en12 (by omega) (by omega)) ?_
  refine j_ineg 15 C dX6_low_14 rfl rfl ?_
  subst hz
  exact j_retI C X dX6_low_15 rfl ⟨rfl, rfl, rfl, rfl, trivial⟩
def m_X6_span (W S ns nc : Nat) (B : Nat → Option Nat) (σ : Nat → Nat → Int32) (surface : Int32) (column : Int32) (what : Int32) : Int32 × (Nat → Int32) × (Nat → Int32) × (Nat → Int32) × (Nat → Int32) := ap (m_X6_isPlace W S ns nc B σ surface column) (fun (y3 : Int32) => (if y3 = 0 then ((-1), (σ 36), (σ 47), (σ 48), (σ 49)) else ap (m_X6_in W S ns nc B σ what (nI 0) (nI 1)) (fun (y12 : Int32) => (if y12 = 0 then ((-1), (σ 36), (σ 47), (σ 48), (σ 49)) else ap (m_X6_reckons W S ns nc B σ) (fun (y19 : Int32 × (Nat → Int32) × (Nat → Int32) × (Nat → Int32) × (Nat → Int32)) => (if y19.1 = 0 then ((-1), y19.2.1, y19.2.2.1, y19.2.2.2.1, y19.2.2.2.2) else (if what = 0 then ap (m_X6_node W S ns nc B (sA (sA (sA (sA σ 36 y19.2.1) 47 y19.2.2.1) 48 y19.2.2.2.1) 49 y19.2.2.2.2) surface column) (fun (y34 : Int32) => ap (m_X6_low W S ns nc B (sA (sA (sA (sA σ 36 y19.2.1) 47 y19.2.2.1) 48 y19.2.2.2.1) 49 y19.2.2.2.2) y34) (fun (y37 : Int32) => (y37, y19.2.1, y19.2.2.1, y19.2.2.2.1, y19.2.2.2.2))) else ap (m_X6_node W S ns nc B (sA (sA (sA (sA σ 36 y19.2.1) 47 y19.2.2.1) 48 y19.2.2.2.1) 49 y19.2.2.2.2) surface column) (fun (y46 : Int32) => ap (m_X6_high W S ns nc B (sA (sA (sA (sA σ 36 y19.2.1) 47 y19.2.2.1) 48 y19.2.2.2.1) 49 y19.2.2.2.2) y46) (fun (y49 : Int32) => (y49, y19.2.1, y19.2.2.1, y19.2.2.2.1, y19.2.2.2.2))))))))))
abbrev rm_X6_span : Room := { frames := 8, cells := 0, slots := 0, locals := 185 }
set_option maxHeartbeats 4000000 in
set_option maxRecDepth 100000 in
theorem c_X6_span {l : Launch} {D : va_G} {K : Nat → ClassId} {W S ns nc N : Nat} {ad : Nat → Nat} {B : Nat → Option Nat} {σ : Nat → Nat → Int32} (hG : GH W S ns nc N) {surface : Int32} {column : Int32} {what : Int32}  {z : Int32 × (Nat → Int32) × (Nat → Int32) × (Nat → Int32) × (Nat → Int32)} (hz : m_X6_span W S ns nc B σ surface column what = z) (hsee : SeeOK (σ 43) ns) (hb17 : bl (σ 36 17)) : MC l yX6_span cX6_span 4 (some .int) rm_X6_span D (TY K) N ad (CT K W S ns nc ad B σ) [.ref (ad 36), .int surface, .int column, .int what] (BS (some (.int z.1)) N ad (CT K W S ns nc ad B (sA (sA (sA (sA σ 36 z.2.1) 47 z.2.2.1) 48 z.2.2.2.1) 49 z.2.2.2.2)) True) := by
  have hW := hG.1; have hW8 := hG.2.1; have hS := hG.2.2.1; have hS4 := hG.2.2.2.1; have hns := hG.2.2.2.2.1; have hnc := hG.2.2.2.2.2.1; have hWS := GH_ws hG
  refine MC.of (by decide) (Nat.le_of_ble_eq_true rfl) (fun p e s m args below meth c Q A H0 C X => ?_)
  replace C : Cx p s m args meth c cX6_span RX6 4 D (TY K) A H0 := C
  show J p l e rm_X6_span s m args below meth c Q D A H0 4 0 0 N ad (CT K W S ns nc ad B σ) 0 [(0, .ref (ad 36)), (1, .int surface), (2, .int column), (3, .int what)] []
  unfold m_X6_span at hz
  refine j_aload_n 1 C dX6_span_0 rfl rfl 0 rfl ?_
  refine j_iload_n 2 C dX6_span_1 rfl rfl 1 rfl ?_
  refine j_iload_n 3 C dX6_span_2 rfl rfl 2 rfl ?_
  obtain ⟨y3, e3, hz⟩ := ap_x hz
  refine s_V 6 C (As := [.int surface, .int column]) cv_X6_65 (c_X6_isPlace (l := l) (D := D) (K := K) (ad := ad) hG  (hz := e3)) dX6_span_3 rfl 36 6 (GH_r hG (by decide)) rfl (CE_36 _) rfl rfl rfl rfl rfl rfl ⟨⟨Nat.le_of_ble_eq_true rfl, Nat.le_of_ble_eq_true rfl⟩, Nat.zero_le _, Nat.zero_le _⟩ (Nat.le_of_ble_eq_true rfl) (st' := [.int y3]) rfl (fun hE => ?_)
  have hbl3 : bl y3 := hE
  refine j_if_eq 25 9 C dX6_span_6 rfl rfl (fun c_6 => ?_) (fun c_6 => ?_)
  · replace hz := (if_pos c_6).symm.trans hz
    refine j_iconst 26 C (x := (-1)) dX6_span_25 rfl (by decide) ?_
    subst hz
    exact j_retI C X dX6_span_26 rfl ⟨rfl, rfl, rfl, (CT_x (by intro a; (by_cases h0 : a = 36; (· (first | (subst h0; simp [sA]; done) | (rw [h0]; simp [sA]; done))); by_cases h1 : a = 47; (· (first | (subst h1; simp [sA]; done) | (rw [h1]; simp [sA]; done))); by_cases h2 : a = 48; (· (first | (subst h2; simp [sA]; done) | (rw [h2]; simp [sA]; done))); by_cases h3 : a = 49; (· (first | (subst h3; simp [sA]; done) | (rw [h3]; simp [sA]; done))); simp [sA, h0, h1, h2, h3]))), trivial⟩
  · replace hz := (if_neg c_6).symm.trans hz
    obtain ⟨ks, kc, hks, hkc, eks, ekc⟩ := isPlace_nat hG e3 c_6
    refine j_iload_n 10 C dX6_span_9 rfl rfl 3 rfl ?_
    refine j_iconst 11 C (x := nI 0) dX6_span_10 rfl (by decide) ?_
    refine j_iconst 12 C (x := nI 1) dX6_span_11 rfl (by decide) ?_
    obtain ⟨y12, e12, hz⟩ := ap_x hz
    refine s_S 15 C (As := [.int what, .int (nI 0), .int (nI 1)]) cs_X6_57 (c_X6_in (l := l) (D := D) (K := K) (ad := ad) hG  (hz := e12)) dX6_span_12 rfl rfl rfl rfl rfl ⟨⟨Nat.le_of_ble_eq_true rfl, Nat.le_of_ble_eq_true rfl⟩, Nat.zero_le _, Nat.zero_le _⟩ (Nat.le_of_ble_eq_true rfl) (st' := [.int y12]) rfl (fun hE => ?_)
    have hbl12 : bl y12 := hE
    refine j_if_eq 25 18 C dX6_span_15 rfl rfl (fun c_15 => ?_) (fun c_15 => ?_)
    · replace hz := (if_pos c_15).symm.trans hz
      refine j_iconst 26 C (x := (-1)) dX6_span_25 rfl (by decide) ?_
      subst hz
      exact j_retI C X dX6_span_26 rfl ⟨rfl, rfl, rfl, (CT_x (by intro a; (by_cases h0 : a = 36; (· (first | (subst h0; simp [sA]; done) | (rw [h0]; simp [sA]; done))); by_cases h1 : a = 47; (· (first | (subst h1; simp [sA]; done) | (rw [h1]; simp [sA]; done))); by_cases h2 : a = 48; (· (first | (subst h2; simp [sA]; done) | (rw [h2]; simp [sA]; done))); by_cases h3 : a = 49; (· (first | (subst h3; simp [sA]; done) | (rw [h3]; simp [sA]; done))); simp [sA, h0, h1, h2, h3]))), trivial⟩
    · replace hz := (if_neg c_15).symm.trans hz
      refine j_aload_n 19 C dX6_span_18 rfl rfl 0 rfl ?_
      obtain ⟨y19, e19, hz⟩ := ap_x hz
      refine s_V 22 C (As := []) cv_X6_124 (c_X6_reckons (l := l) (D := D) (K := K) (ad := ad) hG (hsee := hsee) (hb17 := hb17) (hz := e19)) dX6_span_19 rfl 36 6 (GH_r hG (by decide)) rfl (CE_36 _) rfl rfl rfl rfl rfl rfl ⟨⟨Nat.le_of_ble_eq_true rfl, Nat.le_of_ble_eq_true rfl⟩, Nat.zero_le _, Nat.zero_le _⟩ (Nat.le_of_ble_eq_true rfl) (st' := [.int y19.1]) rfl (fun hE => ?_)
      have hbl19 : bl y19.1 := hE
      refine j_if_ne 27 25 C dX6_span_22 rfl rfl (fun c_22 => ?_) (fun c_22 => ?_)
      · replace hz := (if_neg c_22).symm.trans hz
        refine j_iload_n 28 C dX6_span_27 rfl rfl 3 rfl ?_
        refine j_if_ne 43 31 C dX6_span_28 rfl rfl (fun c_28 => ?_) (fun c_28 => ?_)
        · replace hz := (if_neg c_28).symm.trans hz
          refine j_aload_n 44 C dX6_span_43 rfl rfl 0 rfl ?_
          refine j_iload_n 45 C dX6_span_44 rfl rfl 1 rfl ?_
          refine j_iload_n 46 C dX6_span_45 rfl rfl 2 rfl ?_
          obtain ⟨y46, e46, hz⟩ := ap_x hz
          refine s_S 49 C (As := [.int surface, .int column]) cs_X6_81 (c_X6_node (l := l) (D := D) (K := K) (ad := ad) hG  (hz := e46)) dX6_span_46 rfl rfl rfl rfl rfl ⟨⟨Nat.le_of_ble_eq_true rfl, Nat.le_of_ble_eq_true rfl⟩, Nat.zero_le _, Nat.zero_le _⟩ (Nat.le_of_ble_eq_true rfl) (st' := [.int y46, .ref (ad 36)]) rfl (fun hE => ?_)
          have ey46 : y46 = nI ((8 * ks) + kc) := by rw [← e46]; exact m_X6_node_n (by simp only [eks, ekc, nI_add, pk_mul]) (by simp only [eks, ekc, nI_add, pk_mul])
          obtain ⟨y49, e49, hz⟩ := ap_x hz
          refine s_V 52 C (As := [.int y46]) cv_X6_130 (c_X6_high (l := l) (D := D) (K := K) (ad := ad) hG (a_n_ := ((8 * ks) + kc)) (e_n_ := (by simp only [eks, ekc, ey46, nI_add, pk_mul])) (h_n_ := by omega) (hz := e49)) dX6_span_49 rfl 36 6 (GH_r hG (by decide)) rfl (CE_36 _) rfl rfl rfl rfl rfl rfl ⟨⟨Nat.le_of_ble_eq_true rfl, Nat.le_of_ble_eq_true rfl⟩, Nat.zero_le _, Nat.zero_le _⟩ (Nat.le_of_ble_eq_true rfl) (st' := [.int y49]) rfl (fun hE => ?_)
          subst hz
          exact j_retI C X dX6_span_52 rfl ⟨rfl, rfl, rfl, rfl, trivial⟩
        · replace hz := (if_pos c_28).symm.trans hz
          refine j_aload_n 32 C dX6_span_31 rfl rfl 0 rfl ?_
          refine j_iload_n 33 C dX6_span_32 rfl rfl 1 rfl ?_
          refine j_iload_n 34 C dX6_span_33 rfl rfl 2 rfl ?_
          obtain ⟨y34, e34, hz⟩ := ap_x hz
          refine s_S 37 C (As := [.int surface, .int column]) cs_X6_81 (c_X6_node (l := l) (D := D) (K := K) (ad := ad) hG  (hz := e34)) dX6_span_34 rfl rfl rfl rfl rfl ⟨⟨Nat.le_of_ble_eq_true rfl, Nat.le_of_ble_eq_true rfl⟩, Nat.zero_le _, Nat.zero_le _⟩ (Nat.le_of_ble_eq_true rfl) (st' := [.int y34, .ref (ad 36)]) rfl (fun hE => ?_)
          have ey34 : y34 = nI ((8 * ks) + kc) := by rw [← e34]; exact m_X6_node_n (by simp only [eks, ekc, nI_add, pk_mul]) (by simp only [eks, ekc, nI_add, pk_mul])
          obtain ⟨y37, e37, hz⟩ := ap_x hz
          refine s_V 40 C (As := [.int y34]) cv_X6_127 (c_X6_low (l := l) (D := D) (K := K) (ad := ad) hG (a_n_ := ((8 * ks) + kc)) (e_n_ := (by simp only [eks, ekc, ey34, nI_add, pk_mul])) (h_n_ := by omega) (hz := e37)) dX6_span_37 rfl 36 6 (GH_r hG (by decide)) rfl (CE_36 _) rfl rfl rfl rfl rfl rfl ⟨⟨Nat.le_of_ble_eq_true rfl, Nat.le_of_ble_eq_true rfl⟩, Nat.zero_le _, Nat.zero_le _⟩ (Nat.le_of_ble_eq_true rfl) (st' := [.int y37]) rfl (fun hE => ?_)
          refine j_goto 52 C dX6_span_40 rfl ?_
          subst hz
          exact j_retI C X dX6_span_52 rfl ⟨rfl, rfl, rfl, rfl, trivial⟩
      · replace hz := (if_pos c_22).symm.trans hz
        refine j_iconst 26 C (x := (-1)) dX6_span_25 rfl (by decide) ?_
        subst hz
        exact j_retI C X dX6_span_26 rfl ⟨rfl, rfl, rfl, rfl, trivial⟩
def m_X6_opens_L14 (W S ns nc : Nat) (B : Nat → Option Nat) (σ : Nat → Nat → Int32) (i4 : Nat) (i14 : Nat) (c14 : Int32) : Int32 := ap (m_X6_node W S ns nc B σ (nI i4) (nI i14)) (fun (y26 : Int32) => ap (m_X6_high W S ns nc B σ y26) (fun (y29 : Int32) => ap (m_X6_node W S ns nc B σ (nI i4) (nI i14)) (fun (y35 : Int32) => ap (m_X6_low W S ns nc B σ y35) (fun (y38 : Int32) => c14 + (y29 - y38)))))
def m_X6_opens_L4 (W S ns nc : Nat) (B : Nat → Option Nat) (σ : Nat → Nat → Int32) (i4 : Nat) (c4 : Int32) : Int32 := ap (lp (m_X6_opens_L14 W S ns nc B σ i4) (W - 0) 0 c4) (fun (z14 : Int32) => z14)
def m_X6_opens (W S ns nc : Nat) (B : Nat → Option Nat) (σ : Nat → Nat → Int32) : Int32 := ap (lp (m_X6_opens_L4 W S ns nc B σ) (S - 0) 0 (nI 0)) (fun (z4 : Int32) => z4)
abbrev rm_X6_opens : Room := { frames := 1, cells := 0, slots := 0, locals := 21 }
set_option maxHeartbeats 4000000 in
set_option maxRecDepth 100000 in
theorem c_X6_opens {l : Launch} {D : va_G} {K : Nat → ClassId} {W S ns nc N : Nat} {ad : Nat → Nat} {B : Nat → Option Nat} {σ : Nat → Nat → Int32} (hG : GH W S ns nc N)   {z : Int32} (hz : m_X6_opens W S ns nc B σ = z)  : MC l yX6_opens cX6_opens 4 (some .int) rm_X6_opens D (TY K) N ad (CT K W S ns nc ad B σ) [.ref (ad 36)] (BS (some (.int z)) N ad (CT K W S ns nc ad B σ) True) := by
  have hW := hG.1; have hW8 := hG.2.1; have hS := hG.2.2.1; have hS4 := hG.2.2.2.1; have hns := hG.2.2.2.2.1; have hnc := hG.2.2.2.2.2.1; have hWS := GH_ws hG
  refine MC.of (by decide) (Nat.le_of_ble_eq_true rfl) (fun p e s m args below meth c Q A H0 C X => ?_)
  replace C : Cx p s m args meth c cX6_opens RX6 4 D (TY K) A H0 := C
  show J p l e rm_X6_opens s m args below meth c Q D A H0 4 0 0 N ad (CT K W S ns nc ad B σ) 0 [(0, .ref (ad 36))] []
  unfold m_X6_opens at hz
  refine j_iconst 1 C (x := nI 0) dX6_opens_0 rfl (by decide) ?_
  refine j_istore_n 2 C [(1, .int (nI 0)), (0, .ref (ad 36))] dX6_opens_1 rfl rfl (by decide) rfl ?_
  refine j_iconst 3 C (x := nI 0) dX6_opens_2 rfl (by decide) ?_
  refine j_istore_n 4 C [(2, .int (nI 0)), (1, .int (nI 0)), (0, .ref (ad 36))] dX6_opens_3 rfl rfl (by decide) rfl ?_
  skip
  obtain ⟨z4, ez4, hz⟩ := ap_x hz
  have L4 : ∀ (n4 i4 : Nat) (c4 : Int32), 0 ≤ i4 → i4 < 5000 → n4 = S - i4 → lp (m_X6_opens_L4 W S ns nc B σ) n4 i4 c4 = z4 → J p l e rm_X6_opens s m args below meth c Q D A H0 4 0 0 N ad (CT K W S ns nc ad B σ) 4 [(0, .ref (ad 36)), (1, .int c4), (2, .int (nI i4))] [] := by
    intro n4
    induction n4 with
    | zero =>
      intro i4 c4 hl4 hi4 hn4 hz4
      refine j_iload_n 5 C dX6_opens_4 rfl rfl 2 rfl ?_
      refine j_aload_n 6 C dX6_opens_5 rfl rfl 0 rfl ?_
      refine k_get 9 C fl_X6_54 dX6_opens_6 rfl 36 (GH_r hG (by decide)) (σ 36) rfl (CE_36 _) (.int (nI S)) rfl ?_
      refine j_ic_ge 56 12 C dX6_opens_9 rfl rfl (fun c_9 => ?_) (fun c_9 => ?_)
      · skip
        have n_9 := nat_le (a := S) (b := i4) rfl rfl (by omega) (by omega) c_9
        have hq4 : c4 = z4 := hz4
        subst hq4
        refine j_iload_n 57 C dX6_opens_56 rfl rfl 1 rfl ?_
        subst hz
        exact j_retI C X dX6_opens_57 rfl ⟨rfl, rfl, rfl, rfl, trivial⟩
      · exfalso
        have n_9 := nat_nle (a := S) (b := i4) rfl rfl (by omega) (by omega) c_9
        omega
    | succ n4 ih4 =>
      intro i4 c4 hl4 hi4 hn4 hz4
      refine j_iload_n 5 C dX6_opens_4 rfl rfl 2 rfl ?_
      refine j_aload_n 6 C dX6_opens_5 rfl rfl 0 rfl ?_
      refine k_get 9 C fl_X6_54 dX6_opens_6 rfl 36 (GH_r hG (by decide)) (σ 36) rfl (CE_36 _) (.int (nI S)) rfl ?_
      refine j_ic_ge 56 12 C dX6_opens_9 rfl rfl (fun c_9 => ?_) (fun c_9 => ?_)
      · exfalso
        have n_9 := nat_le (a := S) (b := i4) rfl rfl (by omega) (by omega) c_9
        omega
      · skip
        have n_9 := nat_nle (a := S) (b := i4) rfl rfl (by omega) (by omega) c_9
        obtain ⟨w4, hw4, hz4⟩ := lp_s hz4
        have ho4 := hz
        clear hz
        have hz := hw4
        clear hw4
        unfold m_X6_opens_L4 at hz
        refine j_iconst 13 C (x := nI 0) dX6_opens_12 rfl (by decide) ?_
        refine j_istore_n 14 C [(3, .int (nI 0)), (0, .ref (ad 36)), (1, .int c4), (2, .int (nI i4))] dX6_opens_13 rfl rfl (by decide) rfl ?_
        skip
        obtain ⟨z14, ez14, hz⟩ := ap_x hz
        have L14 : ∀ (n14 i14 : Nat) (c14 : Int32), 0 ≤ i14 → i14 < 5000 → n14 = W - i14 → lp (m_X6_opens_L14 W S ns nc B σ i4) n14 i14 c14 = z14 → J p l e rm_X6_opens s m args below meth c Q D A H0 4 0 0 N ad (CT K W S ns nc ad B σ) 14 [(0, .ref (ad 36)), (1, .int c14), (2, .int (nI i4)), (3, .int (nI i14))] [] := by
          intro n14
          induction n14 with
          | zero =>
            intro i14 c14 hl14 hi14 hn14 hz14
            refine j_iload_n 15 C dX6_opens_14 rfl rfl 3 rfl ?_
            refine j_aload_n 16 C dX6_opens_15 rfl rfl 0 rfl ?_
            refine k_get 19 C fl_X6_50 dX6_opens_16 rfl 36 (GH_r hG (by decide)) (σ 36) rfl (CE_36 _) (.int (nI W)) rfl ?_
            refine j_ic_ge 50 22 C dX6_opens_19 rfl rfl (fun c_19 => ?_) (fun c_19 => ?_)
            · skip
              have n_19 := nat_le (a := W) (b := i14) rfl rfl (by omega) (by omega) c_19
              have hq14 : c14 = z14 := hz14
              subst hq14
              refine j_iinc 53 C (x' := nI (i4 + 1)) [(2, .int (nI (i4 + 1))), (0, .ref (ad 36)), (1, .int c14), (3, .int (nI i14))] dX6_opens_50 rfl 2 rfl (by rw [show Int32.ofInt 1 = nI 1 from by decide, nI_add]) (by decide) rfl ?_
              refine j_goto 4 C dX6_opens_53 rfl ?_
              subst hz
              refine j_lv [1, 2, 0] (lv' := [(0, .ref (ad 36)), (1, .int c14), (2, .int (nI (i4 + 1)))]) rfl ?_
              have hz := ho4
              exact ih4 (i4 + 1) c14 (by omega) (by omega) (by omega) hz4
            · exfalso
              have n_19 := nat_nle (a := W) (b := i14) rfl rfl (by omega) (by omega) c_19
              omega
          | succ n14 ih14 =>
            intro i14 c14 hl14 hi14 hn14 hz14
            refine j_iload_n 15 C dX6_opens_14 rfl rfl 3 rfl ?_
            refine j_aload_n 16 C dX6_opens_15 rfl rfl 0 rfl ?_
            refine k_get 19 C fl_X6_50 dX6_opens_16 rfl 36 (GH_r hG (by decide)) (σ 36) rfl (CE_36 _) (.int (nI W)) rfl ?_
            refine j_ic_ge 50 22 C dX6_opens_19 rfl rfl (fun c_19 => ?_) (fun c_19 => ?_)
            · exfalso
              have n_19 := nat_le (a := W) (b := i14) rfl rfl (by omega) (by omega) c_19
              omega
            · skip
              have n_19 := nat_nle (a := W) (b := i14) rfl rfl (by omega) (by omega) c_19
              obtain ⟨w14, hw14, hz14⟩ := lp_s hz14
              have ho14 := hz
              clear hz
              have hz := hw14
              clear hw14
              unfold m_X6_opens_L14 at hz
              refine j_iload_n 23 C dX6_opens_22 rfl rfl 1 rfl ?_
              refine j_aload_n 24 C dX6_opens_23 rfl rfl 0 rfl ?_
              refine j_iload_n 25 C dX6_opens_24 rfl rfl 2 rfl ?_
              refine j_iload_n 26 C dX6_opens_25 rfl rfl 3 rfl ?_
              obtain ⟨y26, e26, hz⟩ := ap_x hz
              refine s_S 29 C (As := [.int (nI i4), .int (nI i14)]) cs_X6_81 (c_X6_node (l := l) (D := D) (K := K) (ad := ad) hG  (hz := e26)) dX6_opens_26 rfl rfl rfl rfl rfl ⟨⟨Nat.le_of_ble_eq_true rfl, Nat.le_of_ble_eq_true rfl⟩, Nat.zero_le _, Nat.zero_le _⟩ (Nat.le_of_ble_eq_true rfl) (st' := [.int y26, .ref (ad 36), .int c14]) rfl (fun hE => ?_)
              have ey26 : y26 = nI ((8 * i4) + i14) := by rw [← e26]; exact m_X6_node_n rfl rfl
              obtain ⟨y29, e29, hz⟩ := ap_x hz
              refine s_V 32 C (As := [.int y26]) cv_X6_130 (c_X6_high (l := l) (D := D) (K := K) (ad := ad) hG (a_n_ := ((8 * i4) + i14)) (e_n_ := (by simp only [ey26, nI_add, pk_mul])) (h_n_ := by omega) (hz := e29)) dX6_opens_29 rfl 36 6 (GH_r hG (by decide)) rfl (CE_36 _) rfl rfl rfl rfl rfl rfl ⟨⟨Nat.le_of_ble_eq_true rfl, Nat.le_of_ble_eq_true rfl⟩, Nat.zero_le _, Nat.zero_le _⟩ (Nat.le_of_ble_eq_true rfl) (st' := [.int y29, .int c14]) rfl (fun hE => ?_)
              refine j_aload_n 33 C dX6_opens_32 rfl rfl 0 rfl ?_
              refine j_iload_n 34 C dX6_opens_33 rfl rfl 2 rfl ?_
              refine j_iload_n 35 C dX6_opens_34 rfl rfl 3 rfl ?_
              obtain ⟨y35, e35, hz⟩ := ap_x hz
              refine s_S 38 C (As := [.int (nI i4), .int (nI i14)]) cs_X6_81 (c_X6_node (l := l) (D := D) (K := K) (ad := ad) hG  (hz := e35)) dX6_opens_35 rfl rfl rfl rfl rfl ⟨⟨Nat.le_of_ble_eq_true rfl, Nat.le_of_ble_eq_true rfl⟩, Nat.zero_le _, Nat.zero_le _⟩ (Nat.le_of_ble_eq_true rfl) (st' := [.int y35, .ref (ad 36), .int y29, .int c14]) rfl (fun hE => ?_)
              have ey35 : y35 = nI ((8 * i4) + i14) := by rw [← e35]; exact m_X6_node_n rfl rfl
              obtain ⟨y38, e38, hz⟩ := ap_x hz
              refine s_V 41 C (As := [.int y35]) cv_X6_127 (c_X6_low (l := l) (D := D) (K := K) (ad := ad) hG (a_n_ := ((8 * i4) + i14)) (e_n_ := (by simp only [ey26, ey35, nI_add, pk_mul])) (h_n_ := by omega) (hz := e38)) dX6_opens_38 rfl 36 6 (GH_r hG (by decide)) rfl (CE_36 _) rfl rfl rfl rfl rfl rfl ⟨⟨Nat.le_of_ble_eq_true rfl, Nat.le_of_ble_eq_true rfl⟩, Nat.zero_le _, Nat.zero_le _⟩ (Nat.le_of_ble_eq_true rfl) (st' := [.int y38, .int y29, .int c14]) rfl (fun hE => ?_)
              refine j_isub 42 C dX6_opens_41 rfl rfl ?_
              refine j_iadd 43 C dX6_opens_42 rfl rfl ?_
              refine j_istore_n 44 C [(1, .int (c14 + (y29 - y38))), (0, .ref (ad 36)), (2, .int (nI i4)), (3, .int (nI i14))] dX6_opens_43 rfl rfl (by decide) rfl ?_
              refine j_iinc 47 C (x' := nI (i14 + 1)) [(3, .int (nI (i14 + 1))), (1, .int (c14 + (y29 - y38))), (0, .ref (ad 36)), (2, .int (nI i4))] dX6_opens_44 rfl 3 rfl (by rw [show Int32.ofInt 1 = nI 1 from by decide, nI_add]) (by decide) rfl ?_
              refine j_goto 14 C dX6_opens_47 rfl ?_
              subst hz
              refine j_lv [2, 1, 3, 0] (lv' := [(0, .ref (ad 36)), (1, .int (c14 + (y29 - y38))), (2, .int (nI i4)), (3, .int (nI (i14 + 1)))]) rfl ?_
              have hz := ho14
              exact ih14 (i14 + 1) (c14 + (y29 - y38)) (by omega) (by omega) (by omega) hz14
        refine j_lv [1, 2, 3, 0] (lv' := [(0, .ref (ad 36)), (1, .int c4), (2, .int (nI i4)), (3, .int (nI 0))]) rfl ?_
        exact L14 _ 0 c4 (by omega) (by omega) rfl ez14
  refine j_lv [2, 1, 0] (lv' := [(0, .ref (ad 36)), (1, .int (nI 0)), (2, .int (nI 0))]) rfl ?_
  exact L4 _ 0 (nI 0) (by omega) (by omega) rfl ez4
def m_X6_open (W S ns nc : Nat) (B : Nat → Option Nat) (σ : Nat → Nat → Int32) : Int32 × (Nat → Int32) × (Nat → Int32) × (Nat → Int32) × (Nat → Int32) := ap (m_X6_reckons W S ns nc B σ) (fun (y1 : Int32 × (Nat → Int32) × (Nat → Int32) × (Nat → Int32) × (Nat → Int32)) => (if y1.1 = 0 then ((-1), y1.2.1, y1.2.2.1, y1.2.2.2.1, y1.2.2.2.2) else ap (m_X6_opens W S ns nc B (sA (sA (sA (sA σ 36 y1.2.1) 47 y1.2.2.1) 48 y1.2.2.2.1) 49 y1.2.2.2.2)) (fun (y8 : Int32) => (y8, y1.2.1, y1.2.2.1, y1.2.2.2.1, y1.2.2.2.2))))
abbrev rm_X6_open : Room := { frames := 8, cells := 0, slots := 0, locals := 185 }
set_option maxHeartbeats 4000000 in
set_option maxRecDepth 100000 in
theorem c_X6_open {l : Launch} {D : va_G} {K : Nat → ClassId} {W S ns nc N : Nat} {ad : Nat → Nat} {B : Nat → Option Nat} {σ : Nat → Nat → Int32} (hG : GH W S ns nc N)   {z : Int32 × (Nat → Int32) × (Nat → Int32) × (Nat → Int32) × (Nat → Int32)} (hz : m_X6_open W S ns nc B σ = z) (hsee : SeeOK (σ 43) ns) (hb17 : bl (σ 36 17)) : MC l yX6_open cX6_open 1 (some .int) rm_X6_open D (TY K) N ad (CT K W S ns nc ad B σ) [.ref (ad 36)] (BS (some (.int z.1)) N ad (CT K W S ns nc ad B (sA (sA (sA (sA σ 36 z.2.1) 47 z.2.2.1) 48 z.2.2.2.1) 49 z.2.2.2.2)) True) := by
  have hW := hG.1; have hW8 := hG.2.1; have hS := hG.2.2.1; have hS4 := hG.2.2.2.1; have hns := hG.2.2.2.2.1; have hnc := hG.2.2.2.2.2.1; have hWS := GH_ws hG
  refine MC.of (by decide) (Nat.le_of_ble_eq_true rfl) (fun p e s m args below meth c Q A H0 C X => ?_)
  replace C : Cx p s m args meth c cX6_open RX6 1 D (TY K) A H0 := C
  show J p l e rm_X6_open s m args below meth c Q D A H0 1 0 0 N ad (CT K W S ns nc ad B σ) 0 [(0, .ref (ad 36))] []
  unfold m_X6_open at hz
  refine j_aload_n 1 C dX6_open_0 rfl rfl 0 rfl ?_
  obtain ⟨y1, e1, hz⟩ := ap_x hz
  refine s_V 4 C (As := []) cv_X6_124 (c_X6_reckons (l := l) (D := D) (K := K) (ad := ad) hG (hsee := hsee) (hb17 := hb17) (hz := e1)) dX6_open_1 rfl 36 6 (GH_r hG (by decide)) rfl (CE_36 _) rfl rfl rfl rfl rfl rfl ⟨⟨Nat.le_of_ble_eq_true rfl, Nat.le_of_ble_eq_true rfl⟩, Nat.zero_le _, Nat.zero_le _⟩ (Nat.le_of_ble_eq_true rfl) (st' := [.int y1.1]) rfl (fun hE => ?_)
  have hbl1 : bl y1.1 := hE
  refine j_if_eq 14 7 C dX6_open_4 rfl rfl (fun c_4 => ?_) (fun c_4 => ?_)
  · replace hz := (if_pos c_4).symm.trans hz
    refine j_iconst 15 C (x := (-1)) dX6_open_14 rfl (by decide) ?_
    subst hz
    exact j_retI C X dX6_open_15 rfl ⟨rfl, rfl, rfl, rfl, trivial⟩
  · replace hz := (if_neg c_4).symm.trans hz
    refine j_aload_n 8 C dX6_open_7 rfl rfl 0 rfl ?_
    obtain ⟨y8, e8, hz⟩ := ap_x hz
    refine s_V 11 C (As := []) cv_X6_133 (c_X6_opens (l := l) (D := D) (K := K) (ad := ad) hG  (hz := e8)) dX6_open_8 rfl 36 6 (GH_r hG (by decide)) rfl (CE_36 _) rfl rfl rfl rfl rfl rfl ⟨⟨Nat.le_of_ble_eq_true rfl, Nat.le_of_ble_eq_true rfl⟩, Nat.zero_le _, Nat.zero_le _⟩ (Nat.le_of_ble_eq_true rfl) (st' := [.int y8]) rfl (fun hE => ?_)
    refine j_goto 15 C dX6_open_11 rfl ?_
    subst hz
    exact j_retI C X dX6_open_15 rfl ⟨rfl, rfl, rfl, rfl, trivial⟩
def m_X6_layer_L41 (W S ns nc : Nat) (B : Nat → Option Nat) (σ : Nat → Nat → Int32) (column : Int32) (depth : Int32) (y25 : Int32 × (Nat → Int32) × (Nat → Int32) × (Nat → Int32) × (Nat → Int32)) (i41 : Nat) (c41 : Int32 × Int32) : Int32 × Int32 := ap (m_X6_node W S ns nc B (sA (sA (sA (sA σ 36 y25.2.1) 47 y25.2.2.1) 48 y25.2.2.2.1) 49 y25.2.2.2.2) (nI i41) column) (fun (y55 : Int32) => ap (m_X6_high W S ns nc B (sA (sA (sA (sA σ 36 y25.2.1) 47 y25.2.2.1) 48 y25.2.2.2.1) 49 y25.2.2.2.2) y55) (fun (y58 : Int32) => (if depth < y58 then ap (m_X6_node W S ns nc B (sA (sA (sA (sA σ 36 y25.2.1) 47 y25.2.2.1) 48 y25.2.2.2.1) 49 y25.2.2.2.2) (nI i41) column) (fun (y78 : Int32) => ap (m_X6_low W S ns nc B (sA (sA (sA (sA σ 36 y25.2.1) 47 y25.2.2.1) 48 y25.2.2.2.1) 49 y25.2.2.2.2) y78) (fun (y81 : Int32) => (if depth < y81 then (c41.1 + (nI 0), c41.2 + (nI 0)) else (c41.1 + (nI 0), c41.2 + (nI 1))))) else ap (m_X6_node W S ns nc B (sA (sA (sA (sA σ 36 y25.2.1) 47 y25.2.2.1) 48 y25.2.2.2.1) 49 y25.2.2.2.2) (nI i41) column) (fun (y78 : Int32) => ap (m_X6_low W S ns nc B (sA (sA (sA (sA σ 36 y25.2.1) 47 y25.2.2.1) 48 y25.2.2.2.1) 49 y25.2.2.2.2) y78) (fun (y81 : Int32) => (if depth < y81 then (c41.1 + (nI 1), c41.2 + (nI 0)) else (c41.1 + (nI 1), c41.2 + (nI 1))))))))
def m_X6_layer (W S ns nc : Nat) (B : Nat → Option Nat) (σ : Nat → Nat → Int32) (column : Int32) (depth : Int32) : Int32 × (Nat → Int32) × (Nat → Int32) × (Nat → Int32) × (Nat → Int32) := ap (m_X6_in W S ns nc B σ column (nI 0) ((nI W) - (nI 1))) (fun (y8 : Int32) => (if y8 = 0 then ((-1), (σ 36), (σ 47), (σ 48), (σ 49)) else ap (m_X6_in W S ns nc B σ depth (nI 0) (nI 60)) (fun (y18 : Int32) => (if y18 = 0 then ((-1), (σ 36), (σ 47), (σ 48), (σ 49)) else ap (m_X6_reckons W S ns nc B σ) (fun (y25 : Int32 × (Nat → Int32) × (Nat → Int32) × (Nat → Int32) × (Nat → Int32)) => (if y25.1 = 0 then ((-1), y25.2.1, y25.2.2.1, y25.2.2.2.1, y25.2.2.2.2) else ap (lp (m_X6_layer_L41 W S ns nc B σ column depth y25) (S - 0) 0 (nI 0, nI 0)) (fun (z41 : Int32 × Int32) => (if z41.1 = z41.2 then (z41.1, y25.2.1, y25.2.2.1, y25.2.2.2.1, y25.2.2.2.2) else ((-1), y25.2.1, y25.2.2.1, y25.2.2.2.1, y25.2.2.2.2)))))))))
abbrev rm_X6_layer : Room := { frames := 8, cells := 0, slots := 0, locals := 185 }
set_option maxHeartbeats 4000000 in
set_option maxRecDepth 100000 in
theorem c_X6_layer {l : Launch} {D : va_G} {K : Nat → ClassId} {W S ns nc N : Nat} {ad : Nat → Nat} {B : Nat → Option Nat} {σ : Nat → Nat → Int32} (hG : GH W S ns nc N) {column : Int32} {depth : Int32}  {z : Int32 × (Nat → Int32) × (Nat → Int32) × (Nat → Int32) × (Nat → Int32)} (hz : m_X6_layer W S ns nc B σ column depth = z) (hsee : SeeOK (σ 43) ns) (hb17 : bl (σ 36 17)) : MC l yX6_layer cX6_layer 6 (some .int) rm_X6_layer D (TY K) N ad (CT K W S ns nc ad B σ) [.ref (ad 36), .int column, .int depth] (BS (some (.int z.1)) N ad (CT K W S ns nc ad B (sA (sA (sA (sA σ 36 z.2.1) 47 z.2.2.1) 48 z.2.2.2.1) 49 z.2.2.2.2)) True) := by
  have hW := hG.1; have hW8 := hG.2.1; have hS := hG.2.2.1; have hS4 := hG.2.2.2.1; have hns := hG.2.2.2.2.1; have hnc := hG.2.2.2.2.2.1; have hWS := GH_ws hG
  refine MC.of (by decide) (Nat.le_of_ble_eq_true rfl) (fun p e s m args below meth c Q A H0 C X => ?_)
  replace C : Cx p s m args meth c cX6_layer RX6 6 D (TY K) A H0 := C
  show J p l e rm_X6_layer s m args below meth c Q D A H0 6 0 0 N ad (CT K W S ns nc ad B σ) 0 [(0, .ref (ad 36)), (1, .int column), (2, .int depth)] []
  unfold m_X6_layer at hz
  refine j_iload_n 1 C dX6_layer_0 rfl rfl 1 rfl ?_
  refine j_iconst 2 C (x := nI 0) dX6_layer_1 rfl (by decide) ?_
  refine j_aload_n 3 C dX6_layer_2 rfl rfl 0 rfl ?_
  refine k_get 6 C fl_X6_50 dX6_layer_3 rfl 36 (GH_r hG (by decide)) (σ 36) rfl (CE_36 _) (.int (nI W)) rfl ?_
  refine j_iconst 7 C (x := nI 1) dX6_layer_6 rfl (by decide) ?_
  refine j_isub 8 C dX6_layer_7 rfl rfl ?_
  obtain ⟨y8, e8, hz⟩ := ap_x hz
  refine s_S 11 C (As := [.int column, .int (nI 0), .int ((nI W) - (nI 1))]) cs_X6_57 (c_X6_in (l := l) (D := D) (K := K) (ad := ad) hG  (hz := e8)) dX6_layer_8 rfl rfl rfl rfl rfl ⟨⟨Nat.le_of_ble_eq_true rfl, Nat.le_of_ble_eq_true rfl⟩, Nat.zero_le _, Nat.zero_le _⟩ (Nat.le_of_ble_eq_true rfl) (st' := [.int y8]) rfl (fun hE => ?_)
  have hbl8 : bl y8 := hE
  refine j_if_eq 31 14 C dX6_layer_11 rfl rfl (fun c_11 => ?_) (fun c_11 => ?_)
  · replace hz := (if_pos c_11).symm.trans hz
    refine j_iconst 32 C (x := (-1)) dX6_layer_31 rfl (by decide) ?_
    subst hz
    exact j_retI C X dX6_layer_32 rfl ⟨rfl, rfl, rfl, (CT_x (by intro a; (by_cases h0 : a = 36; (· (first | (subst h0; simp [sA]; done) | (rw [h0]; simp [sA]; done))); by_cases h1 : a = 47; (· (first | (subst h1; simp [sA]; done) | (rw [h1]; simp [sA]; done))); by_cases h2 : a = 48; (· (first | (subst h2; simp [sA]; done) | (rw [h2]; simp [sA]; done))); by_cases h3 : a = 49; (· (first | (subst h3; simp [sA]; done) | (rw [h3]; simp [sA]; done))); simp [sA, h0, h1, h2, h3]))), trivial⟩
  · replace hz := (if_neg c_11).symm.trans hz
    obtain ⟨kc, hkc, ekc⟩ := in_hi (M := W) e8 c_11 (by rw [sub_toInt (by omega) (by omega)]; omega)
    refine j_iload_n 15 C dX6_layer_14 rfl rfl 2 rfl ?_
    refine j_iconst 16 C (x := nI 0) dX6_layer_15 rfl (by decide) ?_
    refine j_bipush 18 C (x := nI 60) dX6_layer_16 rfl (by decide) ?_
    obtain ⟨y18, e18, hz⟩ := ap_x hz
    refine s_S 21 C (As := [.int depth, .int (nI 0), .int (nI 60)]) cs_X6_57 (c_X6_in (l := l) (D := D) (K := K) (ad := ad) hG  (hz := e18)) dX6_layer_18 rfl rfl rfl rfl rfl ⟨⟨Nat.le_of_ble_eq_true rfl, Nat.le_of_ble_eq_true rfl⟩, Nat.zero_le _, Nat.zero_le _⟩ (Nat.le_of_ble_eq_true rfl) (st' := [.int y18]) rfl (fun hE => ?_)
    have hbl18 : bl y18 := hE
    refine j_if_eq 31 24 C dX6_layer_21 rfl rfl (fun c_21 => ?_) (fun c_21 => ?_)
    · replace hz := (if_pos c_21).symm.trans hz
      refine j_iconst 32 C (x := (-1)) dX6_layer_31 rfl (by decide) ?_
      subst hz
      exact j_retI C X dX6_layer_32 rfl ⟨rfl, rfl, rfl, (CT_x (by intro a; (by_cases h0 : a = 36; (· (first | (subst h0; simp [sA]; done) | (rw [h0]; simp [sA]; done))); by_cases h1 : a = 47; (· (first | (subst h1; simp [sA]; done) | (rw [h1]; simp [sA]; done))); by_cases h2 : a = 48; (· (first | (subst h2; simp [sA]; done) | (rw [h2]; simp [sA]; done))); by_cases h3 : a = 49; (· (first | (subst h3; simp [sA]; done) | (rw [h3]; simp [sA]; done))); simp [sA, h0, h1, h2, h3]))), trivial⟩
    · replace hz := (if_neg c_21).symm.trans hz
      refine j_aload_n 25 C dX6_layer_24 rfl rfl 0 rfl ?_
      obtain ⟨y25, e25, hz⟩ := ap_x hz
      refine s_V 28 C (As := []) cv_X6_124 (c_X6_reckons (l := l) (D := D) (K := K) (ad := ad) hG (hsee := hsee) (hb17 := hb17) (hz := e25)) dX6_layer_25 rfl 36 6 (GH_r hG (by decide)) rfl (CE_36 _) rfl rfl rfl rfl rfl rfl ⟨⟨Nat.le_of_ble_eq_true rfl, Nat.le_of_ble_eq_true rfl⟩, Nat.zero_le _, Nat.zero_le _⟩ (Nat.le_of_ble_eq_true rfl) (st' := [.int y25.1]) rfl (fun hE => ?_)
      have hbl25 : bl y25.1 := hE
      refine j_if_ne 33 31 C dX6_layer_28 rfl rfl (fun c_28 => ?_) (fun c_28 => ?_)
      · replace hz := (if_neg c_28).symm.trans hz
        refine j_iconst 34 C (x := nI 0) dX6_layer_33 rfl (by decide) ?_
        refine j_istore_n 35 C [(3, .int (nI 0)), (0, .ref (ad 36)), (1, .int column), (2, .int depth)] dX6_layer_34 rfl rfl (by decide) rfl ?_
        refine j_iconst 36 C (x := nI 0) dX6_layer_35 rfl (by decide) ?_
        refine j_istore 38 C [(4, .int (nI 0)), (3, .int (nI 0)), (0, .ref (ad 36)), (1, .int column), (2, .int depth)] dX6_layer_36 rfl (by decide) rfl ?_
        refine j_iconst 39 C (x := nI 0) dX6_layer_38 rfl (by decide) ?_
        refine j_istore 41 C [(5, .int (nI 0)), (4, .int (nI 0)), (3, .int (nI 0)), (0, .ref (ad 36)), (1, .int column), (2, .int depth)] dX6_layer_39 rfl (by decide) rfl ?_
        skip
        obtain ⟨z41, ez41, hz⟩ := ap_x hz
        have L41 : ∀ (n41 i41 : Nat) (c41 : Int32 × Int32), 0 ≤ i41 → i41 < 5000 → n41 = S - i41 → lp (m_X6_layer_L41 W S ns nc B σ column depth y25) n41 i41 c41 = z41 → J p l e rm_X6_layer s m args below meth c Q D A H0 6 0 0 N ad (CT K W S ns nc ad B (sA (sA (sA (sA σ 36 y25.2.1) 47 y25.2.2.1) 48 y25.2.2.2.1) 49 y25.2.2.2.2)) 41 [(0, .ref (ad 36)), (1, .int column), (2, .int depth), (3, .int c41.1), (4, .int c41.2), (5, .int (nI i41))] [] := by
          intro n41
          induction n41 with
          | zero =>
            intro i41 c41 hl41 hi41 hn41 hz41
            refine j_iload 43 C dX6_layer_41 rfl 5 rfl ?_
            refine j_aload_n 44 C dX6_layer_43 rfl rfl 0 rfl ?_
            refine k_get 47 C fl_X6_54 dX6_layer_44 rfl 36 (GH_r hG (by decide)) y25.2.1 (by rfl) (CE_36 _) (.int (nI S)) rfl ?_
            refine j_ic_ge 102 50 C dX6_layer_47 rfl rfl (fun c_47 => ?_) (fun c_47 => ?_)
            · skip
              have n_47 := nat_le (a := S) (b := i41) rfl rfl (by omega) (by omega) c_47
              have hq41 : c41 = z41 := hz41
              subst hq41
              refine j_iload_n 103 C dX6_layer_102 rfl rfl 3 rfl ?_
              refine j_iload 105 C dX6_layer_103 rfl 4 rfl ?_
              refine j_ic_ne 112 108 C dX6_layer_105 rfl rfl (fun c_105 => ?_) (fun c_105 => ?_)
              · replace hz := (if_neg c_105).symm.trans hz
                refine j_iconst 113 C (x := (-1)) dX6_layer_112 rfl (by decide) ?_
                subst hz
                exact j_retI C X dX6_layer_113 rfl ⟨rfl, rfl, rfl, rfl, trivial⟩
              · replace hz := (if_pos c_105).symm.trans hz
                refine j_iload_n 109 C dX6_layer_108 rfl rfl 3 rfl ?_
                refine j_goto 113 C dX6_layer_109 rfl ?_
                subst hz
                exact j_retI C X dX6_layer_113 rfl ⟨rfl, rfl, rfl, rfl, trivial⟩
            · exfalso
              have n_47 := nat_nle (a := S) (b := i41) rfl rfl (by omega) (by omega) c_47
              omega
          | succ n41 ih41 =>
            intro i41 c41 hl41 hi41 hn41 hz41
            refine j_iload 43 C dX6_layer_41 rfl 5 rfl ?_
            refine j_aload_n 44 C dX6_layer_43 rfl rfl 0 rfl ?_
            refine k_get 47 C fl_X6_54 dX6_layer_44 rfl 36 (GH_r hG (by decide)) y25.2.1 (by rfl) (CE_36 _) (.int (nI S)) rfl ?_
            refine j_ic_ge 102 50 C dX6_layer_47 rfl rfl (fun c_47 => ?_) (fun c_47 => ?_)
            · exfalso
              have n_47 := nat_le (a := S) (b := i41) rfl rfl (by omega) (by omega) c_47
              omega
            · skip
              have n_47 := nat_nle (a := S) (b := i41) rfl rfl (by omega) (by omega) c_47
              obtain ⟨w41, hw41, hz41⟩ := lp_s hz41
              have ho41 := hz
              clear hz
              have hz := hw41
              clear hw41
              unfold m_X6_layer_L41 at hz
              refine j_iload_n 51 C dX6_layer_50 rfl rfl 3 rfl ?_
              refine j_aload_n 52 C dX6_layer_51 rfl rfl 0 rfl ?_
              refine j_iload 54 C dX6_layer_52 rfl 5 rfl ?_
              refine j_iload_n 55 C dX6_layer_54 rfl rfl 1 rfl ?_
              obtain ⟨y55, e55, hz⟩ := ap_x hz
              refine s_S 58 C (As := [.int (nI i41), .int column]) cs_X6_81 (c_X6_node (l := l) (D := D) (K := K) (ad := ad) hG  (hz := e55)) dX6_layer_55 rfl rfl rfl rfl rfl ⟨⟨Nat.le_of_ble_eq_true rfl, Nat.le_of_ble_eq_true rfl⟩, Nat.zero_le _, Nat.zero_le _⟩ (Nat.le_of_ble_eq_true rfl) (st' := [.int y55, .ref (ad 36), .int c41.1]) rfl (fun hE => ?_)
              have ey55 : y55 = nI ((8 * i41) + kc) := by rw [← e55]; exact m_X6_node_n rfl (by simp only [ekc, nI_add, pk_mul])
              obtain ⟨y58, e58, hz⟩ := ap_x hz
              refine s_V 61 C (As := [.int y55]) cv_X6_130 (c_X6_high (l := l) (D := D) (K := K) (ad := ad) hG (a_n_ := ((8 * i41) + kc)) (e_n_ := (by simp only [ekc, ey55, nI_add, pk_mul])) (h_n_ := by omega) (hz := e58)) dX6_layer_58 rfl 36 6 (GH_r hG (by decide)) rfl (CE_36 _) rfl rfl rfl rfl rfl rfl ⟨⟨Nat.le_of_ble_eq_true rfl, Nat.le_of_ble_eq_true rfl⟩, Nat.zero_le _, Nat.zero_le _⟩ (Nat.le_of_ble_eq_true rfl) (st' := [.int y58, .int c41.1]) rfl (fun hE => ?_)
              refine j_iload_n 62 C dX6_layer_61 rfl rfl 2 rfl ?_
              refine j_ic_gt 69 65 C dX6_layer_62 rfl rfl (fun c_62 => ?_) (fun c_62 => ?_)
              · replace hz := (if_pos c_62).symm.trans hz
                refine j_iconst 70 C (x := nI 0) dX6_layer_69 rfl (by decide) ?_
                refine j_iadd 71 C dX6_layer_70 rfl rfl ?_
                refine j_istore_n 72 C [(3, .int (c41.1 + (nI 0))), (0, .ref (ad 36)), (1, .int column), (2, .int depth), (4, .int c41.2), (5, .int (nI i41))] dX6_layer_71 rfl rfl (by decide) rfl ?_
                refine j_iload 74 C dX6_layer_72 rfl 4 rfl ?_
                refine j_aload_n 75 C dX6_layer_74 rfl rfl 1 rfl ?_
                refine j_iload 77 C dX6_layer_75 rfl 5 rfl ?_
                refine j_iload_n 78 C dX6_layer_77 rfl rfl 2 rfl ?_
                obtain ⟨y78, e78, hz⟩ := ap_x hz
                refine s_S 81 C (As := [.int (nI i41), .int column]) cs_X6_81 (c_X6_node (l := l) (D := D) (K := K) (ad := ad) hG  (hz := e78)) dX6_layer_78 rfl rfl rfl rfl rfl ⟨⟨Nat.le_of_ble_eq_true rfl, Nat.le_of_ble_eq_true rfl⟩, Nat.zero_le _, Nat.zero_le _⟩ (Nat.le_of_ble_eq_true rfl) (st' := [.int y78, .ref (ad 36), .int c41.2]) rfl (fun hE => ?_)
                have ey78 : y78 = nI ((8 * i41) + kc) := by rw [← e78]; exact m_X6_node_n rfl (by simp only [ekc, ey55, nI_add, pk_mul])
                obtain ⟨y81, e81, hz⟩ := ap_x hz
                refine s_V 84 C (As := [.int y78]) cv_X6_127 (c_X6_low (l := l) (D := D) (K := K) (ad := ad) hG (a_n_ := ((8 * i41) + kc)) (e_n_ := (by simp only [ekc, ey55, ey78, nI_add, pk_mul])) (h_n_ := by omega) (hz := e81)) dX6_layer_81 rfl 36 6 (GH_r hG (by decide)) rfl (CE_36 _) rfl rfl rfl rfl rfl rfl ⟨⟨Nat.le_of_ble_eq_true rfl, Nat.le_of_ble_eq_true rfl⟩, Nat.zero_le _, Nat.zero_le _⟩ (Nat.le_of_ble_eq_true rfl) (st' := [.int y81, .int c41.2]) rfl (fun hE => ?_)
                refine j_iload_n 85 C dX6_layer_84 rfl rfl 3 rfl ?_
                refine j_ic_gt 92 88 C dX6_layer_85 rfl rfl (fun c_85 => ?_) (fun c_85 => ?_)
                · replace hz := (if_pos c_85).symm.trans hz
                  refine j_iconst 93 C (x := nI 0) dX6_layer_92 rfl (by decide) ?_
                  refine j_iadd 94 C dX6_layer_93 rfl rfl ?_
                  refine j_istore 96 C [(4, .int (c41.2 + (nI 0))), (3, .int (c41.1 + (nI 0))), (0, .ref (ad 36)), (1, .int column), (2, .int depth), (5, .int (nI i41))] dX6_layer_94 rfl (by decide) rfl ?_
                  refine j_iinc 99 C (x' := nI (i41 + 1)) [(5, .int (nI (i41 + 1))), (4, .int (c41.2 + (nI 0))), (3, .int (c41.1 + (nI 0))), (0, .ref (ad 36)), (1, .int column), (2, .int depth)] dX6_layer_96 rfl 5 rfl (by rw [show Int32.ofInt 1 = nI 1 from by decide, nI_add]) (by decide) rfl ?_
                  refine j_goto 41 C dX6_layer_99 rfl ?_
                  subst hz
                  refine j_lv [3, 4, 5, 2, 1, 0] (lv' := [(0, .ref (ad 36)), (1, .int column), (2, .int depth), (3, .int (c41.1 + (nI 0))), (4, .int (c41.2 + (nI 0))), (5, .int (nI (i41 + 1)))]) rfl ?_
                  have hz := ho41
                  exact ih41 (i41 + 1) (c41.1 + (nI 0), c41.2 + (nI 0)) (by omega) (by omega) (by omega) hz41
                · replace hz := (if_neg c_85).symm.trans hz
                  refine j_iconst 89 C (x := nI 1) dX6_layer_88 rfl (by decide) ?_
                  refine j_goto 93 C dX6_layer_89 rfl ?_
                  refine j_iadd 94 C dX6_layer_93 rfl rfl ?_
                  refine j_istore 96 C [(4, .int (c41.2 + (nI 1))), (3, .int (c41.1 + (nI 0))), (0, .ref (ad 36)), (1, .int column), (2, .int depth), (5, .int (nI i41))] dX6_layer_94 rfl (by decide) rfl ?_
                  refine j_iinc 99 C (x' := nI (i41 + 1)) [(5, .int (nI (i41 + 1))), (4, .int (c41.2 + (nI 1))), (3, .int (c41.1 + (nI 0))), (0, .ref (ad 36)), (1, .int column), (2, .int depth)] dX6_layer_96 rfl 5 rfl (by rw [show Int32.ofInt 1 = nI 1 from by decide, nI_add]) (by decide) rfl ?_
                  refine j_goto 41 C dX6_layer_99 rfl ?_
                  subst hz
                  refine j_lv [3, 4, 5, 2, 1, 0] (lv' := [(0, .ref (ad 36)), (1, .int column), (2, .int depth), (3, .int (c41.1 + (nI 0))), (4, .int (c41.2 + (nI 1))), (5, .int (nI (i41 + 1)))]) rfl ?_
                  have hz := ho41
                  exact ih41 (i41 + 1) (c41.1 + (nI 0), c41.2 + (nI 1)) (by omega) (by omega) (by omega) hz41
              · replace hz := (if_neg c_62).symm.trans hz
                refine j_iconst 66 C (x := nI 1) dX6_layer_65 rfl (by decide) ?_
                refine j_goto 70 C dX6_layer_66 rfl ?_
                refine j_iadd 71 C dX6_layer_70 rfl rfl ?_
                refine j_istore_n 72 C [(3, .int (c41.1 + (nI 1))), (0, .ref (ad 36)), (1, .int column), (2, .int depth), (4, .int c41.2), (5, .int (nI i41))] dX6_layer_71 rfl rfl (by decide) rfl ?_
                refine j_iload 74 C dX6_layer_72 rfl 4 rfl ?_
                refine j_aload_n 75 C dX6_layer_74 rfl rfl 1 rfl ?_
                refine j_iload 77 C dX6_layer_75 rfl 5 rfl ?_
                refine j_iload_n 78 C dX6_layer_77 rfl rfl 2 rfl ?_
                obtain ⟨y78, e78, hz⟩ := ap_x hz
                refine s_S 81 C (As := [.int (nI i41), .int column]) cs_X6_81 (c_X6_node (l := l) (D := D) (K := K) (ad := ad) hG  (hz := e78)) dX6_layer_78 rfl rfl rfl rfl rfl ⟨⟨Nat.le_of_ble_eq_true rfl, Nat.le_of_ble_eq_true rfl⟩, Nat.zero_le _, Nat.zero_le _⟩ (Nat.le_of_ble_eq_true rfl) (st' := [.int y78, .ref (ad 36), .int c41.2]) rfl (fun hE => ?_)
                have ey78 : y78 = nI ((8 * i41) + kc) := by rw [← e78]; exact m_X6_node_n rfl (by simp only [ekc, ey55, nI_add, pk_mul])
                obtain ⟨y81, e81, hz⟩ := ap_x hz
                refine s_V 84 C (As := [.int y78]) cv_X6_127 (c_X6_low (l := l) (D := D) (K := K) (ad := ad) hG (a_n_ := ((8 * i41) + kc)) (e_n_ := (by simp only [ekc, ey55, ey78, nI_add, pk_mul])) (h_n_ := by omega) (hz := e81)) dX6_layer_81 rfl 36 6 (GH_r hG (by decide)) rfl (CE_36 _) rfl rfl rfl rfl rfl rfl ⟨⟨Nat.le_of_ble_eq_true rfl, Nat.le_of_ble_eq_true rfl⟩, Nat.zero_le _, Nat.zero_le _⟩ (Nat.le_of_ble_eq_true rfl) (st' := [.int y81, .int c41.2]) rfl (fun hE => ?_)
                refine j_iload_n 85 C dX6_layer_84 rfl rfl 3 rfl ?_
                refine j_ic_gt 92 88 C dX6_layer_85 rfl rfl (fun c_85 => ?_) (fun c_85 => ?_)
                · replace hz := (if_pos c_85).symm.trans hz
                  refine j_iconst 93 C (x := nI 0) dX6_layer_92 rfl (by decide) ?_
                  refine j_iadd 94 C dX6_layer_93 rfl rfl ?_
                  refine j_istore 96 C [(4, .int (c41.2 + (nI 0))), (3, .int (c41.1 + (nI 1))), (0, .ref (ad 36)), (1, .int column), (2, .int depth), (5, .int (nI i41))] dX6_layer_94 rfl (by decide) rfl ?_
                  refine j_iinc 99 C (x' := nI (i41 + 1)) [(5, .int (nI (i41 + 1))), (4, .int (c41.2 + (nI 0))), (3, .int (c41.1 + (nI 1))), (0, .ref (ad 36)), (1, .int column), (2, .int depth)] dX6_layer_96 rfl 5 rfl (by rw [show Int32.ofInt 1 = nI 1 from by decide, nI_add]) (by decide) rfl ?_
                  refine j_goto 41 C dX6_layer_99 rfl ?_
                  subst hz
                  refine j_lv [3, 4, 5, 2, 1, 0] (lv' := [(0, .ref (ad 36)), (1, .int column), (2, .int depth), (3, .int (c41.1 + (nI 1))), (4, .int (c41.2 + (nI 0))), (5, .int (nI (i41 + 1)))]) rfl ?_
                  have hz := ho41
                  exact ih41 (i41 + 1) (c41.1 + (nI 1), c41.2 + (nI 0)) (by omega) (by omega) (by omega) hz41
                · replace hz := (if_neg c_85).symm.trans hz
                  refine j_iconst 89 C (x := nI 1) dX6_layer_88 rfl (by decide) ?_
                  refine j_goto 93 C dX6_layer_89 rfl ?_
                  refine j_iadd 94 C dX6_layer_93 rfl rfl ?_
                  refine j_istore 96 C [(4, .int (c41.2 + (nI 1))), (3, .int (c41.1 + (nI 1))), (0, .ref (ad 36)), (1, .int column), (2, .int depth), (5, .int (nI i41))] dX6_layer_94 rfl (by decide) rfl ?_
                  refine j_iinc 99 C (x' := nI (i41 + 1)) [(5, .int (nI (i41 + 1))), (4, .int (c41.2 + (nI 1))), (3, .int (c41.1 + (nI 1))), (0, .ref (ad 36)), (1, .int column), (2, .int depth)] dX6_layer_96 rfl 5 rfl (by rw [show Int32.ofInt 1 = nI 1 from by decide, nI_add]) (by decide) rfl ?_
                  refine j_goto 41 C dX6_layer_99 rfl ?_
                  subst hz
                  refine j_lv [3, 4, 5, 2, 1, 0] (lv' := [(0, .ref (ad 36)), (1, .int column), (2, .int depth), (3, .int (c41.1 + (nI 1))), (4, .int (c41.2 + (nI 1))), (5, .int (nI (i41 + 1)))]) rfl ?_
                  have hz := ho41
                  exact ih41 (i41 + 1) (c41.1 + (nI 1), c41.2 + (nI 1)) (by omega) (by omega) (by omega) hz41
        refine j_lv [3, 4, 5, 2, 1, 0] (lv' := [(0, .ref (ad 36)), (1, .int column), (2, .int depth), (3, .int (nI 0)), (4, .int (nI 0)), (5, .int (nI 0))]) rfl ?_
        exact L41 _ 0 (nI 0, nI 0) (by omega) (by omega) rfl ez41
      · replace hz := (if_pos c_28).symm.trans hz
        refine j_iconst 32 C (x := (-1)) dX6_layer_31 rfl (by decide) ?_
        subst hz
        exact j_retI C X dX6_layer_32 rfl ⟨rfl, rfl, rfl, rfl, trivial⟩
def m_X6_between (W S ns nc : Nat) (B : Nat → Option Nat) (σ : Nat → Nat → Int32) (one : Int32) (other : Int32) (what : Int32) : Int32 × (Nat → Int32) × (Nat → Int32) × (Nat → Int32) × (Nat → Int32) := (if one < 0 then ((-2147483648), (σ 36), (σ 47), (σ 48), (σ 49)) else (if other < 0 then ((-2147483648), (σ 36), (σ 47), (σ 48), (σ 49)) else ap (m_X6_isPlace W S ns nc B σ (one / (nI 10)) (one - one / (nI 10) * (nI 10))) (fun (y17 : Int32) => (if y17 = 0 then ((-2147483648), (σ 36), (σ 47), (σ 48), (σ 49)) else ap (m_X6_isPlace W S ns nc B σ (other / (nI 10)) (other - other / (nI 10) * (nI 10))) (fun (y32 : Int32) => (if y32 = 0 then ((-2147483648), (σ 36), (σ 47), (σ 48), (σ 49)) else ap (m_X6_in W S ns nc B σ what (nI 0) (nI 1)) (fun (y41 : Int32) => (if y41 = 0 then ((-2147483648), (σ 36), (σ 47), (σ 48), (σ 49)) else ap (m_X6_reckons W S ns nc B σ) (fun (y48 : Int32 × (Nat → Int32) × (Nat → Int32) × (Nat → Int32) × (Nat → Int32)) => (if y48.1 = 0 then ((-2147483648), y48.2.1, y48.2.2.1, y48.2.2.2.1, y48.2.2.2.2) else ap (m_X6_node W S ns nc B (sA (sA (sA (sA σ 36 y48.2.1) 47 y48.2.2.1) 48 y48.2.2.2.1) 49 y48.2.2.2.2) (one / (nI 10)) (one - one / (nI 10) * (nI 10))) (fun (y65 : Int32) => ap (m_X6_node W S ns nc B (sA (sA (sA (sA σ 36 y48.2.1) 47 y48.2.2.1) 48 y48.2.2.2.1) 49 y48.2.2.2.2) (other / (nI 10)) (other - other / (nI 10) * (nI 10))) (fun (y78 : Int32) => (if what = 0 then (-(y48.2.2.1 (((nI 33) * y78) + y65).toNatClampNeg), y48.2.1, y48.2.2.1, y48.2.2.2.1, y48.2.2.2.2) else (y48.2.2.1 (((nI 33) * y65) + y78).toNatClampNeg, y48.2.1, y48.2.2.1, y48.2.2.2.1, y48.2.2.2.2))))))))))))))
abbrev rm_X6_between : Room := { frames := 8, cells := 0, slots := 0, locals := 185 }
set_option maxHeartbeats 4000000 in
set_option maxRecDepth 100000 in
theorem c_X6_between {l : Launch} {D : va_G} {K : Nat → ClassId} {W S ns nc N : Nat} {ad : Nat → Nat} {B : Nat → Option Nat} {σ : Nat → Nat → Int32} (hG : GH W S ns nc N) {one : Int32} {other : Int32} {what : Int32}  {z : Int32 × (Nat → Int32) × (Nat → Int32) × (Nat → Int32) × (Nat → Int32)} (hz : m_X6_between W S ns nc B σ one other what = z) (hsee : SeeOK (σ 43) ns) (hb17 : bl (σ 36 17)) : MC l yX6_between cX6_between 6 (some .int) rm_X6_between D (TY K) N ad (CT K W S ns nc ad B σ) [.ref (ad 36), .int one, .int other, .int what] (BS (some (.int z.1)) N ad (CT K W S ns nc ad B (sA (sA (sA (sA σ 36 z.2.1) 47 z.2.2.1) 48 z.2.2.2.1) 49 z.2.2.2.2)) True) := by
  have hW := hG.1; have hW8 := hG.2.1; have hS := hG.2.2.1; have hS4 := hG.2.2.2.1; have hns := hG.2.2.2.2.1; have hnc := hG.2.2.2.2.2.1; have hWS := GH_ws hG
  refine MC.of (by decide) (Nat.le_of_ble_eq_true rfl) (fun p e s m args below meth c Q A H0 C X => ?_)
  replace C : Cx p s m args meth c cX6_between RX6 6 D (TY K) A H0 := C
  show J p l e rm_X6_between s m args below meth c Q D A H0 6 0 0 N ad (CT K W S ns nc ad B σ) 0 [(0, .ref (ad 36)), (1, .int one), (2, .int other), (3, .int what)] []
  unfold m_X6_between at hz
  refine j_iload_n 1 C dX6_between_0 rfl rfl 1 rfl ?_
  refine j_if_lt 54 4 C dX6_between_1 rfl rfl (fun c_1 => ?_) (fun c_1 => ?_)
  · replace hz := (if_pos c_1).symm.trans hz
    refine j_ldc 56 C (x' := (-2147483648)) wv_X6_137 dX6_between_54 rfl (by decide) ?_
    subst hz
    exact j_retI C X dX6_between_56 rfl ⟨rfl, rfl, rfl, (CT_x (by intro a; (by_cases h0 : a = 36; (· (first | (subst h0; simp [sA]; done) | (rw [h0]; simp [sA]; done))); by_cases h1 : a = 47; (· (first | (subst h1; simp [sA]; done) | (rw [h1]; simp [sA]; done))); by_cases h2 : a = 48; (· (first | (subst h2; simp [sA]; done) | (rw [h2]; simp [sA]; done))); by_cases h3 : a = 49; (· (first | (subst h3; simp [sA]; done) | (rw [h3]; simp [sA]; done))); simp [sA, h0, h1, h2, h3]))), trivial⟩
  · replace hz := (if_neg c_1).symm.trans hz
    refine j_iload_n 5 C dX6_between_4 rfl rfl 2 rfl ?_
    refine j_if_lt 54 8 C dX6_between_5 rfl rfl (fun c_5 => ?_) (fun c_5 => ?_)
    · replace hz := (if_pos c_5).symm.trans hz
      refine j_ldc 56 C (x' := (-2147483648)) wv_X6_137 dX6_between_54 rfl (by decide) ?_
      subst hz
      exact j_retI C X dX6_between_56 rfl ⟨rfl, rfl, rfl, (CT_x (by intro a; (by_cases h0 : a = 36; (· (first | (subst h0; simp [sA]; done) | (rw [h0]; simp [sA]; done))); by_cases h1 : a = 47; (· (first | (subst h1; simp [sA]; done) | (rw [h1]; simp [sA]; done))); by_cases h2 : a = 48; (· (first | (subst h2; simp [sA]; done) | (rw [h2]; simp [sA]; done))); by_cases h3 : a = 49; (· (first | (subst h3; simp [sA]; done) | (rw [h3]; simp [sA]; done))); simp [sA, h0, h1, h2, h3]))), trivial⟩
    · replace hz := (if_neg c_5).symm.trans hz
      refine j_aload_n 9 C dX6_between_8 rfl rfl 0 rfl ?_
      refine j_iload_n 10 C dX6_between_9 rfl rfl 1 rfl ?_
      refine j_bipush 12 C (x := nI 10) dX6_between_10 rfl (by decide) ?_
      refine j_idiv 13 C dX6_between_12 rfl (by decide) rfl ?_
      refine j_iload_n 14 C dX6_between_13 rfl rfl 1 rfl ?_
      refine j_bipush 16 C (x := nI 10) dX6_between_14 rfl (by decide) ?_
      refine j_irem 17 C dX6_between_16 rfl (by decide) rfl ?_
      obtain ⟨y17, e17, hz⟩ := ap_x hz
      refine s_V 20 C (As := [.int (one / (nI 10)), .int (one - one / (nI 10) * (nI 10))]) cv_X6_65 (c_X6_isPlace (l := l) (D := D) (K := K) (ad := ad) hG  (hz := e17)) dX6_between_17 rfl 36 6 (GH_r hG (by decide)) rfl (CE_36 _) rfl rfl rfl rfl rfl rfl ⟨⟨Nat.le_of_ble_eq_true rfl, Nat.le_of_ble_eq_true rfl⟩, Nat.zero_le _, Nat.zero_le _⟩ (Nat.le_of_ble_eq_true rfl) (st' := [.int y17]) rfl (fun hE => ?_)
      have hbl17 : bl y17 := hE
      refine j_if_eq 54 23 C dX6_between_20 rfl rfl (fun c_20 => ?_) (fun c_20 => ?_)
      · replace hz := (if_pos c_20).symm.trans hz
        refine j_ldc 56 C (x' := (-2147483648)) wv_X6_137 dX6_between_54 rfl (by decide) ?_
        subst hz
        exact j_retI C X dX6_between_56 rfl ⟨rfl, rfl, rfl, (CT_x (by intro a; (by_cases h0 : a = 36; (· (first | (subst h0; simp [sA]; done) | (rw [h0]; simp [sA]; done))); by_cases h1 : a = 47; (· (first | (subst h1; simp [sA]; done) | (rw [h1]; simp [sA]; done))); by_cases h2 : a = 48; (· (first | (subst h2; simp [sA]; done) | (rw [h2]; simp [sA]; done))); by_cases h3 : a = 49; (· (first | (subst h3; simp [sA]; done) | (rw [h3]; simp [sA]; done))); simp [sA, h0, h1, h2, h3]))), trivial⟩
      · replace hz := (if_neg c_20).symm.trans hz
        obtain ⟨k1, j1, hk1, hj1, ek1, ej1⟩ := isPlace_nat hG e17 c_20
        refine j_aload_n 24 C dX6_between_23 rfl rfl 0 rfl ?_
        refine j_iload_n 25 C dX6_between_24 rfl rfl 2 rfl ?_
        refine j_bipush 27 C (x := nI 10) dX6_between_25 rfl (by decide) ?_
        refine j_idiv 28 C dX6_between_27 rfl (by decide) rfl ?_
        refine j_iload_n 29 C dX6_between_28 rfl rfl 2 rfl ?_
        refine j_bipush 31 C (x := nI 10) dX6_between_29 rfl (by decide) ?_
        refine j_irem 32 C dX6_between_31 rfl (by decide) rfl ?_
        obtain ⟨y32, e32, hz⟩ := ap_x hz
        refine s_V 35 C (As := [.int (other / (nI 10)), .int (other - other / (nI 10) * (nI 10))]) cv_X6_65 (c_X6_isPlace (l := l) (D := D) (K := K) (ad := ad) hG  (hz := e32)) dX6_between_32 rfl 36 6 (GH_r hG (by decide)) rfl (CE_36 _) rfl rfl rfl rfl rfl rfl ⟨⟨Nat.le_of_ble_eq_true rfl, Nat.le_of_ble_eq_true rfl⟩, Nat.zero_le _, Nat.zero_le _⟩ (Nat.le_of_ble_eq_true rfl) (st' := [.int y32]) rfl (fun hE => ?_)
        have hbl32 : bl y32 := hE
        refine j_if_eq 54 38 C dX6_between_35 rfl rfl (fun c_35 => ?_) (fun c_35 => ?_)
        · replace hz := (if_pos c_35).symm.trans hz
          refine j_ldc 56 C (x' := (-2147483648)) wv_X6_137 dX6_between_54 rfl (by decide) ?_
          subst hz
          exact j_retI C X dX6_between_56 rfl ⟨rfl, rfl, rfl, (CT_x (by intro a; (by_cases h0 : a = 36; (· (first | (subst h0; simp [sA]; done) | (rw [h0]; simp [sA]; done))); by_cases h1 : a = 47; (· (first | (subst h1; simp [sA]; done) | (rw [h1]; simp [sA]; done))); by_cases h2 : a = 48; (· (first | (subst h2; simp [sA]; done) | (rw [h2]; simp [sA]; done))); by_cases h3 : a = 49; (· (first | (subst h3; simp [sA]; done) | (rw [h3]; simp [sA]; done))); simp [sA, h0, h1, h2, h3]))), trivial⟩
        · replace hz := (if_neg c_35).symm.trans hz
          obtain ⟨k2, j2, hk2, hj2, ek2, ej2⟩ := isPlace_nat hG e32 c_35
          refine j_iload_n 39 C dX6_between_38 rfl rfl 3 rfl ?_
          refine j_iconst 40 C (x := nI 0) dX6_between_39 rfl (by decide) ?_
          refine j_iconst 41 C (x := nI 1) dX6_between_40 rfl (by decide) ?_
          obtain ⟨y41, e41, hz⟩ := ap_x hz
          refine s_S 44 C (As := [.int what, .int (nI 0), .int (nI 1)]) cs_X6_57 (c_X6_in (l := l) (D := D) (K := K) (ad := ad) hG  (hz := e41)) dX6_between_41 rfl rfl rfl rfl rfl ⟨⟨Nat.le_of_ble_eq_true rfl, Nat.le_of_ble_eq_true rfl⟩, Nat.zero_le _, Nat.zero_le _⟩ (Nat.le_of_ble_eq_true rfl) (st' := [.int y41]) rfl (fun hE => ?_)
          have hbl41 : bl y41 := hE
          refine j_if_eq 54 47 C dX6_between_44 rfl rfl (fun c_44 => ?_) (fun c_44 => ?_)
          · replace hz := (if_pos c_44).symm.trans hz
            refine j_ldc 56 C (x' := (-2147483648)) wv_X6_137 dX6_between_54 rfl (by decide) ?_
            subst hz
            exact j_retI C X dX6_between_56 rfl ⟨rfl, rfl, rfl, (CT_x (by intro a; (by_cases h0 : a = 36; (· (first | (subst h0; simp [sA]; done) | (rw [h0]; simp [sA]; done))); by_cases h1 : a = 47; (· (first | (subst h1; simp [sA]; done) | (rw [h1]; simp [sA]; done))); by_cases h2 : a = 48; (· (first | (subst h2; simp [sA]; done) | (rw [h2]; simp [sA]; done))); by_cases h3 : a = 49; (· (first | (subst h3; simp [sA]; done) | (rw [h3]; simp [sA]; done))); simp [sA, h0, h1, h2, h3]))), trivial⟩
          · replace hz := (if_neg c_44).symm.trans hz
            refine j_aload_n 48 C dX6_between_47 rfl rfl 0 rfl ?_
            obtain ⟨y48, e48, hz⟩ := ap_x hz
            refine s_V 51 C (As := []) cv_X6_124 (c_X6_reckons (l := l) (D := D) (K := K) (ad := ad) hG (hsee := hsee) (hb17 := hb17) (hz := e48)) dX6_between_48 rfl 36 6 (GH_r hG (by decide)) rfl (CE_36 _) rfl rfl rfl rfl rfl rfl ⟨⟨Nat.le_of_ble_eq_true rfl, Nat.le_of_ble_eq_true rfl⟩, Nat.zero_le _, Nat.zero_le _⟩ (Nat.le_of_ble_eq_true rfl) (st' := [.int y48.1]) rfl (fun hE => ?_)
            have hbl48 : bl y48.1 := hE
            refine j_if_ne 57 54 C dX6_between_51 rfl rfl (fun c_51 => ?_) (fun c_51 => ?_)
            · replace hz := (if_neg c_51).symm.trans hz
              refine j_iload_n 58 C dX6_between_57 rfl rfl 1 rfl ?_
              refine j_bipush 60 C (x := nI 10) dX6_between_58 rfl (by decide) ?_
              refine j_idiv 61 C dX6_between_60 rfl (by decide) rfl ?_
              refine j_iload_n 62 C dX6_between_61 rfl rfl 1 rfl ?_
              refine j_bipush 64 C (x := nI 10) dX6_between_62 rfl (by decide) ?_
              refine j_irem 65 C dX6_between_64 rfl (by decide) rfl ?_
              obtain ⟨y65, e65, hz⟩ := ap_x hz
              refine s_S 68 C (As := [.int (one / (nI 10)), .int (one - one / (nI 10) * (nI 10))]) cs_X6_81 (c_X6_node (l := l) (D := D) (K := K) (ad := ad) hG  (hz := e65)) dX6_between_65 rfl rfl rfl rfl rfl ⟨⟨Nat.le_of_ble_eq_true rfl, Nat.le_of_ble_eq_true rfl⟩, Nat.zero_le _, Nat.zero_le _⟩ (Nat.le_of_ble_eq_true rfl) (st' := [.int y65]) rfl (fun hE => ?_)
              have ey65 : y65 = nI ((8 * k1) + j1) := by rw [← e65]; exact m_X6_node_n ek1 ej1
              refine j_istore 70 C [(4, .int y65), (0, .ref (ad 36)), (1, .int one), (2, .int other), (3, .int what)] dX6_between_68 rfl (by decide) rfl ?_
              refine j_iload_n 71 C dX6_between_70 rfl rfl 3 rfl ?_
              refine j_bipush 73 C (x := nI 10) dX6_between_71 rfl (by decide) ?_
              refine j_idiv 74 C dX6_between_73 rfl (by decide) rfl ?_
              refine j_iload_n 75 C dX6_between_74 rfl rfl 3 rfl ?_
              refine j_bipush 77 C (x := nI 10) dX6_between_75 rfl (by decide) ?_
              refine j_irem 78 C dX6_between_77 rfl (by decide) rfl ?_
              obtain ⟨y78, e78, hz⟩ := ap_x hz
              refine s_S 81 C (As := [.int (other / (nI 10)), .int (other - other / (nI 10) * (nI 10))]) cs_X6_81 (c_X6_node (l := l) (D := D) (K := K) (ad := ad) hG  (hz := e78)) dX6_between_78 rfl rfl rfl rfl rfl ⟨⟨Nat.le_of_ble_eq_true rfl, Nat.le_of_ble_eq_true rfl⟩, Nat.zero_le _, Nat.zero_le _⟩ (Nat.le_of_ble_eq_true rfl) (st' := [.int y78]) rfl (fun hE => ?_)
              have ey78 : y78 = nI ((8 * k2) + j2) := by rw [← e78]; exact m_X6_node_n ek2 ej2
              refine j_istore 83 C [(5, .int y78), (4, .int y65), (0, .ref (ad 36)), (1, .int one), (2, .int other), (3, .int what)] dX6_between_81 rfl (by decide) rfl ?_
              refine j_iload_n 84 C dX6_between_83 rfl rfl 5 rfl ?_
              refine j_if_ne 104 87 C dX6_between_84 rfl rfl (fun c_84 => ?_) (fun c_84 => ?_)
              · replace hz := (if_neg c_84).symm.trans hz
                refine j_aload_n 105 C dX6_between_104 rfl rfl 2 rfl ?_
                refine k_get 108 C fl_X6_41 dX6_between_105 rfl 36 (GH_r hG (by decide)) y48.2.1 (by rfl) (CE_36 _) (.ref (ad 47)) rfl ?_
                refine j_bipush 110 C (x := nI 33) dX6_between_108 rfl (by decide) ?_
                refine j_iload 112 C dX6_between_110 rfl 1 rfl ?_
                refine j_imul 113 C dX6_between_112 rfl rfl ?_
                refine j_iload 115 C dX6_between_113 rfl 0 rfl ?_
                refine j_iadd 116 C dX6_between_115 rfl rfl ?_
                refine k_iald 117 C dX6_between_116 rfl 47 (GH_r hG (by decide)) y48.2.2.1 (by rfl) CE_47 (vp_inE (n := ((33 * ((8 * k1) + j1)) + ((8 * k2) + j2))) (by simp only [ey65, ey78, nI_add, pk_mul]) (by omega) (by omega)) ?_
                subst hz
                exact j_retI C X dX6_between_117 rfl ⟨rfl, rfl, rfl, rfl, trivial⟩
              · replace hz := (if_pos c_84).symm.trans hz
                refine j_aload_n 88 C dX6_between_87 rfl rfl 2 rfl ?_
                refine k_get 91 C fl_X6_41 dX6_between_88 rfl 36 (GH_r hG (by decide)) y48.2.1 (by rfl) (CE_36 _) (.ref (ad 47)) rfl ?_
                refine j_bipush 93 C (x := nI 33) dX6_between_91 rfl (by decide) ?_
                refine j_iload 95 C dX6_between_93 rfl 0 rfl ?_
                refine j_imul 96 C dX6_between_95 rfl rfl ?_
                refine j_iload 98 C dX6_between_96 rfl 1 rfl ?_
                refine j_iadd 99 C dX6_between_98 rfl rfl ?_
                refine k_iald 100 C dX6_between_99 rfl 47 (GH_r hG (by decide)) y48.2.2.1 (by rfl) CE_47 (vp_inE (n := ((33 * ((8 * k2) + j2)) + ((8 * k1) + j1))) (by simp only [ey65, ey78, nI_add, pk_mul]) (by omega) (by omega)) ?_
                refine j_ineg 101 C dX6_between_100 rfl rfl ?_
                refine j_goto 117 C dX6_between_101 rfl ?_
                subst hz
                exact j_retI C X dX6_between_117 rfl ⟨rfl, rfl, rfl, rfl, trivial⟩
            · replace hz := (if_pos c_51).symm.trans hz
              refine j_ldc 56 C (x' := (-2147483648)) wv_X6_137 dX6_between_54 rfl (by decide) ?_
              subst hz
              exact j_retI C X dX6_between_56 rfl ⟨rfl, rfl, rfl, rfl, trivial⟩
def m_X6_worn (W S ns nc : Nat) (B : Nat → Option Nat) (σ : Nat → Nat → Int32) (surface : Int32) (column : Int32) : Int32 × (Nat → Int32) × (Nat → Int32) × (Nat → Int32) × (Nat → Int32) := ap (m_X6_isPlace W S ns nc B σ surface column) (fun (y3 : Int32) => (if y3 = 0 then ((-1), (σ 36), (σ 47), (σ 48), (σ 49)) else ap (m_X6_reckons W S ns nc B σ) (fun (y10 : Int32 × (Nat → Int32) × (Nat → Int32) × (Nat → Int32) × (Nat → Int32)) => (if y10.1 = 0 then ((-1), y10.2.1, y10.2.2.1, y10.2.2.2.1, y10.2.2.2.2) else ap (m_X6_node W S ns nc B (sA (sA (sA (sA σ 36 y10.2.1) 47 y10.2.2.1) 48 y10.2.2.2.1) 49 y10.2.2.2.2) surface column) (fun (y20 : Int32) => ap (m_X6_high W S ns nc B (sA (sA (sA (sA σ 36 y10.2.1) 47 y10.2.2.1) 48 y10.2.2.2.1) 49 y10.2.2.2.2) y20) (fun (y26 : Int32) => (if ((σ 42) (column).toNatClampNeg) ≤ y26 then ap (m_X6_low W S ns nc B (sA (sA (sA (sA σ 36 y10.2.1) 47 y10.2.2.1) 48 y10.2.2.2.1) 49 y10.2.2.2.2) y20) (fun (y44 : Int32) => (if ((σ 42) (column).toNatClampNeg) ≤ y44 then (nI 0, y10.2.1, y10.2.2.1, y10.2.2.2.1, y10.2.2.2.2) else (nI 1, y10.2.1, y10.2.2.1, y10.2.2.2.1, y10.2.2.2.2))) else (nI 2, y10.2.1, y10.2.2.1, y10.2.2.2.1, y10.2.2.2.2))))))))
abbrev rm_X6_worn : Room := { frames := 8, cells := 0, slots := 0, locals := 185 }
set_option maxHeartbeats 4000000 in
set_option maxRecDepth 100000 in
theorem c_X6_worn {l : Launch} {D : va_G} {K : Nat → ClassId} {W S ns nc N : Nat} {ad : Nat → Nat} {B : Nat → Option Nat} {σ : Nat → Nat → Int32} (hG : GH W S ns nc N) {surface : Int32} {column : Int32}  {z : Int32 × (Nat → Int32) × (Nat → Int32) × (Nat → Int32) × (Nat → Int32)} (hz : m_X6_worn W S ns nc B σ surface column = z) (hsee : SeeOK (σ 43) ns) (hb17 : bl (σ 36 17)) : MC l yX6_worn cX6_worn 4 (some .int) rm_X6_worn D (TY K) N ad (CT K W S ns nc ad B σ) [.ref (ad 36), .int surface, .int column] (BS (some (.int z.1)) N ad (CT K W S ns nc ad B (sA (sA (sA (sA σ 36 z.2.1) 47 z.2.2.1) 48 z.2.2.2.1) 49 z.2.2.2.2)) True) := by
  have hW := hG.1; have hW8 := hG.2.1; have hS := hG.2.2.1; have hS4 := hG.2.2.2.1; have hns := hG.2.2.2.2.1; have hnc := hG.2.2.2.2.2.1; have hWS := GH_ws hG
  refine MC.of (by decide) (Nat.le_of_ble_eq_true rfl) (fun p e s m args below meth c Q A H0 C X => ?_)
  replace C : Cx p s m args meth c cX6_worn RX6 4 D (TY K) A H0 := C
  show J p l e rm_X6_worn s m args below meth c Q D A H0 4 0 0 N ad (CT K W S ns nc ad B σ) 0 [(0, .ref (ad 36)), (1, .int surface), (2, .int column)] []
  unfold m_X6_worn at hz
  refine j_aload_n 1 C dX6_worn_0 rfl rfl 0 rfl ?_
  refine j_iload_n 2 C dX6_worn_1 rfl rfl 1 rfl ?_
  refine j_iload_n 3 C dX6_worn_2 rfl rfl 2 rfl ?_
  obtain ⟨y3, e3, hz⟩ := ap_x hz
  refine s_V 6 C (As := [.int surface, .int column]) cv_X6_65 (c_X6_isPlace (l := l) (D := D) (K := K) (ad := ad) hG  (hz := e3)) dX6_worn_3 rfl 36 6 (GH_r hG (by decide)) rfl (CE_36 _) rfl rfl rfl rfl rfl rfl ⟨⟨Nat.le_of_ble_eq_true rfl, Nat.le_of_ble_eq_true rfl⟩, Nat.zero_le _, Nat.zero_le _⟩ (Nat.le_of_ble_eq_true rfl) (st' := [.int y3]) rfl (fun hE => ?_)
  have hbl3 : bl y3 := hE
  refine j_if_eq 16 9 C dX6_worn_6 rfl rfl (fun c_6 => ?_) (fun c_6 => ?_)
  · replace hz := (if_pos c_6).symm.trans hz
    refine j_iconst 17 C (x := (-1)) dX6_worn_16 rfl (by decide) ?_
    subst hz
    exact j_retI C X dX6_worn_17 rfl ⟨rfl, rfl, rfl, (CT_x (by intro a; (by_cases h0 : a = 36; (· (first | (subst h0; simp [sA]; done) | (rw [h0]; simp [sA]; done))); by_cases h1 : a = 47; (· (first | (subst h1; simp [sA]; done) | (rw [h1]; simp [sA]; done))); by_cases h2 : a = 48; (· (first | (subst h2; simp [sA]; done) | (rw [h2]; simp [sA]; done))); by_cases h3 : a = 49; (· (first | (subst h3; simp [sA]; done) | (rw [h3]; simp [sA]; done))); simp [sA, h0, h1, h2, h3]))), trivial⟩
  · replace hz := (if_neg c_6).symm.trans hz
    obtain ⟨ks, kc, hks, hkc, eks, ekc⟩ := isPlace_nat hG e3 c_6
    refine j_aload_n 10 C dX6_worn_9 rfl rfl 0 rfl ?_
    obtain ⟨y10, e10, hz⟩ := ap_x hz
    refine s_V 13 C (As := []) cv_X6_124 (c_X6_reckons (l := l) (D := D) (K := K) (ad := ad) hG (hsee := hsee) (hb17 := hb17) (hz := e10)) dX6_worn_10 rfl 36 6 (GH_r hG (by decide)) rfl (CE_36 _) rfl rfl rfl rfl rfl rfl ⟨⟨Nat.le_of_ble_eq_true rfl, Nat.le_of_ble_eq_true rfl⟩, Nat.zero_le _, Nat.zero_le _⟩ (Nat.le_of_ble_eq_true rfl) (st' := [.int y10.1]) rfl (fun hE => ?_)
    have hbl10 : bl y10.1 := hE
    refine j_if_ne 18 16 C dX6_worn_13 rfl rfl (fun c_13 => ?_) (fun c_13 => ?_)
    · replace hz := (if_neg c_13).symm.trans hz
      refine j_iload_n 19 C dX6_worn_18 rfl rfl 1 rfl ?_
      refine j_iload_n 20 C dX6_worn_19 rfl rfl 2 rfl ?_
      obtain ⟨y20, e20, hz⟩ := ap_x hz
      refine s_S 23 C (As := [.int surface, .int column]) cs_X6_81 (c_X6_node (l := l) (D := D) (K := K) (ad := ad) hG  (hz := e20)) dX6_worn_20 rfl rfl rfl rfl rfl ⟨⟨Nat.le_of_ble_eq_true rfl, Nat.le_of_ble_eq_true rfl⟩, Nat.zero_le _, Nat.zero_le _⟩ (Nat.le_of_ble_eq_true rfl) (st' := [.int y20]) rfl (fun hE => ?_)
      have ey20 : y20 = nI ((8 * ks) + kc) := by rw [← e20]; exact m_X6_node_n (by simp only [eks, ekc, nI_add, pk_mul]) (by simp only [eks, ekc, nI_add, pk_mul])
      refine j_istore_n 24 C [(3, .int y20), (0, .ref (ad 36)), (1, .int surface), (2, .int column)] dX6_worn_23 rfl rfl (by decide) rfl ?_
      refine j_aload_n 25 C dX6_worn_24 rfl rfl 1 rfl ?_
      refine j_iload_n 26 C dX6_worn_25 rfl rfl 0 rfl ?_
      obtain ⟨y26, e26, hz⟩ := ap_x hz
      refine s_V 29 C (As := [.int y20]) cv_X6_130 (c_X6_high (l := l) (D := D) (K := K) (ad := ad) hG (a_n_ := ((8 * ks) + kc)) (e_n_ := (by simp only [eks, ekc, ey20, nI_add, pk_mul])) (h_n_ := by omega) (hz := e26)) dX6_worn_26 rfl 36 6 (GH_r hG (by decide)) rfl (CE_36 _) rfl rfl rfl rfl rfl rfl ⟨⟨Nat.le_of_ble_eq_true rfl, Nat.le_of_ble_eq_true rfl⟩, Nat.zero_le _, Nat.zero_le _⟩ (Nat.le_of_ble_eq_true rfl) (st' := [.int y26]) rfl (fun hE => ?_)
      refine j_aload_n 30 C dX6_worn_29 rfl rfl 1 rfl ?_
      refine k_get 33 C fl_X6_26 dX6_worn_30 rfl 36 (GH_r hG (by decide)) y10.2.1 (by rfl) (CE_36 _) (.ref (ad 42)) rfl ?_
      refine j_iload_n 34 C dX6_worn_33 rfl rfl 3 rfl ?_
      refine k_iald 35 C dX6_worn_34 rfl 42 (GH_r hG (by decide)) (σ 42) (by rfl) CE_42 (vp_inE (n := kc) (by simp only [eks, ekc, ey20, nI_add, pk_mul]) (by omega) (by omega)) ?_
      refine j_ic_ge 42 38 C dX6_worn_35 rfl rfl (fun c_35 => ?_) (fun c_35 => ?_)
      · replace hz := (if_pos c_35).symm.trans hz
        refine j_aload_n 43 C dX6_worn_42 rfl rfl 1 rfl ?_
        refine j_iload_n 44 C dX6_worn_43 rfl rfl 0 rfl ?_
        obtain ⟨y44, e44, hz⟩ := ap_x hz
        refine s_V 47 C (As := [.int y20]) cv_X6_127 (c_X6_low (l := l) (D := D) (K := K) (ad := ad) hG (a_n_ := ((8 * ks) + kc)) (e_n_ := (by simp only [eks, ekc, ey20, nI_add, pk_mul])) (h_n_ := by omega) (hz := e44)) dX6_worn_44 rfl 36 6 (GH_r hG (by decide)) rfl (CE_36 _) rfl rfl rfl rfl rfl rfl ⟨⟨Nat.le_of_ble_eq_true rfl, Nat.le_of_ble_eq_true rfl⟩, Nat.zero_le _, Nat.zero_le _⟩ (Nat.le_of_ble_eq_true rfl) (st' := [.int y44]) rfl (fun hE => ?_)
        refine j_aload_n 48 C dX6_worn_47 rfl rfl 1 rfl ?_
        refine k_get 51 C fl_X6_26 dX6_worn_48 rfl 36 (GH_r hG (by decide)) y10.2.1 (by rfl) (CE_36 _) (.ref (ad 42)) rfl ?_
        refine j_iload_n 52 C dX6_worn_51 rfl rfl 3 rfl ?_
        refine k_iald 53 C dX6_worn_52 rfl 42 (GH_r hG (by decide)) (σ 42) (by rfl) CE_42 (vp_inE (n := kc) (by simp only [eks, ekc, ey20, nI_add, pk_mul]) (by omega) (by omega)) ?_
        refine j_ic_ge 60 56 C dX6_worn_53 rfl rfl (fun c_53 => ?_) (fun c_53 => ?_)
        · replace hz := (if_pos c_53).symm.trans hz
          refine j_iconst 61 C (x := nI 0) dX6_worn_60 rfl (by decide) ?_
          subst hz
          exact j_retI C X dX6_worn_61 rfl ⟨rfl, rfl, rfl, rfl, trivial⟩
        · replace hz := (if_neg c_53).symm.trans hz
          refine j_iconst 57 C (x := nI 1) dX6_worn_56 rfl (by decide) ?_
          refine j_goto 61 C dX6_worn_57 rfl ?_
          subst hz
          exact j_retI C X dX6_worn_61 rfl ⟨rfl, rfl, rfl, rfl, trivial⟩
      · replace hz := (if_neg c_35).symm.trans hz
        refine j_iconst 39 C (x := nI 2) dX6_worn_38 rfl (by decide) ?_
        refine j_goto 61 C dX6_worn_39 rfl ?_
        subst hz
        exact j_retI C X dX6_worn_61 rfl ⟨rfl, rfl, rfl, rfl, trivial⟩
    · replace hz := (if_pos c_13).symm.trans hz
      refine j_iconst 17 C (x := (-1)) dX6_worn_16 rfl (by decide) ?_
      subst hz
      exact j_retI C X dX6_worn_17 rfl ⟨rfl, rfl, rfl, rfl, trivial⟩
def m_X6_opensBy_L17 (W S ns nc : Nat) (B : Nat → Option Nat) (σ : Nat → Nat → Int32) (at_ : Int32) (v : Int32) (i5 : Nat) (i17 : Nat) (c17 : Int32) : Int32 := ap (m_X6_node W S ns nc B σ (nI i5) (nI i17)) (fun (y30 : Int32) => ap (v + ((σ 47) (((nI 33) * at_) + y30).toNatClampNeg)) (fun (x49 : Int32) => ap (v - ((σ 47) (((nI 33) * y30) + at_).toNatClampNeg)) (fun (x65 : Int32) => ap (m_X6_high W S ns nc B σ y30) (fun (y72 : Int32) => (if y72 ≤ x49 then ap (m_X6_high W S ns nc B σ y30) (fun (y86 : Int32) => ap (m_X6_low W S ns nc B σ y30) (fun (y96 : Int32) => (if x65 ≤ y96 then ap (m_X6_low W S ns nc B σ y30) (fun (y110 : Int32) => c17 + (y86 - y110)) else c17 + (y86 - x65)))) else ap (m_X6_low W S ns nc B σ y30) (fun (y96 : Int32) => (if x65 ≤ y96 then ap (m_X6_low W S ns nc B σ y30) (fun (y110 : Int32) => c17 + (x49 - y110)) else c17 + (x49 - x65))))))))
def m_X6_opensBy_L5 (W S ns nc : Nat) (B : Nat → Option Nat) (σ : Nat → Nat → Int32) (at_ : Int32) (v : Int32) (i5 : Nat) (c5 : Int32) : Int32 := ap (lp (m_X6_opensBy_L17 W S ns nc B σ at_ v i5) (W - 0) 0 c5) (fun (z17 : Int32) => z17)
def m_X6_opensBy (W S ns nc : Nat) (B : Nat → Option Nat) (σ : Nat → Nat → Int32) (at_ : Int32) (v : Int32) : Int32 := ap (lp (m_X6_opensBy_L5 W S ns nc B σ at_ v) (S - 0) 0 (nI 0)) (fun (z5 : Int32) => z5)
abbrev rm_X6_opensBy : Room := { frames := 1, cells := 0, slots := 0, locals := 21 }
set_option maxHeartbeats 4000000 in
set_option maxRecDepth 100000 in
theorem c_X6_opensBy {l : Launch} {D : va_G} {K : Nat → ClassId} {W S ns nc N : Nat} {ad : Nat → Nat} {B : Nat → Option Nat} {σ : Nat → Nat → Int32} (hG : GH W S ns nc N) {at_ : Int32} {a_at_ : Nat} {v : Int32} (e_at_ : at_ = nI a_at_) (h_at_ : a_at_ < 33) {z : Int32} (hz : m_X6_opensBy W S ns nc B σ at_ v = z)  : MC l yX6_opensBy cX6_opensBy 9 (some .int) rm_X6_opensBy D (TY K) N ad (CT K W S ns nc ad B σ) [.ref (ad 36), .int at_, .int v] (BS (some (.int z)) N ad (CT K W S ns nc ad B σ) True) := by
  have hW := hG.1; have hW8 := hG.2.1; have hS := hG.2.2.1; have hS4 := hG.2.2.2.1; have hns := hG.2.2.2.2.1; have hnc := hG.2.2.2.2.2.1; have hWS := GH_ws hG
  subst e_at_
  refine MC.of (by decide) (Nat.le_of_ble_eq_true rfl) (fun p e s m args below meth c Q A H0 C X => ?_)
  replace C : Cx p s m args meth c cX6_opensBy RX6 9 D (TY K) A H0 := C
  show J p l e rm_X6_opensBy s m args below meth c Q D A H0 9 0 0 N ad (CT K W S ns nc ad B σ) 0 [(0, .ref (ad 36)), (1, .int (nI a_at_)), (2, .int v)] []
  unfold m_X6_opensBy at hz
  refine j_iconst 1 C (x := nI 0) dX6_opensBy_0 rfl (by decide) ?_
  refine j_istore_n 2 C [(3, .int (nI 0)), (0, .ref (ad 36)), (1, .int (nI a_at_)), (2, .int v)] dX6_opensBy_1 rfl rfl (by decide) rfl ?_
  refine j_iconst 3 C (x := nI 0) dX6_opensBy_2 rfl (by decide) ?_
  refine j_istore 5 C [(4, .int (nI 0)), (3, .int (nI 0)), (0, .ref (ad 36)), (1, .int (nI a_at_)), (2, .int v)] dX6_opensBy_3 rfl (by decide) rfl ?_
  skip
  obtain ⟨z5, ez5, hz⟩ := ap_x hz
  have L5 : ∀ (n5 i5 : Nat) (c5 : Int32), 0 ≤ i5 → i5 < 5000 → n5 = S - i5 → lp (m_X6_opensBy_L5 W S ns nc B σ (nI a_at_) v) n5 i5 c5 = z5 → J p l e rm_X6_opensBy s m args below meth c Q D A H0 9 0 0 N ad (CT K W S ns nc ad B σ) 5 [(0, .ref (ad 36)), (1, .int (nI a_at_)), (2, .int v), (3, .int c5), (4, .int (nI i5))] [] := by
    intro n5
    induction n5 with
    | zero =>
      intro i5 c5 hl5 hi5 hn5 hz5
      refine j_iload 7 C dX6_opensBy_5 rfl 4 rfl ?_
      refine j_aload_n 8 C dX6_opensBy_7 rfl rfl 0 rfl ?_
      refine k_get 11 C fl_X6_54 dX6_opensBy_8 rfl 36 (GH_r hG (by decide)) (σ 36) rfl (CE_36 _) (.int (nI S)) rfl ?_
      refine j_ic_ge 135 14 C dX6_opensBy_11 rfl rfl (fun c_11 => ?_) (fun c_11 => ?_)
      · skip
        have n_11 := nat_le (a := S) (b := i5) rfl rfl (by omega) (by omega) c_11
        have hq5 : c5 = z5 := hz5
        subst hq5
        refine j_iload_n 136 C dX6_opensBy_135 rfl rfl 3 rfl ?_
        subst hz
        exact j_retI C X dX6_opensBy_136 rfl ⟨rfl, rfl, rfl, rfl, trivial⟩
      · exfalso
        have n_11 := nat_nle (a := S) (b := i5) rfl rfl (by omega) (by omega) c_11
        omega
    | succ n5 ih5 =>
      intro i5 c5 hl5 hi5 hn5 hz5
      refine j_iload 7 C dX6_opensBy_5 rfl 4 rfl ?_
      refine j_aload_n 8 C dX6_opensBy_7 rfl rfl 0 rfl ?_
      refine k_get 11 C fl_X6_54 dX6_opensBy_8 rfl 36 (GH_r hG (by decide)) (σ 36) rfl (CE_36 _) (.int (nI S)) rfl ?_
      refine j_ic_ge 135 14 C dX6_opensBy_11 rfl rfl (fun c_11 => ?_) (fun c_11 => ?_)
      · exfalso
        have n_11 := nat_le (a := S) (b := i5) rfl rfl (by omega) (by omega) c_11
        omega
      · skip
        have n_11 := nat_nle (a := S) (b := i5) rfl rfl (by omega) (by omega) c_11
        obtain ⟨w5, hw5, hz5⟩ := lp_s hz5
        have ho5 := hz
        clear hz
        have hz := hw5
        clear hw5
        unfold m_X6_opensBy_L5 at hz
        refine j_iconst 15 C (x := nI 0) dX6_opensBy_14 rfl (by decide) ?_
        refine j_istore 17 C [(5, .int (nI 0)), (0, .ref (ad 36)), (1, .int (nI a_at_)), (2, .int v), (3, .int c5), (4, .int (nI i5))] dX6_opensBy_15 rfl (by decide) rfl ?_
        skip
        obtain ⟨z17, ez17, hz⟩ := ap_x hz
        have L17 : ∀ (n17 i17 : Nat) (c17 : Int32), 0 ≤ i17 → i17 < 5000 → n17 = W - i17 → lp (m_X6_opensBy_L17 W S ns nc B σ (nI a_at_) v i5) n17 i17 c17 = z17 → J p l e rm_X6_opensBy s m args below meth c Q D A H0 9 0 0 N ad (CT K W S ns nc ad B σ) 17 [(0, .ref (ad 36)), (1, .int (nI a_at_)), (2, .int v), (3, .int c17), (4, .int (nI i5)), (5, .int (nI i17))] [] := by
          intro n17
          induction n17 with
          | zero =>
            intro i17 c17 hl17 hi17 hn17 hz17
            refine j_iload 19 C dX6_opensBy_17 rfl 5 rfl ?_
            refine j_aload_n 20 C dX6_opensBy_19 rfl rfl 0 rfl ?_
            refine k_get 23 C fl_X6_50 dX6_opensBy_20 rfl 36 (GH_r hG (by decide)) (σ 36) rfl (CE_36 _) (.int (nI W)) rfl ?_
            refine j_ic_ge 129 26 C dX6_opensBy_23 rfl rfl (fun c_23 => ?_) (fun c_23 => ?_)
            · skip
              have n_23 := nat_le (a := W) (b := i17) rfl rfl (by omega) (by omega) c_23
              have hq17 : c17 = z17 := hz17
              subst hq17
              refine j_iinc 132 C (x' := nI (i5 + 1)) [(4, .int (nI (i5 + 1))), (0, .ref (ad 36)), (1, .int (nI a_at_)), (2, .int v), (3, .int c17), (5, .int (nI i17))] dX6_opensBy_129 rfl 4 rfl (by rw [show Int32.ofInt 1 = nI 1 from by decide, nI_add]) (by decide) rfl ?_
              refine j_goto 5 C dX6_opensBy_132 rfl ?_
              subst hz
              refine j_lv [1, 2, 3, 4, 0] (lv' := [(0, .ref (ad 36)), (1, .int (nI a_at_)), (2, .int v), (3, .int c17), (4, .int (nI (i5 + 1)))]) rfl ?_
              have hz := ho5
              exact ih5 (i5 + 1) c17 (by omega) (by omega) (by omega) hz5
            · exfalso
              have n_23 := nat_nle (a := W) (b := i17) rfl rfl (by omega) (by omega) c_23
              omega
          | succ n17 ih17 =>
            intro i17 c17 hl17 hi17 hn17 hz17
            refine j_iload 19 C dX6_opensBy_17 rfl 5 rfl ?_
            refine j_aload_n 20 C dX6_opensBy_19 rfl rfl 0 rfl ?_
            refine k_get 23 C fl_X6_50 dX6_opensBy_20 rfl 36 (GH_r hG (by decide)) (σ 36) rfl (CE_36 _) (.int (nI W)) rfl ?_
            refine j_ic_ge 129 26 C dX6_opensBy_23 rfl rfl (fun c_23 => ?_) (fun c_23 => ?_)
            · exfalso
              have n_23 := nat_le (a := W) (b := i17) rfl rfl (by omega) (by omega) c_23
              omega
            · skip
              have n_23 := nat_nle (a := W) (b := i17) rfl rfl (by omega) (by omega) c_23
              obtain ⟨w17, hw17, hz17⟩ := lp_s hz17
              have ho17 := hz
              clear hz
              have hz := hw17
              clear hw17
              unfold m_X6_opensBy_L17 at hz
              refine j_iload 28 C dX6_opensBy_26 rfl 4 rfl ?_
              refine j_iload 30 C dX6_opensBy_28 rfl 5 rfl ?_
              obtain ⟨y30, e30, hz⟩ := ap_x hz
              refine s_S 33 C (As := [.int (nI i5), .int (nI i17)]) cs_X6_81 (c_X6_node (l := l) (D := D) (K := K) (ad := ad) hG  (hz := e30)) dX6_opensBy_30 rfl rfl rfl rfl rfl ⟨⟨Nat.le_of_ble_eq_true rfl, Nat.le_of_ble_eq_true rfl⟩, Nat.zero_le _, Nat.zero_le _⟩ (Nat.le_of_ble_eq_true rfl) (st' := [.int y30]) rfl (fun hE => ?_)
              have ey30 : y30 = nI ((8 * i5) + i17) := by rw [← e30]; exact m_X6_node_n rfl rfl
              refine j_istore 35 C [(6, .int y30), (0, .ref (ad 36)), (1, .int (nI a_at_)), (2, .int v), (3, .int c17), (4, .int (nI i5)), (5, .int (nI i17))] dX6_opensBy_33 rfl (by decide) rfl ?_
              refine j_iload_n 36 C dX6_opensBy_35 rfl rfl 3 rfl ?_
              refine j_aload_n 37 C dX6_opensBy_36 rfl rfl 1 rfl ?_
              refine k_get 40 C fl_X6_41 dX6_opensBy_37 rfl 36 (GH_r hG (by decide)) (σ 36) rfl (CE_36 _) (.ref (ad 47)) rfl ?_
              refine j_bipush 42 C (x := nI 33) dX6_opensBy_40 rfl (by decide) ?_
              refine j_iload_n 43 C dX6_opensBy_42 rfl rfl 2 rfl ?_
              refine j_imul 44 C dX6_opensBy_43 rfl rfl ?_
              refine j_iload 46 C dX6_opensBy_44 rfl 0 rfl ?_
              refine j_iadd 47 C dX6_opensBy_46 rfl rfl ?_
              refine k_iald 48 C dX6_opensBy_47 rfl 47 (GH_r hG (by decide)) (σ 47) rfl CE_47 (vp_inE (n := ((33 * a_at_) + ((8 * i5) + i17))) (by simp only [ey30, nI_add, pk_mul]) (by omega) (by omega)) ?_
              refine j_iadd 49 C dX6_opensBy_48 rfl rfl ?_
              obtain ⟨x49, e49, hz⟩ := ap_x hz
              refine j_st (st' := [.int x49]) (by rw [← e49]) ?_
              refine j_istore 51 C [(7, .int x49), (6, .int y30), (0, .ref (ad 36)), (1, .int (nI a_at_)), (2, .int v), (3, .int c17), (4, .int (nI i5)), (5, .int (nI i17))] dX6_opensBy_49 rfl (by decide) rfl ?_
              refine j_iload_n 52 C dX6_opensBy_51 rfl rfl 4 rfl ?_
              refine j_aload_n 53 C dX6_opensBy_52 rfl rfl 2 rfl ?_
              refine k_get 56 C fl_X6_41 dX6_opensBy_53 rfl 36 (GH_r hG (by decide)) (σ 36) rfl (CE_36 _) (.ref (ad 47)) rfl ?_
              refine j_bipush 58 C (x := nI 33) dX6_opensBy_56 rfl (by decide) ?_
              refine j_iload 60 C dX6_opensBy_58 rfl 1 rfl ?_
              refine j_imul 61 C dX6_opensBy_60 rfl rfl ?_
              refine j_iload_n 62 C dX6_opensBy_61 rfl rfl 3 rfl ?_
              refine j_iadd 63 C dX6_opensBy_62 rfl rfl ?_
              refine k_iald 64 C dX6_opensBy_63 rfl 47 (GH_r hG (by decide)) (σ 47) rfl CE_47 (vp_inE (n := ((33 * ((8 * i5) + i17)) + a_at_)) (by simp only [ey30, nI_add, pk_mul]) (by omega) (by omega)) ?_
              refine j_isub 65 C dX6_opensBy_64 rfl rfl ?_
              obtain ⟨x65, e65, hz⟩ := ap_x hz
              refine j_st (st' := [.int x65]) (by rw [← e65]) ?_
              refine j_istore 67 C [(8, .int x65), (7, .int x49), (6, .int y30), (0, .ref (ad 36)), (1, .int (nI a_at_)), (2, .int v), (3, .int c17), (4, .int (nI i5)), (5, .int (nI i17))] dX6_opensBy_65 rfl (by decide) rfl ?_
              refine j_iload 69 C dX6_opensBy_67 rfl 1 rfl ?_
              refine j_aload_n 70 C dX6_opensBy_69 rfl rfl 3 rfl ?_
              refine j_iload 72 C dX6_opensBy_70 rfl 2 rfl ?_
              obtain ⟨y72, e72, hz⟩ := ap_x hz
              refine s_V 75 C (As := [.int y30]) cv_X6_130 (c_X6_high (l := l) (D := D) (K := K) (ad := ad) hG (a_n_ := ((8 * i5) + i17)) (e_n_ := (by simp only [ey30, nI_add, pk_mul])) (h_n_ := by omega) (hz := e72)) dX6_opensBy_72 rfl 36 6 (GH_r hG (by decide)) rfl (CE_36 _) rfl rfl rfl rfl rfl rfl ⟨⟨Nat.le_of_ble_eq_true rfl, Nat.le_of_ble_eq_true rfl⟩, Nat.zero_le _, Nat.zero_le _⟩ (Nat.le_of_ble_eq_true rfl) (st' := [.int y72, .int x49]) rfl (fun hE => ?_)
              refine j_ic_ge 83 78 C dX6_opensBy_75 rfl rfl (fun c_75 => ?_) (fun c_75 => ?_)
              · replace hz := (if_pos c_75).symm.trans hz
                refine j_aload_n 84 C dX6_opensBy_83 rfl rfl 3 rfl ?_
                refine j_iload 86 C dX6_opensBy_84 rfl 2 rfl ?_
                obtain ⟨y86, e86, hz⟩ := ap_x hz
                refine s_V 89 C (As := [.int y30]) cv_X6_130 (c_X6_high (l := l) (D := D) (K := K) (ad := ad) hG (a_n_ := ((8 * i5) + i17)) (e_n_ := (by simp only [ey30, nI_add, pk_mul])) (h_n_ := by omega) (hz := e86)) dX6_opensBy_86 rfl 36 6 (GH_r hG (by decide)) rfl (CE_36 _) rfl rfl rfl rfl rfl rfl ⟨⟨Nat.le_of_ble_eq_true rfl, Nat.le_of_ble_eq_true rfl⟩, Nat.zero_le _, Nat.zero_le _⟩ (Nat.le_of_ble_eq_true rfl) (st' := [.int y86]) rfl (fun hE => ?_)
                refine j_istore 91 C [(7, .int y86), (8, .int x65), (6, .int y30), (0, .ref (ad 36)), (1, .int (nI a_at_)), (2, .int v), (3, .int c17), (4, .int (nI i5)), (5, .int (nI i17))] dX6_opensBy_89 rfl (by decide) rfl ?_
                refine j_iload 93 C dX6_opensBy_91 rfl 1 rfl ?_
                refine j_aload_n 94 C dX6_opensBy_93 rfl rfl 3 rfl ?_
                refine j_iload 96 C dX6_opensBy_94 rfl 2 rfl ?_
                obtain ⟨y96, e96, hz⟩ := ap_x hz
                refine s_V 99 C (As := [.int y30]) cv_X6_127 (c_X6_low (l := l) (D := D) (K := K) (ad := ad) hG (a_n_ := ((8 * i5) + i17)) (e_n_ := (by simp only [ey30, nI_add, pk_mul])) (h_n_ := by omega) (hz := e96)) dX6_opensBy_96 rfl 36 6 (GH_r hG (by decide)) rfl (CE_36 _) rfl rfl rfl rfl rfl rfl ⟨⟨Nat.le_of_ble_eq_true rfl, Nat.le_of_ble_eq_true rfl⟩, Nat.zero_le _, Nat.zero_le _⟩ (Nat.le_of_ble_eq_true rfl) (st' := [.int y96, .int x65]) rfl (fun hE => ?_)
                refine j_ic_le 107 102 C dX6_opensBy_99 rfl rfl (fun c_99 => ?_) (fun c_99 => ?_)
                · replace hz := (if_pos c_99).symm.trans hz
                  refine j_aload_n 108 C dX6_opensBy_107 rfl rfl 3 rfl ?_
                  refine j_iload 110 C dX6_opensBy_108 rfl 2 rfl ?_
                  obtain ⟨y110, e110, hz⟩ := ap_x hz
                  refine s_V 113 C (As := [.int y30]) cv_X6_127 (c_X6_low (l := l) (D := D) (K := K) (ad := ad) hG (a_n_ := ((8 * i5) + i17)) (e_n_ := (by simp only [ey30, nI_add, pk_mul])) (h_n_ := by omega) (hz := e110)) dX6_opensBy_110 rfl 36 6 (GH_r hG (by decide)) rfl (CE_36 _) rfl rfl rfl rfl rfl rfl ⟨⟨Nat.le_of_ble_eq_true rfl, Nat.le_of_ble_eq_true rfl⟩, Nat.zero_le _, Nat.zero_le _⟩ (Nat.le_of_ble_eq_true rfl) (st' := [.int y110]) rfl (fun hE => ?_)
                  refine j_istore 115 C [(8, .int y110), (7, .int y86), (6, .int y30), (0, .ref (ad 36)), (1, .int (nI a_at_)), (2, .int v), (3, .int c17), (4, .int (nI i5)), (5, .int (nI i17))] dX6_opensBy_113 rfl (by decide) rfl ?_
                  refine j_iload_n 116 C dX6_opensBy_115 rfl rfl 6 rfl ?_
                  refine j_iload 118 C dX6_opensBy_116 rfl 1 rfl ?_
                  refine j_iload 120 C dX6_opensBy_118 rfl 0 rfl ?_
                  refine j_isub 121 C dX6_opensBy_120 rfl rfl ?_
                  refine j_iadd 122 C dX6_opensBy_121 rfl rfl ?_
                  refine j_istore_n 123 C [(3, .int (c17 + (y86 - y110))), (8, .int y110), (7, .int y86), (6, .int y30), (0, .ref (ad 36)), (1, .int (nI a_at_)), (2, .int v), (4, .int (nI i5)), (5, .int (nI i17))] dX6_opensBy_122 rfl rfl (by decide) rfl ?_
                  refine j_iinc 126 C (x' := nI (i17 + 1)) [(5, .int (nI (i17 + 1))), (3, .int (c17 + (y86 - y110))), (8, .int y110), (7, .int y86), (6, .int y30), (0, .ref (ad 36)), (1, .int (nI a_at_)), (2, .int v), (4, .int (nI i5))] dX6_opensBy_123 rfl 8 rfl (by rw [show Int32.ofInt 1 = nI 1 from by decide, nI_add]) (by decide) rfl ?_
                  refine j_goto 17 C dX6_opensBy_126 rfl ?_
                  subst hz
                  refine j_lv [5, 6, 7, 1, 8, 0] (lv' := [(0, .ref (ad 36)), (1, .int (nI a_at_)), (2, .int v), (3, .int (c17 + (y86 - y110))), (4, .int (nI i5)), (5, .int (nI (i17 + 1)))]) rfl ?_
                  have hz := ho17
                  exact ih17 (i17 + 1) (c17 + (y86 - y110)) (by omega) (by omega) (by omega) hz17
                · replace hz := (if_neg c_99).symm.trans hz
                  refine j_iload 104 C dX6_opensBy_102 rfl 1 rfl ?_
                  refine j_goto 113 C dX6_opensBy_104 rfl ?_
                  refine j_istore 115 C [(8, .int x65), (7, .int y86), (6, .int y30), (0, .ref (ad 36)), (1, .int (nI a_at_)), (2, .int v), (3, .int c17), (4, .int (nI i5)), (5, .int (nI i17))] dX6_opensBy_113 rfl (by decide) rfl ?_
                  refine j_iload_n 116 C dX6_opensBy_115 rfl rfl 6 rfl ?_
                  refine j_iload 118 C dX6_opensBy_116 rfl 1 rfl ?_
                  refine j_iload 120 C dX6_opensBy_118 rfl 0 rfl ?_
                  refine j_isub 121 C dX6_opensBy_120 rfl rfl ?_
                  refine j_iadd 122 C dX6_opensBy_121 rfl rfl ?_
                  refine j_istore_n 123 C [(3, .int (c17 + (y86 - x65))), (8, .int x65), (7, .int y86), (6, .int y30), (0, .ref (ad 36)), (1, .int (nI a_at_)), (2, .int v), (4, .int (nI i5)), (5, .int (nI i17))] dX6_opensBy_122 rfl rfl (by decide) rfl ?_
                  refine j_iinc 126 C (x' := nI (i17 + 1)) [(5, .int (nI (i17 + 1))), (3, .int (c17 + (y86 - x65))), (8, .int x65), (7, .int y86), (6, .int y30), (0, .ref (ad 36)), (1, .int (nI a_at_)), (2, .int v), (4, .int (nI i5))] dX6_opensBy_123 rfl 8 rfl (by rw [show Int32.ofInt 1 = nI 1 from by decide, nI_add]) (by decide) rfl ?_
                  refine j_goto 17 C dX6_opensBy_126 rfl ?_
                  subst hz
                  refine j_lv [5, 6, 7, 1, 8, 0] (lv' := [(0, .ref (ad 36)), (1, .int (nI a_at_)), (2, .int v), (3, .int (c17 + (y86 - x65))), (4, .int (nI i5)), (5, .int (nI (i17 + 1)))]) rfl ?_
                  have hz := ho17
                  exact ih17 (i17 + 1) (c17 + (y86 - x65)) (by omega) (by omega) (by omega) hz17
              · replace hz := (if_neg c_75).symm.trans hz
                refine j_iload 80 C dX6_opensBy_78 rfl 1 rfl ?_
                refine j_goto 89 C dX6_opensBy_80 rfl ?_
                refine j_istore 91 C [(7, .int x49), (8, .int x65), (6, .int y30), (0, .ref (ad 36)), (1, .int (nI a_at_)), (2, .int v), (3, .int c17), (4, .int (nI i5)), (5, .int (nI i17))] dX6_opensBy_89 rfl (by decide) rfl ?_
                refine j_iload 93 C dX6_opensBy_91 rfl 1 rfl ?_
                refine j_aload_n 94 C dX6_opensBy_93 rfl rfl 3 rfl ?_
                refine j_iload 96 C dX6_opensBy_94 rfl 2 rfl ?_
                obtain ⟨y96, e96, hz⟩ := ap_x hz
                refine s_V 99 C (As := [.int y30]) cv_X6_127 (c_X6_low (l := l) (D := D) (K := K) (ad := ad) hG (a_n_ := ((8 * i5) + i17)) (e_n_ := (by simp only [ey30, nI_add, pk_mul])) (h_n_ := by omega) (hz := e96)) dX6_opensBy_96 rfl 36 6 (GH_r hG (by decide)) rfl (CE_36 _) rfl rfl rfl rfl rfl rfl ⟨⟨Nat.le_of_ble_eq_true rfl, Nat.le_of_ble_eq_true rfl⟩, Nat.zero_le _, Nat.zero_le _⟩ (Nat.le_of_ble_eq_true rfl) (st' := [.int y96, .int x65]) rfl (fun hE => ?_)
                refine j_ic_le 107 102 C dX6_opensBy_99 rfl rfl (fun c_99 => ?_) (fun c_99 => ?_)
                · replace hz := (if_pos c_99).symm.trans hz
                  refine j_aload_n 108 C dX6_opensBy_107 rfl rfl 3 rfl ?_
                  refine j_iload 110 C dX6_opensBy_108 rfl 2 rfl ?_
                  obtain ⟨y110, e110, hz⟩ := ap_x hz
                  refine s_V 113 C (As := [.int y30]) cv_X6_127 (c_X6_low (l := l) (D := D) (K := K) (ad := ad) hG (a_n_ := ((8 * i5) + i17)) (e_n_ := (by simp only [ey30, nI_add, pk_mul])) (h_n_ := by omega) (hz := e110)) dX6_opensBy_110 rfl 36 6 (GH_r hG (by decide)) rfl (CE_36 _) rfl rfl rfl rfl rfl rfl ⟨⟨Nat.le_of_ble_eq_true rfl, Nat.le_of_ble_eq_true rfl⟩, Nat.zero_le _, Nat.zero_le _⟩ (Nat.le_of_ble_eq_true rfl) (st' := [.int y110]) rfl (fun hE => ?_)
                  refine j_istore 115 C [(8, .int y110), (7, .int x49), (6, .int y30), (0, .ref (ad 36)), (1, .int (nI a_at_)), (2, .int v), (3, .int c17), (4, .int (nI i5)), (5, .int (nI i17))] dX6_opensBy_113 rfl (by decide) rfl ?_
                  refine j_iload_n 116 C dX6_opensBy_115 rfl rfl 6 rfl ?_
                  refine j_iload 118 C dX6_opensBy_116 rfl 1 rfl ?_
                  refine j_iload 120 C dX6_opensBy_118 rfl 0 rfl ?_
                  refine j_isub 121 C dX6_opensBy_120 rfl rfl ?_
                  refine j_iadd 122 C dX6_opensBy_121 rfl rfl ?_
                  refine j_istore_n 123 C [(3, .int (c17 + (x49 - y110))), (8, .int y110), (7, .int x49), (6, .int y30), (0, .ref (ad 36)), (1, .int (nI a_at_)), (2, .int v), (4, .int (nI i5)), (5, .int (nI i17))] dX6_opensBy_122 rfl rfl (by decide) rfl ?_
                  refine j_iinc 126 C (x' := nI (i17 + 1)) [(5, .int (nI (i17 + 1))), (3, .int (c17 + (x49 - y110))), (8, .int y110), (7, .int x49), (6, .int y30), (0, .ref (ad 36)), (1, .int (nI a_at_)), (2, .int v), (4, .int (nI i5))] dX6_opensBy_123 rfl 8 rfl (by rw [show Int32.ofInt 1 = nI 1 from by decide, nI_add]) (by decide) rfl ?_
                  refine j_goto 17 C dX6_opensBy_126 rfl ?_
                  subst hz
                  refine j_lv [5, 6, 7, 1, 8, 0] (lv' := [(0, .ref (ad 36)), (1, .int (nI a_at_)), (2, .int v), (3, .int (c17 + (x49 - y110))), (4, .int (nI i5)), (5, .int (nI (i17 + 1)))]) rfl ?_
                  have hz := ho17
                  exact ih17 (i17 + 1) (c17 + (x49 - y110)) (by omega) (by omega) (by omega) hz17
                · replace hz := (if_neg c_99).symm.trans hz
                  refine j_iload 104 C dX6_opensBy_102 rfl 1 rfl ?_
                  refine j_goto 113 C dX6_opensBy_104 rfl ?_
                  refine j_istore 115 C [(8, .int x65), (7, .int x49), (6, .int y30), (0, .ref (ad 36)), (1, .int (nI a_at_)), (2, .int v), (3, .int c17), (4, .int (nI i5)), (5, .int (nI i17))] dX6_opensBy_113 rfl (by decide) rfl ?_
                  refine j_iload_n 116 C dX6_opensBy_115 rfl rfl 6 rfl ?_
                  refine j_iload 118 C dX6_opensBy_116 rfl 1 rfl ?_
                  refine j_iload 120 C dX6_opensBy_118 rfl 0 rfl ?_
                  refine j_isub 121 C dX6_opensBy_120 rfl rfl ?_
                  refine j_iadd 122 C dX6_opensBy_121 rfl rfl ?_
                  refine j_istore_n 123 C [(3, .int (c17 + (x49 - x65))), (8, .int x65), (7, .int x49), (6, .int y30), (0, .ref (ad 36)), (1, .int (nI a_at_)), (2, .int v), (4, .int (nI i5)), (5, .int (nI i17))] dX6_opensBy_122 rfl rfl (by decide) rfl ?_
                  refine j_iinc 126 C (x' := nI (i17 + 1)) [(5, .int (nI (i17 + 1))), (3, .int (c17 + (x49 - x65))), (8, .int x65), (7, .int x49), (6, .int y30), (0, .ref (ad 36)), (1, .int (nI a_at_)), (2, .int v), (4, .int (nI i5))] dX6_opensBy_123 rfl 8 rfl (by rw [show Int32.ofInt 1 = nI 1 from by decide, nI_add]) (by decide) rfl ?_
                  refine j_goto 17 C dX6_opensBy_126 rfl ?_
                  subst hz
                  refine j_lv [5, 6, 7, 1, 8, 0] (lv' := [(0, .ref (ad 36)), (1, .int (nI a_at_)), (2, .int v), (3, .int (c17 + (x49 - x65))), (4, .int (nI i5)), (5, .int (nI (i17 + 1)))]) rfl ?_
                  have hz := ho17
                  exact ih17 (i17 + 1) (c17 + (x49 - x65)) (by omega) (by omega) (by omega) hz17
        refine j_lv [1, 2, 3, 4, 5, 0] (lv' := [(0, .ref (ad 36)), (1, .int (nI a_at_)), (2, .int v), (3, .int c5), (4, .int (nI i5)), (5, .int (nI 0))]) rfl ?_
        exact L17 _ 0 c5 (by omega) (by omega) rfl ez17
  refine j_lv [2, 3, 4, 1, 0] (lv' := [(0, .ref (ad 36)), (1, .int (nI a_at_)), (2, .int v), (3, .int (nI 0)), (4, .int (nI 0))]) rfl ?_
  exact L5 _ 0 (nI 0) (by omega) (by omega) rfl ez5
def m_X6_tellsAt_L8 (W S ns nc : Nat) (B : Nat → Option Nat) (σ : Nat → Nat → Int32) (at_ : Int32) (i8 : Nat) (c8 : Int32) : Int32 := ap (m_X6_opensBy W S ns nc B σ at_ (nI i8)) (fun (y20 : Int32) => (if y20 ≤ c8 then c8 else ap (m_X6_opensBy W S ns nc B σ at_ (nI i8)) (fun (y30 : Int32) => y30)))
def m_X6_tellsAt (W S ns nc : Nat) (B : Nat → Option Nat) (σ : Nat → Nat → Int32) (at_ : Int32) : Int32 := ap (m_X6_low W S ns nc B σ at_) (fun (y4 : Int32) => ap (lp (m_X6_tellsAt_L8 W S ns nc B σ at_) ((m_X6_high W S ns nc B σ at_).toNatClampNeg + 1 - ((y4).toNatClampNeg)) ((y4).toNatClampNeg) (nI 0)) (fun (z8 : Int32) => ap (m_X6_opens W S ns nc B σ) (fun (y41 : Int32) => y41 - z8)))
abbrev rm_X6_tellsAt : Room := { frames := 2, cells := 0, slots := 0, locals := 49 }
set_option maxHeartbeats 4000000 in
set_option maxRecDepth 100000 in
theorem c_X6_tellsAt {l : Launch} {D : va_G} {K : Nat → ClassId} {W S ns nc N : Nat} {ad : Nat → Nat} {B : Nat → Option Nat} {σ : Nat → Nat → Int32} (hG : GH W S ns nc N) {lo hi : Nat} {at_ : Int32} {a_at_ : Nat} (e_at_ : at_ = nI a_at_) (h_at_ : a_at_ < 33) {z : Int32} (hz : m_X6_tellsAt W S ns nc B σ at_ = z) (hlo4 : lo < 4000) (hhi4 : hi < 4000) (hlo : m_X6_low W S ns nc B σ (nI a_at_) = nI lo) (hhi : m_X6_high W S ns nc B σ (nI a_at_) = nI hi) : MC l yX6_tellsAt cX6_tellsAt 4 (some .int) rm_X6_tellsAt D (TY K) N ad (CT K W S ns nc ad B σ) [.ref (ad 36), .int at_] (BS (some (.int z)) N ad (CT K W S ns nc ad B σ) True) := by
  have hW := hG.1; have hW8 := hG.2.1; have hS := hG.2.2.1; have hS4 := hG.2.2.2.1; have hns := hG.2.2.2.2.1; have hnc := hG.2.2.2.2.2.1; have hWS := GH_ws hG
  subst e_at_
  refine MC.of (by decide) (Nat.le_of_ble_eq_true rfl) (fun p e s m args below meth c Q A H0 C X => ?_)
  replace C : Cx p s m args meth c cX6_tellsAt RX6 4 D (TY K) A H0 := C
  show J p l e rm_X6_tellsAt s m args below meth c Q D A H0 4 0 0 N ad (CT K W S ns nc ad B σ) 0 [(0, .ref (ad 36)), (1, .int (nI a_at_))] []
  unfold m_X6_tellsAt at hz
  have hhN : (m_X6_high W S ns nc B σ (nI a_at_)).toNatClampNeg = hi := by rw [hhi]; exact nI_clamp (by omega)
  refine j_iconst 1 C (x := nI 0) dX6_tellsAt_0 rfl (by decide) ?_
  refine j_istore_n 2 C [(2, .int (nI 0)), (0, .ref (ad 36)), (1, .int (nI a_at_))] dX6_tellsAt_1 rfl rfl (by decide) rfl ?_
  refine j_aload_n 3 C dX6_tellsAt_2 rfl rfl 1 rfl ?_
  refine j_iload_n 4 C dX6_tellsAt_3 rfl rfl 2 rfl ?_
  obtain ⟨y4, e4, hz⟩ := ap_x hz
  refine s_V 7 C (As := [.int (nI a_at_)]) cv_X6_127 (c_X6_low (l := l) (D := D) (K := K) (ad := ad) hG (a_n_ := a_at_) (e_n_ := rfl) (h_n_ := by omega) (hz := e4)) dX6_tellsAt_4 rfl 36 6 (GH_r hG (by decide)) rfl (CE_36 _) rfl rfl rfl rfl rfl rfl ⟨⟨Nat.le_of_ble_eq_true rfl, Nat.le_of_ble_eq_true rfl⟩, Nat.zero_le _, Nat.zero_le _⟩ (Nat.le_of_ble_eq_true rfl) (st' := [.int y4]) rfl (fun hE => ?_)
  have hy4 : (y4).toNatClampNeg = lo := by rw [← e4, hlo]; exact nI_clamp (by omega)
  have ey4 : y4 = nI (y4).toNatClampNeg := by rw [hy4, ← e4, hlo]
  refine j_st (st' := [.int (nI ((y4).toNatClampNeg))]) (by rw [← ey4]) ?_
  refine j_istore_n 8 C [(3, .int (nI ((y4).toNatClampNeg))), (2, .int (nI 0)), (0, .ref (ad 36)), (1, .int (nI a_at_))] dX6_tellsAt_7 rfl rfl (by decide) rfl ?_
  skip
  obtain ⟨z8, ez8, hz⟩ := ap_x hz
  have L8 : ∀ (n8 i8 : Nat) (c8 : Int32), 0 ≤ i8 → i8 < 5000 → n8 = (m_X6_high W S ns nc B σ (nI a_at_)).toNatClampNeg + 1 - i8 → lp (m_X6_tellsAt_L8 W S ns nc B σ (nI a_at_)) n8 i8 c8 = z8 → J p l e rm_X6_tellsAt s m args below meth c Q D A H0 4 0 0 N ad (CT K W S ns nc ad B σ) 8 [(0, .ref (ad 36)), (1, .int (nI a_at_)), (2, .int c8), (3, .int (nI i8))] [] := by
    intro n8
    induction n8 with
    | zero =>
      intro i8 c8 hl8 hi8 hn8 hz8
      refine j_iload_n 9 C dX6_tellsAt_8 rfl rfl 3 rfl ?_
      refine j_aload_n 10 C dX6_tellsAt_9 rfl rfl 0 rfl ?_
      refine j_iload_n 11 C dX6_tellsAt_10 rfl rfl 1 rfl ?_
      refine s_V 14 C (As := [.int (nI a_at_)]) cv_X6_130 (c_X6_high (l := l) (D := D) (K := K) (ad := ad) hG (a_n_ := a_at_) (e_n_ := rfl) (h_n_ := by omega) (hz := rfl)) dX6_tellsAt_11 rfl 36 6 (GH_r hG (by decide)) rfl (CE_36 _) rfl rfl rfl rfl rfl rfl ⟨⟨Nat.le_of_ble_eq_true rfl, Nat.le_of_ble_eq_true rfl⟩, Nat.zero_le _, Nat.zero_le _⟩ (Nat.le_of_ble_eq_true rfl) (st' := [.int (m_X6_high W S ns nc B σ (nI a_at_)), .int (nI i8)]) rfl (fun hE => ?_)
      have ey11 : (m_X6_high W S ns nc B σ (nI a_at_)) = nI hi := hhi
      refine j_ic_gt 40 17 C dX6_tellsAt_14 rfl rfl (fun c_14 => ?_) (fun c_14 => ?_)
      · skip
        have n_14 := nat_lt (a := hi) (b := i8) (by simp only [ey11, nI_add, pk_mul]) rfl (by omega) (by omega) c_14
        have hq8 : c8 = z8 := hz8
        subst hq8
        refine j_aload_n 41 C dX6_tellsAt_40 rfl rfl 0 rfl ?_
        obtain ⟨y41, e41, hz⟩ := ap_x hz
        refine s_V 44 C (As := []) cv_X6_133 (c_X6_opens (l := l) (D := D) (K := K) (ad := ad) hG  (hz := e41)) dX6_tellsAt_41 rfl 36 6 (GH_r hG (by decide)) rfl (CE_36 _) rfl rfl rfl rfl rfl rfl ⟨⟨Nat.le_of_ble_eq_true rfl, Nat.le_of_ble_eq_true rfl⟩, Nat.zero_le _, Nat.zero_le _⟩ (Nat.le_of_ble_eq_true rfl) (st' := [.int y41]) rfl (fun hE => ?_)
        refine j_iload_n 45 C dX6_tellsAt_44 rfl rfl 2 rfl ?_
        refine j_isub 46 C dX6_tellsAt_45 rfl rfl ?_
        subst hz
        exact j_retI C X dX6_tellsAt_46 rfl ⟨rfl, rfl, rfl, rfl, trivial⟩
      · exfalso
        have n_14 := nat_nlt (a := hi) (b := i8) (by simp only [ey11, nI_add, pk_mul]) rfl (by omega) (by omega) c_14
        omega
    | succ n8 ih8 =>
      intro i8 c8 hl8 hi8 hn8 hz8
      refine j_iload_n 9 C dX6_tellsAt_8 rfl rfl 3 rfl ?_
      refine j_aload_n 10 C dX6_tellsAt_9 rfl rfl 0 rfl ?_
      refine j_iload_n 11 C dX6_tellsAt_10 rfl rfl 1 rfl ?_
      refine s_V 14 C (As := [.int (nI a_at_)]) cv_X6_130 (c_X6_high (l := l) (D := D) (K := K) (ad := ad) hG (a_n_ := a_at_) (e_n_ := rfl) (h_n_ := by omega) (hz := rfl)) dX6_tellsAt_11 rfl 36 6 (GH_r hG (by decide)) rfl (CE_36 _) rfl rfl rfl rfl rfl rfl ⟨⟨Nat.le_of_ble_eq_true rfl, Nat.le_of_ble_eq_true rfl⟩, Nat.zero_le _, Nat.zero_le _⟩ (Nat.le_of_ble_eq_true rfl) (st' := [.int (m_X6_high W S ns nc B σ (nI a_at_)), .int (nI i8)]) rfl (fun hE => ?_)
      have ey11 : (m_X6_high W S ns nc B σ (nI a_at_)) = nI hi := hhi
      refine j_ic_gt 40 17 C dX6_tellsAt_14 rfl rfl (fun c_14 => ?_) (fun c_14 => ?_)
      · exfalso
        have n_14 := nat_lt (a := hi) (b := i8) (by simp only [ey11, nI_add, pk_mul]) rfl (by omega) (by omega) c_14
        omega
      · skip
        have n_14 := nat_nlt (a := hi) (b := i8) (by simp only [ey11, nI_add, pk_mul]) rfl (by omega) (by omega) c_14
        obtain ⟨w8, hw8, hz8⟩ := lp_s hz8
        have ho8 := hz
        clear hz
        have hz := hw8
        clear hw8
        unfold m_X6_tellsAt_L8 at hz
        refine j_aload_n 18 C dX6_tellsAt_17 rfl rfl 0 rfl ?_
        refine j_iload_n 19 C dX6_tellsAt_18 rfl rfl 1 rfl ?_
        refine j_iload_n 20 C dX6_tellsAt_19 rfl rfl 3 rfl ?_
        obtain ⟨y20, e20, hz⟩ := ap_x hz
        refine s_V 23 C (As := [.int (nI a_at_), .int (nI i8)]) cv_X6_138 (c_X6_opensBy (l := l) (D := D) (K := K) (ad := ad) hG (a_at_ := a_at_) (e_at_ := rfl) (h_at_ := by omega) (hz := e20)) dX6_tellsAt_20 rfl 36 6 (GH_r hG (by decide)) rfl (CE_36 _) rfl rfl rfl rfl rfl rfl ⟨⟨Nat.le_of_ble_eq_true rfl, Nat.le_of_ble_eq_true rfl⟩, Nat.zero_le _, Nat.zero_le _⟩ (Nat.le_of_ble_eq_true rfl) (st' := [.int y20]) rfl (fun hE => ?_)
        refine j_iload_n 24 C dX6_tellsAt_23 rfl rfl 2 rfl ?_
        refine j_ic_le 34 27 C dX6_tellsAt_24 rfl rfl (fun c_24 => ?_) (fun c_24 => ?_)
        · replace hz := (if_pos c_24).symm.trans hz
          refine j_iinc 37 C (x' := nI (i8 + 1)) [(3, .int (nI (i8 + 1))), (0, .ref (ad 36)), (1, .int (nI a_at_)), (2, .int c8)] dX6_tellsAt_34 rfl 3 rfl (by rw [show Int32.ofInt 1 = nI 1 from by decide, nI_add]) (by decide) rfl ?_
          refine j_goto 8 C dX6_tellsAt_37 rfl ?_
          subst hz
          refine j_lv [1, 2, 3, 0] (lv' := [(0, .ref (ad 36)), (1, .int (nI a_at_)), (2, .int c8), (3, .int (nI (i8 + 1)))]) rfl ?_
          have hz := ho8
          exact ih8 (i8 + 1) c8 (by omega) (by omega) (by omega) hz8
        · replace hz := (if_neg c_24).symm.trans hz
          refine j_aload_n 28 C dX6_tellsAt_27 rfl rfl 0 rfl ?_
          refine j_iload_n 29 C dX6_tellsAt_28 rfl rfl 1 rfl ?_
          refine j_iload_n 30 C dX6_tellsAt_29 rfl rfl 3 rfl ?_
          obtain ⟨y30, e30, hz⟩ := ap_x hz
          refine s_V 33 C (As := [.int (nI a_at_), .int (nI i8)]) cv_X6_138 (c_X6_opensBy (l := l) (D := D) (K := K) (ad := ad) hG (a_at_ := a_at_) (e_at_ := rfl) (h_at_ := by omega) (hz := e30)) dX6_tellsAt_30 rfl 36 6 (GH_r hG (by decide)) rfl (CE_36 _) rfl rfl rfl rfl rfl rfl ⟨⟨Nat.le_of_ble_eq_true rfl, Nat.le_of_ble_eq_true rfl⟩, Nat.zero_le _, Nat.zero_le _⟩ (Nat.le_of_ble_eq_true rfl) (st' := [.int y30]) rfl (fun hE => ?_)
          refine j_istore_n 34 C [(2, .int y30), (0, .ref (ad 36)), (1, .int (nI a_at_)), (3, .int (nI i8))] dX6_tellsAt_33 rfl rfl (by decide) rfl ?_
          refine j_iinc 37 C (x' := nI (i8 + 1)) [(3, .int (nI (i8 + 1))), (2, .int y30), (0, .ref (ad 36)), (1, .int (nI a_at_))] dX6_tellsAt_34 rfl 3 rfl (by rw [show Int32.ofInt 1 = nI 1 from by decide, nI_add]) (by decide) rfl ?_
          refine j_goto 8 C dX6_tellsAt_37 rfl ?_
          subst hz
          refine j_lv [2, 3, 1, 0] (lv' := [(0, .ref (ad 36)), (1, .int (nI a_at_)), (2, .int y30), (3, .int (nI (i8 + 1)))]) rfl ?_
          have hz := ho8
          exact ih8 (i8 + 1) y30 (by omega) (by omega) (by omega) hz8
  refine j_lv [2, 3, 1, 0] (lv' := [(0, .ref (ad 36)), (1, .int (nI a_at_)), (2, .int (nI 0)), (3, .int (nI ((y4).toNatClampNeg)))]) rfl ?_
  exact L8 _ ((y4).toNatClampNeg) (nI 0) (by omega) (by omega) rfl ez8
def RkS (σ : Nat → Nat → Int32) (y : Int32 × (Nat → Int32) × (Nat → Int32) × (Nat → Int32) × (Nat → Int32)) : Nat → Nat → Int32 := sA (sA (sA (sA σ 36 y.2.1) 47 y.2.2.1) 48 y.2.2.2.1) 49 y.2.2.2.2
def SpOK (W S ns nc : Nat) (B : Nat → Option Nat) (σ : Nat → Nat → Int32) : Prop := ∀ (k j : Nat), k < S → j < W → ∃ lo hi : Nat, lo < 4000 ∧ hi < 4000 ∧ m_X6_low W S ns nc B σ (nI ((8 * k) + j)) = nI lo ∧ m_X6_high W S ns nc B σ (nI ((8 * k) + j)) = nI hi
def RkOK (W S ns nc : Nat) (B : Nat → Option Nat) (σ : Nat → Nat → Int32) : Prop := ∀ y, m_X6_reckons W S ns nc B σ = y → ¬ y.1 = 0 → SpOK W S ns nc B (RkS σ y)
def m_X6_tells (W S ns nc : Nat) (B : Nat → Option Nat) (σ : Nat → Nat → Int32) (surface : Int32) (column : Int32) : Int32 × (Nat → Int32) × (Nat → Int32) × (Nat → Int32) × (Nat → Int32) := ap (m_X6_isPlace W S ns nc B σ surface column) (fun (y3 : Int32) => (if y3 = 0 then ((-1), (σ 36), (σ 47), (σ 48), (σ 49)) else ap (m_X6_reckons W S ns nc B σ) (fun (y10 : Int32 × (Nat → Int32) × (Nat → Int32) × (Nat → Int32) × (Nat → Int32)) => (if y10.1 = 0 then ((-1), y10.2.1, y10.2.2.1, y10.2.2.2.1, y10.2.2.2.2) else ap (m_X6_node W S ns nc B (sA (sA (sA (sA σ 36 y10.2.1) 47 y10.2.2.1) 48 y10.2.2.2.1) 49 y10.2.2.2.2) surface column) (fun (y19 : Int32) => ap (m_X6_tellsAt W S ns nc B (sA (sA (sA (sA σ 36 y10.2.1) 47 y10.2.2.1) 48 y10.2.2.2.1) 49 y10.2.2.2.2) y19) (fun (y22 : Int32) => (y22, y10.2.1, y10.2.2.1, y10.2.2.2.1, y10.2.2.2.2)))))))
abbrev rm_X6_tells : Room := { frames := 8, cells := 0, slots := 0, locals := 185 }
set_option maxHeartbeats 4000000 in
set_option maxRecDepth 100000 in
theorem c_X6_tells {l : Launch} {D : va_G} {K : Nat → ClassId} {W S ns nc N : Nat} {ad : Nat → Nat} {B : Nat → Option Nat} {σ : Nat → Nat → Int32} (hG : GH W S ns nc N) {surface : Int32} {column : Int32}  {z : Int32 × (Nat → Int32) × (Nat → Int32) × (Nat → Int32) × (Nat → Int32)} (hz : m_X6_tells W S ns nc B σ surface column = z) (hsee : SeeOK (σ 43) ns) (hb17 : bl (σ 36 17)) (hrk : RkOK W S ns nc B σ) : MC l yX6_tells cX6_tells 3 (some .int) rm_X6_tells D (TY K) N ad (CT K W S ns nc ad B σ) [.ref (ad 36), .int surface, .int column] (BS (some (.int z.1)) N ad (CT K W S ns nc ad B (sA (sA (sA (sA σ 36 z.2.1) 47 z.2.2.1) 48 z.2.2.2.1) 49 z.2.2.2.2)) True) := by
  have hW := hG.1; have hW8 := hG.2.1; have hS := hG.2.2.1; have hS4 := hG.2.2.2.1; have hns := hG.2.2.2.2.1; have hnc := hG.2.2.2.2.2.1; have hWS := GH_ws hG
  refine MC.of (by decide) (Nat.le_of_ble_eq_true rfl) (fun p e s m args below meth c Q A H0 C X => ?_)
  replace C : Cx p s m args meth c cX6_tells RX6 3 D (TY K) A H0 := C
  show J p l e rm_X6_tells s m args below meth c Q D A H0 3 0 0 N ad (CT K W S ns nc ad B σ) 0 [(0, .ref (ad 36)), (1, .int surface), (2, .int column)] []
  unfold m_X6_tells at hz
  refine j_aload_n 1 C dX6_tells_0 rfl rfl 0 rfl ?_
  refine j_iload_n 2 C dX6_tells_1 rfl rfl 1 rfl ?_
  refine j_iload_n 3 C dX6_tells_2 rfl rfl 2 rfl ?_
  obtain ⟨y3, e3, hz⟩ := ap_x hz
  refine s_V 6 C (As := [.int surface, .int column]) cv_X6_65 (c_X6_isPlace (l := l) (D := D) (K := K) (ad := ad) hG  (hz := e3)) dX6_tells_3 rfl 36 6 (GH_r hG (by decide)) rfl (CE_36 _) rfl rfl rfl rfl rfl rfl ⟨⟨Nat.le_of_ble_eq_true rfl, Nat.le_of_ble_eq_true rfl⟩, Nat.zero_le _, Nat.zero_le _⟩ (Nat.le_of_ble_eq_true rfl) (st' := [.int y3]) rfl (fun hE => ?_)
  have hbl3 : bl y3 := hE
  refine j_if_eq 28 9 C dX6_tells_6 rfl rfl (fun c_6 => ?_) (fun c_6 => ?_)
  · replace hz := (if_pos c_6).symm.trans hz
    refine j_iconst 29 C (x := (-1)) dX6_tells_28 rfl (by decide) ?_
    subst hz
    exact j_retI C X dX6_tells_29 rfl ⟨rfl, rfl, rfl, (CT_x (by intro a; (by_cases h0 : a = 36; (· (first | (subst h0; simp [sA]; done) | (rw [h0]; simp [sA]; done))); by_cases h1 : a = 47; (· (first | (subst h1; simp [sA]; done) | (rw [h1]; simp [sA]; done))); by_cases h2 : a = 48; (· (first | (subst h2; simp [sA]; done) | (rw [h2]; simp [sA]; done))); by_cases h3 : a = 49; (· (first | (subst h3; simp [sA]; done) | (rw [h3]; simp [sA]; done))); simp [sA, h0, h1, h2, h3]))), trivial⟩
  · replace hz := (if_neg c_6).symm.trans hz
    obtain ⟨ks, kc, hks, hkc, eks, ekc⟩ := isPlace_nat hG e3 c_6
    refine j_aload_n 10 C dX6_tells_9 rfl rfl 0 rfl ?_
    obtain ⟨y10, e10, hz⟩ := ap_x hz
    refine s_V 13 C (As := []) cv_X6_124 (c_X6_reckons (l := l) (D := D) (K := K) (ad := ad) hG (hsee := hsee) (hb17 := hb17) (hz := e10)) dX6_tells_10 rfl 36 6 (GH_r hG (by decide)) rfl (CE_36 _) rfl rfl rfl rfl rfl rfl ⟨⟨Nat.le_of_ble_eq_true rfl, Nat.le_of_ble_eq_true rfl⟩, Nat.zero_le _, Nat.zero_le _⟩ (Nat.le_of_ble_eq_true rfl) (st' := [.int y10.1]) rfl (fun hE => ?_)
    have hbl10 : bl y10.1 := hE
    refine j_if_eq 28 16 C dX6_tells_13 rfl rfl (fun c_13 => ?_) (fun c_13 => ?_)
    · replace hz := (if_pos c_13).symm.trans hz
      refine j_iconst 29 C (x := (-1)) dX6_tells_28 rfl (by decide) ?_
      subst hz
      exact j_retI C X dX6_tells_29 rfl ⟨rfl, rfl, rfl, rfl, trivial⟩
    · replace hz := (if_neg c_13).symm.trans hz
      refine j_aload_n 17 C dX6_tells_16 rfl rfl 0 rfl ?_
      refine j_iload_n 18 C dX6_tells_17 rfl rfl 1 rfl ?_
      refine j_iload_n 19 C dX6_tells_18 rfl rfl 2 rfl ?_
      obtain ⟨y19, e19, hz⟩ := ap_x hz
      refine s_S 22 C (As := [.int surface, .int column]) cs_X6_81 (c_X6_node (l := l) (D := D) (K := K) (ad := ad) hG  (hz := e19)) dX6_tells_19 rfl rfl rfl rfl rfl ⟨⟨Nat.le_of_ble_eq_true rfl, Nat.le_of_ble_eq_true rfl⟩, Nat.zero_le _, Nat.zero_le _⟩ (Nat.le_of_ble_eq_true rfl) (st' := [.int y19, .ref (ad 36)]) rfl (fun hE => ?_)
      have ey19 : y19 = nI ((8 * ks) + kc) := by rw [← e19]; exact m_X6_node_n (by simp only [eks, ekc, nI_add, pk_mul]) (by simp only [eks, ekc, nI_add, pk_mul])
      obtain ⟨lo, hi, hlo4, hhi4, hlo, hhi⟩ := hrk _ e10 c_13 ks kc hks hkc
      obtain ⟨y22, e22, hz⟩ := ap_x hz
      refine s_V 25 C (As := [.int y19]) cv_X6_141 (c_X6_tellsAt (l := l) (D := D) (K := K) (ad := ad) hG (a_at_ := ((8 * ks) + kc)) (e_at_ := (by simp only [eks, ekc, ey19, nI_add, pk_mul])) (h_at_ := by omega) (hlo4 := hlo4) (hhi4 := hhi4) (hlo := hlo) (hhi := hhi) (hz := e22)) dX6_tells_22 rfl 36 6 (GH_r hG (by decide)) rfl (CE_36 _) rfl rfl rfl rfl rfl rfl ⟨⟨Nat.le_of_ble_eq_true rfl, Nat.le_of_ble_eq_true rfl⟩, Nat.zero_le _, Nat.zero_le _⟩ (Nat.le_of_ble_eq_true rfl) (st' := [.int y22]) rfl (fun hE => ?_)
      refine j_goto 29 C dX6_tells_25 rfl ?_
      subst hz
      exact j_retI C X dX6_tells_29 rfl ⟨rfl, rfl, rfl, rfl, trivial⟩
def m_X6_next_L26 (W S ns nc : Nat) (B : Nat → Option Nat) (σ : Nat → Nat → Int32) (y1 : Int32 × (Nat → Int32) × (Nat → Int32) × (Nat → Int32) × (Nat → Int32)) (i15 : Nat) (i26 : Nat) (c26 : Int32 × Int32) : Int32 × Int32 := ap (m_X6_node W S ns nc B (sA (sA (sA (sA σ 36 y1.2.1) 47 y1.2.2.1) 48 y1.2.2.2.1) 49 y1.2.2.2.2) (nI i15) (nI i26)) (fun (y39 : Int32) => ap (m_X6_tellsAt W S ns nc B (sA (sA (sA (sA σ 36 y1.2.1) 47 y1.2.2.1) 48 y1.2.2.2.1) 49 y1.2.2.2.2) y39) (fun (y42 : Int32) => (if c26.2 < y42 then (((nI 10) * (nI i15)) + (nI i26), y42) else (c26.1, c26.2))))
def m_X6_next_L15 (W S ns nc : Nat) (B : Nat → Option Nat) (σ : Nat → Nat → Int32) (y1 : Int32 × (Nat → Int32) × (Nat → Int32) × (Nat → Int32) × (Nat → Int32)) (i15 : Nat) (c15 : Int32 × Int32) : Int32 × Int32 := ap (lp (m_X6_next_L26 W S ns nc B σ y1 i15) (W - 0) 0 (c15.1, c15.2)) (fun (z26 : Int32 × Int32) => (z26.1, z26.2))
def m_X6_next (W S ns nc : Nat) (B : Nat → Option Nat) (σ : Nat → Nat → Int32) : Int32 × (Nat → Int32) × (Nat → Int32) × (Nat → Int32) × (Nat → Int32) := ap (m_X6_reckons W S ns nc B σ) (fun (y1 : Int32 × (Nat → Int32) × (Nat → Int32) × (Nat → Int32) × (Nat → Int32)) => (if y1.1 = 0 then ((-1), y1.2.1, y1.2.2.1, y1.2.2.2.1, y1.2.2.2.2) else ap (lp (m_X6_next_L15 W S ns nc B σ y1) (S - 0) 0 (nI 0, (-1))) (fun (z15 : Int32 × Int32) => (z15.1, y1.2.1, y1.2.2.1, y1.2.2.2.1, y1.2.2.2.2))))
abbrev rm_X6_next : Room := { frames := 8, cells := 0, slots := 0, locals := 185 }
set_option maxHeartbeats 4000000 in
set_option maxRecDepth 100000 in
theorem c_X6_next {l : Launch} {D : va_G} {K : Nat → ClassId} {W S ns nc N : Nat} {ad : Nat → Nat} {B : Nat → Option Nat} {σ : Nat → Nat → Int32} (hG : GH W S ns nc N)   {z : Int32 × (Nat → Int32) × (Nat → Int32) × (Nat → Int32) × (Nat → Int32)} (hz : m_X6_next W S ns nc B σ = z) (hsee : SeeOK (σ 43) ns) (hb17 : bl (σ 36 17)) (hrk : RkOK W S ns nc B σ) : MC l yX6_next cX6_next 6 (some .int) rm_X6_next D (TY K) N ad (CT K W S ns nc ad B σ) [.ref (ad 36)] (BS (some (.int z.1)) N ad (CT K W S ns nc ad B (sA (sA (sA (sA σ 36 z.2.1) 47 z.2.2.1) 48 z.2.2.2.1) 49 z.2.2.2.2)) True) := by
  have hW := hG.1; have hW8 := hG.2.1; have hS := hG.2.2.1; have hS4 := hG.2.2.2.1; have hns := hG.2.2.2.2.1; have hnc := hG.2.2.2.2.2.1; have hWS := GH_ws hG
  refine MC.of (by decide) (Nat.le_of_ble_eq_true rfl) (fun p e s m args below meth c Q A H0 C X => ?_)
  replace C : Cx p s m args meth c cX6_next RX6 6 D (TY K) A H0 := C
  show J p l e rm_X6_next s m args below meth c Q D A H0 6 0 0 N ad (CT K W S ns nc ad B σ) 0 [(0, .ref (ad 36))] []
  unfold m_X6_next at hz
  refine j_aload_n 1 C dX6_next_0 rfl rfl 0 rfl ?_
  obtain ⟨y1, e1, hz⟩ := ap_x hz
  refine s_V 4 C (As := []) cv_X6_124 (c_X6_reckons (l := l) (D := D) (K := K) (ad := ad) hG (hsee := hsee) (hb17 := hb17) (hz := e1)) dX6_next_1 rfl 36 6 (GH_r hG (by decide)) rfl (CE_36 _) rfl rfl rfl rfl rfl rfl ⟨⟨Nat.le_of_ble_eq_true rfl, Nat.le_of_ble_eq_true rfl⟩, Nat.zero_le _, Nat.zero_le _⟩ (Nat.le_of_ble_eq_true rfl) (st' := [.int y1.1]) rfl (fun hE => ?_)
  have hbl1 : bl y1.1 := hE
  refine j_if_ne 9 7 C dX6_next_4 rfl rfl (fun c_4 => ?_) (fun c_4 => ?_)
  · replace hz := (if_neg c_4).symm.trans hz
    refine j_iconst 10 C (x := nI 0) dX6_next_9 rfl (by decide) ?_
    refine j_istore_n 11 C [(1, .int (nI 0)), (0, .ref (ad 36))] dX6_next_10 rfl rfl (by decide) rfl ?_
    refine j_iconst 12 C (x := (-1)) dX6_next_11 rfl (by decide) ?_
    refine j_istore_n 13 C [(2, .int (-1)), (1, .int (nI 0)), (0, .ref (ad 36))] dX6_next_12 rfl rfl (by decide) rfl ?_
    refine j_iconst 14 C (x := nI 0) dX6_next_13 rfl (by decide) ?_
    refine j_istore_n 15 C [(3, .int (nI 0)), (2, .int (-1)), (1, .int (nI 0)), (0, .ref (ad 36))] dX6_next_14 rfl rfl (by decide) rfl ?_
    skip
    obtain ⟨z15, ez15, hz⟩ := ap_x hz
    have L15 : ∀ (n15 i15 : Nat) (c15 : Int32 × Int32), 0 ≤ i15 → i15 < 5000 → n15 = S - i15 → lp (m_X6_next_L15 W S ns nc B σ y1) n15 i15 c15 = z15 → J p l e rm_X6_next s m args below meth c Q D A H0 6 0 0 N ad (CT K W S ns nc ad B (sA (sA (sA (sA σ 36 y1.2.1) 47 y1.2.2.1) 48 y1.2.2.2.1) 49 y1.2.2.2.2)) 15 [(0, .ref (ad 36)), (1, .int c15.1), (2, .int c15.2), (3, .int (nI i15))] [] := by
      intro n15
      induction n15 with
      | zero =>
        intro i15 c15 hl15 hi15 hn15 hz15
        refine j_iload_n 16 C dX6_next_15 rfl rfl 3 rfl ?_
        refine j_aload_n 17 C dX6_next_16 rfl rfl 0 rfl ?_
        refine k_get 20 C fl_X6_54 dX6_next_17 rfl 36 (GH_r hG (by decide)) y1.2.1 (by rfl) (CE_36 _) (.int (nI S)) rfl ?_
        refine j_ic_ge 79 23 C dX6_next_20 rfl rfl (fun c_20 => ?_) (fun c_20 => ?_)
        · skip
          have n_20 := nat_le (a := S) (b := i15) rfl rfl (by omega) (by omega) c_20
          have hq15 : c15 = z15 := hz15
          subst hq15
          refine j_iload_n 80 C dX6_next_79 rfl rfl 1 rfl ?_
          subst hz
          exact j_retI C X dX6_next_80 rfl ⟨rfl, rfl, rfl, rfl, trivial⟩
        · exfalso
          have n_20 := nat_nle (a := S) (b := i15) rfl rfl (by omega) (by omega) c_20
          omega
      | succ n15 ih15 =>
        intro i15 c15 hl15 hi15 hn15 hz15
        refine j_iload_n 16 C dX6_next_15 rfl rfl 3 rfl ?_
        refine j_aload_n 17 C dX6_next_16 rfl rfl 0 rfl ?_
        refine k_get 20 C fl_X6_54 dX6_next_17 rfl 36 (GH_r hG (by decide)) y1.2.1 (by rfl) (CE_36 _) (.int (nI S)) rfl ?_
        refine j_ic_ge 79 23 C dX6_next_20 rfl rfl (fun c_20 => ?_) (fun c_20 => ?_)
        · exfalso
          have n_20 := nat_le (a := S) (b := i15) rfl rfl (by omega) (by omega) c_20
          omega
        · skip
          have n_20 := nat_nle (a := S) (b := i15) rfl rfl (by omega) (by omega) c_20
          obtain ⟨w15, hw15, hz15⟩ := lp_s hz15
          have ho15 := hz
          clear hz
          have hz := hw15
          clear hw15
          unfold m_X6_next_L15 at hz
          refine j_iconst 24 C (x := nI 0) dX6_next_23 rfl (by decide) ?_
          refine j_istore 26 C [(4, .int (nI 0)), (0, .ref (ad 36)), (1, .int c15.1), (2, .int c15.2), (3, .int (nI i15))] dX6_next_24 rfl (by decide) rfl ?_
          skip
          obtain ⟨z26, ez26, hz⟩ := ap_x hz
          have L26 : ∀ (n26 i26 : Nat) (c26 : Int32 × Int32), 0 ≤ i26 → i26 < 5000 → n26 = W - i26 → lp (m_X6_next_L26 W S ns nc B σ y1 i15) n26 i26 c26 = z26 → J p l e rm_X6_next s m args below meth c Q D A H0 6 0 0 N ad (CT K W S ns nc ad B (sA (sA (sA (sA σ 36 y1.2.1) 47 y1.2.2.1) 48 y1.2.2.2.1) 49 y1.2.2.2.2)) 26 [(0, .ref (ad 36)), (1, .int c26.1), (2, .int c26.2), (3, .int (nI i15)), (4, .int (nI i26))] [] := by
            intro n26
            induction n26 with
            | zero =>
              intro i26 c26 hl26 hi26 hn26 hz26
              refine j_iload 28 C dX6_next_26 rfl 4 rfl ?_
              refine j_aload_n 29 C dX6_next_28 rfl rfl 0 rfl ?_
              refine k_get 32 C fl_X6_50 dX6_next_29 rfl 36 (GH_r hG (by decide)) y1.2.1 (by rfl) (CE_36 _) (.int (nI W)) rfl ?_
              refine j_ic_ge 73 35 C dX6_next_32 rfl rfl (fun c_32 => ?_) (fun c_32 => ?_)
              · skip
                have n_32 := nat_le (a := W) (b := i26) rfl rfl (by omega) (by omega) c_32
                have hq26 : c26 = z26 := hz26
                subst hq26
                refine j_iinc 76 C (x' := nI (i15 + 1)) [(3, .int (nI (i15 + 1))), (0, .ref (ad 36)), (1, .int c26.1), (2, .int c26.2), (4, .int (nI i26))] dX6_next_73 rfl 3 rfl (by rw [show Int32.ofInt 1 = nI 1 from by decide, nI_add]) (by decide) rfl ?_
                refine j_goto 15 C dX6_next_76 rfl ?_
                subst hz
                refine j_lv [1, 2, 3, 0] (lv' := [(0, .ref (ad 36)), (1, .int c26.1), (2, .int c26.2), (3, .int (nI (i15 + 1)))]) rfl ?_
                have hz := ho15
                exact ih15 (i15 + 1) (c26.1, c26.2) (by omega) (by omega) (by omega) hz15
              · exfalso
                have n_32 := nat_nle (a := W) (b := i26) rfl rfl (by omega) (by omega) c_32
                omega
            | succ n26 ih26 =>
              intro i26 c26 hl26 hi26 hn26 hz26
              refine j_iload 28 C dX6_next_26 rfl 4 rfl ?_
              refine j_aload_n 29 C dX6_next_28 rfl rfl 0 rfl ?_
              refine k_get 32 C fl_X6_50 dX6_next_29 rfl 36 (GH_r hG (by decide)) y1.2.1 (by rfl) (CE_36 _) (.int (nI W)) rfl ?_
              refine j_ic_ge 73 35 C dX6_next_32 rfl rfl (fun c_32 => ?_) (fun c_32 => ?_)
              · exfalso
                have n_32 := nat_le (a := W) (b := i26) rfl rfl (by omega) (by omega) c_32
                omega
              · skip
                have n_32 := nat_nle (a := W) (b := i26) rfl rfl (by omega) (by omega) c_32
                obtain ⟨w26, hw26, hz26⟩ := lp_s hz26
                have ho26 := hz
                clear hz
                have hz := hw26
                clear hw26
                unfold m_X6_next_L26 at hz
                refine j_aload_n 36 C dX6_next_35 rfl rfl 0 rfl ?_
                refine j_iload_n 37 C dX6_next_36 rfl rfl 3 rfl ?_
                refine j_iload 39 C dX6_next_37 rfl 4 rfl ?_
                obtain ⟨y39, e39, hz⟩ := ap_x hz
                refine s_S 42 C (As := [.int (nI i15), .int (nI i26)]) cs_X6_81 (c_X6_node (l := l) (D := D) (K := K) (ad := ad) hG  (hz := e39)) dX6_next_39 rfl rfl rfl rfl rfl ⟨⟨Nat.le_of_ble_eq_true rfl, Nat.le_of_ble_eq_true rfl⟩, Nat.zero_le _, Nat.zero_le _⟩ (Nat.le_of_ble_eq_true rfl) (st' := [.int y39, .ref (ad 36)]) rfl (fun hE => ?_)
                have ey39 : y39 = nI ((8 * i15) + i26) := by rw [← e39]; exact m_X6_node_n rfl rfl
                obtain ⟨lo, hi, hlo4, hhi4, hlo, hhi⟩ := hrk _ e1 c_4 i15 i26 (by omega) (by omega)
                obtain ⟨y42, e42, hz⟩ := ap_x hz
                refine s_V 45 C (As := [.int y39]) cv_X6_141 (c_X6_tellsAt (l := l) (D := D) (K := K) (ad := ad) hG (a_at_ := ((8 * i15) + i26)) (e_at_ := (by simp only [ey39, nI_add, pk_mul])) (h_at_ := by omega) (hlo4 := hlo4) (hhi4 := hhi4) (hlo := hlo) (hhi := hhi) (hz := e42)) dX6_next_42 rfl 36 6 (GH_r hG (by decide)) rfl (CE_36 _) rfl rfl rfl rfl rfl rfl ⟨⟨Nat.le_of_ble_eq_true rfl, Nat.le_of_ble_eq_true rfl⟩, Nat.zero_le _, Nat.zero_le _⟩ (Nat.le_of_ble_eq_true rfl) (st' := [.int y42]) rfl (fun hE => ?_)
                refine j_istore 47 C [(5, .int y42), (0, .ref (ad 36)), (1, .int c26.1), (2, .int c26.2), (3, .int (nI i15)), (4, .int (nI i26))] dX6_next_45 rfl (by decide) rfl ?_
                refine j_iload 49 C dX6_next_47 rfl 0 rfl ?_
                refine j_iload_n 50 C dX6_next_49 rfl rfl 3 rfl ?_
                refine j_ic_gt 56 53 C dX6_next_50 rfl rfl (fun c_50 => ?_) (fun c_50 => ?_)
                · replace hz := (if_pos c_50).symm.trans hz
                  refine j_iload 58 C dX6_next_56 rfl 0 rfl ?_
                  refine j_istore_n 59 C [(2, .int y42), (5, .int y42), (0, .ref (ad 36)), (1, .int c26.1), (3, .int (nI i15)), (4, .int (nI i26))] dX6_next_58 rfl rfl (by decide) rfl ?_
                  refine j_bipush 61 C (x := nI 10) dX6_next_59 rfl (by decide) ?_
                  refine j_iload_n 62 C dX6_next_61 rfl rfl 4 rfl ?_
                  refine j_imul 63 C dX6_next_62 rfl rfl ?_
                  refine j_iload 65 C dX6_next_63 rfl 5 rfl ?_
                  refine j_iadd 66 C dX6_next_65 rfl rfl ?_
                  refine j_istore_n 67 C [(1, .int (((nI 10) * (nI i15)) + (nI i26))), (2, .int y42), (5, .int y42), (0, .ref (ad 36)), (3, .int (nI i15)), (4, .int (nI i26))] dX6_next_66 rfl rfl (by decide) rfl ?_
                  refine j_iinc 70 C (x' := nI (i26 + 1)) [(4, .int (nI (i26 + 1))), (1, .int (((nI 10) * (nI i15)) + (nI i26))), (2, .int y42), (5, .int y42), (0, .ref (ad 36)), (3, .int (nI i15))] dX6_next_67 rfl 5 rfl (by rw [show Int32.ofInt 1 = nI 1 from by decide, nI_add]) (by decide) rfl ?_
                  refine j_goto 26 C dX6_next_70 rfl ?_
                  subst hz
                  refine j_lv [4, 1, 2, 5, 0] (lv' := [(0, .ref (ad 36)), (1, .int (((nI 10) * (nI i15)) + (nI i26))), (2, .int y42), (3, .int (nI i15)), (4, .int (nI (i26 + 1)))]) rfl ?_
                  have hz := ho26
                  exact ih26 (i26 + 1) (((nI 10) * (nI i15)) + (nI i26), y42) (by omega) (by omega) (by omega) hz26
                · replace hz := (if_neg c_50).symm.trans hz
                  refine j_goto 67 C dX6_next_53 rfl ?_
                  refine j_iinc 70 C (x' := nI (i26 + 1)) [(4, .int (nI (i26 + 1))), (5, .int y42), (0, .ref (ad 36)), (1, .int c26.1), (2, .int c26.2), (3, .int (nI i15))] dX6_next_67 rfl 5 rfl (by rw [show Int32.ofInt 1 = nI 1 from by decide, nI_add]) (by decide) rfl ?_
                  refine j_goto 26 C dX6_next_70 rfl ?_
                  subst hz
                  refine j_lv [2, 3, 4, 5, 0] (lv' := [(0, .ref (ad 36)), (1, .int c26.1), (2, .int c26.2), (3, .int (nI i15)), (4, .int (nI (i26 + 1)))]) rfl ?_
                  have hz := ho26
                  exact ih26 (i26 + 1) (c26.1, c26.2) (by omega) (by omega) (by omega) hz26
          refine j_lv [1, 2, 3, 4, 0] (lv' := [(0, .ref (ad 36)), (1, .int c15.1), (2, .int c15.2), (3, .int (nI i15)), (4, .int (nI 0))]) rfl ?_
          exact L26 _ 0 (c15.1, c15.2) (by omega) (by omega) rfl ez26
    refine j_lv [3, 2, 1, 0] (lv' := [(0, .ref (ad 36)), (1, .int (nI 0)), (2, .int (-1)), (3, .int (nI 0))]) rfl ?_
    exact L15 _ 0 (nI 0, (-1)) (by omega) (by omega) rfl ez15
  · replace hz := (if_pos c_4).symm.trans hz
    refine j_iconst 8 C (x := (-1)) dX6_next_7 rfl (by decide) ?_
    subst hz
    exact j_retI C X dX6_next_8 rfl ⟨rfl, rfl, rfl, rfl, trivial⟩
def m_X6_depth (W S ns nc : Nat) (B : Nat → Option Nat) (σ : Nat → Nat → Int32) (surface : Int32) (column : Int32) (what : Int32) : Int32 := (if what = 0 then ap (m_X6_node W S ns nc B σ surface column) (fun (y7 : Int32) => ap (m_X6_low W S ns nc B σ y7) (fun (y10 : Int32) => y10)) else ap (m_X6_node W S ns nc B σ surface column) (fun (y19 : Int32) => ap (m_X6_high W S ns nc B σ y19) (fun (y22 : Int32) => y22)))
abbrev rm_X6_depth : Room := { frames := 1, cells := 0, slots := 0, locals := 21 }
set_option maxHeartbeats 4000000 in
set_option maxRecDepth 100000 in
theorem c_X6_depth {l : Launch} {D : va_G} {K : Nat → ClassId} {W S ns nc N : Nat} {ad : Nat → Nat} {B : Nat → Option Nat} {σ : Nat → Nat → Int32} (hG : GH W S ns nc N) {surface : Int32} {a_surface : Nat} {column : Int32} {a_column : Nat} {what : Int32} (e_surface : surface = nI a_surface) (h_surface : a_surface < S) (e_column : column = nI a_column) (h_column : a_column < W) {z : Int32} (hz : m_X6_depth W S ns nc B σ surface column what = z)  : MC l yX6_depth cX6_depth 4 (some .int) rm_X6_depth D (TY K) N ad (CT K W S ns nc ad B σ) [.ref (ad 36), .int surface, .int column, .int what] (BS (some (.int z)) N ad (CT K W S ns nc ad B σ) True) := by
  have hW := hG.1; have hW8 := hG.2.1; have hS := hG.2.2.1; have hS4 := hG.2.2.2.1; have hns := hG.2.2.2.2.1; have hnc := hG.2.2.2.2.2.1; have hWS := GH_ws hG
  subst e_surface
  subst e_column
  refine MC.of (by decide) (Nat.le_of_ble_eq_true rfl) (fun p e s m args below meth c Q A H0 C X => ?_)
  replace C : Cx p s m args meth c cX6_depth RX6 4 D (TY K) A H0 := C
  show J p l e rm_X6_depth s m args below meth c Q D A H0 4 0 0 N ad (CT K W S ns nc ad B σ) 0 [(0, .ref (ad 36)), (1, .int (nI a_surface)), (2, .int (nI a_column)), (3, .int what)] []
  unfold m_X6_depth at hz
  refine j_iload_n 1 C dX6_depth_0 rfl rfl 3 rfl ?_
  refine j_if_ne 16 4 C dX6_depth_1 rfl rfl (fun c_1 => ?_) (fun c_1 => ?_)
  · replace hz := (if_neg c_1).symm.trans hz
    refine j_aload_n 17 C dX6_depth_16 rfl rfl 0 rfl ?_
    refine j_iload_n 18 C dX6_depth_17 rfl rfl 1 rfl ?_
    refine j_iload_n 19 C dX6_depth_18 rfl rfl 2 rfl ?_
    obtain ⟨y19, e19, hz⟩ := ap_x hz
    refine s_S 22 C (As := [.int (nI a_surface), .int (nI a_column)]) cs_X6_81 (c_X6_node (l := l) (D := D) (K := K) (ad := ad) hG  (hz := e19)) dX6_depth_19 rfl rfl rfl rfl rfl ⟨⟨Nat.le_of_ble_eq_true rfl, Nat.le_of_ble_eq_true rfl⟩, Nat.zero_le _, Nat.zero_le _⟩ (Nat.le_of_ble_eq_true rfl) (st' := [.int y19, .ref (ad 36)]) rfl (fun hE => ?_)
    have ey19 : y19 = nI ((8 * a_surface) + a_column) := by rw [← e19]; exact m_X6_node_n rfl rfl
    obtain ⟨y22, e22, hz⟩ := ap_x hz
    refine s_V 25 C (As := [.int y19]) cv_X6_130 (c_X6_high (l := l) (D := D) (K := K) (ad := ad) hG (a_n_ := ((8 * a_surface) + a_column)) (e_n_ := (by simp only [ey19, nI_add, pk_mul])) (h_n_ := by omega) (hz := e22)) dX6_depth_22 rfl 36 6 (GH_r hG (by decide)) rfl (CE_36 _) rfl rfl rfl rfl rfl rfl ⟨⟨Nat.le_of_ble_eq_true rfl, Nat.le_of_ble_eq_true rfl⟩, Nat.zero_le _, Nat.zero_le _⟩ (Nat.le_of_ble_eq_true rfl) (st' := [.int y22]) rfl (fun hE => ?_)
    subst hz
    exact j_retI C X dX6_depth_25 rfl ⟨rfl, rfl, rfl, rfl, trivial⟩
  · replace hz := (if_pos c_1).symm.trans hz
    refine j_aload_n 5 C dX6_depth_4 rfl rfl 0 rfl ?_
    refine j_iload_n 6 C dX6_depth_5 rfl rfl 1 rfl ?_
    refine j_iload_n 7 C dX6_depth_6 rfl rfl 2 rfl ?_
    obtain ⟨y7, e7, hz⟩ := ap_x hz
    refine s_S 10 C (As := [.int (nI a_surface), .int (nI a_column)]) cs_X6_81 (c_X6_node (l := l) (D := D) (K := K) (ad := ad) hG  (hz := e7)) dX6_depth_7 rfl rfl rfl rfl rfl ⟨⟨Nat.le_of_ble_eq_true rfl, Nat.le_of_ble_eq_true rfl⟩, Nat.zero_le _, Nat.zero_le _⟩ (Nat.le_of_ble_eq_true rfl) (st' := [.int y7, .ref (ad 36)]) rfl (fun hE => ?_)
    have ey7 : y7 = nI ((8 * a_surface) + a_column) := by rw [← e7]; exact m_X6_node_n rfl rfl
    obtain ⟨y10, e10, hz⟩ := ap_x hz
    refine s_V 13 C (As := [.int y7]) cv_X6_127 (c_X6_low (l := l) (D := D) (K := K) (ad := ad) hG (a_n_ := ((8 * a_surface) + a_column)) (e_n_ := (by simp only [ey7, nI_add, pk_mul])) (h_n_ := by omega) (hz := e10)) dX6_depth_10 rfl 36 6 (GH_r hG (by decide)) rfl (CE_36 _) rfl rfl rfl rfl rfl rfl ⟨⟨Nat.le_of_ble_eq_true rfl, Nat.le_of_ble_eq_true rfl⟩, Nat.zero_le _, Nat.zero_le _⟩ (Nat.le_of_ble_eq_true rfl) (st' := [.int y10]) rfl (fun hE => ?_)
    refine j_goto 25 C dX6_depth_13 rfl ?_
    subst hz
    exact j_retI C X dX6_depth_25 rfl ⟨rfl, rfl, rfl, rfl, trivial⟩
def m_X6_bend_L33 (W S ns nc : Nat) (B : Nat → Option Nat) (σ : Nat → Nat → Int32) (what : Int32) (y10 : Int32 × (Nat → Int32) × (Nat → Int32) × (Nat → Int32) × (Nat → Int32)) (i22 : Nat) (i33 : Nat) (c33 : Int32) : Int32 := ap (m_X6_depth W S ns nc B (sA (sA (sA (sA σ 36 y10.2.1) 47 y10.2.2.1) 48 y10.2.2.2.1) 49 y10.2.2.2.2) (nI i22) (nI i33) what) (fun (y50 : Int32) => ap (m_X6_depth W S ns nc B (sA (sA (sA (sA σ 36 y10.2.1) 47 y10.2.2.1) 48 y10.2.2.2.1) 49 y10.2.2.2.2) (nI i22) ((nI i33) - (nI 1)) what) (fun (y61 : Int32) => ap (m_X6_depth W S ns nc B (sA (sA (sA (sA σ 36 y10.2.1) 47 y10.2.2.1) 48 y10.2.2.2.1) 49 y10.2.2.2.2) (nI i22) ((nI i33) + (nI 1)) what) (fun (y72 : Int32) => (if 0 ≤ ((((nI 2) * y50) - y61) - y72) then ap (c33 + ((((nI 2) * y50) - y61) - y72)) (fun (x93 : Int32) => x93) else ap (c33 + (-((((nI 2) * y50) - y61) - y72))) (fun (x93 : Int32) => x93)))))
def m_X6_bend_L22 (W S ns nc : Nat) (B : Nat → Option Nat) (σ : Nat → Nat → Int32) (what : Int32) (y10 : Int32 × (Nat → Int32) × (Nat → Int32) × (Nat → Int32) × (Nat → Int32)) (i22 : Nat) (c22 : Int32) : Int32 := ap (lp (m_X6_bend_L33 W S ns nc B σ what y10 i22) (W - (1 + 1)) 1 c22) (fun (z33 : Int32) => z33)
def m_X6_bend (W S ns nc : Nat) (B : Nat → Option Nat) (σ : Nat → Nat → Int32) (what : Int32) : Int32 × (Nat → Int32) × (Nat → Int32) × (Nat → Int32) × (Nat → Int32) := ap (m_X6_in W S ns nc B σ what (nI 0) (nI 1)) (fun (y3 : Int32) => (if y3 = 0 then ((-1), (σ 36), (σ 47), (σ 48), (σ 49)) else ap (m_X6_reckons W S ns nc B σ) (fun (y10 : Int32 × (Nat → Int32) × (Nat → Int32) × (Nat → Int32) × (Nat → Int32)) => (if y10.1 = 0 then ((-1), y10.2.1, y10.2.2.1, y10.2.2.2.1, y10.2.2.2.2) else ap (lp (m_X6_bend_L22 W S ns nc B σ what y10) (S - 0) 0 (nI 0)) (fun (z22 : Int32) => (z22, y10.2.1, y10.2.2.1, y10.2.2.2.1, y10.2.2.2.2))))))
abbrev rm_X6_bend : Room := { frames := 8, cells := 0, slots := 0, locals := 185 }
set_option maxHeartbeats 4000000 in
set_option maxRecDepth 100000 in
theorem c_X6_bend {l : Launch} {D : va_G} {K : Nat → ClassId} {W S ns nc N : Nat} {ad : Nat → Nat} {B : Nat → Option Nat} {σ : Nat → Nat → Int32} (hG : GH W S ns nc N) {what : Int32}  {z : Int32 × (Nat → Int32) × (Nat → Int32) × (Nat → Int32) × (Nat → Int32)} (hz : m_X6_bend W S ns nc B σ what = z) (hsee : SeeOK (σ 43) ns) (hb17 : bl (σ 36 17)) : MC l yX6_bend cX6_bend 6 (some .int) rm_X6_bend D (TY K) N ad (CT K W S ns nc ad B σ) [.ref (ad 36), .int what] (BS (some (.int z.1)) N ad (CT K W S ns nc ad B (sA (sA (sA (sA σ 36 z.2.1) 47 z.2.2.1) 48 z.2.2.2.1) 49 z.2.2.2.2)) True) := by
  have hW := hG.1; have hW8 := hG.2.1; have hS := hG.2.2.1; have hS4 := hG.2.2.2.1; have hns := hG.2.2.2.2.1; have hnc := hG.2.2.2.2.2.1; have hWS := GH_ws hG
  refine MC.of (by decide) (Nat.le_of_ble_eq_true rfl) (fun p e s m args below meth c Q A H0 C X => ?_)
  replace C : Cx p s m args meth c cX6_bend RX6 6 D (TY K) A H0 := C
  show J p l e rm_X6_bend s m args below meth c Q D A H0 6 0 0 N ad (CT K W S ns nc ad B σ) 0 [(0, .ref (ad 36)), (1, .int what)] []
  unfold m_X6_bend at hz
  refine j_iload_n 1 C dX6_bend_0 rfl rfl 1 rfl ?_
  refine j_iconst 2 C (x := nI 0) dX6_bend_1 rfl (by decide) ?_
  refine j_iconst 3 C (x := nI 1) dX6_bend_2 rfl (by decide) ?_
  obtain ⟨y3, e3, hz⟩ := ap_x hz
  refine s_S 6 C (As := [.int what, .int (nI 0), .int (nI 1)]) cs_X6_57 (c_X6_in (l := l) (D := D) (K := K) (ad := ad) hG  (hz := e3)) dX6_bend_3 rfl rfl rfl rfl rfl ⟨⟨Nat.le_of_ble_eq_true rfl, Nat.le_of_ble_eq_true rfl⟩, Nat.zero_le _, Nat.zero_le _⟩ (Nat.le_of_ble_eq_true rfl) (st' := [.int y3]) rfl (fun hE => ?_)
  have hbl3 : bl y3 := hE
  refine j_if_eq 16 9 C dX6_bend_6 rfl rfl (fun c_6 => ?_) (fun c_6 => ?_)
  · replace hz := (if_pos c_6).symm.trans hz
    refine j_iconst 17 C (x := (-1)) dX6_bend_16 rfl (by decide) ?_
    subst hz
    exact j_retI C X dX6_bend_17 rfl ⟨rfl, rfl, rfl, (CT_x (by intro a; (by_cases h0 : a = 36; (· (first | (subst h0; simp [sA]; done) | (rw [h0]; simp [sA]; done))); by_cases h1 : a = 47; (· (first | (subst h1; simp [sA]; done) | (rw [h1]; simp [sA]; done))); by_cases h2 : a = 48; (· (first | (subst h2; simp [sA]; done) | (rw [h2]; simp [sA]; done))); by_cases h3 : a = 49; (· (first | (subst h3; simp [sA]; done) | (rw [h3]; simp [sA]; done))); simp [sA, h0, h1, h2, h3]))), trivial⟩
  · replace hz := (if_neg c_6).symm.trans hz
    refine j_aload_n 10 C dX6_bend_9 rfl rfl 0 rfl ?_
    obtain ⟨y10, e10, hz⟩ := ap_x hz
    refine s_V 13 C (As := []) cv_X6_124 (c_X6_reckons (l := l) (D := D) (K := K) (ad := ad) hG (hsee := hsee) (hb17 := hb17) (hz := e10)) dX6_bend_10 rfl 36 6 (GH_r hG (by decide)) rfl (CE_36 _) rfl rfl rfl rfl rfl rfl ⟨⟨Nat.le_of_ble_eq_true rfl, Nat.le_of_ble_eq_true rfl⟩, Nat.zero_le _, Nat.zero_le _⟩ (Nat.le_of_ble_eq_true rfl) (st' := [.int y10.1]) rfl (fun hE => ?_)
    have hbl10 : bl y10.1 := hE
    refine j_if_ne 18 16 C dX6_bend_13 rfl rfl (fun c_13 => ?_) (fun c_13 => ?_)
    · replace hz := (if_neg c_13).symm.trans hz
      refine j_iconst 19 C (x := nI 0) dX6_bend_18 rfl (by decide) ?_
      refine j_istore_n 20 C [(2, .int (nI 0)), (0, .ref (ad 36)), (1, .int what)] dX6_bend_19 rfl rfl (by decide) rfl ?_
      refine j_iconst 21 C (x := nI 0) dX6_bend_20 rfl (by decide) ?_
      refine j_istore_n 22 C [(3, .int (nI 0)), (2, .int (nI 0)), (0, .ref (ad 36)), (1, .int what)] dX6_bend_21 rfl rfl (by decide) rfl ?_
      skip
      obtain ⟨z22, ez22, hz⟩ := ap_x hz
      have L22 : ∀ (n22 i22 : Nat) (c22 : Int32), 0 ≤ i22 → i22 < 5000 → n22 = S - i22 → lp (m_X6_bend_L22 W S ns nc B σ what y10) n22 i22 c22 = z22 → J p l e rm_X6_bend s m args below meth c Q D A H0 6 0 0 N ad (CT K W S ns nc ad B (sA (sA (sA (sA σ 36 y10.2.1) 47 y10.2.2.1) 48 y10.2.2.2.1) 49 y10.2.2.2.2)) 22 [(0, .ref (ad 36)), (1, .int what), (2, .int c22), (3, .int (nI i22))] [] := by
        intro n22
        induction n22 with
        | zero =>
          intro i22 c22 hl22 hi22 hn22 hz22
          refine j_iload_n 23 C dX6_bend_22 rfl rfl 3 rfl ?_
          refine j_aload_n 24 C dX6_bend_23 rfl rfl 0 rfl ?_
          refine k_get 27 C fl_X6_54 dX6_bend_24 rfl 36 (GH_r hG (by decide)) y10.2.1 (by rfl) (CE_36 _) (.int (nI S)) rfl ?_
          refine j_ic_ge 106 30 C dX6_bend_27 rfl rfl (fun c_27 => ?_) (fun c_27 => ?_)
          · skip
            have n_27 := nat_le (a := S) (b := i22) rfl rfl (by omega) (by omega) c_27
            have hq22 : c22 = z22 := hz22
            subst hq22
            refine j_iload_n 107 C dX6_bend_106 rfl rfl 2 rfl ?_
            subst hz
            exact j_retI C X dX6_bend_107 rfl ⟨rfl, rfl, rfl, rfl, trivial⟩
          · exfalso
            have n_27 := nat_nle (a := S) (b := i22) rfl rfl (by omega) (by omega) c_27
            omega
        | succ n22 ih22 =>
          intro i22 c22 hl22 hi22 hn22 hz22
          refine j_iload_n 23 C dX6_bend_22 rfl rfl 3 rfl ?_
          refine j_aload_n 24 C dX6_bend_23 rfl rfl 0 rfl ?_
          refine k_get 27 C fl_X6_54 dX6_bend_24 rfl 36 (GH_r hG (by decide)) y10.2.1 (by rfl) (CE_36 _) (.int (nI S)) rfl ?_
          refine j_ic_ge 106 30 C dX6_bend_27 rfl rfl (fun c_27 => ?_) (fun c_27 => ?_)
          · exfalso
            have n_27 := nat_le (a := S) (b := i22) rfl rfl (by omega) (by omega) c_27
            omega
          · skip
            have n_27 := nat_nle (a := S) (b := i22) rfl rfl (by omega) (by omega) c_27
            obtain ⟨w22, hw22, hz22⟩ := lp_s hz22
            have ho22 := hz
            clear hz
            have hz := hw22
            clear hw22
            unfold m_X6_bend_L22 at hz
            refine j_iconst 31 C (x := nI 1) dX6_bend_30 rfl (by decide) ?_
            refine j_istore 33 C [(4, .int (nI 1)), (0, .ref (ad 36)), (1, .int what), (2, .int c22), (3, .int (nI i22))] dX6_bend_31 rfl (by decide) rfl ?_
            skip
            obtain ⟨z33, ez33, hz⟩ := ap_x hz
            have L33 : ∀ (n33 i33 : Nat) (c33 : Int32), 1 ≤ i33 → i33 < 5000 → n33 = W - (i33 + 1) → lp (m_X6_bend_L33 W S ns nc B σ what y10 i22) n33 i33 c33 = z33 → J p l e rm_X6_bend s m args below meth c Q D A H0 6 0 0 N ad (CT K W S ns nc ad B (sA (sA (sA (sA σ 36 y10.2.1) 47 y10.2.2.1) 48 y10.2.2.2.1) 49 y10.2.2.2.2)) 33 [(0, .ref (ad 36)), (1, .int what), (2, .int c33), (3, .int (nI i22)), (4, .int (nI i33))] [] := by
              intro n33
              induction n33 with
              | zero =>
                intro i33 c33 hl33 hi33 hn33 hz33
                refine j_iload 35 C dX6_bend_33 rfl 4 rfl ?_
                refine j_iconst 36 C (x := nI 1) dX6_bend_35 rfl (by decide) ?_
                refine j_iadd 37 C dX6_bend_36 rfl rfl ?_
                refine j_aload_n 38 C dX6_bend_37 rfl rfl 0 rfl ?_
                refine k_get 41 C fl_X6_50 dX6_bend_38 rfl 36 (GH_r hG (by decide)) y10.2.1 (by rfl) (CE_36 _) (.int (nI W)) rfl ?_
                refine j_ic_ge 100 44 C dX6_bend_41 rfl rfl (fun c_41 => ?_) (fun c_41 => ?_)
                · skip
                  have n_41 := nat_le (a := W) (b := (i33 + 1)) rfl (by simp only [nI_add, pk_mul]) (by omega) (by omega) c_41
                  have hq33 : c33 = z33 := hz33
                  subst hq33
                  refine j_iinc 103 C (x' := nI (i22 + 1)) [(3, .int (nI (i22 + 1))), (0, .ref (ad 36)), (1, .int what), (2, .int c33), (4, .int (nI i33))] dX6_bend_100 rfl 3 rfl (by rw [show Int32.ofInt 1 = nI 1 from by decide, nI_add]) (by decide) rfl ?_
                  refine j_goto 22 C dX6_bend_103 rfl ?_
                  subst hz
                  refine j_lv [1, 2, 3, 0] (lv' := [(0, .ref (ad 36)), (1, .int what), (2, .int c33), (3, .int (nI (i22 + 1)))]) rfl ?_
                  have hz := ho22
                  exact ih22 (i22 + 1) c33 (by omega) (by omega) (by omega) hz22
                · exfalso
                  have n_41 := nat_nle (a := W) (b := (i33 + 1)) rfl (by simp only [nI_add, pk_mul]) (by omega) (by omega) c_41
                  omega
              | succ n33 ih33 =>
                intro i33 c33 hl33 hi33 hn33 hz33
                refine j_iload 35 C dX6_bend_33 rfl 4 rfl ?_
                refine j_iconst 36 C (x := nI 1) dX6_bend_35 rfl (by decide) ?_
                refine j_iadd 37 C dX6_bend_36 rfl rfl ?_
                refine j_aload_n 38 C dX6_bend_37 rfl rfl 0 rfl ?_
                refine k_get 41 C fl_X6_50 dX6_bend_38 rfl 36 (GH_r hG (by decide)) y10.2.1 (by rfl) (CE_36 _) (.int (nI W)) rfl ?_
                refine j_ic_ge 100 44 C dX6_bend_41 rfl rfl (fun c_41 => ?_) (fun c_41 => ?_)
                · exfalso
                  have n_41 := nat_le (a := W) (b := (i33 + 1)) rfl (by simp only [nI_add, pk_mul]) (by omega) (by omega) c_41
                  omega
                · skip
                  have n_41 := nat_nle (a := W) (b := (i33 + 1)) rfl (by simp only [nI_add, pk_mul]) (by omega) (by omega) c_41
                  obtain ⟨w33, hw33, hz33⟩ := lp_s hz33
                  have ho33 := hz
                  clear hz
                  have hz := hw33
                  clear hw33
                  unfold m_X6_bend_L33 at hz
                  refine j_iconst 45 C (x := nI 2) dX6_bend_44 rfl (by decide) ?_
                  refine j_aload_n 46 C dX6_bend_45 rfl rfl 0 rfl ?_
                  refine j_iload_n 47 C dX6_bend_46 rfl rfl 3 rfl ?_
                  refine j_iload 49 C dX6_bend_47 rfl 4 rfl ?_
                  refine j_iload_n 50 C dX6_bend_49 rfl rfl 1 rfl ?_
                  obtain ⟨y50, e50, hz⟩ := ap_x hz
                  refine s_V 53 C (As := [.int (nI i22), .int (nI i33), .int what]) cv_X6_144 (c_X6_depth (l := l) (D := D) (K := K) (ad := ad) hG (a_surface := i22) (e_surface := rfl) (h_surface := by omega) (a_column := i33) (e_column := rfl) (h_column := by omega) (hz := e50)) dX6_bend_50 rfl 36 6 (GH_r hG (by decide)) rfl (CE_36 _) rfl rfl rfl rfl rfl rfl ⟨⟨Nat.le_of_ble_eq_true rfl, Nat.le_of_ble_eq_true rfl⟩, Nat.zero_le _, Nat.zero_le _⟩ (Nat.le_of_ble_eq_true rfl) (st' := [.int y50, .int (nI 2)]) rfl (fun hE => ?_)
                  refine j_imul 54 C dX6_bend_53 rfl rfl ?_
                  refine j_aload_n 55 C dX6_bend_54 rfl rfl 0 rfl ?_
                  refine j_iload_n 56 C dX6_bend_55 rfl rfl 3 rfl ?_
                  refine j_iload 58 C dX6_bend_56 rfl 4 rfl ?_
                  refine j_iconst 59 C (x := nI 1) dX6_bend_58 rfl (by decide) ?_
                  refine j_isub 60 C dX6_bend_59 rfl rfl ?_
                  have en59 : (nI i33) - (nI 1) = nI (i33 - 1) := pk_sub (by omega)
                  refine j_iload_n 61 C dX6_bend_60 rfl rfl 1 rfl ?_
                  obtain ⟨y61, e61, hz⟩ := ap_x hz
                  refine s_V 64 C (As := [.int (nI i22), .int ((nI i33) - (nI 1)), .int what]) cv_X6_144 (c_X6_depth (l := l) (D := D) (K := K) (ad := ad) hG (a_surface := i22) (e_surface := rfl) (h_surface := by omega) (a_column := (i33 - 1)) (e_column := en59) (h_column := by omega) (hz := e61)) dX6_bend_61 rfl 36 6 (GH_r hG (by decide)) rfl (CE_36 _) rfl rfl rfl rfl rfl rfl ⟨⟨Nat.le_of_ble_eq_true rfl, Nat.le_of_ble_eq_true rfl⟩, Nat.zero_le _, Nat.zero_le _⟩ (Nat.le_of_ble_eq_true rfl) (st' := [.int y61, .int ((nI 2) * y50)]) rfl (fun hE => ?_)
                  refine j_isub 65 C dX6_bend_64 rfl rfl ?_
                  refine j_aload_n 66 C dX6_bend_65 rfl rfl 0 rfl ?_
                  refine j_iload_n 67 C dX6_bend_66 rfl rfl 3 rfl ?_
                  refine j_iload 69 C dX6_bend_67 rfl 4 rfl ?_
                  refine j_iconst 70 C (x := nI 1) dX6_bend_69 rfl (by decide) ?_
                  refine j_iadd 71 C dX6_bend_70 rfl rfl ?_
                  refine j_iload_n 72 C dX6_bend_71 rfl rfl 1 rfl ?_
                  obtain ⟨y72, e72, hz⟩ := ap_x hz
                  refine s_V 75 C (As := [.int (nI i22), .int ((nI i33) + (nI 1)), .int what]) cv_X6_144 (c_X6_depth (l := l) (D := D) (K := K) (ad := ad) hG (a_surface := i22) (e_surface := rfl) (h_surface := by omega) (a_column := (i33 + 1)) (e_column := (by simp only [nI_add, pk_mul])) (h_column := by omega) (hz := e72)) dX6_bend_72 rfl 36 6 (GH_r hG (by decide)) rfl (CE_36 _) rfl rfl rfl rfl rfl rfl ⟨⟨Nat.le_of_ble_eq_true rfl, Nat.le_of_ble_eq_true rfl⟩, Nat.zero_le _, Nat.zero_le _⟩ (Nat.le_of_ble_eq_true rfl) (st' := [.int y72, .int (((nI 2) * y50) - y61)]) rfl (fun hE => ?_)
                  refine j_isub 76 C dX6_bend_75 rfl rfl ?_
                  refine j_istore 78 C [(5, .int ((((nI 2) * y50) - y61) - y72)), (0, .ref (ad 36)), (1, .int what), (2, .int c33), (3, .int (nI i22)), (4, .int (nI i33))] dX6_bend_76 rfl (by decide) rfl ?_
                  refine j_iload_n 79 C dX6_bend_78 rfl rfl 3 rfl ?_
                  refine j_iload 81 C dX6_bend_79 rfl 0 rfl ?_
                  refine j_if_ge 90 84 C dX6_bend_81 rfl rfl (fun c_81 => ?_) (fun c_81 => ?_)
                  · replace hz := (if_pos c_81).symm.trans hz
                    refine j_iload 92 C dX6_bend_90 rfl 0 rfl ?_
                    refine j_iadd 93 C dX6_bend_92 rfl rfl ?_
                    obtain ⟨x93, e93, hz⟩ := ap_x hz
                    refine j_st (st' := [.int x93]) (by rw [← e93]) ?_
                    refine j_istore_n 94 C [(2, .int x93), (5, .int ((((nI 2) * y50) - y61) - y72)), (0, .ref (ad 36)), (1, .int what), (3, .int (nI i22)), (4, .int (nI i33))] dX6_bend_93 rfl rfl (by decide) rfl ?_
                    refine j_iinc 97 C (x' := nI (i33 + 1)) [(4, .int (nI (i33 + 1))), (2, .int x93), (5, .int ((((nI 2) * y50) - y61) - y72)), (0, .ref (ad 36)), (1, .int what), (3, .int (nI i22))] dX6_bend_94 rfl 5 rfl (by rw [show Int32.ofInt 1 = nI 1 from by decide, nI_add]) (by decide) rfl ?_
                    refine j_goto 33 C dX6_bend_97 rfl ?_
                    subst hz
                    refine j_lv [3, 4, 1, 5, 0] (lv' := [(0, .ref (ad 36)), (1, .int what), (2, .int x93), (3, .int (nI i22)), (4, .int (nI (i33 + 1)))]) rfl ?_
                    have hz := ho33
                    exact ih33 (i33 + 1) x93 (by omega) (by omega) (by omega) hz33
                  · replace hz := (if_neg c_81).symm.trans hz
                    refine j_iload 86 C dX6_bend_84 rfl 0 rfl ?_
                    refine j_ineg 87 C dX6_bend_86 rfl rfl ?_
                    refine j_goto 92 C dX6_bend_87 rfl ?_
                    refine j_iadd 93 C dX6_bend_92 rfl rfl ?_
                    obtain ⟨x93, e93, hz⟩ := ap_x hz
                    refine j_st (st' := [.int x93]) (by rw [← e93]) ?_
                    refine j_istore_n 94 C [(2, .int x93), (5, .int ((((nI 2) * y50) - y61) - y72)), (0, .ref (ad 36)), (1, .int what), (3, .int (nI i22)), (4, .int (nI i33))] dX6_bend_93 rfl rfl (by decide) rfl ?_
                    refine j_iinc 97 C (x' := nI (i33 + 1)) [(4, .int (nI (i33 + 1))), (2, .int x93), (5, .int ((((nI 2) * y50) - y61) - y72)), (0, .ref (ad 36)), (1, .int what), (3, .int (nI i22))] dX6_bend_94 rfl 5 rfl (by rw [show Int32.ofInt 1 = nI 1 from by decide, nI_add]) (by decide) rfl ?_
                    refine j_goto 33 C dX6_bend_97 rfl ?_
                    subst hz
                    refine j_lv [3, 4, 1, 5, 0] (lv' := [(0, .ref (ad 36)), (1, .int what), (2, .int x93), (3, .int (nI i22)), (4, .int (nI (i33 + 1)))]) rfl ?_
                    have hz := ho33
                    exact ih33 (i33 + 1) x93 (by omega) (by omega) (by omega) hz33
            refine j_lv [1, 2, 3, 4, 0] (lv' := [(0, .ref (ad 36)), (1, .int what), (2, .int c22), (3, .int (nI i22)), (4, .int (nI 1))]) rfl ?_
            exact L33 _ 1 c22 (by omega) (by omega) rfl ez33
      refine j_lv [2, 3, 1, 0] (lv' := [(0, .ref (ad 36)), (1, .int what), (2, .int (nI 0)), (3, .int (nI 0))]) rfl ?_
      exact L22 _ 0 (nI 0) (by omega) (by omega) rfl ez22
    · replace hz := (if_pos c_13).symm.trans hz
      refine j_iconst 17 C (x := (-1)) dX6_bend_16 rfl (by decide) ?_
      subst hz
      exact j_retI C X dX6_bend_17 rfl ⟨rfl, rfl, rfl, rfl, trivial⟩

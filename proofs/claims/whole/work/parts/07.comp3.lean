def m_X3_surface (W S ns nc : Nat) (B : Nat → Option Nat) (σ : Nat → Nat → Int32) (q : Nat) : Int32 := σ q 0
abbrev rm_X3_surface : Room := { frames := 0, cells := 0, slots := 0, locals := 0 }
set_option maxHeartbeats 4000000 in
set_option maxRecDepth 100000 in
theorem c_X3_surface {l : Launch} {D : va_G} {K : Nat → ClassId} {W S ns nc N : Nat} {ad : Nat → Nat} {B : Nat → Option Nat} {σ : Nat → Nat → Int32} (hG : GH W S ns nc N) {q : Nat} (hq_q : 50 ≤ q) (hN_q : q < N) {z : Int32} (hz : m_X3_surface W S ns nc B σ q = z)  : MC l yX3_surface cX3_surface 1 (some .int) rm_X3_surface D (TY K) N ad (CT K W S ns nc ad B σ) [.ref (ad q)] (BS (some (.int z)) N ad (CT K W S ns nc ad B σ) True) := by
  have hW := hG.1; have hW8 := hG.2.1; have hS := hG.2.2.1; have hS4 := hG.2.2.2.1; have hns := hG.2.2.2.2.1; have hnc := hG.2.2.2.2.2.1; have hWS := GH_ws hG
  refine MC.of (by decide) (Nat.le_of_ble_eq_true rfl) (fun p e s m args below meth c Q A H0 C X => ?_)
  replace C : Cx p s m args meth c cX3_surface RX3 1 D (TY K) A H0 := C
  show J p l e rm_X3_surface s m args below meth c Q D A H0 1 0 0 N ad (CT K W S ns nc ad B σ) 0 [(0, .ref (ad q))] []
  unfold m_X3_surface at hz
  refine j_aload_n 1 C dX3_surface_0 rfl rfl 0 rfl ?_
  refine k_get 4 C fl_X3_9 dX3_surface_1 rfl q hN_q (σ q) rfl (CE_q hq_q _) (.int (σ q 0)) rfl ?_
  subst hz
  exact j_retI C X dX3_surface_4 rfl ⟨rfl, rfl, rfl, rfl, trivial⟩
def m_X3_column (W S ns nc : Nat) (B : Nat → Option Nat) (σ : Nat → Nat → Int32) (q : Nat) : Int32 := σ q 1
abbrev rm_X3_column : Room := { frames := 0, cells := 0, slots := 0, locals := 0 }
set_option maxHeartbeats 4000000 in
set_option maxRecDepth 100000 in
theorem c_X3_column {l : Launch} {D : va_G} {K : Nat → ClassId} {W S ns nc N : Nat} {ad : Nat → Nat} {B : Nat → Option Nat} {σ : Nat → Nat → Int32} (hG : GH W S ns nc N) {q : Nat} (hq_q : 50 ≤ q) (hN_q : q < N) {z : Int32} (hz : m_X3_column W S ns nc B σ q = z)  : MC l yX3_column cX3_column 1 (some .int) rm_X3_column D (TY K) N ad (CT K W S ns nc ad B σ) [.ref (ad q)] (BS (some (.int z)) N ad (CT K W S ns nc ad B σ) True) := by
  have hW := hG.1; have hW8 := hG.2.1; have hS := hG.2.2.1; have hS4 := hG.2.2.2.1; have hns := hG.2.2.2.2.1; have hnc := hG.2.2.2.2.2.1; have hWS := GH_ws hG
  refine MC.of (by decide) (Nat.le_of_ble_eq_true rfl) (fun p e s m args below meth c Q A H0 C X => ?_)
  replace C : Cx p s m args meth c cX3_column RX3 1 D (TY K) A H0 := C
  show J p l e rm_X3_column s m args below meth c Q D A H0 1 0 0 N ad (CT K W S ns nc ad B σ) 0 [(0, .ref (ad q))] []
  unfold m_X3_column at hz
  refine j_aload_n 1 C dX3_column_0 rfl rfl 0 rfl ?_
  refine k_get 4 C fl_X3_15 dX3_column_1 rfl q hN_q (σ q) rfl (CE_q hq_q _) (.int (σ q 1)) rfl ?_
  subst hz
  exact j_retI C X dX3_column_4 rfl ⟨rfl, rfl, rfl, rfl, trivial⟩
def m_X3_kind (W S ns nc : Nat) (B : Nat → Option Nat) (σ : Nat → Nat → Int32) (q : Nat) : Int32 := σ q 2
abbrev rm_X3_kind : Room := { frames := 0, cells := 0, slots := 0, locals := 0 }
set_option maxHeartbeats 4000000 in
set_option maxRecDepth 100000 in
theorem c_X3_kind {l : Launch} {D : va_G} {K : Nat → ClassId} {W S ns nc N : Nat} {ad : Nat → Nat} {B : Nat → Option Nat} {σ : Nat → Nat → Int32} (hG : GH W S ns nc N) {q : Nat} (hq_q : 50 ≤ q) (hN_q : q < N) {z : Int32} (hz : m_X3_kind W S ns nc B σ q = z)  : MC l yX3_kind cX3_kind 1 (some .int) rm_X3_kind D (TY K) N ad (CT K W S ns nc ad B σ) [.ref (ad q)] (BS (some (.int z)) N ad (CT K W S ns nc ad B σ) True) := by
  have hW := hG.1; have hW8 := hG.2.1; have hS := hG.2.2.1; have hS4 := hG.2.2.2.1; have hns := hG.2.2.2.2.1; have hnc := hG.2.2.2.2.2.1; have hWS := GH_ws hG
  refine MC.of (by decide) (Nat.le_of_ble_eq_true rfl) (fun p e s m args below meth c Q A H0 C X => ?_)
  replace C : Cx p s m args meth c cX3_kind RX3 1 D (TY K) A H0 := C
  show J p l e rm_X3_kind s m args below meth c Q D A H0 1 0 0 N ad (CT K W S ns nc ad B σ) 0 [(0, .ref (ad q))] []
  unfold m_X3_kind at hz
  refine j_aload_n 1 C dX3_kind_0 rfl rfl 0 rfl ?_
  refine k_get 4 C fl_X3_18 dX3_kind_1 rfl q hN_q (σ q) rfl (CE_q hq_q _) (.int (σ q 2)) rfl ?_
  subst hz
  exact j_retI C X dX3_kind_4 rfl ⟨rfl, rfl, rfl, rfl, trivial⟩
def m_X3_z (W S ns nc : Nat) (B : Nat → Option Nat) (σ : Nat → Nat → Int32) (q : Nat) : Int32 := σ q 3
abbrev rm_X3_z : Room := { frames := 0, cells := 0, slots := 0, locals := 0 }
set_option maxHeartbeats 4000000 in
set_option maxRecDepth 100000 in
theorem c_X3_z {l : Launch} {D : va_G} {K : Nat → ClassId} {W S ns nc N : Nat} {ad : Nat → Nat} {B : Nat → Option Nat} {σ : Nat → Nat → Int32} (hG : GH W S ns nc N) {q : Nat} (hq_q : 50 ≤ q) (hN_q : q < N) {z : Int32} (hz : m_X3_z W S ns nc B σ q = z)  : MC l yX3_z cX3_z 1 (some .int) rm_X3_z D (TY K) N ad (CT K W S ns nc ad B σ) [.ref (ad q)] (BS (some (.int z)) N ad (CT K W S ns nc ad B σ) True) := by
  have hW := hG.1; have hW8 := hG.2.1; have hS := hG.2.2.1; have hS4 := hG.2.2.2.1; have hns := hG.2.2.2.2.1; have hnc := hG.2.2.2.2.2.1; have hWS := GH_ws hG
  refine MC.of (by decide) (Nat.le_of_ble_eq_true rfl) (fun p e s m args below meth c Q A H0 C X => ?_)
  replace C : Cx p s m args meth c cX3_z RX3 1 D (TY K) A H0 := C
  show J p l e rm_X3_z s m args below meth c Q D A H0 1 0 0 N ad (CT K W S ns nc ad B σ) 0 [(0, .ref (ad q))] []
  unfold m_X3_z at hz
  refine j_aload_n 1 C dX3_z_0 rfl rfl 0 rfl ?_
  refine k_get 4 C fl_X3_21 dX3_z_1 rfl q hN_q (σ q) rfl (CE_q hq_q _) (.int (σ q 3)) rfl ?_
  subst hz
  exact j_retI C X dX3_z_4 rfl ⟨rfl, rfl, rfl, rfl, trivial⟩
def m_X3_miss (W S ns nc : Nat) (B : Nat → Option Nat) (σ : Nat → Nat → Int32) (q : Nat) : Int32 := σ q 4
abbrev rm_X3_miss : Room := { frames := 0, cells := 0, slots := 0, locals := 0 }
set_option maxHeartbeats 4000000 in
set_option maxRecDepth 100000 in
theorem c_X3_miss {l : Launch} {D : va_G} {K : Nat → ClassId} {W S ns nc N : Nat} {ad : Nat → Nat} {B : Nat → Option Nat} {σ : Nat → Nat → Int32} (hG : GH W S ns nc N) {q : Nat} (hq_q : 50 ≤ q) (hN_q : q < N) {z : Int32} (hz : m_X3_miss W S ns nc B σ q = z)  : MC l yX3_miss cX3_miss 1 (some .int) rm_X3_miss D (TY K) N ad (CT K W S ns nc ad B σ) [.ref (ad q)] (BS (some (.int z)) N ad (CT K W S ns nc ad B σ) True) := by
  have hW := hG.1; have hW8 := hG.2.1; have hS := hG.2.2.1; have hS4 := hG.2.2.2.1; have hns := hG.2.2.2.2.1; have hnc := hG.2.2.2.2.2.1; have hWS := GH_ws hG
  refine MC.of (by decide) (Nat.le_of_ble_eq_true rfl) (fun p e s m args below meth c Q A H0 C X => ?_)
  replace C : Cx p s m args meth c cX3_miss RX3 1 D (TY K) A H0 := C
  show J p l e rm_X3_miss s m args below meth c Q D A H0 1 0 0 N ad (CT K W S ns nc ad B σ) 0 [(0, .ref (ad q))] []
  unfold m_X3_miss at hz
  refine j_aload_n 1 C dX3_miss_0 rfl rfl 0 rfl ?_
  refine k_get 4 C fl_X3_24 dX3_miss_1 rfl q hN_q (σ q) rfl (CE_q hq_q _) (.int (σ q 4)) rfl ?_
  subst hz
  exact j_retI C X dX3_miss_4 rfl ⟨rfl, rfl, rfl, rfl, trivial⟩
def m_X3_bind (W S ns nc : Nat) (B : Nat → Option Nat) (σ : Nat → Nat → Int32) (q : Nat) (g : Nat) : Int32 × (Nat → Int32) := ap (m_X2_placeOf W S ns nc B σ (σ q 0) (σ q 1)) (fun (y9 : Int32) => (if (σ q 2) = nI 0 then ap (m_X1_hold W S ns nc B σ g (nI 0) y9 ((σ q 3) - (σ q 4)) ((σ q 3) + (σ q 4))) (fun (y65 : Int32 × (Nat → Int32)) => (y65.1, y65.2)) else (if (σ q 2) = nI 1 then ap (m_X1_hold W S ns nc B σ g (nI 0) y9 (σ q 3) (nI 60)) (fun (y78 : Int32 × (Nat → Int32)) => (y78.1, y78.2)) else (if (σ q 2) = nI 2 then ap (m_X1_hold W S ns nc B σ g (nI 0) y9 (nI 0) (σ q 3)) (fun (y90 : Int32 × (Nat → Int32)) => (y90.1, y90.2)) else ap (m_X2_placeOf W S ns nc B σ (σ q 0) ((σ q 1) + (nI 1))) (fun (y107 : Int32) => ap (m_X1_hold W S ns nc B σ g y9 y107 ((σ q 3) - (σ q 4)) ((σ q 3) + (σ q 4))) (fun (y128 : Int32 × (Nat → Int32)) => (y128.1, y128.2)))))))
abbrev rm_X3_bind : Room := { frames := 3, cells := 0, slots := 0, locals := 91 }
set_option maxHeartbeats 4000000 in
set_option maxRecDepth 100000 in
theorem c_X3_bind {l : Launch} {D : va_G} {K : Nat → ClassId} {W S ns nc N : Nat} {ad : Nat → Nat} {B : Nat → Option Nat} {σ : Nat → Nat → Int32} (hG : GH W S ns nc N) {q : Nat} {g : Nat} (hq_q : 50 ≤ q) (hN_q : q < N) (h_g : g < 12) {z : Int32 × (Nat → Int32)} (hz : m_X3_bind W S ns nc B σ q g = z)  : MC l yX3_bind cX3_bind 4 (some .boolean) rm_X3_bind D (TY K) N ad (CT K W S ns nc ad B σ) [.ref (ad q), .ref (ad (11 + 2 * g)), .ref (ad 1)] (BS (some (.int z.1)) N ad (CT K W S ns nc ad B (sA σ (12 + 2 * g) z.2)) (bl z.1)) := by
  have hW := hG.1; have hW8 := hG.2.1; have hS := hG.2.2.1; have hS4 := hG.2.2.2.1; have hns := hG.2.2.2.2.1; have hnc := hG.2.2.2.2.2.1; have hWS := GH_ws hG
  refine MC.of (by decide) (Nat.le_of_ble_eq_true rfl) (fun p e s m args below meth c Q A H0 C X => ?_)
  replace C : Cx p s m args meth c cX3_bind RX3 4 D (TY K) A H0 := C
  show J p l e rm_X3_bind s m args below meth c Q D A H0 4 0 0 N ad (CT K W S ns nc ad B σ) 0 [(0, .ref (ad q)), (1, .ref (ad (11 + 2 * g))), (2, .ref (ad 1))] []
  unfold m_X3_bind at hz
  refine j_aload_n 1 C dX3_bind_0 rfl rfl 2 rfl ?_
  refine j_aload_n 2 C dX3_bind_1 rfl rfl 0 rfl ?_
  refine k_get 5 C fl_X3_9 dX3_bind_2 rfl q hN_q (σ q) rfl (CE_q hq_q _) (.int (σ q 0)) rfl ?_
  refine j_aload_n 6 C dX3_bind_5 rfl rfl 0 rfl ?_
  refine k_get 9 C fl_X3_15 dX3_bind_6 rfl q hN_q (σ q) rfl (CE_q hq_q _) (.int (σ q 1)) rfl ?_
  obtain ⟨y9, e9, hz⟩ := ap_x hz
  refine s_V 12 C (As := [.int (σ q 0), .int (σ q 1)]) cv_X3_27 (c_X2_placeOf (l := l) (D := D) (K := K) (ad := ad) hG  (hz := e9)) dX3_bind_9 rfl 1 2 (GH_r hG (by decide)) rfl (CE_1 _) rfl rfl rfl rfl rfl rfl ⟨⟨Nat.le_of_ble_eq_true rfl, Nat.le_of_ble_eq_true rfl⟩, Nat.zero_le _, Nat.zero_le _⟩ (Nat.le_of_ble_eq_true rfl) (st' := [.int y9]) rfl (fun hE => ?_)
  refine j_istore_n 13 C [(3, .int y9), (0, .ref (ad q)), (1, .ref (ad (11 + 2 * g))), (2, .ref (ad 1))] dX3_bind_12 rfl rfl (by decide) rfl ?_
  refine j_aload_n 14 C dX3_bind_13 rfl rfl 1 rfl ?_
  refine k_get 17 C fl_X3_18 dX3_bind_14 rfl q hN_q (σ q) rfl (CE_q hq_q _) (.int (σ q 2)) rfl ?_
  rcases Classical.em ((σ q 2) = nI 0) with c_1700 | c_1700
  · replace hz := (if_pos c_1700).symm.trans hz
    refine j_swIn 44 C dX3_bind_17 (off := 27) (by rw [c_1700]; decide) (by rw [c_1700]; decide) (by rw [c_1700]; decide) rfl ?_
    refine j_aload_n 45 C dX3_bind_44 rfl rfl 2 rfl ?_
    refine j_iconst 46 C (x := nI 0) dX3_bind_45 rfl (by decide) ?_
    refine j_iload_n 47 C dX3_bind_46 rfl rfl 0 rfl ?_
    refine j_aload_n 48 C dX3_bind_47 rfl rfl 1 rfl ?_
    refine k_get 51 C fl_X3_21 dX3_bind_48 rfl q hN_q (σ q) rfl (CE_q hq_q _) (.int (σ q 3)) rfl ?_
    refine j_aload_n 52 C dX3_bind_51 rfl rfl 1 rfl ?_
    refine k_get 55 C fl_X3_24 dX3_bind_52 rfl q hN_q (σ q) rfl (CE_q hq_q _) (.int (σ q 4)) rfl ?_
    refine j_isub 56 C dX3_bind_55 rfl rfl ?_
    refine j_aload_n 57 C dX3_bind_56 rfl rfl 1 rfl ?_
    refine k_get 60 C fl_X3_21 dX3_bind_57 rfl q hN_q (σ q) rfl (CE_q hq_q _) (.int (σ q 3)) rfl ?_
    refine j_aload_n 61 C dX3_bind_60 rfl rfl 1 rfl ?_
    refine k_get 64 C fl_X3_24 dX3_bind_61 rfl q hN_q (σ q) rfl (CE_q hq_q _) (.int (σ q 4)) rfl ?_
    refine j_iadd 65 C dX3_bind_64 rfl rfl ?_
    obtain ⟨y65, e65, hz⟩ := ap_x hz
    refine s_V 68 C (As := [.int (nI 0), .int y9, .int ((σ q 3) - (σ q 4)), .int ((σ q 3) + (σ q 4))]) cv_X3_35 (c_X1_hold (l := l) (D := D) (K := K) (ad := ad) hG (hg := by omega) (hz := e65)) dX3_bind_65 rfl (11 + 2 * g) 1 (GH_r hG (by omega)) rfl (CE_go (by omega) _) rfl rfl rfl rfl rfl rfl ⟨⟨Nat.le_of_ble_eq_true rfl, Nat.le_of_ble_eq_true rfl⟩, Nat.zero_le _, Nat.zero_le _⟩ (Nat.le_of_ble_eq_true rfl) (st' := [.int y65.1]) rfl (fun hE => ?_)
    have hbl65 : bl y65.1 := hE
    subst hz
    exact j_retI C X dX3_bind_68 (bl_nar hbl65) ⟨rfl, rfl, rfl, rfl, hbl65⟩
  · replace hz := (if_neg c_1700).symm.trans hz
    rcases Classical.em ((σ q 2) = nI 1) with c_1701 | c_1701
    · replace hz := (if_pos c_1701).symm.trans hz
      refine j_swIn 69 C dX3_bind_17 (off := 52) (by rw [c_1701]; decide) (by rw [c_1701]; decide) (by rw [c_1701]; decide) rfl ?_
      refine j_aload_n 70 C dX3_bind_69 rfl rfl 2 rfl ?_
      refine j_iconst 71 C (x := nI 0) dX3_bind_70 rfl (by decide) ?_
      refine j_iload_n 72 C dX3_bind_71 rfl rfl 0 rfl ?_
      refine j_aload_n 73 C dX3_bind_72 rfl rfl 1 rfl ?_
      refine k_get 76 C fl_X3_21 dX3_bind_73 rfl q hN_q (σ q) rfl (CE_q hq_q _) (.int (σ q 3)) rfl ?_
      refine j_bipush 78 C (x := nI 60) dX3_bind_76 rfl (by decide) ?_
      obtain ⟨y78, e78, hz⟩ := ap_x hz
      refine s_V 81 C (As := [.int (nI 0), .int y9, .int (σ q 3), .int (nI 60)]) cv_X3_35 (c_X1_hold (l := l) (D := D) (K := K) (ad := ad) hG (hg := by omega) (hz := e78)) dX3_bind_78 rfl (11 + 2 * g) 1 (GH_r hG (by omega)) rfl (CE_go (by omega) _) rfl rfl rfl rfl rfl rfl ⟨⟨Nat.le_of_ble_eq_true rfl, Nat.le_of_ble_eq_true rfl⟩, Nat.zero_le _, Nat.zero_le _⟩ (Nat.le_of_ble_eq_true rfl) (st' := [.int y78.1]) rfl (fun hE => ?_)
      have hbl78 : bl y78.1 := hE
      subst hz
      exact j_retI C X dX3_bind_81 (bl_nar hbl78) ⟨rfl, rfl, rfl, rfl, hbl78⟩
    · replace hz := (if_neg c_1701).symm.trans hz
      rcases Classical.em ((σ q 2) = nI 2) with c_1702 | c_1702
      · replace hz := (if_pos c_1702).symm.trans hz
        refine j_swIn 82 C dX3_bind_17 (off := 65) (by rw [c_1702]; decide) (by rw [c_1702]; decide) (by rw [c_1702]; decide) rfl ?_
        refine j_aload_n 83 C dX3_bind_82 rfl rfl 2 rfl ?_
        refine j_iconst 84 C (x := nI 0) dX3_bind_83 rfl (by decide) ?_
        refine j_iload_n 85 C dX3_bind_84 rfl rfl 0 rfl ?_
        refine j_iconst 86 C (x := nI 0) dX3_bind_85 rfl (by decide) ?_
        refine j_aload_n 87 C dX3_bind_86 rfl rfl 1 rfl ?_
        refine k_get 90 C fl_X3_21 dX3_bind_87 rfl q hN_q (σ q) rfl (CE_q hq_q _) (.int (σ q 3)) rfl ?_
        obtain ⟨y90, e90, hz⟩ := ap_x hz
        refine s_V 93 C (As := [.int (nI 0), .int y9, .int (nI 0), .int (σ q 3)]) cv_X3_35 (c_X1_hold (l := l) (D := D) (K := K) (ad := ad) hG (hg := by omega) (hz := e90)) dX3_bind_90 rfl (11 + 2 * g) 1 (GH_r hG (by omega)) rfl (CE_go (by omega) _) rfl rfl rfl rfl rfl rfl ⟨⟨Nat.le_of_ble_eq_true rfl, Nat.le_of_ble_eq_true rfl⟩, Nat.zero_le _, Nat.zero_le _⟩ (Nat.le_of_ble_eq_true rfl) (st' := [.int y90.1]) rfl (fun hE => ?_)
        have hbl90 : bl y90.1 := hE
        subst hz
        exact j_retI C X dX3_bind_93 (bl_nar hbl90) ⟨rfl, rfl, rfl, rfl, hbl90⟩
      · replace hz := (if_neg c_1702).symm.trans hz
        refine j_swOut 94 C dX3_bind_17 (sw_out3 c_1700 c_1701 c_1702) rfl ?_
        refine j_aload_n 95 C dX3_bind_94 rfl rfl 2 rfl ?_
        refine j_iload_n 96 C dX3_bind_95 rfl rfl 0 rfl ?_
        refine j_aload_n 97 C dX3_bind_96 rfl rfl 3 rfl ?_
        refine j_aload_n 98 C dX3_bind_97 rfl rfl 1 rfl ?_
        refine k_get 101 C fl_X3_9 dX3_bind_98 rfl q hN_q (σ q) rfl (CE_q hq_q _) (.int (σ q 0)) rfl ?_
        refine j_aload_n 102 C dX3_bind_101 rfl rfl 1 rfl ?_
        refine k_get 105 C fl_X3_15 dX3_bind_102 rfl q hN_q (σ q) rfl (CE_q hq_q _) (.int (σ q 1)) rfl ?_
        refine j_iconst 106 C (x := nI 1) dX3_bind_105 rfl (by decide) ?_
        refine j_iadd 107 C dX3_bind_106 rfl rfl ?_
        obtain ⟨y107, e107, hz⟩ := ap_x hz
        refine s_V 110 C (As := [.int (σ q 0), .int ((σ q 1) + (nI 1))]) cv_X3_27 (c_X2_placeOf (l := l) (D := D) (K := K) (ad := ad) hG  (hz := e107)) dX3_bind_107 rfl 1 2 (GH_r hG (by decide)) rfl (CE_1 _) rfl rfl rfl rfl rfl rfl ⟨⟨Nat.le_of_ble_eq_true rfl, Nat.le_of_ble_eq_true rfl⟩, Nat.zero_le _, Nat.zero_le _⟩ (Nat.le_of_ble_eq_true rfl) (st' := [.int y107, .int y9, .ref (ad (11 + 2 * g))]) rfl (fun hE => ?_)
        refine j_aload_n 111 C dX3_bind_110 rfl rfl 1 rfl ?_
        refine k_get 114 C fl_X3_21 dX3_bind_111 rfl q hN_q (σ q) rfl (CE_q hq_q _) (.int (σ q 3)) rfl ?_
        refine j_aload_n 115 C dX3_bind_114 rfl rfl 1 rfl ?_
        refine k_get 118 C fl_X3_24 dX3_bind_115 rfl q hN_q (σ q) rfl (CE_q hq_q _) (.int (σ q 4)) rfl ?_
        refine j_isub 119 C dX3_bind_118 rfl rfl ?_
        refine j_aload_n 120 C dX3_bind_119 rfl rfl 1 rfl ?_
        refine k_get 123 C fl_X3_21 dX3_bind_120 rfl q hN_q (σ q) rfl (CE_q hq_q _) (.int (σ q 3)) rfl ?_
        refine j_aload_n 124 C dX3_bind_123 rfl rfl 1 rfl ?_
        refine k_get 127 C fl_X3_24 dX3_bind_124 rfl q hN_q (σ q) rfl (CE_q hq_q _) (.int (σ q 4)) rfl ?_
        refine j_iadd 128 C dX3_bind_127 rfl rfl ?_
        obtain ⟨y128, e128, hz⟩ := ap_x hz
        refine s_V 131 C (As := [.int y9, .int y107, .int ((σ q 3) - (σ q 4)), .int ((σ q 3) + (σ q 4))]) cv_X3_35 (c_X1_hold (l := l) (D := D) (K := K) (ad := ad) hG (hg := by omega) (hz := e128)) dX3_bind_128 rfl (11 + 2 * g) 1 (GH_r hG (by omega)) rfl (CE_go (by omega) _) rfl rfl rfl rfl rfl rfl ⟨⟨Nat.le_of_ble_eq_true rfl, Nat.le_of_ble_eq_true rfl⟩, Nat.zero_le _, Nat.zero_le _⟩ (Nat.le_of_ble_eq_true rfl) (st' := [.int y128.1]) rfl (fun hE => ?_)
        have hbl128 : bl y128.1 := hE
        subst hz
        exact j_retI C X dX3_bind_131 (bl_nar hbl128) ⟨rfl, rfl, rfl, rfl, hbl128⟩
def m_X4_at (W S ns nc : Nat) (B : Nat → Option Nat) (σ : Nat → Nat → Int32) (number : Int32) : Option Nat := (if number < 0 then none else (if (nI 10) ≤ number then none else B (number).toNatClampNeg))
abbrev rm_X4_at : Room := { frames := 0, cells := 0, slots := 0, locals := 0 }
set_option maxHeartbeats 4000000 in
set_option maxRecDepth 100000 in
theorem c_X4_at {l : Launch} {D : va_G} {K : Nat → ClassId} {W S ns nc N : Nat} {ad : Nat → Nat} {B : Nat → Option Nat} {σ : Nat → Nat → Int32} (hG : GH W S ns nc N) {number : Int32}  {z : Option Nat} (hz : m_X4_at W S ns nc B σ number = z)  : MC l yX4_at cX4_at 2 (some (.object "HillLayers$Sight")) rm_X4_at D (TY K) N ad (CT K W S ns nc ad B σ) [.ref (ad 7), .int number] (BS (some (va_rf (z.map ad))) N ad (CT K W S ns nc ad B σ) True) := by
  have hW := hG.1; have hW8 := hG.2.1; have hS := hG.2.2.1; have hS4 := hG.2.2.2.1; have hns := hG.2.2.2.2.1; have hnc := hG.2.2.2.2.2.1; have hWS := GH_ws hG
  refine MC.of (by decide) (Nat.le_of_ble_eq_true rfl) (fun p e s m args below meth c Q A H0 C X => ?_)
  replace C : Cx p s m args meth c cX4_at RX4 2 D (TY K) A H0 := C
  show J p l e rm_X4_at s m args below meth c Q D A H0 2 0 0 N ad (CT K W S ns nc ad B σ) 0 [(0, .ref (ad 7)), (1, .int number)] []
  unfold m_X4_at at hz
  refine j_iload_n 1 C dX4_at_0 rfl rfl 1 rfl ?_
  refine j_if_lt 22 4 C dX4_at_1 rfl rfl (fun c_1 => ?_) (fun c_1 => ?_)
  · replace hz := (if_pos c_1).symm.trans hz
    refine j_null 23 C dX4_at_22 rfl ?_
    subst hz
    exact j_retA C X (Or.inl ⟨_, rfl⟩) (Or.inl rfl) dX4_at_23 ⟨rfl, rfl, rfl, rfl, trivial⟩
  · replace hz := (if_neg c_1).symm.trans hz
    refine j_iload_n 5 C dX4_at_4 rfl rfl 1 rfl ?_
    refine j_aload_n 6 C dX4_at_5 rfl rfl 0 rfl ?_
    refine k_get 9 C fl_X4_11 dX4_at_6 rfl 7 (GH_r hG (by decide)) _ rfl (CE_7 _) (.ref (ad 8)) rfl ?_
    refine k_alen 10 C dX4_at_9 rfl 8 (GH_r hG (by decide)) 3 (CE_8 _) rfl ?_
    refine j_ic_ge 22 13 C dX4_at_10 rfl rfl (fun c_10 => ?_) (fun c_10 => ?_)
    · replace hz := (if_pos c_10).symm.trans hz
      refine j_null 23 C dX4_at_22 rfl ?_
      subst hz
      exact j_retA C X (Or.inl ⟨_, rfl⟩) (Or.inl rfl) dX4_at_23 ⟨rfl, rfl, rfl, rfl, trivial⟩
    · replace hz := (if_neg c_10).symm.trans hz
      obtain ⟨kn, hkn, ekn⟩ : ∃ k : Nat, k < 10 ∧ number = nI k := by
        obtain ⟨j, hj, rfl⟩ := nI_of c_1
        exact ⟨j, Nat.not_le.mp (fun q => c_10 ((nI_leI (by omega) hj).mpr q)), rfl⟩
      refine j_aload_n 14 C dX4_at_13 rfl rfl 0 rfl ?_
      refine k_get 17 C fl_X4_11 dX4_at_14 rfl 7 (GH_r hG (by decide)) _ rfl (CE_7 _) (.ref (ad 8)) rfl ?_
      refine j_iload_n 18 C dX4_at_17 rfl rfl 1 rfl ?_
      refine j_aldq 19 C dX4_at_18 rfl 8 (GH_r hG (by decide)) rfl (CE_8 _) 3 rfl (vp_inE (n := kn) (by simp only [ekn, nI_add, pk_mul]) (by omega) (by omega)) rfl (v := va_rf ((B (number).toNatClampNeg).map ad)) rfl ?_
      refine j_goto 23 C dX4_at_19 rfl ?_
      subst hz
      exact j_retA C X (Or.inl ⟨_, rfl⟩) (va_rf_or _) dX4_at_23 ⟨rfl, rfl, rfl, rfl, trivial⟩
theorem at_B {W S ns nc : Nat} {B : Nat → Option Nat} {σ : Nat → Nat → Int32} {v : Int32} {q : Nat} (h : m_X4_at W S ns nc B σ v = some q) : ∃ i : Nat, i < 10 ∧ v = nI i ∧ B v.toNatClampNeg = some q := by
  unfold m_X4_at at h
  by_cases h0 : v < 0
  · rw [if_pos h0] at h; cases h
  rw [if_neg h0] at h
  by_cases h1 : nI 10 ≤ v
  · rw [if_pos h1] at h; cases h
  rw [if_neg h1] at h
  obtain ⟨j, hj, rfl⟩ := nI_of h0
  exact ⟨j, Nat.not_le.mp (fun x => h1 ((nI_leI (by decide) hj).mpr x)), rfl, h⟩
theorem at_q {W S ns nc : Nat} {B : Nat → Option Nat} {σ : Nat → Nat → Int32} {N : Nat} (hB : BOK B N) {v : Int32} {q : Nat} {y : Option Nat} (e : m_X4_at W S ns nc B σ v = y) (h : y = some q) : 50 ≤ q ∧ q < N := by
  obtain ⟨i, _, _, h2⟩ := at_B (e.trans h)
  exact hB _ _ h2
def m_X4_came (W S ns nc : Nat) (B : Nat → Option Nat) (σ : Nat → Nat → Int32) : Int32 := nI nc
abbrev rm_X4_came : Room := { frames := 0, cells := 0, slots := 0, locals := 0 }
set_option maxHeartbeats 4000000 in
set_option maxRecDepth 100000 in
theorem c_X4_came {l : Launch} {D : va_G} {K : Nat → ClassId} {W S ns nc N : Nat} {ad : Nat → Nat} {B : Nat → Option Nat} {σ : Nat → Nat → Int32} (hG : GH W S ns nc N)   {z : Int32} (hz : m_X4_came W S ns nc B σ = z)  : MC l yX4_came cX4_came 1 (some .int) rm_X4_came D (TY K) N ad (CT K W S ns nc ad B σ) [.ref (ad 7)] (BS (some (.int z)) N ad (CT K W S ns nc ad B σ) True) := by
  have hW := hG.1; have hW8 := hG.2.1; have hS := hG.2.2.1; have hS4 := hG.2.2.2.1; have hns := hG.2.2.2.2.1; have hnc := hG.2.2.2.2.2.1; have hWS := GH_ws hG
  refine MC.of (by decide) (Nat.le_of_ble_eq_true rfl) (fun p e s m args below meth c Q A H0 C X => ?_)
  replace C : Cx p s m args meth c cX4_came RX4 1 D (TY K) A H0 := C
  show J p l e rm_X4_came s m args below meth c Q D A H0 1 0 0 N ad (CT K W S ns nc ad B σ) 0 [(0, .ref (ad 7))] []
  unfold m_X4_came at hz
  refine j_aload_n 1 C dX4_came_0 rfl rfl 0 rfl ?_
  refine k_get 4 C fl_X4_17 dX4_came_1 rfl 7 (GH_r hG (by decide)) _ rfl (CE_7 _) (.int (nI nc)) rfl ?_
  subst hz
  exact j_retI C X dX4_came_4 rfl ⟨rfl, rfl, rfl, rfl, trivial⟩
def m_X4_heap_L4 (W S ns nc : Nat) (B : Nat → Option Nat) (σ : Nat → Nat → Int32) (i4 : Nat) (c4 : Int32) : Int32 := ap (m_X4_at W S ns nc B σ (nI i4)) (fun (y14 : Option Nat) => (Option.elim y14 c4 (fun (q17 : Nat) => ap (c4 ||| ((nI 1) <<< ((nI i4) &&& 31))) (fun (x25 : Int32) => x25))))
def m_X4_heap (W S ns nc : Nat) (B : Nat → Option Nat) (σ : Nat → Nat → Int32) : Int32 := ap (lp (m_X4_heap_L4 W S ns nc B σ) (nc - 0) 0 (nI 0)) (fun (z4 : Int32) => z4)
abbrev rm_X4_heap : Room := { frames := 1, cells := 0, slots := 0, locals := 21 }
set_option maxHeartbeats 4000000 in
set_option maxRecDepth 100000 in
theorem c_X4_heap {l : Launch} {D : va_G} {K : Nat → ClassId} {W S ns nc N : Nat} {ad : Nat → Nat} {B : Nat → Option Nat} {σ : Nat → Nat → Int32} (hG : GH W S ns nc N)   {z : Int32} (hz : m_X4_heap W S ns nc B σ = z) (hB : BOK B N) : MC l yX4_heap cX4_heap 3 (some .int) rm_X4_heap D (TY K) N ad (CT K W S ns nc ad B σ) [.ref (ad 7)] (BS (some (.int z)) N ad (CT K W S ns nc ad B σ) True) := by
  have hW := hG.1; have hW8 := hG.2.1; have hS := hG.2.2.1; have hS4 := hG.2.2.2.1; have hns := hG.2.2.2.2.1; have hnc := hG.2.2.2.2.2.1; have hWS := GH_ws hG
  refine MC.of (by decide) (Nat.le_of_ble_eq_true rfl) (fun p e s m args below meth c Q A H0 C X => ?_)
  replace C : Cx p s m args meth c cX4_heap RX4 3 D (TY K) A H0 := C
  show J p l e rm_X4_heap s m args below meth c Q D A H0 3 0 0 N ad (CT K W S ns nc ad B σ) 0 [(0, .ref (ad 7))] []
  unfold m_X4_heap at hz
  refine j_iconst 1 C (x := nI 0) dX4_heap_0 rfl (by decide) ?_
  refine j_istore_n 2 C [(1, .int (nI 0)), (0, .ref (ad 7))] dX4_heap_1 rfl rfl (by decide) rfl ?_
  refine j_iconst 3 C (x := nI 0) dX4_heap_2 rfl (by decide) ?_
  refine j_istore_n 4 C [(2, .int (nI 0)), (1, .int (nI 0)), (0, .ref (ad 7))] dX4_heap_3 rfl rfl (by decide) rfl ?_
  skip
  obtain ⟨z4, ez4, hz⟩ := ap_x hz
  have L4 : ∀ (n4 i4 : Nat) (c4 : Int32), 0 ≤ i4 → i4 < 5000 → n4 = nc - i4 → lp (m_X4_heap_L4 W S ns nc B σ) n4 i4 c4 = z4 → J p l e rm_X4_heap s m args below meth c Q D A H0 3 0 0 N ad (CT K W S ns nc ad B σ) 4 [(0, .ref (ad 7)), (1, .int c4), (2, .int (nI i4))] [] := by
    intro n4
    induction n4 with
    | zero =>
      intro i4 c4 hl4 hi4 hn4 hz4
      refine j_iload_n 5 C dX4_heap_4 rfl rfl 2 rfl ?_
      refine j_aload_n 6 C dX4_heap_5 rfl rfl 0 rfl ?_
      refine k_get 9 C fl_X4_17 dX4_heap_6 rfl 7 (GH_r hG (by decide)) _ rfl (CE_7 _) (.int (nI nc)) rfl ?_
      refine j_ic_ge 32 12 C dX4_heap_9 rfl rfl (fun c_9 => ?_) (fun c_9 => ?_)
      · skip
        have n_9 := nat_le (a := nc) (b := i4) rfl rfl (by omega) (by omega) c_9
        have hq4 : c4 = z4 := hz4
        subst hq4
        refine j_iload_n 33 C dX4_heap_32 rfl rfl 1 rfl ?_
        subst hz
        exact j_retI C X dX4_heap_33 rfl ⟨rfl, rfl, rfl, rfl, trivial⟩
      · exfalso
        have n_9 := nat_nle (a := nc) (b := i4) rfl rfl (by omega) (by omega) c_9
        omega
    | succ n4 ih4 =>
      intro i4 c4 hl4 hi4 hn4 hz4
      refine j_iload_n 5 C dX4_heap_4 rfl rfl 2 rfl ?_
      refine j_aload_n 6 C dX4_heap_5 rfl rfl 0 rfl ?_
      refine k_get 9 C fl_X4_17 dX4_heap_6 rfl 7 (GH_r hG (by decide)) _ rfl (CE_7 _) (.int (nI nc)) rfl ?_
      refine j_ic_ge 32 12 C dX4_heap_9 rfl rfl (fun c_9 => ?_) (fun c_9 => ?_)
      · exfalso
        have n_9 := nat_le (a := nc) (b := i4) rfl rfl (by omega) (by omega) c_9
        omega
      · skip
        have n_9 := nat_nle (a := nc) (b := i4) rfl rfl (by omega) (by omega) c_9
        obtain ⟨w4, hw4, hz4⟩ := lp_s hz4
        have ho4 := hz
        clear hz
        have hz := hw4
        clear hw4
        unfold m_X4_heap_L4 at hz
        refine j_aload_n 13 C dX4_heap_12 rfl rfl 0 rfl ?_
        refine j_iload_n 14 C dX4_heap_13 rfl rfl 2 rfl ?_
        obtain ⟨y14, e14, hz⟩ := ap_x hz
        refine s_V 17 C (As := [.int (nI i4)]) cv_X4_21 (c_X4_at (l := l) (D := D) (K := K) (ad := ad) hG  (hz := e14)) dX4_heap_14 rfl 7 4 (GH_r hG (by decide)) rfl (CE_7 _) rfl rfl rfl rfl rfl rfl ⟨⟨Nat.le_of_ble_eq_true rfl, Nat.le_of_ble_eq_true rfl⟩, Nat.zero_le _, Nat.zero_le _⟩ (Nat.le_of_ble_eq_true rfl) (st' := [va_rf (y14.map ad)]) rfl (fun hE => ?_)
        refine j_ifnull 26 20 C dX4_heap_17 rfl rfl (fun c_17 => ?_) (fun a_17 c_17 => ?_)
        · skip
          replace c_17 := om_n c_17
          replace hz := oe_n c_17 hz
          refine j_iinc 29 C (x' := nI (i4 + 1)) [(2, .int (nI (i4 + 1))), (0, .ref (ad 7)), (1, .int c4)] dX4_heap_26 rfl 2 rfl (by rw [show Int32.ofInt 1 = nI 1 from by decide, nI_add]) (by decide) rfl ?_
          refine j_goto 4 C dX4_heap_29 rfl ?_
          subst hz
          refine j_lv [1, 2, 0] (lv' := [(0, .ref (ad 7)), (1, .int c4), (2, .int (nI (i4 + 1)))]) rfl ?_
          have hz := ho4
          exact ih4 (i4 + 1) c4 (by omega) (by omega) (by omega) hz4
        · skip
          obtain ⟨q17, c_17⟩ := om_s c_17
          replace hz := oe_s c_17 hz
          obtain ⟨hq_q17, hN_q17⟩ := at_q hB e14 c_17
          refine j_iload_n 21 C dX4_heap_20 rfl rfl 1 rfl ?_
          refine j_iconst 22 C (x := nI 1) dX4_heap_21 rfl (by decide) ?_
          refine j_iload_n 23 C dX4_heap_22 rfl rfl 2 rfl ?_
          refine j_ishl 24 C dX4_heap_23 rfl rfl ?_
          refine j_ior 25 C dX4_heap_24 rfl rfl ?_
          obtain ⟨x25, e25, hz⟩ := ap_x hz
          refine j_st (st' := [.int x25]) (by rw [← e25]) ?_
          refine j_istore_n 26 C [(1, .int x25), (0, .ref (ad 7)), (2, .int (nI i4))] dX4_heap_25 rfl rfl (by decide) rfl ?_
          refine j_iinc 29 C (x' := nI (i4 + 1)) [(2, .int (nI (i4 + 1))), (1, .int x25), (0, .ref (ad 7))] dX4_heap_26 rfl 2 rfl (by rw [show Int32.ofInt 1 = nI 1 from by decide, nI_add]) (by decide) rfl ?_
          refine j_goto 4 C dX4_heap_29 rfl ?_
          subst hz
          refine j_lv [2, 1, 0] (lv' := [(0, .ref (ad 7)), (1, .int x25), (2, .int (nI (i4 + 1)))]) rfl ?_
          have hz := ho4
          exact ih4 (i4 + 1) x25 (by omega) (by omega) (by omega) hz4
  refine j_lv [2, 1, 0] (lv' := [(0, .ref (ad 7)), (1, .int (nI 0)), (2, .int (nI 0))]) rfl ?_
  exact L4 _ 0 (nI 0) (by omega) (by omega) rfl ez4
def m_X4_add (W S ns nc : Nat) (B : Nat → Option Nat) (σ : Nat → Nat → Int32) (q : Nat) : Int32 × Nat × (Nat → Option Nat) := (if (nI nc) < (nI 10) then ((nI (nc + 1)) - (nI 1), (nc + 1), (va_up B (nI nc).toNatClampNeg (some q))) else ((-1), nc, B))
abbrev rm_X4_add : Room := { frames := 0, cells := 0, slots := 0, locals := 0 }
set_option maxHeartbeats 4000000 in
set_option maxRecDepth 100000 in
theorem c_X4_add {l : Launch} {D : va_G} {K : Nat → ClassId} {W S ns nc N : Nat} {ad : Nat → Nat} {B : Nat → Option Nat} {σ : Nat → Nat → Int32} (hG : GH W S ns nc N) {q : Nat} (hq_q : 50 ≤ q) (hN_q : q < N) {z : Int32 × Nat × (Nat → Option Nat)} (hz : m_X4_add W S ns nc B σ q = z)  : MC l yX4_add cX4_add 2 (some .int) rm_X4_add D (TY K) N ad (CT K W S ns nc ad B σ) [.ref (ad 7), .ref (ad q)] (BS (some (.int z.1)) N ad (CT K W S ns z.2.1 ad z.2.2 σ) (z.2.1 ≤ 10)) := by
  have hW := hG.1; have hW8 := hG.2.1; have hS := hG.2.2.1; have hS4 := hG.2.2.2.1; have hns := hG.2.2.2.2.1; have hnc := hG.2.2.2.2.2.1; have hWS := GH_ws hG
  refine MC.of (by decide) (Nat.le_of_ble_eq_true rfl) (fun p e s m args below meth c Q A H0 C X => ?_)
  replace C : Cx p s m args meth c cX4_add RX4 2 D (TY K) A H0 := C
  show J p l e rm_X4_add s m args below meth c Q D A H0 2 0 0 N ad (CT K W S ns nc ad B σ) 0 [(0, .ref (ad 7)), (1, .ref (ad q))] []
  unfold m_X4_add at hz
  refine j_aload_n 1 C dX4_add_0 rfl rfl 0 rfl ?_
  refine k_get 4 C fl_X4_17 dX4_add_1 rfl 7 (GH_r hG (by decide)) _ rfl (CE_7 _) (.int (nI nc)) rfl ?_
  refine j_aload_n 5 C dX4_add_4 rfl rfl 0 rfl ?_
  refine k_get 8 C fl_X4_11 dX4_add_5 rfl 7 (GH_r hG (by decide)) _ rfl (CE_7 _) (.ref (ad 8)) rfl ?_
  refine k_alen 9 C dX4_add_8 rfl 8 (GH_r hG (by decide)) 3 (CE_8 _) rfl ?_
  refine j_ic_lt 14 12 C dX4_add_9 rfl rfl (fun c_9 => ?_) (fun c_9 => ?_)
  · replace hz := (if_pos c_9).symm.trans hz
    have n_9 := nat_lt (a := nc) (b := 10) rfl rfl (by omega) (by omega) c_9
    refine j_aload_n 15 C dX4_add_14 rfl rfl 0 rfl ?_
    refine k_get 18 C fl_X4_11 dX4_add_15 rfl 7 (GH_r hG (by decide)) _ rfl (CE_7 _) (.ref (ad 8)) rfl ?_
    refine j_aload_n 19 C dX4_add_18 rfl rfl 0 rfl ?_
    refine k_get 22 C fl_X4_17 dX4_add_19 rfl 7 (GH_r hG (by decide)) _ rfl (CE_7 _) (.int (nI nc)) rfl ?_
    refine j_aload_n 23 C dX4_add_22 rfl rfl 1 rfl ?_
    refine k_astq8 24 C dX4_add_23 rfl (GH_r hG (by decide)) hq_q hN_q (vp_inE (n := nc) rfl (by omega) (by omega)) ?_
    refine j_aload_n 25 C dX4_add_24 rfl rfl 0 rfl ?_
    refine j_dup 26 C dX4_add_25 rfl rfl ?_
    refine k_get 29 C fl_X4_17 dX4_add_26 rfl 7 (GH_r hG (by decide)) _ rfl (CE_7 _) (.int (nI nc)) rfl ?_
    refine j_iconst 30 C (x := nI 1) dX4_add_29 rfl (by decide) ?_
    refine j_iadd 31 C dX4_add_30 rfl rfl ?_
    refine k_putnc 34 C fl_X4_17 fp_X4 dX4_add_31 rfl (GH_r hG (by decide)) (nc' := nc + 1) (by simp only [nI_add]) ?_
    refine j_aload_n 35 C dX4_add_34 rfl rfl 0 rfl ?_
    refine k_get 38 C fl_X4_17 dX4_add_35 rfl 7 (GH_r hG (by decide)) _ rfl (CE_7 _) (.int (nI (nc + 1))) rfl ?_
    refine j_iconst 39 C (x := nI 1) dX4_add_38 rfl (by decide) ?_
    refine j_isub 40 C dX4_add_39 rfl rfl ?_
    subst hz
    exact j_retI C X dX4_add_40 rfl ⟨rfl, rfl, rfl, rfl, (by first | (show nc + 1 ≤ 10; omega) | (show nc ≤ 10; omega))⟩
  · replace hz := (if_neg c_9).symm.trans hz
    have n_9 := nat_nlt (a := nc) (b := 10) rfl rfl (by omega) (by omega) c_9
    refine j_iconst 13 C (x := (-1)) dX4_add_12 rfl (by decide) ?_
    subst hz
    exact j_retI C X dX4_add_13 rfl ⟨rfl, rfl, rfl, rfl, (by first | (show nc + 1 ≤ 10; omega) | (show nc ≤ 10; omega))⟩
def m_X4_remove (W S ns nc : Nat) (B : Nat → Option Nat) (σ : Nat → Nat → Int32) (number : Int32) : Int32 × (Nat → Option Nat) := ap (m_X4_at W S ns nc B σ number) (fun (y2 : Option Nat) => (Option.elim y2 (nI 0, B) (fun (q5 : Nat) => (nI 1, (va_up B (number).toNatClampNeg none)))))
abbrev rm_X4_remove : Room := { frames := 1, cells := 0, slots := 0, locals := 21 }
set_option maxHeartbeats 4000000 in
set_option maxRecDepth 100000 in
theorem c_X4_remove {l : Launch} {D : va_G} {K : Nat → ClassId} {W S ns nc N : Nat} {ad : Nat → Nat} {B : Nat → Option Nat} {σ : Nat → Nat → Int32} (hG : GH W S ns nc N) {number : Int32}  {z : Int32 × (Nat → Option Nat)} (hz : m_X4_remove W S ns nc B σ number = z) (hB : BOK B N) : MC l yX4_remove cX4_remove 2 (some .boolean) rm_X4_remove D (TY K) N ad (CT K W S ns nc ad B σ) [.ref (ad 7), .int number] (BS (some (.int z.1)) N ad (CT K W S ns nc ad z.2 σ) (bl z.1)) := by
  have hW := hG.1; have hW8 := hG.2.1; have hS := hG.2.2.1; have hS4 := hG.2.2.2.1; have hns := hG.2.2.2.2.1; have hnc := hG.2.2.2.2.2.1; have hWS := GH_ws hG
  refine MC.of (by decide) (Nat.le_of_ble_eq_true rfl) (fun p e s m args below meth c Q A H0 C X => ?_)
  replace C : Cx p s m args meth c cX4_remove RX4 2 D (TY K) A H0 := C
  show J p l e rm_X4_remove s m args below meth c Q D A H0 2 0 0 N ad (CT K W S ns nc ad B σ) 0 [(0, .ref (ad 7)), (1, .int number)] []
  unfold m_X4_remove at hz
  refine j_aload_n 1 C dX4_remove_0 rfl rfl 0 rfl ?_
  refine j_iload_n 2 C dX4_remove_1 rfl rfl 1 rfl ?_
  obtain ⟨y2, e2, hz⟩ := ap_x hz
  refine s_V 5 C (As := [.int number]) cv_X4_21 (c_X4_at (l := l) (D := D) (K := K) (ad := ad) hG  (hz := e2)) dX4_remove_2 rfl 7 4 (GH_r hG (by decide)) rfl (CE_7 _) rfl rfl rfl rfl rfl rfl ⟨⟨Nat.le_of_ble_eq_true rfl, Nat.le_of_ble_eq_true rfl⟩, Nat.zero_le _, Nat.zero_le _⟩ (Nat.le_of_ble_eq_true rfl) (st' := [va_rf (y2.map ad)]) rfl (fun hE => ?_)
  refine j_ifnonnull 10 8 C dX4_remove_5 rfl rfl (fun a_5 c_5 => ?_) (fun c_5 => ?_)
  · skip
    obtain ⟨q5, c_5⟩ := om_s c_5
    replace hz := oe_s c_5 hz
    obtain ⟨hq_q5, hN_q5⟩ := at_q hB e2 c_5
    refine j_aload_n 11 C dX4_remove_10 rfl rfl 0 rfl ?_
    refine k_get 14 C fl_X4_11 dX4_remove_11 rfl 7 (GH_r hG (by decide)) _ rfl (CE_7 _) (.ref (ad 8)) rfl ?_
    refine j_iload_n 15 C dX4_remove_14 rfl rfl 1 rfl ?_
    refine j_null 16 C dX4_remove_15 rfl ?_
    refine k_astq8N 17 C dX4_remove_16 rfl (GH_r hG (by decide)) (by obtain ⟨i, hi, e5, _⟩ := at_B (e2.trans c_5); exact vp_inE e5 (by omega) (by omega)) ?_
    refine j_iconst 18 C (x := nI 1) dX4_remove_17 rfl (by decide) ?_
    subst hz
    exact j_retI C X dX4_remove_18 (bl_nar bl_1) ⟨rfl, rfl, rfl, rfl, bl_1⟩
  · skip
    replace c_5 := om_n c_5
    replace hz := oe_n c_5 hz
    refine j_iconst 9 C (x := nI 0) dX4_remove_8 rfl (by decide) ?_
    subst hz
    exact j_retI C X dX4_remove_9 (bl_nar bl_0) ⟨rfl, rfl, rfl, rfl, bl_0⟩
def m_X0_forgetRock (W S ns nc : Nat) (B : Nat → Option Nat) (σ : Nat → Nat → Int32) : (Nat → Int32) := (upd (upd (σ 9) 5 (nI 0)) 6 (nI 0))
abbrev rm_X0_forgetRock : Room := { frames := 0, cells := 0, slots := 0, locals := 0 }
set_option maxHeartbeats 4000000 in
set_option maxRecDepth 100000 in
theorem c_X0_forgetRock {l : Launch} {D : va_G} {K : Nat → ClassId} {W S ns nc N : Nat} {ad : Nat → Nat} {B : Nat → Option Nat} {σ : Nat → Nat → Int32} (hG : GH W S ns nc N)   {z : (Nat → Int32)} (hz : m_X0_forgetRock W S ns nc B σ = z)  : MC l yX0_forgetRock cX0_forgetRock 1 none rm_X0_forgetRock D (TY K) N ad (CT K W S ns nc ad B σ) [.ref (ad 9)] (BS none N ad (CT K W S ns nc ad B (sA σ 9 z)) True) := by
  have hW := hG.1; have hW8 := hG.2.1; have hS := hG.2.2.1; have hS4 := hG.2.2.2.1; have hns := hG.2.2.2.2.1; have hnc := hG.2.2.2.2.2.1; have hWS := GH_ws hG
  refine MC.of (by decide) (Nat.le_of_ble_eq_true rfl) (fun p e s m args below meth c Q A H0 C X => ?_)
  replace C : Cx p s m args meth c cX0_forgetRock RX0 1 D (TY K) A H0 := C
  show J p l e rm_X0_forgetRock s m args below meth c Q D A H0 1 0 0 N ad (CT K W S ns nc ad B σ) 0 [(0, .ref (ad 9))] []
  unfold m_X0_forgetRock at hz
  refine j_aload_n 1 C dX0_forgetRock_0 rfl rfl 0 rfl ?_
  refine j_iconst 2 C (x := nI 0) dX0_forgetRock_1 rfl (by decide) ?_
  refine k_put 5 C fl_X0_17 fp_X0 rfl dX0_forgetRock_2 rfl 9 (GH_r hG (by decide)) (σ 9) rfl (CE_9 _) (bl_nar bl_0) (bl_fit bl_0) (Nat.le_of_ble_eq_true rfl) rfl (sA σ 9 (upd (σ 9) 5 (nI 0))) rfl ?_
  refine j_aload_n 6 C dX0_forgetRock_5 rfl rfl 0 rfl ?_
  refine j_iconst 7 C (x := nI 0) dX0_forgetRock_6 rfl (by decide) ?_
  refine k_put 10 C fl_X0_21 fp_X0 rfl dX0_forgetRock_7 rfl 9 (GH_r hG (by decide)) (upd (σ 9) 5 (nI 0)) rfl (CE_9 _) (bl_nar bl_0) (bl_fit bl_0) (Nat.le_of_ble_eq_true rfl) rfl (sA σ 9 (upd (upd (σ 9) 5 (nI 0)) 6 (nI 0))) sA_top ?_
  subst hz
  exact j_retV C X dX0_forgetRock_10 ⟨rfl, rfl, rfl, rfl, trivial⟩
def m_X0_forgetQuarrel (W S ns nc : Nat) (B : Nat → Option Nat) (σ : Nat → Nat → Int32) : (Nat → Int32) := (upd (σ 9) 6 (nI 0))
abbrev rm_X0_forgetQuarrel : Room := { frames := 0, cells := 0, slots := 0, locals := 0 }
set_option maxHeartbeats 4000000 in
set_option maxRecDepth 100000 in
theorem c_X0_forgetQuarrel {l : Launch} {D : va_G} {K : Nat → ClassId} {W S ns nc N : Nat} {ad : Nat → Nat} {B : Nat → Option Nat} {σ : Nat → Nat → Int32} (hG : GH W S ns nc N)   {z : (Nat → Int32)} (hz : m_X0_forgetQuarrel W S ns nc B σ = z)  : MC l yX0_forgetQuarrel cX0_forgetQuarrel 1 none rm_X0_forgetQuarrel D (TY K) N ad (CT K W S ns nc ad B σ) [.ref (ad 9)] (BS none N ad (CT K W S ns nc ad B (sA σ 9 z)) True) := by
  have hW := hG.1; have hW8 := hG.2.1; have hS := hG.2.2.1; have hS4 := hG.2.2.2.1; have hns := hG.2.2.2.2.1; have hnc := hG.2.2.2.2.2.1; have hWS := GH_ws hG
  refine MC.of (by decide) (Nat.le_of_ble_eq_true rfl) (fun p e s m args below meth c Q A H0 C X => ?_)
  replace C : Cx p s m args meth c cX0_forgetQuarrel RX0 1 D (TY K) A H0 := C
  show J p l e rm_X0_forgetQuarrel s m args below meth c Q D A H0 1 0 0 N ad (CT K W S ns nc ad B σ) 0 [(0, .ref (ad 9))] []
  unfold m_X0_forgetQuarrel at hz
  refine j_aload_n 1 C dX0_forgetQuarrel_0 rfl rfl 0 rfl ?_
  refine j_iconst 2 C (x := nI 0) dX0_forgetQuarrel_1 rfl (by decide) ?_
  refine k_put 5 C fl_X0_21 fp_X0 rfl dX0_forgetQuarrel_2 rfl 9 (GH_r hG (by decide)) (σ 9) rfl (CE_9 _) (bl_nar bl_0) (bl_fit bl_0) (Nat.le_of_ble_eq_true rfl) rfl (sA σ 9 (upd (σ 9) 6 (nI 0))) rfl ?_
  subst hz
  exact j_retV C X dX0_forgetQuarrel_5 ⟨rfl, rfl, rfl, rfl, trivial⟩
def m_X0_leftOut (W S ns nc : Nat) (B : Nat → Option Nat) (σ : Nat → Nat → Int32) : Int32 := σ 9 8
abbrev rm_X0_leftOut : Room := { frames := 0, cells := 0, slots := 0, locals := 0 }
set_option maxHeartbeats 4000000 in
set_option maxRecDepth 100000 in
theorem c_X0_leftOut {l : Launch} {D : va_G} {K : Nat → ClassId} {W S ns nc N : Nat} {ad : Nat → Nat} {B : Nat → Option Nat} {σ : Nat → Nat → Int32} (hG : GH W S ns nc N)   {z : Int32} (hz : m_X0_leftOut W S ns nc B σ = z)  : MC l yX0_leftOut cX0_leftOut 1 (some .int) rm_X0_leftOut D (TY K) N ad (CT K W S ns nc ad B σ) [.ref (ad 9)] (BS (some (.int z)) N ad (CT K W S ns nc ad B σ) True) := by
  have hW := hG.1; have hW8 := hG.2.1; have hS := hG.2.2.1; have hS4 := hG.2.2.2.1; have hns := hG.2.2.2.2.1; have hnc := hG.2.2.2.2.2.1; have hWS := GH_ws hG
  refine MC.of (by decide) (Nat.le_of_ble_eq_true rfl) (fun p e s m args below meth c Q A H0 C X => ?_)
  replace C : Cx p s m args meth c cX0_leftOut RX0 1 D (TY K) A H0 := C
  show J p l e rm_X0_leftOut s m args below meth c Q D A H0 1 0 0 N ad (CT K W S ns nc ad B σ) 0 [(0, .ref (ad 9))] []
  unfold m_X0_leftOut at hz
  refine j_aload_n 1 C dX0_leftOut_0 rfl rfl 0 rfl ?_
  refine k_get 4 C fl_X0_27 dX0_leftOut_1 rfl 9 (GH_r hG (by decide)) (σ 9) rfl (CE_9 _) (.int (σ 9 8)) rfl ?_
  subst hz
  exact j_retI C X dX0_leftOut_4 rfl ⟨rfl, rfl, rfl, rfl, trivial⟩
def m_X0_agreed (W S ns nc : Nat) (B : Nat → Option Nat) (σ : Nat → Nat → Int32) : Unit := ()
abbrev rm_X0_agreed : Room := { frames := 0, cells := 0, slots := 0, locals := 0 }
set_option maxHeartbeats 4000000 in
set_option maxRecDepth 100000 in
theorem c_X0_agreed {l : Launch} {D : va_G} {K : Nat → ClassId} {W S ns nc N : Nat} {ad : Nat → Nat} {B : Nat → Option Nat} {σ : Nat → Nat → Int32} (hG : GH W S ns nc N)   {z : Unit} (hz : m_X0_agreed W S ns nc B σ = z)  : MC l yX0_agreed cX0_agreed 1 (some (.object "HillLayers$Gaps")) rm_X0_agreed D (TY K) N ad (CT K W S ns nc ad B σ) [.ref (ad 9)] (BS (some (.ref (ad 33))) N ad (CT K W S ns nc ad B σ) True) := by
  have hW := hG.1; have hW8 := hG.2.1; have hS := hG.2.2.1; have hS4 := hG.2.2.2.1; have hns := hG.2.2.2.2.1; have hnc := hG.2.2.2.2.2.1; have hWS := GH_ws hG
  refine MC.of (by decide) (Nat.le_of_ble_eq_true rfl) (fun p e s m args below meth c Q A H0 C X => ?_)
  replace C : Cx p s m args meth c cX0_agreed RX0 1 D (TY K) A H0 := C
  show J p l e rm_X0_agreed s m args below meth c Q D A H0 1 0 0 N ad (CT K W S ns nc ad B σ) 0 [(0, .ref (ad 9))] []
  unfold m_X0_agreed at hz
  refine j_aload_n 1 C dX0_agreed_0 rfl rfl 0 rfl ?_
  refine k_get 4 C fl_X0_52 dX0_agreed_1 rfl 9 (GH_r hG (by decide)) (σ 9) rfl (CE_9 _) (.ref (ad 33)) rfl ?_
  subst hz
  exact j_retA C X (Or.inl ⟨_, rfl⟩) (Or.inr ⟨_, rfl⟩) dX0_agreed_4 ⟨rfl, rfl, rfl, rfl, trivial⟩

theorem m_X4_add_1 {W S ns nc : Nat} {B : Nat → Option Nat} {σ : Nat → Nat → Int32} {q : Nat} (h : nc < 10) : m_X4_add W S ns nc B σ q = (nI nc, nc + 1, va_up B nc (some q)) := by
  unfold m_X4_add
  rw [if_pos (nI_lt h (by decide)), nI_clamp (by omega), pk_sub (by omega), Nat.add_sub_cancel]
theorem m_X4_add_0 {W S ns nc : Nat} {B : Nat → Option Nat} {σ : Nat → Nat → Int32} {q : Nat} (h : 10 ≤ nc) (h2 : nc ≤ 10) : m_X4_add W S ns nc B σ q = (-1, nc, B) := by
  unfold m_X4_add
  rw [if_neg (nI_nlt h (by omega))]
theorem nI_m1 {n : Nat} (h : n < 2 ^ 31) : ¬ nI n = -1 := by
  intro e
  have a := nI_toInt h
  rw [e] at a
  have b : (-1 : Int32).toInt = -1 := by decide
  omega
def sgt (x1 x2 x3 x4 x5 : Int32) : Nat → Int32 := fun j => if j = 0 then x1 else if j = 1 then x2 else if j = 2 then x3 else if j = 3 then x4 else x5
theorem CE_adx {K : Nat → ClassId} {W S ns nc N r : Nat} {ad ad' : Nat → Nat} {B : Nat → Option Nat} {f : Nat → Int32} (hN : 50 ≤ N) (hr : r < N) (hB : BOK B N) (h : ∀ q, q < N → ad q = ad' q) : CE K W S ns nc ad B r f = CE K W S ns nc ad' B r f := by
  unfold CE
  by_cases h1 : r < 11
  · rw [if_pos h1, if_pos h1]
    match r, h1 with
    | 0, _ => simp only [h 1 (by omega), h 7 (by omega), h 9 (by omega), h 35 (by omega)]
    | 1, _ => simp only [h 2 (by omega), h 3 (by omega), h 4 (by omega), h 5 (by omega), h 6 (by omega)]
    | 2, _ => rfl
    | 3, _ => rfl
    | 4, _ => rfl
    | 5, _ => rfl
    | 6, _ => rfl
    | 7, _ => simp only [h 8 (by omega)]
    | 8, _ =>
      have e : (fun i => (B i).map ad) = (fun i => (B i).map ad') := by
        funext i
        cases hb : B i with
        | none => rfl
        | some q => exact congrArg some (h q (hB i q hb).2)
      show (Sum.inl (K 3, 10, Sum.inr (Sum.inr (Sum.inr (Sum.inr (fun i => (B i).map ad))))) : va_E) = Sum.inl (K 3, 10, Sum.inr (Sum.inr (Sum.inr (Sum.inr (fun i => (B i).map ad')))))
      rw [e]
    | 9, _ => simp only [h 1 (by omega), h 7 (by omega), h 10 (by omega), h 31 (by omega), h 33 (by omega)]
    | 10, _ =>
      have e : (fun i => if i < 10 then some (ad (11 + 2 * i)) else none) = (fun i => if i < 10 then some (ad' (11 + 2 * i)) else none) := by
        funext i
        by_cases hi : i < 10
        · rw [if_pos hi, if_pos hi, h _ (by omega)]
        · rw [if_neg hi, if_neg hi]
      show (Sum.inl (K 2, 10, Sum.inr (Sum.inr (Sum.inr (Sum.inr (fun i => if i < 10 then some (ad (11 + 2 * i)) else none))))) : va_E) = Sum.inl (K 2, 10, Sum.inr (Sum.inr (Sum.inr (Sum.inr (fun i => if i < 10 then some (ad' (11 + 2 * i)) else none)))))
      rw [e]
    | r + 11, hh => exact absurd hh (by omega)
  rw [if_neg h1, if_neg h1]
  by_cases h2 : r < 35
  · rw [if_pos h2, if_pos h2]
    by_cases h3 : r % 2 = 1
    · rw [if_pos h3, if_pos h3, h (r + 1) (by omega)]
    · rw [if_neg h3, if_neg h3]
  rw [if_neg h2, if_neg h2]
  by_cases h3 : r < 50
  · rw [if_pos h3, if_pos h3]
    obtain ⟨u, rfl⟩ : ∃ u, r = u + 35 := ⟨r - 35, by omega⟩
    rw [Nat.add_sub_cancel]
    match u with
    | 0 => rfl
    | 1 => simp only [h 37 (by omega), h 38 (by omega), h 39 (by omega), h 40 (by omega), h 41 (by omega), h 42 (by omega), h 43 (by omega), h 44 (by omega), h 45 (by omega), h 46 (by omega), h 47 (by omega), h 48 (by omega), h 49 (by omega)]
    | 2 => rfl
    | 3 => rfl
    | 4 => rfl
    | 5 => rfl
    | 6 => rfl
    | 7 => rfl
    | 8 => rfl
    | 9 => rfl
    | 10 => rfl
    | 11 => rfl
    | 12 => rfl
    | 13 => rfl
    | v + 14 => rfl
  · rw [if_neg h3, if_neg h3]
def m_X5_sight (W S ns nc : Nat) (B : Nat → Option Nat) (σ : Nat → Nat → Int32) (where0 : Int32) (z_ : Int32) (miss0 : Int32) : Int32 := (if where0 < 0 then nI 0 else ap (m_X5_isWithin W S ns nc B σ z_ (nI 60)) (fun (y7 : Int32) => (if y7 = 0 then nI 0 else ap (m_X5_isDepth W S ns nc B σ miss0) (fun (y14 : Int32) => (if y14 = 0 then nI 0 else ap ((where0 / (nI 10)) - (where0 / (nI 10)) / (nI 10) * (nI 10)) (fun (x35 : Int32) => ap (where0 - where0 / (nI 10) * (nI 10)) (fun (x41 : Int32) => ap (m_X2_hasPlace W S ns nc B σ (where0 / (nI 100)) x35) (fun (y51 : Int32) => (if y51 = 0 then nI 0 else (if x41 ≤ (nI 3) then (if x41 = (nI 3) then ap (m_X2_hasNextColumn W S ns nc B σ x35) (fun (y77 : Int32) => (if y77 = 0 then nI 0 else nI 1)) else nI 1) else nI 0))))))))))
/-- the sight that would come -/
def sgtW (where0 z_ miss0 : Int32) : Nat → Int32 := sgt (where0 / nI 100) (where0 / nI 10 - where0 / nI 10 / nI 10 * nI 10) (where0 - where0 / nI 10 * nI 10) z_ miss0
/-- the end of sight: refused; a sight more; ten came -/
def SB (K : Nat → ClassId) (W S ns nc N : Nat) (ad : Nat → Nat) (B : Nat → Option Nat) (σ : Nat → Nat → Int32) (f z9 : Nat → Int32) (z : Int32) : Option Value → Nat → (Nat → Nat) → (Nat → va_E) → Prop := fun v N' ad' ct' =>
  (z = nI 0 ∧ v = some (.int (-1)) ∧ N' = N ∧ ad' = ad ∧ ct' = CT K W S ns nc ad B σ) ∨ (z = nI 1 ∧ nc < 10 ∧ v = some (.int (nI nc)) ∧ N' = N + 1 ∧ (∀ r, r < N → ad' r = ad r) ∧ ct' = CT K W S ns (nc + 1) ad' (va_up B nc (some N)) (sA (sA σ N f) 9 z9)) ∨ (z = nI 1 ∧ nc = 10 ∧ v = some (.int (-1)) ∧ N' = N + 1 ∧ (∀ r, r < N → ad' r = ad r) ∧ ct' = CT K W S ns nc ad' B (sA σ N f))
abbrev rm_X5_sight : Room := { frames := 2, cells := 1, slots := 5, locals := 120 }
set_option maxHeartbeats 8000000 in
set_option maxRecDepth 100000 in
theorem c_X5_sight {l : Launch} {D : va_G} {K : Nat → ClassId} {W S ns nc N : Nat} {ad : Nat → Nat} {B : Nat → Option Nat} {σ : Nat → Nat → Int32} (hG : GH W S ns nc N) (hB0 : BOK B N) {where0 z_ miss0 z : Int32} (hz : m_X5_sight W S ns nc B σ where0 z_ miss0 = z) : MC l yX5_sight cX5_sight 8 (some .int) rm_X5_sight D (TY K) N ad (CT K W S ns nc ad B σ) [.ref (ad 0), .int where0, .int z_, .int miss0] (SB K W S ns nc N ad B σ (sgtW where0 z_ miss0) (m_X0_forgetQuarrel W S ns (nc + 1) (va_up B nc (some N)) (sA σ N (sgtW where0 z_ miss0))) z) := by
  have hW := hG.1; have hW8 := hG.2.1; have hS := hG.2.2.1; have hS4 := hG.2.2.2.1; have hns := hG.2.2.2.2.1; have hnc := hG.2.2.2.2.2.1; have hWS := GH_ws hG
  refine MC.of (by decide) (Nat.le_of_ble_eq_true rfl) (fun p e s m args below meth c Q A H0 C X => ?_)
  replace C : Cx p s m args meth c cX5_sight RX5 8 D (TY K) A H0 := C
  show J p l e rm_X5_sight s m args below meth c Q D A H0 8 0 0 N ad (CT K W S ns nc ad B σ) 0 [(0, .ref (ad 0)), (1, .int where0), (2, .int z_), (3, .int miss0)] []
  unfold m_X5_sight at hz
  refine j_iload_n 1 C dX5_sight_0 rfl rfl 1 rfl ?_
  refine j_if_lt 20 4 C dX5_sight_1 rfl rfl (fun c_1 => ?_) (fun c_1 => ?_)
  · replace hz := (if_pos c_1).symm.trans hz
    refine j_iconst 21 C (x := (-1)) dX5_sight_20 rfl (by decide) ?_
    subst hz
    refine j_widen 1 5 (by decide) (by decide) ?_
    exact j_retI C X dX5_sight_21 rfl (Or.inl ⟨rfl, rfl, rfl, rfl, rfl⟩)
  · replace hz := (if_neg c_1).symm.trans hz
    refine j_iload_n 5 C dX5_sight_4 rfl rfl 2 rfl ?_
    refine j_bipush 7 C (x := nI 60) dX5_sight_5 rfl (by decide) ?_
    obtain ⟨y7, e7, hz⟩ := ap_x hz
    refine s_S 10 C (As := [.int z_, .int (nI 60)]) cs_X5_67 (c_X5_isWithin (l := l) (D := D) (K := K) (ad := ad) hG  (hz := e7)) dX5_sight_7 rfl rfl rfl rfl rfl ⟨⟨Nat.le_of_ble_eq_true rfl, Nat.le_of_ble_eq_true rfl⟩, Nat.zero_le _, Nat.zero_le _⟩ (Nat.le_of_ble_eq_true rfl) (st' := [.int y7]) rfl (fun hE => ?_)
    have hbl7 : bl y7 := hE
    refine j_if_eq 20 13 C dX5_sight_10 rfl rfl (fun c_10 => ?_) (fun c_10 => ?_)
    · replace hz := (if_pos c_10).symm.trans hz
      refine j_iconst 21 C (x := (-1)) dX5_sight_20 rfl (by decide) ?_
      subst hz
      refine j_widen 1 5 (by decide) (by decide) ?_
      exact j_retI C X dX5_sight_21 rfl (Or.inl ⟨rfl, rfl, rfl, rfl, rfl⟩)
    · replace hz := (if_neg c_10).symm.trans hz
      refine j_iload_n 14 C dX5_sight_13 rfl rfl 3 rfl ?_
      obtain ⟨y14, e14, hz⟩ := ap_x hz
      refine s_S 17 C (As := [.int miss0]) cs_X5_51 (c_X5_isDepth (l := l) (D := D) (K := K) (ad := ad) hG  (hz := e14)) dX5_sight_14 rfl rfl rfl rfl rfl ⟨⟨Nat.le_of_ble_eq_true rfl, Nat.le_of_ble_eq_true rfl⟩, Nat.zero_le _, Nat.zero_le _⟩ (Nat.le_of_ble_eq_true rfl) (st' := [.int y14]) rfl (fun hE => ?_)
      have hbl14 : bl y14 := hE
      refine j_if_ne 22 20 C dX5_sight_17 rfl rfl (fun c_17 => ?_) (fun c_17 => ?_)
      · replace hz := (if_neg c_17).symm.trans hz
        refine j_iload_n 23 C dX5_sight_22 rfl rfl 1 rfl ?_
        refine j_bipush 25 C (x := nI 100) dX5_sight_23 rfl (by decide) ?_
        refine j_idiv 26 C dX5_sight_25 rfl (by decide) rfl ?_
        refine j_istore 28 C [(4, .int (where0 / (nI 100))), (0, .ref (ad 0)), (1, .int where0), (2, .int z_), (3, .int miss0)] dX5_sight_26 rfl (by decide) rfl ?_
        refine j_iload_n 29 C dX5_sight_28 rfl rfl 2 rfl ?_
        refine j_bipush 31 C (x := nI 10) dX5_sight_29 rfl (by decide) ?_
        refine j_idiv 32 C dX5_sight_31 rfl (by decide) rfl ?_
        refine j_bipush 34 C (x := nI 10) dX5_sight_32 rfl (by decide) ?_
        refine j_irem 35 C dX5_sight_34 rfl (by decide) rfl ?_
        obtain ⟨x35, e35, hz⟩ := ap_x hz
        refine j_st (st' := [.int x35]) (by rw [← e35]) ?_
        refine j_istore 37 C [(5, .int x35), (4, .int (where0 / (nI 100))), (0, .ref (ad 0)), (1, .int where0), (2, .int z_), (3, .int miss0)] dX5_sight_35 rfl (by decide) rfl ?_
        refine j_iload_n 38 C dX5_sight_37 rfl rfl 3 rfl ?_
        refine j_bipush 40 C (x := nI 10) dX5_sight_38 rfl (by decide) ?_
        refine j_irem 41 C dX5_sight_40 rfl (by decide) rfl ?_
        obtain ⟨x41, e41, hz⟩ := ap_x hz
        refine j_st (st' := [.int x41]) (by rw [← e41]) ?_
        refine j_istore 43 C [(6, .int x41), (5, .int x35), (4, .int (where0 / (nI 100))), (0, .ref (ad 0)), (1, .int where0), (2, .int z_), (3, .int miss0)] dX5_sight_41 rfl (by decide) rfl ?_
        refine j_aload_n 44 C dX5_sight_43 rfl rfl 3 rfl ?_
        refine k_get 47 C fl_X5_21 dX5_sight_44 rfl 0 (GH_r hG (by decide)) _ rfl (CE_0 _) (.ref (ad 1)) rfl ?_
        refine j_iload 49 C dX5_sight_47 rfl 2 rfl ?_
        refine j_iload 51 C dX5_sight_49 rfl 1 rfl ?_
        obtain ⟨y51, e51, hz⟩ := ap_x hz
        refine s_V 54 C (As := [.int (where0 / (nI 100)), .int x35]) cv_X5_81 (c_X2_hasPlace (l := l) (D := D) (K := K) (ad := ad) hG  (hz := e51)) dX5_sight_51 rfl 1 2 (GH_r hG (by decide)) rfl (CE_1 _) rfl rfl rfl rfl rfl rfl ⟨⟨Nat.le_of_ble_eq_true rfl, Nat.le_of_ble_eq_true rfl⟩, Nat.zero_le _, Nat.zero_le _⟩ (Nat.le_of_ble_eq_true rfl) (st' := [.int y51]) rfl (fun hE => ?_)
        have hbl51 : bl y51 := hE
        refine j_if_eq 63 57 C dX5_sight_54 rfl rfl (fun c_54 => ?_) (fun c_54 => ?_)
        · replace hz := (if_pos c_54).symm.trans hz
          refine j_iconst 64 C (x := (-1)) dX5_sight_63 rfl (by decide) ?_
          subst hz
          refine j_widen 1 5 (by decide) (by decide) ?_
          exact j_retI C X dX5_sight_64 rfl (Or.inl ⟨rfl, rfl, rfl, rfl, rfl⟩)
        · replace hz := (if_neg c_54).symm.trans hz
          refine j_iload 59 C dX5_sight_57 rfl 0 rfl ?_
          refine j_iconst 60 C (x := nI 3) dX5_sight_59 rfl (by decide) ?_
          refine j_ic_le 65 63 C dX5_sight_60 rfl rfl (fun c_60 => ?_) (fun c_60 => ?_)
          · replace hz := (if_pos c_60).symm.trans hz
            refine j_iload 67 C dX5_sight_65 rfl 0 rfl ?_
            refine j_iconst 68 C (x := nI 3) dX5_sight_67 rfl (by decide) ?_
            refine j_ic_ne 85 71 C dX5_sight_68 rfl rfl (fun c_68 => ?_) (fun c_68 => ?_)
            · replace hz := (if_neg c_68).symm.trans hz
              subst hz
              have esg : sgtW where0 z_ miss0 = sgt (where0 / (nI 100)) x35 x41 z_ miss0 := by rw [← e35, ← e41]; rfl
              refine j_aload_n 86 C dX5_sight_85 rfl rfl 3 rfl ?_
              refine k_get 89 C fl_X5_30 dX5_sight_86 rfl 0 (GH_r hG (by decide)) _ rfl (CE_0 _) (.ref (ad 7)) rfl ?_
              refine j_new 92 C (ci := 3) rfl in_X3 fp_X3 wk_X5_84 wN_X3 wI_X3 [.int 0, .int 0, .int 0, .int 0, .int 0] (by intro j hj; match j, hj with | 0, _ => rfl | 1, _ => rfl | 2, _ => rfl | 3, _ => rfl | 4, _ => rfl | j + 5, hj => exact absurd hj (by omega)) dX5_sight_89 rfl (Nat.le_of_ble_eq_true rfl) (Nat.le_of_ble_eq_true rfl) (fun a => ?_)
              refine j_dup 93 C dX5_sight_92 rfl rfl ?_
              refine j_iload 95 C dX5_sight_93 rfl 2 rfl ?_
              refine j_iload 97 C dX5_sight_95 rfl 1 rfl ?_
              refine j_iload 99 C dX5_sight_97 rfl 0 rfl ?_
              refine j_iload_n 100 C dX5_sight_99 rfl rfl 5 rfl ?_
              refine j_iload_n 101 C dX5_sight_100 rfl rfl 6 rfl ?_
              refine j_callI 104 C (As := [.int (where0 / (nI 100)), .int x35, .int x41, .int z_, .int miss0]) (st := [.ref a, .ref (ad 7)]) ci_X5_86 (c_X3_init (l := l) (D := D) (K := K) (n0 := N) (ad0 := va_up ad N a) (ct0 := va_up (CT K W S ns nc ad B σ) N (.inr (3, [.int 0, .int 0, .int 0, .int 0, .int 0]))) (a0 := a) (va_up_self _ _ _) (va_up_self _ _ _)) dX5_sight_101 rfl rfl rfl ⟨⟨Nat.le_of_ble_eq_true rfl, Nat.le_of_ble_eq_true rfl⟩, Nat.le_of_ble_eq_true rfl, Nat.le_of_ble_eq_true rfl⟩ (Nat.le_of_ble_eq_true rfl) (fun v N' adx ctx hB => ?_)
              obtain ⟨rfl, rfl, hA, hC, hc⟩ := hB
              have hN50 := hG.2.2.2.2.2.2
              have hA' : ∀ r, r < N → adx r = ad r := fun r hr => (hA r (by omega)).trans (va_up_ne _ _ (by omega))
              have eN : adx N = a := (hA N (by omega)).trans (va_up_self _ _ _)
              refine j_ww (N' := N + 1) (ad' := adx) (ct' := CT K W S ns nc adx B (sA σ N (sgt (where0 / (nI 100)) x35 x41 z_ miss0))) rfl (fun _ _ => rfl) (fun r hr => ?_) ?_
              · by_cases hrN : r = N
                · subst hrN; rw [hc]; show _ = CE K W S ns nc adx B r (sA σ r _ r); rw [sA_at, CE_q hN50]; rfl
                · rw [hC r (by omega), va_up_ne _ _ hrN]; show CE K W S ns nc ad B r (σ r) = CE K W S ns nc adx B r (sA σ N _ r); rw [sA_ne hrN]; exact CE_adx hN50 (by omega) hB0 (fun q hq => (hA' q hq).symm)
              rw [← eN, ← hA' 7 (by omega), ← hA' 0 (by omega)]
              have hG' : GH W S ns nc (N + 1) := ⟨hG.1, hG.2.1, hG.2.2.1, hG.2.2.2.1, hG.2.2.2.2.1, hG.2.2.2.2.2.1, by omega⟩
              rcases Nat.lt_or_ge nc 10 with h10 | h10
              · skip
                have ea : m_X4_add W S ns nc B (sA σ N (sgt (where0 / (nI 100)) x35 x41 z_ miss0)) N = (nI nc, nc + 1, va_up B nc (some N)) := m_X4_add_1 h10
                refine s_V 107 C (As := [.ref (adx N)]) cv_X5_89 (c_X4_add (l := l) (D := D) (K := K) (ad := adx) hG' (q := N) hN50 (by omega) (hz := ea)) dX5_sight_104 rfl 7 4 (by omega) rfl (CE_7 _) rfl rfl rfl rfl rfl rfl ⟨⟨Nat.le_of_ble_eq_true rfl, Nat.le_of_ble_eq_true rfl⟩, Nat.le_of_ble_eq_true rfl, Nat.le_of_ble_eq_true rfl⟩ (Nat.le_of_ble_eq_true rfl) (st' := [.int (nI nc)]) rfl (fun hE => ?_)
                refine j_istore 109 C [(7, .int (nI nc)), (6, .int x41), (5, .int x35), (4, .int (where0 / (nI 100))), (0, .ref (adx 0)), (1, .int where0), (2, .int z_), (3, .int miss0)] dX5_sight_107 rfl (by decide) rfl ?_
                refine j_iload 111 C dX5_sight_109 rfl 0 rfl ?_
                refine j_iconst 112 C (x := -1) dX5_sight_111 rfl (by decide) ?_
                refine j_ic_eq 122 115 C dX5_sight_112 rfl rfl (fun c => absurd c (nI_m1 (by omega))) (fun _ => ?_)
                refine j_aload_n 116 C dX5_sight_115 rfl rfl 4 rfl ?_
                refine k_get 119 C fl_X5_39 dX5_sight_116 rfl 0 (by omega) _ rfl (CE_0 _) (.ref (adx 9)) rfl ?_
                have hG2 : GH W S ns (nc + 1) (N + 1) := ⟨hG.1, hG.2.1, hG.2.2.1, hG.2.2.2.1, hG.2.2.2.2.1, by omega, by omega⟩
                refine s_V 122 C (As := []) cv_X5_93 (c_X0_forgetQuarrel (l := l) (D := D) (K := K) (ad := adx) (B := (va_up B nc (some N))) (σ := sA σ N (sgt (where0 / (nI 100)) x35 x41 z_ miss0)) hG2 (hz := rfl)) dX5_sight_119 rfl 9 0 (by omega) rfl (CE_9 _) rfl rfl rfl rfl rfl rfl ⟨⟨Nat.le_of_ble_eq_true rfl, Nat.le_of_ble_eq_true rfl⟩, Nat.le_of_ble_eq_true rfl, Nat.le_of_ble_eq_true rfl⟩ (Nat.le_of_ble_eq_true rfl) (st' := []) rfl (fun hE => ?_)
                refine j_iload 124 C dX5_sight_122 rfl 0 rfl ?_
                exact j_retI C X dX5_sight_124 rfl (Or.inr (Or.inl ⟨rfl, h10, rfl, rfl, hA', by rw [esg]⟩))
              · skip
                have ea : m_X4_add W S ns nc B (sA σ N (sgt (where0 / (nI 100)) x35 x41 z_ miss0)) N = (-1, nc, B) := m_X4_add_0 h10 (by omega)
                refine s_V 107 C (As := [.ref (adx N)]) cv_X5_89 (c_X4_add (l := l) (D := D) (K := K) (ad := adx) hG' (q := N) hN50 (by omega) (hz := ea)) dX5_sight_104 rfl 7 4 (by omega) rfl (CE_7 _) rfl rfl rfl rfl rfl rfl ⟨⟨Nat.le_of_ble_eq_true rfl, Nat.le_of_ble_eq_true rfl⟩, Nat.le_of_ble_eq_true rfl, Nat.le_of_ble_eq_true rfl⟩ (Nat.le_of_ble_eq_true rfl) (st' := [.int (-1)]) rfl (fun hE => ?_)
                refine j_istore 109 C [(7, .int (-1)), (6, .int x41), (5, .int x35), (4, .int (where0 / (nI 100))), (0, .ref (adx 0)), (1, .int where0), (2, .int z_), (3, .int miss0)] dX5_sight_107 rfl (by decide) rfl ?_
                refine j_iload 111 C dX5_sight_109 rfl 0 rfl ?_
                refine j_iconst 112 C (x := -1) dX5_sight_111 rfl (by decide) ?_
                refine j_ic_eq 122 115 C dX5_sight_112 rfl rfl (fun _ => ?_) (fun c => absurd rfl c)
                refine j_iload 124 C dX5_sight_122 rfl 0 rfl ?_
                exact j_retI C X dX5_sight_124 rfl (Or.inr (Or.inr ⟨rfl, by omega, rfl, rfl, hA', by rw [esg]⟩))
            · replace hz := (if_pos c_68).symm.trans hz
              refine j_aload_n 72 C dX5_sight_71 rfl rfl 3 rfl ?_
              refine k_get 75 C fl_X5_21 dX5_sight_72 rfl 0 (GH_r hG (by decide)) _ rfl (CE_0 _) (.ref (ad 1)) rfl ?_
              refine j_iload 77 C dX5_sight_75 rfl 1 rfl ?_
              obtain ⟨y77, e77, hz⟩ := ap_x hz
              refine s_V 80 C (As := [.int x35]) cv_X5_64 (c_X2_hasNextColumn (l := l) (D := D) (K := K) (ad := ad) hG  (hz := e77)) dX5_sight_77 rfl 1 2 (GH_r hG (by decide)) rfl (CE_1 _) rfl rfl rfl rfl rfl rfl ⟨⟨Nat.le_of_ble_eq_true rfl, Nat.le_of_ble_eq_true rfl⟩, Nat.zero_le _, Nat.zero_le _⟩ (Nat.le_of_ble_eq_true rfl) (st' := [.int y77]) rfl (fun hE => ?_)
              have hbl77 : bl y77 := hE
              refine j_if_ne 85 83 C dX5_sight_80 rfl rfl (fun c_80 => ?_) (fun c_80 => ?_)
              · replace hz := (if_neg c_80).symm.trans hz
                subst hz
                have esg : sgtW where0 z_ miss0 = sgt (where0 / (nI 100)) x35 x41 z_ miss0 := by rw [← e35, ← e41]; rfl
                refine j_aload_n 86 C dX5_sight_85 rfl rfl 3 rfl ?_
                refine k_get 89 C fl_X5_30 dX5_sight_86 rfl 0 (GH_r hG (by decide)) _ rfl (CE_0 _) (.ref (ad 7)) rfl ?_
                refine j_new 92 C (ci := 3) rfl in_X3 fp_X3 wk_X5_84 wN_X3 wI_X3 [.int 0, .int 0, .int 0, .int 0, .int 0] (by intro j hj; match j, hj with | 0, _ => rfl | 1, _ => rfl | 2, _ => rfl | 3, _ => rfl | 4, _ => rfl | j + 5, hj => exact absurd hj (by omega)) dX5_sight_89 rfl (Nat.le_of_ble_eq_true rfl) (Nat.le_of_ble_eq_true rfl) (fun a => ?_)
                refine j_dup 93 C dX5_sight_92 rfl rfl ?_
                refine j_iload 95 C dX5_sight_93 rfl 2 rfl ?_
                refine j_iload 97 C dX5_sight_95 rfl 1 rfl ?_
                refine j_iload 99 C dX5_sight_97 rfl 0 rfl ?_
                refine j_iload_n 100 C dX5_sight_99 rfl rfl 5 rfl ?_
                refine j_iload_n 101 C dX5_sight_100 rfl rfl 6 rfl ?_
                refine j_callI 104 C (As := [.int (where0 / (nI 100)), .int x35, .int x41, .int z_, .int miss0]) (st := [.ref a, .ref (ad 7)]) ci_X5_86 (c_X3_init (l := l) (D := D) (K := K) (n0 := N) (ad0 := va_up ad N a) (ct0 := va_up (CT K W S ns nc ad B σ) N (.inr (3, [.int 0, .int 0, .int 0, .int 0, .int 0]))) (a0 := a) (va_up_self _ _ _) (va_up_self _ _ _)) dX5_sight_101 rfl rfl rfl ⟨⟨Nat.le_of_ble_eq_true rfl, Nat.le_of_ble_eq_true rfl⟩, Nat.le_of_ble_eq_true rfl, Nat.le_of_ble_eq_true rfl⟩ (Nat.le_of_ble_eq_true rfl) (fun v N' adx ctx hB => ?_)
                obtain ⟨rfl, rfl, hA, hC, hc⟩ := hB
                have hN50 := hG.2.2.2.2.2.2
                have hA' : ∀ r, r < N → adx r = ad r := fun r hr => (hA r (by omega)).trans (va_up_ne _ _ (by omega))
                have eN : adx N = a := (hA N (by omega)).trans (va_up_self _ _ _)
                refine j_ww (N' := N + 1) (ad' := adx) (ct' := CT K W S ns nc adx B (sA σ N (sgt (where0 / (nI 100)) x35 x41 z_ miss0))) rfl (fun _ _ => rfl) (fun r hr => ?_) ?_
                · by_cases hrN : r = N
                  · subst hrN; rw [hc]; show _ = CE K W S ns nc adx B r (sA σ r _ r); rw [sA_at, CE_q hN50]; rfl
                  · rw [hC r (by omega), va_up_ne _ _ hrN]; show CE K W S ns nc ad B r (σ r) = CE K W S ns nc adx B r (sA σ N _ r); rw [sA_ne hrN]; exact CE_adx hN50 (by omega) hB0 (fun q hq => (hA' q hq).symm)
                rw [← eN, ← hA' 7 (by omega), ← hA' 0 (by omega)]
                have hG' : GH W S ns nc (N + 1) := ⟨hG.1, hG.2.1, hG.2.2.1, hG.2.2.2.1, hG.2.2.2.2.1, hG.2.2.2.2.2.1, by omega⟩
                rcases Nat.lt_or_ge nc 10 with h10 | h10
                · skip
                  have ea : m_X4_add W S ns nc B (sA σ N (sgt (where0 / (nI 100)) x35 x41 z_ miss0)) N = (nI nc, nc + 1, va_up B nc (some N)) := m_X4_add_1 h10
                  refine s_V 107 C (As := [.ref (adx N)]) cv_X5_89 (c_X4_add (l := l) (D := D) (K := K) (ad := adx) hG' (q := N) hN50 (by omega) (hz := ea)) dX5_sight_104 rfl 7 4 (by omega) rfl (CE_7 _) rfl rfl rfl rfl rfl rfl ⟨⟨Nat.le_of_ble_eq_true rfl, Nat.le_of_ble_eq_true rfl⟩, Nat.le_of_ble_eq_true rfl, Nat.le_of_ble_eq_true rfl⟩ (Nat.le_of_ble_eq_true rfl) (st' := [.int (nI nc)]) rfl (fun hE => ?_)
                  refine j_istore 109 C [(7, .int (nI nc)), (6, .int x41), (5, .int x35), (4, .int (where0 / (nI 100))), (0, .ref (adx 0)), (1, .int where0), (2, .int z_), (3, .int miss0)] dX5_sight_107 rfl (by decide) rfl ?_
                  refine j_iload 111 C dX5_sight_109 rfl 0 rfl ?_
                  refine j_iconst 112 C (x := -1) dX5_sight_111 rfl (by decide) ?_
                  refine j_ic_eq 122 115 C dX5_sight_112 rfl rfl (fun c => absurd c (nI_m1 (by omega))) (fun _ => ?_)
                  refine j_aload_n 116 C dX5_sight_115 rfl rfl 4 rfl ?_
                  refine k_get 119 C fl_X5_39 dX5_sight_116 rfl 0 (by omega) _ rfl (CE_0 _) (.ref (adx 9)) rfl ?_
                  have hG2 : GH W S ns (nc + 1) (N + 1) := ⟨hG.1, hG.2.1, hG.2.2.1, hG.2.2.2.1, hG.2.2.2.2.1, by omega, by omega⟩
                  refine s_V 122 C (As := []) cv_X5_93 (c_X0_forgetQuarrel (l := l) (D := D) (K := K) (ad := adx) (B := (va_up B nc (some N))) (σ := sA σ N (sgt (where0 / (nI 100)) x35 x41 z_ miss0)) hG2 (hz := rfl)) dX5_sight_119 rfl 9 0 (by omega) rfl (CE_9 _) rfl rfl rfl rfl rfl rfl ⟨⟨Nat.le_of_ble_eq_true rfl, Nat.le_of_ble_eq_true rfl⟩, Nat.le_of_ble_eq_true rfl, Nat.le_of_ble_eq_true rfl⟩ (Nat.le_of_ble_eq_true rfl) (st' := []) rfl (fun hE => ?_)
                  refine j_iload 124 C dX5_sight_122 rfl 0 rfl ?_
                  exact j_retI C X dX5_sight_124 rfl (Or.inr (Or.inl ⟨rfl, h10, rfl, rfl, hA', by rw [esg]⟩))
                · skip
                  have ea : m_X4_add W S ns nc B (sA σ N (sgt (where0 / (nI 100)) x35 x41 z_ miss0)) N = (-1, nc, B) := m_X4_add_0 h10 (by omega)
                  refine s_V 107 C (As := [.ref (adx N)]) cv_X5_89 (c_X4_add (l := l) (D := D) (K := K) (ad := adx) hG' (q := N) hN50 (by omega) (hz := ea)) dX5_sight_104 rfl 7 4 (by omega) rfl (CE_7 _) rfl rfl rfl rfl rfl rfl ⟨⟨Nat.le_of_ble_eq_true rfl, Nat.le_of_ble_eq_true rfl⟩, Nat.le_of_ble_eq_true rfl, Nat.le_of_ble_eq_true rfl⟩ (Nat.le_of_ble_eq_true rfl) (st' := [.int (-1)]) rfl (fun hE => ?_)
                  refine j_istore 109 C [(7, .int (-1)), (6, .int x41), (5, .int x35), (4, .int (where0 / (nI 100))), (0, .ref (adx 0)), (1, .int where0), (2, .int z_), (3, .int miss0)] dX5_sight_107 rfl (by decide) rfl ?_
                  refine j_iload 111 C dX5_sight_109 rfl 0 rfl ?_
                  refine j_iconst 112 C (x := -1) dX5_sight_111 rfl (by decide) ?_
                  refine j_ic_eq 122 115 C dX5_sight_112 rfl rfl (fun _ => ?_) (fun c => absurd rfl c)
                  refine j_iload 124 C dX5_sight_122 rfl 0 rfl ?_
                  exact j_retI C X dX5_sight_124 rfl (Or.inr (Or.inr ⟨rfl, by omega, rfl, rfl, hA', by rw [esg]⟩))
              · replace hz := (if_pos c_80).symm.trans hz
                refine j_iconst 84 C (x := (-1)) dX5_sight_83 rfl (by decide) ?_
                subst hz
                refine j_widen 1 5 (by decide) (by decide) ?_
                exact j_retI C X dX5_sight_84 rfl (Or.inl ⟨rfl, rfl, rfl, rfl, rfl⟩)
          · replace hz := (if_neg c_60).symm.trans hz
            refine j_iconst 64 C (x := (-1)) dX5_sight_63 rfl (by decide) ?_
            subst hz
            refine j_widen 1 5 (by decide) (by decide) ?_
            exact j_retI C X dX5_sight_64 rfl (Or.inl ⟨rfl, rfl, rfl, rfl, rfl⟩)
      · replace hz := (if_pos c_17).symm.trans hz
        refine j_iconst 21 C (x := (-1)) dX5_sight_20 rfl (by decide) ?_
        subst hz
        refine j_widen 1 5 (by decide) (by decide) ?_
        exact j_retI C X dX5_sight_21 rfl (Or.inl ⟨rfl, rfl, rfl, rfl, rfl⟩)

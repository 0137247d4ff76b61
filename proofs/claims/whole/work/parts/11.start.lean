theorem c_L_cell (l : Launch) {b L k : Nat} {xs : Nat → Int32} (hL : L ≤ 2050) (hk : k < 2 ^ 31) : Met l yL_cell (wsM yL_cell cL_cell 2 (some .int)) { frames := 0, cells := 0, slots := 0, locals := 0 } (va_Pc [.ref b, .int (nI k)] (fun U => va_X b L xs U U.heap ∧ b < U.heap.size)) (QcRead (if k < L then xs k else nI 0)) 0 0 (fun _ => False) := by
  refine Met.ofW (cc := cL_cell) (maxL := 2) (ret := some .int) (by decide) rfl ?_
  intro p e s m args below meth c s₁ B hml hv
  obtain ⟨rfl, hX, hbl⟩ := hv
  have hx := B.exec
  have hb := B.bytes
  have hr := B.returns
  have hlocks := B.notSynchronized
  have hS : va_S (fun _ => False) s.heap s.heap [] := va_S.rf
  have hl := lv_entry ([.ref b, .int (nI k)]) (n := 2) (Nat.le_of_ble_eq_true rfl)
  rw [lg_entry_eq]
  generalize (lg_sl ([.ref b, .int (nI k)]) ++ List.replicate (2 - (lg_sl ([.ref b, .int (nI k)])).length) Slot.unset).toArray = ls at hl ⊢
  have hl : lv_has ls 2 [(0, .ref b), (1, .int (nI k))] := hl
  refine lv_iload_n hx hb dL_cell_0 rfl (lv_at hl 1 rfl) ?_
  refine lv_aload_n hx hb dL_cell_1 rfl (lv_at hl 0 rfl) ?_
  refine va_slen hx hb hX hbl (fun h => h) hS dL_cell_2 ?_
  refine lv_icmp_ge (tgt := 12) hx hb dL_cell_3 (by decide) (fun c9 => ?_) (fun c9 => ?_)
  · have h1 : L ≤ k := (nI_leI (by omega) hk).mp c9
    rw [if_neg (by omega)]
    refine lv_iconst (v := nI 0) hx hb dL_cell_12 (by decide) ?_
    exact W.iret (v := nI 0) hx hb hr (fun t ht _ => ⟨rfl, ht⟩) (fun _ h => by cases h) dL_cell_13
  · have h1 : k < L := Nat.not_le.mp (fun q => c9 ((nI_leI (by omega) hk).mpr q))
    rw [if_pos h1]
    refine lv_aload_n hx hb dL_cell_6 rfl (lv_at hl 0 rfl) ?_
    refine lv_iload_n hx hb dL_cell_7 rfl (lv_at hl 1 rfl) ?_
    refine va_sld hx hb hX hbl (fun h => h) hS (vp_in_nI h1 (by omega)) dL_cell_8 ?_
    rw [nI_clamp hk]
    refine lv_goto (tgt := 13) hx hb dL_cell_9 (by decide) ?_
    exact W.iret (v := xs k) hx hb hr (fun t ht _ => ⟨rfl, ht⟩) (fun _ h => by cases h) dL_cell_13
theorem j_cell {p : Program} {l : Launch} {e : Env} {s : State} {m : MethodId} {args : Array Value} {below : List Frame} {meth : Method} {c : Code} {Q : State → Prop} {D : va_G} {A : Nat → Prop} {H0 : Heap} {k n N : Nat} {ad : Nat → Nat} {ct : Nat → va_E} {pc : Nat} {lv : List (Nat × Value)} {st : List Value} {tys : List (ClassId × FieldType)} (pc' : Nat) (C : Cx p s m args meth c cL_law RL 4 D tys A H0) {b L z : Nat} {xs : Nat → Int32} (hX : va_X b L xs s H0) (hbl : b < H0.size) (hbA : ¬ A b) (hL : L ≤ 2050) (hz : z < 2 ^ 31) (hd : decode cL_law pc = .ok (.invokestatic 9, 3)) (hp : pc + 3 = pc') (hk : k ≤ room_1.cells) (hn : n ≤ room_1.slots) (hcat : (st.map fun v => v.category).sum ≤ 8) (kk : J p l e room_1 s m args below meth c Q D A H0 4 k n N ad ct pc' lv (.int (if z < L then xs z else nI 0) :: st)) : J p l e room_1 s m args below meth c Q D A H0 4 k n N ad ct pc lv (.int (nI z) :: .ref b :: st) := by
  intro H locs ls w hl
  have hts := C.1.2.2.2.2
  have hX1 : va_X b L xs s H := hX.kept (w.2.2.1 b hbl hbA)
  have hbH : b < H.size := Nat.lt_of_lt_of_le hbl w.2.1
  refine W.callR (W.runS (As := [.ref b, .int (nI z)]) (rest := st) C.1 (c_L_cell l (b := b) (L := L) (k := z) (xs := xs) hL hz) (n := 2) ⟨callB_of 2 hts (good_TG wc_L_cell) rfl rfl rfl (hts _ wI_L) (hts _ wl_L_9) cs_L_9.2.2.2.2 ⟨Nat.le_of_ble_eq_true rfl, Nat.le_of_ble_eq_true rfl⟩, hts _ ws_L_cell⟩ ⟨fun a U g mk q => ⟨q.1, va_X.moved (u := U) (U := U.calling g mk a) (Vm.Alike.refl U.vm) q.2.1, q.2.2⟩, fun U hU hW => ⟨rfl, by rw [hU]; exact hX1.moved hW.alike, by rw [hU]; exact hbH⟩⟩ rfl rfl hl.1 rfl (lv_room hcat) hd ⟨hk, hn⟩) ?_
  have h := kk H locs ls w hl
  rw [← hp] at h
  exact h
theorem clamp_ex {w : Int32} {lo hi : Nat} (h : lo ≤ hi) (hh : hi < 2 ^ 31) : ∃ W : Nat, lo ≤ W ∧ W ≤ hi ∧ clampI w (nI lo) (nI hi) = nI W := by
  unfold clampI
  by_cases h1 : w < nI lo
  · exact ⟨lo, Nat.le_refl _, h, if_pos h1⟩
  rw [if_neg h1]
  by_cases h2 : nI hi < w
  · exact ⟨hi, h, Nat.le_refl _, if_pos h2⟩
  rw [if_neg h2]
  rw [Int32.lt_iff_toInt_lt, nI_toInt (by omega)] at h1
  rw [Int32.lt_iff_toInt_lt, nI_toInt hh] at h2
  refine ⟨w.toInt.toNat, by omega, by omega, Int32.toInt_inj.mp ?_⟩
  rw [nI_toInt (by omega)]
  omega
theorem CE_ad36 {K : Nat → ClassId} {W S ns nc r : Nat} {ad ad' : Nat → Nat} {f : Nat → Int32} (hr : r < 36) (h : ∀ q, q < 36 → ad q = ad' q) : CE K W S ns nc ad (fun _ => none) r f = CE K W S ns nc ad' (fun _ => none) r f := by
  have e := CE_adx (K := K) (W := W) (S := S) (ns := ns) (nc := nc) (N := 50) (r := r) (ad := ad) (ad' := fun q => if q < 36 then ad' q else ad q) (B := fun _ => none) (f := f) (by omega) (by omega) (fun i q hq => by cases hq) (fun q _ => by by_cases h1 : q < 36; rw [if_pos h1]; exact h q h1; rw [if_neg h1])
  rw [e]
  unfold CE
  by_cases h1 : r < 11
  · rw [if_pos h1, if_pos h1]
    match r, h1 with
    | 0, _ => rfl
    | 1, _ => rfl
    | 2, _ => rfl
    | 3, _ => rfl
    | 4, _ => rfl
    | 5, _ => rfl
    | 6, _ => rfl
    | 7, _ => rfl
    | 8, _ => rfl
    | 9, _ => rfl
    | 10, _ =>
      have e2 : (fun i => if i < 10 then some ((fun q => if q < 36 then ad' q else ad q) (11 + 2 * i)) else none) = (fun i => if i < 10 then some (ad' (11 + 2 * i)) else none) := by
        funext i
        by_cases hi : i < 10
        · rw [if_pos hi, if_pos hi]; show some (if _ then _ else _) = _; rw [if_pos (by omega)]
        · rw [if_neg hi, if_neg hi]
      show (Sum.inl (K 2, 10, Sum.inr (Sum.inr (Sum.inr (Sum.inr (fun i => if i < 10 then some ((fun q => if q < 36 then ad' q else ad q) (11 + 2 * i)) else none))))) : va_E) = Sum.inl (K 2, 10, Sum.inr (Sum.inr (Sum.inr (Sum.inr (fun i => if i < 10 then some (ad' (11 + 2 * i)) else none)))))
      rw [e2]
    | r + 11, hh => exact absurd hh (by omega)
  rw [if_neg h1, if_neg h1]
  by_cases h2 : r < 35
  · rw [if_pos h2, if_pos h2]
    by_cases h3 : r % 2 = 1
    · rw [if_pos h3, if_pos h3]
      show (Sum.inr (1, [_, Value.ref (if r + 1 < 36 then ad' (r + 1) else ad (r + 1))]) : va_E) = _
      rw [if_pos (by omega)]
    · rw [if_neg h3, if_neg h3]
  · obtain rfl : r = 35 := by omega
    rfl
set_option maxHeartbeats 16000000 in
set_option maxRecDepth 100000 in
/-- THE LAW, from its entry -/
theorem whole_start {p : Program} {e : Env} {s : State} {m : MethodId} {below : List Frame} {meth : Method} {c : Code} (l : Launch) (hflags : l.flags = flags0) {b L : Nat} {xs : Nat → Int32} (hL : L ≤ 2050) (C0 : lw_At p s m meth c b L xs) : W p l e room_1 s m #[Value.ref b] below meth c s.heap [] 0 0 (lw_Z below #[Value.ref b] s) (entryFrame m ([Value.ref b] : List Value).toArray 4) := by
  obtain ⟨hx, hb, hr, hml, hown, hts, hX, hbl, hlocks, hgv⟩ := id C0
  have htg : ∀ w ∈ TG, w.before #[Value.ref b] s = true := fun w h => hts w (TG_in h)
  obtain ⟨c0, i0, hKn0⟩ := u_known (C := RX0) (T := TX0) (N := 9) (n := 9) htg in_X0 (htg _ wN_X0)
  obtain ⟨c1, i1, hKn1⟩ := u_known (C := RX1) (T := TX1) (N := 2) (n := 2) htg in_X1 (htg _ wN_X1)
  obtain ⟨c2, i2, hKn2⟩ := u_known (C := RX2) (T := TX2) (N := 7) (n := 7) htg in_X2 (htg _ wN_X2)
  obtain ⟨c3, i3, hKn3⟩ := u_known (C := RX3) (T := TX3) (N := 5) (n := 5) htg in_X3 (htg _ wN_X3)
  obtain ⟨c4, i4, hKn4⟩ := u_known (C := RX4) (T := TX4) (N := 2) (n := 2) htg in_X4 (htg _ wN_X4)
  obtain ⟨c5, i5, hKn5⟩ := u_known (C := RX5) (T := TX5) (N := 4) (n := 4) htg in_X5 (htg _ wN_X5)
  obtain ⟨c6, i6, hKn6⟩ := u_known (C := RX6) (T := TX6) (N := 19) (n := 19) htg in_X6 (htg _ wN_X6)
  obtain ⟨dC, dI, hKc⟩ : ∃ (dC : Nat → ClassId) (dI : Nat → Nat → Nat), ∀ (k : Nat) (q : vw_C), vwCl[k]? = some q → u_Kn s q.1 q.2.1 q.2.2 (dC k) (dI k) := by
    refine ⟨fun k => match k with | 0 => c0 | 1 => c1 | 2 => c2 | 3 => c3 | 4 => c4 | 5 => c5 | _ => c6, fun k => match k with | 0 => i0 | 1 => i1 | 2 => i2 | 3 => i3 | 4 => i4 | 5 => i5 | _ => i6, ?_⟩
    intro k q hq
    match k, hq with
    | 0, hq => cases hq; exact hKn0
    | 1, hq => cases hq; exact hKn1
    | 2, hq => cases hq; exact hKn2
    | 3, hq => cases hq; exact hKn3
    | 4, hq => cases hq; exact hKn4
    | 5, hq => cases hq; exact hKn5
    | 6, hq => cases hq; exact hKn6
    | k + 7, hq => simp [vwCl] at hq
  obtain ⟨cI, kI, coI, a1, a2, a3⟩ := Cond.arrayClass_spec (htg _ wa_int)
  obtain ⟨cZ, kZ, coZ, b1, b2, b3⟩ := Cond.arrayClass_spec (htg _ wa_boolean)
  obtain ⟨coG, cG, kG, g1, -, g3, g4, g5⟩ := Cond.arrayOver_spec (hts _ wo_X1)
  obtain ⟨coS, cS, kS, s1, -, s3, s4, s5⟩ := Cond.arrayOver_spec (hts _ wo_X3)
  obtain ⟨K, hK0, hK1, hK2, hK3⟩ : ∃ K : Nat → ClassId, K 0 = cI ∧ K 1 = cZ ∧ K 2 = cG ∧ K 3 = cS := ⟨fun k => match k with | 0 => cI | 1 => cZ | 2 => cG | _ => cS, rfl, rfl, rfl, rfl⟩
  have hK : KX (dC, dI) (TY K) s := by
    refine ⟨⟨hKc, fun k q h => ?_⟩, va_AO.of (hts _ wo_X1), va_AO.of (hts _ wo_X3), va_Nw.of rfl (hts _ wn_X5_29)⟩
    match k, h with
    | 0, h => cases h; rw [hK0]; exact ⟨fun n z => ⟨fun k h => (nomatch h), kI, a2, coI, a3⟩, a1⟩
    | 1, h => cases h; rw [hK1]; exact ⟨fun n z => ⟨fun k h => (nomatch h), kZ, b2, coZ, b3⟩, b1⟩
    | 2, h => cases h; rw [hK2]; exact ⟨fun n z => ⟨fun k h => (nomatch h), kG, g3, coG, g4⟩, kG, coG, g3, g4, g1, g5⟩
    | 3, h => cases h; rw [hK3]; exact ⟨fun n z => ⟨fun k h => (nomatch h), kS, s3, coS, s4⟩, kS, coS, s3, s4, s1, s5⟩
    | k + 4, h => simp [TY] at h
  have C : Cx p s m #[Value.ref b] meth c cL_law RL 4 (dC, dI) (TY K) (fun q : Nat => s.heap.size ≤ q) s.heap := ⟨⟨hx, hb, hml, hown, htg⟩, hK, fun q h => h, hlocks⟩
  have hbA : ¬ (fun q : Nat => s.heap.size ≤ q) b := Nat.not_le.mpr hbl
  obtain ⟨w0, hw0⟩ : ∃ w, w = (if 0 < L then xs 0 else nI 0) := ⟨_, rfl⟩
  obtain ⟨s0, hs0⟩ : ∃ w, w = (if 1 < L then xs 1 else nI 0) := ⟨_, rfl⟩
  obtain ⟨W, hW, hW8, hwc⟩ := clamp_ex (w := w0) (show 2 ≤ 8 by omega) (by omega)
  obtain ⟨S, hS, hS4, hsc⟩ := clamp_ex (w := s0) (show 1 ≤ 4 by omega) (by omega)
  have hl := lv_entry ([.ref b]) (n := 4) (Nat.le_of_ble_eq_true rfl)
  rw [lg_entry_eq]
  suffices h : J p l e room_1 s m #[Value.ref b] below meth c (lw_Z below #[Value.ref b] s) (dC, dI) (fun q : Nat => s.heap.size ≤ q) s.heap 4 0 0 0 (adL [] 0 (fun _ => 0)) (ctL [] 0 (fun _ => .inr (0, []))) 0 [(0, .ref b)] [] from h s.heap [] _ ⟨⟨fun k q h => by simp [ww] at h, fun i j p q h => by simp [ww] at h, fun k q h => by simp [ww] at h⟩, va_S.rf⟩ hl
  refine c_new 3 1 C (ci := 5) rfl in_X5 fp_X5 wk_L_7 wN_X5 wI_X5 [.null, .null, .null, .null] (by intro j hj; match j, hj with | 0, _ => rfl | 1, _ => rfl | 2, _ => rfl | 3, _ => rfl | j + 4, hj => exact absurd hj (by omega)) dL_law_0 rfl (Nat.le_of_ble_eq_true rfl) (Nat.le_of_ble_eq_true rfl) rfl rfl rfl 1 4 rfl rfl (fun ax la cl ela ecl => ?_)
  replace ela : la = [ax] := ela
  replace ecl : cl = [.inr (5, [.null, .null, .null, .null])] := ecl
  subst ela; subst ecl
  refine j_dup 4 C dL_law_3 rfl rfl ?_
  refine j_aload_n 5 C dL_law_4 rfl rfl 0 rfl ?_
  refine j_iconst 6 C (x := nI 0) dL_law_5 rfl (by decide) ?_
  refine j_cell 9 C hX hbl hbA hL (by omega) dL_law_6 rfl (Nat.le_of_ble_eq_true rfl) (Nat.le_of_ble_eq_true rfl) (Nat.le_of_ble_eq_true rfl) ?_
  rw [← hw0]
  refine j_aload_n 10 C dL_law_9 rfl rfl 0 rfl ?_
  refine j_iconst 11 C (x := nI 1) dL_law_10 rfl (by decide) ?_
  refine j_cell 14 C hX hbl hbA hL (by omega) dL_law_11 rfl (Nat.le_of_ble_eq_true rfl) (Nat.le_of_ble_eq_true rfl) (Nat.le_of_ble_eq_true rfl) ?_
  rw [← hs0]
  refine j_callI 17 C (As := [.int w0, .int s0]) (st := [.ref ax]) ci_L_15 (c_X5_init (l := l) (D := (dC, dI)) (K := K) (ad0 := adL [ax] 0 (fun _ => 0)) (ct0 := ctL [.inr (5, [.null, .null, .null, .null])] 0 (fun _ => .inr (0, []))) (a0 := ax) hwc hsc hW hW8 hS hS4 rfl rfl) dL_law_14 rfl rfl rfl ⟨⟨Nat.le_of_ble_eq_true rfl, Nat.le_of_ble_eq_true rfl⟩, Nat.le_of_ble_eq_true rfl, Nat.le_of_ble_eq_true rfl⟩ (Nat.le_of_ble_eq_true rfl) (fun v N' ad1 ct1 hB => ?_)
  obtain ⟨rfl, rfl, hA1, -, σ0, hc1, hf1, hz1, hy1⟩ := hB
  have hax : ad1 0 = ax := hA1 0 (by omega)
  refine j_astore_n 18 C [(1, .ref ax), (0, .ref b)] dL_law_17 rfl rfl (by decide) rfl ?_
  refine j_new 21 C (ci := 6) rfl in_X6 fp_X6 wk_L_18 wN_X6 wI_X6 [.int 0, .int 0, .null, .null, .null, .null, .null, .null, .int 0, .null, .null, .null, .null, .null, .null, .null, .int 0, .int 0, .int 0] (by intro j hj; match j, hj with | 0, _ => rfl | 1, _ => rfl | 2, _ => rfl | 3, _ => rfl | 4, _ => rfl | 5, _ => rfl | 6, _ => rfl | 7, _ => rfl | 8, _ => rfl | 9, _ => rfl | 10, _ => rfl | 11, _ => rfl | 12, _ => rfl | 13, _ => rfl | 14, _ => rfl | 15, _ => rfl | 16, _ => rfl | 17, _ => rfl | 18, _ => rfl | j + 19, hj => exact absurd hj (by omega)) dL_law_18 rfl (Nat.le_of_ble_eq_true rfl) (Nat.le_of_ble_eq_true rfl) (fun am => ?_)
  refine j_dup 22 C dL_law_21 rfl rfl ?_
  refine j_aload_n 23 C dL_law_22 rfl rfl 1 rfl ?_
  refine j_iconst 24 C (x := nI 0) dL_law_23 rfl (by decide) ?_
  refine j_cell 27 C hX hbl hbA hL (by omega) dL_law_24 rfl (Nat.le_of_ble_eq_true rfl) (Nat.le_of_ble_eq_true rfl) (Nat.le_of_ble_eq_true rfl) ?_
  rw [← hw0]
  refine j_aload_n 28 C dL_law_27 rfl rfl 1 rfl ?_
  refine j_iconst 29 C (x := nI 1) dL_law_28 rfl (by decide) ?_
  refine j_cell 32 C hX hbl hbA hL (by omega) dL_law_29 rfl (Nat.le_of_ble_eq_true rfl) (Nat.le_of_ble_eq_true rfl) (Nat.le_of_ble_eq_true rfl) ?_
  rw [← hs0]
  refine j_callI 35 C (As := [.int w0, .int s0]) (st := [.ref am]) ci_L_20 (c_X6_init (l := l) (D := (dC, dI)) (K := K) (W := W) (S := S) (ad0 := va_up ad1 36 am) (ct0 := va_up ct1 36 (.inr (6, [.int 0, .int 0, .null, .null, .null, .null, .null, .null, .int 0, .null, .null, .null, .null, .null, .null, .null, .int 0, .int 0, .int 0]))) (a0 := am) hwc hsc (va_up_self _ _ _) (va_up_self _ _ _)) dL_law_32 rfl rfl rfl ⟨⟨Nat.le_of_ble_eq_true rfl, Nat.le_of_ble_eq_true rfl⟩, Nat.le_of_ble_eq_true rfl, Nat.le_of_ble_eq_true rfl⟩ (Nat.le_of_ble_eq_true rfl) (fun v N' ad2 ct2 hB => ?_)
  obtain ⟨rfl, rfl, hA2, hC2, σ1, hc2, hf2, hz2⟩ := hB
  have ham : ad2 36 = am := (hA2 36 (by omega)).trans (va_up_self _ _ _)
  have hax2 : ad2 0 = ax := ((hA2 0 (by omega)).trans (va_up_ne _ _ (by omega))).trans hax
  refine j_astore_n 36 C [(2, .ref am), (1, .ref ax), (0, .ref b)] dL_law_35 rfl rfl (by decide) rfl ?_
  refine j_iconst 37 C (x := nI 2) dL_law_36 rfl (by decide) ?_
  refine j_istore_n 38 C [(3, .int (nI 2)), (2, .ref am), (1, .ref ax), (0, .ref b)] dL_law_37 rfl rfl (by decide) rfl ?_
  refine j_lv [3, 2, 1, 0] (lv' := [(0, .ref b), (1, .ref ax), (2, .ref am), (3, .int (nI 2))]) rfl ?_
  rw [← ham, ← hax2]
  refine j_ww (N' := 50) (ad' := ad2) (ct' := CT K W S 0 0 ad2 (fun _ => none) (fun r => if r < 36 then σ0 r else σ1 r)) rfl (fun _ _ => rfl) (fun r hr => ?_) ?_
  · show _ = CE K W S 0 0 ad2 (fun _ => none) r (if r < 36 then σ0 r else σ1 r)
    rcases Nat.lt_or_ge r 36 with h | h
    · rw [if_pos h, hC2 r h, va_up_ne _ _ (by omega), hc1 r h]
      exact CE_ad36 h (fun q hq => ((hA2 q (by omega)).trans (va_up_ne _ _ (by omega))).symm)
    · rw [if_neg (by omega)]
      exact hc2 r h (by omega)
  refine j_widen (100 + 2) (30000 + 5 * 2) (Nat.le_of_ble_eq_true rfl) (Nat.le_of_ble_eq_true rfl) ?_
  refine law_loop hL C hr hX hbl (L + 1) 2 50 0 ad2 _ _ (by omega) (by omega) (Rel_0 hW hW8 hS hS4 (fun _ => rfl) (fun j hj => hf1 j hj) (fun j => hz1 j) (fun r j h9 h35 => ?_) (fun j hj => hf2 j hj) (fun r j h36 h50 n1 n2 n3 => ?_))
  · show (if r < 36 then σ0 r else σ1 r) j = 0
    rw [if_pos (by omega)]
    exact hy1 r j h9 h35
  · show (if r < 36 then σ0 r else σ1 r) j = 0
    rw [if_neg (by omega)]
    exact hz2 r j n1 n2 n3
-- ===== YOUR PART ENDS =====
set_option maxHeartbeats 4000000 in
theorem lw_walk (l : Launch) (hflags : l.flags = flags0) (b : Addr) (xs : List Int32) : MetFree l x (headSpec (Jvm.Cond.code x code maxLocals ret :: tables_1) room_1) (lw_P b xs) (fun _ _ _ _ _ => True) lw_Q := by
  refine MetFree.of_bodyS (code := code) (maxLocals := maxLocals) (ret := ret) (by decide) ?_ ?_
  · intro args s m h hn
    obtain ⟨meth, c, h1, h2, h3, h4, h5, h6, -, -⟩ := Cond.code_spec hn (atoms_spec (ws := Jvm.Cond.code x code maxLocals ret :: tables_1) h _ List.mem_cons_self)
    exact ⟨meth, c, h1, h2, h3, h4, h5, h6⟩
  · intro p e s m args below meth c s₁ B hml0 hP _
    obtain ⟨rfl, hx, hbd, hgv⟩ := hP
    obtain ⟨scr, harrAt, hlist, hof, hsmall⟩ := hx
    obtain ⟨hcb, hkn, -, -⟩ := State.arrayAt?_spec harrAt
    have hown : s.vm.findClass R_law = some m.cls := findClass_of_methodNamed B.named
    have hts0 : ∀ c ∈ (Jvm.Cond.code x code maxLocals ret :: tables_1), c.before #[Value.ref b] s = true := atoms_spec (ws := Jvm.Cond.code x code maxLocals ret :: tables_1) B.pre
    have hts : ∀ w ∈ lw_tbl, w.before #[Value.ref b] s = true := k2_hts_sels lw_privs (fun w hw => hts0 w (List.mem_cons_of_mem _ hw)) lw_privs_ok
    have hml : c.maxLocals = 4 := B.maxLocals_eq (hts0 _ List.mem_cons_self)
    have X₀ : Stand p l e room_1 s m #[Value.ref b] below meth c s₁ [] 0 0 := Stand.of_body B
    have hh0 : s₁.heap = s.heap := by rw [B.state]; rfl
    have hsz : scr.slots.size = xs.length := by rw [← Array.length_toList, hlist, List.length_map]
    have hval : ∀ j : Nat, j < xs.length → scr.slots[j]? = some (.int (xs.getD j 0)) := fun j hj => by
      rw [← Array.getElem?_toList, hlist]
      simp [hj]
    have hbl : b < s.heap.size := (Array.getElem?_eq_some_iff.mp hcb).1
    have hX : va_X b xs.length (fun j => xs.getD j 0) s s.heap := ⟨scr, hcb, hof, hkn, hsz, hval⟩
    have K : W p l e room_1 s m #[Value.ref b] below meth c s₁.heap [] 0 0 (lw_Z below #[Value.ref b] s) (entryFrame m ([Value.ref b] : List Value).toArray 4) := by
      rw [hh0]
      exact whole_start l hflags hbd ⟨B.exec, B.bytes, B.returns, hml, hown, hts, hX, hbl, B.notSynchronized, hgv⟩
    obtain ⟨t, a1, o, b1, b2, b3⟩ := K s₁ rfl X₀
    exact ⟨t, o, a1, b1, b2, b3⟩
theorem lw_pre_spec {args : Array Value} {s : State} (h : (Jvm.Cond.and given_1 narrow_1).before args s = true) (hr : rest_1_c.before args s = true) : ∃ (b : Addr) (xs : List Int32), lw_P b xs args s := by
  have hs := flat_of_before _ h
  have hq := flat_of_before _ hr
  have hc : (Cond.count 1).before args s = true := hs _ (by decide +kernel)
  have harr : (Cond.arrayOf (.arg 0) .int).before args s = true := hs _ (by decide +kernel)
  have hle : (Cond.le (.length (.arg 0)) (.int 2050)).before args s = true := hs _ (by decide +kernel)
  have hlen : (Cond.isInt (.length (.arg 0))).before args s = true := hq _ (by decide +kernel)
  have hall : (Cond.all (.arg 0) (.isInt (.elem (.arg 0) (.index 0)))).before args s = true := hq _ (by decide +kernel)
  obtain ⟨b, xs, hb, hx⟩ := State.ints_of_pre rfl harr hlen hall
  have hsm : xs.length < 2 ^ 31 := hx.choose_spec.2.2.2
  have hev : (Term.length (.arg 0)).eval args s none [] s = some (.int xs.length.toInt32) := hx.length_eval hb
  have hv := Cond.le_ints hev (show (Term.int 2050).eval args s none [] s = some (.int 2050) from rfl)
  have hd : xs.length.toInt32 ≤ 2050 := by
    simpa [Cond.before, Cond.holds, hv] using hle
  have hN : xs.length ≤ 2050 := (Int32.ofNat_le_ofNat hsm (by decide)).mp (show Int32.ofNat xs.length ≤ Int32.ofNat 2050 from hd)
  exact ⟨b, xs, Cond.one_arg hc (show args[0]? = some (.ref b) from hb), hx, hN, h⟩
theorem lw_comes (l : Launch) (hflags : l.flags = flags0) : Comes l x (Jvm.Cond.code x code maxLocals ret :: tables_1) room_1 (fun tb e args s => Calls_1 tb e args s ∧ rest_1 tb e args s ∧ Pre_1 tb e args s)
    (fun _ _ args s o t => lw_Q args s o t) := by
  intro p e ha hc hk s m args below hf hfit hheap happ hpre
  obtain ⟨b, xs, hP⟩ := lw_pre_spec hpre.2.2 hpre.2.1
  obtain ⟨k, o, h1, h2, h3, hQ⟩ := lw_walk l hflags b xs p e ha hc hk s m args below hf ((Spec.applies_iff_loose hf).mp happ).1 hP trivial
  exact ⟨k, o, h1, h2, h3, hQ⟩
theorem lw_frame {s t : State} {o : Outcome} {args : Array Value} (h : Framed s o t [] 600000 7302250) :
    Framed s o t (fieldLocs frame_1_writes args s ++ arrayLocs frame_1_arrays args s ++ staticLocs frame_1_statics s) 600000 7302250 := h
theorem lw_limb (L : Cond) (hL : ∀ (args : Array Value) (s t : State), L.after args s (.returned (some (.int 1))) t = true) :
    ArmFor flags0 classFile x code maxLocals ret World_1 tables_1 room_1 Calls_1 rest_1 Pre_1
      (fun tb e a s o t => postC L tb e a s o t ∧ Framed s o t (fieldLocs frame_1_writes a s ++ arrayLocs frame_1_arrays a s ++ staticLocs frame_1_statics s) 600000 7302250) := by
  intro l hflags _ _ p e ha hc hk s m args below hf hfit hheap happ hpre
  obtain ⟨k, o, h1, h2, h3, rfl, hF⟩ := lw_comes l hflags p e ha hc hk s m args below hf hfit hheap happ hpre
  exact ⟨k, _, h1, h2, h3, hL args s _, lw_frame hF⟩
theorem i_vc : Claimed_1_1 ∧ Claimed_1_2 := ⟨lw_limb limb_1_1 (fun args s t => by simp [limb_1_1, Cond.after, Cond.holds, Cond.value]), lw_limb limb_1_2 (fun args s t => Cond.after_iff.mpr (by
  first | (rw [show limb_1_2 = Cond.eq .result (.int 1) from rfl, Cond.eq_ints (x := 1) (y := 1) rfl rfl]; simp; done) | (simp [limb_1_2, Cond.value, Term.eval]; done)))⟩

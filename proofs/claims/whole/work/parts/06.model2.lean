def m_X6_stands_L330 (W S ns nc : Nat) (B : Nat → Option Nat) (σ : Nat → Nat → Int32) (c192 : (Nat → Int32)) (c303 : (Nat → Int32)) (i330 : Nat) (c330 : Unit) : (Int32 × (Nat → Int32) × (Nat → Int32)) ⊕ (Unit) := (if 0 ≤ (c192 (((nI 33) * (nI i330)) + (nI i330)).toNatClampNeg) then (Sum.inr ()) else (Sum.inl (nI 0, c192, c303)))
def m_X6_stands_L303 (W S ns nc : Nat) (B : Nat → Option Nat) (σ : Nat → Nat → Int32) (c192 : (Nat → Int32)) (i303 : Nat) (c303 : (Nat → Int32)) : (Nat → Int32) := ap (upd c303 (nI i303).toNatClampNeg (c192 (nI i303).toNatClampNeg)) (fun (f321 : Nat → Int32) => f321)
def m_X6_stands_L228 (W S ns nc : Nat) (B : Nat → Option Nat) (σ : Nat → Nat → Int32) (i192 : Nat) (i200 : Nat) (i228 : Nat) (c228 : (Nat → Int32)) : (Nat → Int32) := (if (nI 50000) ≤ (c228 (((nI 33) * (nI i192)) + (nI i228)).toNatClampNeg) then c228 else ap (m_X6_bounds W S ns nc B (sA σ 47 c228) (nI i200) (nI i228) ((c228 (((nI 33) * (nI i200)) + (nI i192)).toNatClampNeg) + (c228 (((nI 33) * (nI i192)) + (nI i228)).toNatClampNeg))) (fun (y280 : (Nat → Int32)) => y280))
def m_X6_stands_L200 (W S ns nc : Nat) (B : Nat → Option Nat) (σ : Nat → Nat → Int32) (i192 : Nat) (i200 : Nat) (c200 : (Nat → Int32)) : (Nat → Int32) := (if (c200 (((nI 33) * (nI i200)) + (nI i192)).toNatClampNeg) < (nI 50000) then ap (lp (m_X6_stands_L228 W S ns nc B σ i192 i200) (33 - 0) 0 c200) (fun (z228 : (Nat → Int32)) => z228) else c200)
def m_X6_stands_L192 (W S ns nc : Nat) (B : Nat → Option Nat) (σ : Nat → Nat → Int32) (i192 : Nat) (c192 : (Nat → Int32)) : (Nat → Int32) := ap (lp (m_X6_stands_L200 W S ns nc B σ i192) (33 - 0) 0 c192) (fun (z200 : (Nat → Int32)) => z200)
def m_X6_stands_L49 (W S ns nc : Nat) (B : Nat → Option Nat) (σ : Nat → Nat → Int32) (i39 : Nat) (i49 : Nat) (c49 : (Nat → Int32)) : (Nat → Int32) := ap (m_X6_node W S ns nc B (sA σ 47 c49) (nI i39) (nI i49)) (fun (y59 : Int32) => ap (m_X6_bounds W S ns nc B (sA σ 47 c49) (nI 32) y59 (nI 60)) (fun (y70 : (Nat → Int32)) => ap (m_X6_bounds W S ns nc B (sA σ 47 y70) y59 (nI 32) (nI 0)) (fun (y78 : (Nat → Int32)) => (if (nI S) ≤ ((nI i39) + (nI 1)) then (if (nI W) ≤ ((nI i49) + (nI 1)) then y78 else ap (m_X6_node W S ns nc B (sA σ 47 y78) (nI i39) ((nI i49) + (nI 1))) (fun (y147 : Int32) => (if ((σ 40) (nI i49).toNatClampNeg) = 0 then ap (m_X6_within W S ns nc B (sA σ 47 y78) y59 y147 (nI 0) ((σ 39) (nI i39).toNatClampNeg)) (fun (y175 : (Nat → Int32)) => y175) else ap (m_X6_within W S ns nc B (sA σ 47 y78) y59 y147 ((σ 41) (nI i49).toNatClampNeg) ((σ 39) (nI i39).toNatClampNeg)) (fun (y175 : (Nat → Int32)) => y175)))) else ap (m_X6_node W S ns nc B (sA σ 47 y78) ((nI i39) + (nI 1)) (nI i49)) (fun (y98 : Int32) => ap (m_X6_bounds W S ns nc B (sA σ 47 y78) y59 y98 ((σ 38) (nI i39).toNatClampNeg)) (fun (y107 : (Nat → Int32)) => ap (m_X6_node W S ns nc B (sA σ 47 y107) ((nI i39) + (nI 1)) (nI i49)) (fun (y115 : Int32) => ap (m_X6_bounds W S ns nc B (sA σ 47 y107) y115 y59 (-((σ 37) (nI i39).toNatClampNeg))) (fun (y127 : (Nat → Int32)) => (if (nI W) ≤ ((nI i49) + (nI 1)) then y127 else ap (m_X6_node W S ns nc B (sA σ 47 y127) (nI i39) ((nI i49) + (nI 1))) (fun (y147 : Int32) => (if ((σ 40) (nI i49).toNatClampNeg) = 0 then ap (m_X6_within W S ns nc B (sA σ 47 y127) y59 y147 (nI 0) ((σ 39) (nI i39).toNatClampNeg)) (fun (y175 : (Nat → Int32)) => y175) else ap (m_X6_within W S ns nc B (sA σ 47 y127) y59 y147 ((σ 41) (nI i49).toNatClampNeg) ((σ 39) (nI i39).toNatClampNeg)) (fun (y175 : (Nat → Int32)) => y175))))))))))))
def m_X6_stands_L39 (W S ns nc : Nat) (B : Nat → Option Nat) (σ : Nat → Nat → Int32) (i39 : Nat) (c39 : (Nat → Int32)) : (Nat → Int32) := ap (lp (m_X6_stands_L49 W S ns nc B σ i39) (W - 0) 0 c39) (fun (z49 : (Nat → Int32)) => z49)
def m_X6_stands_L5 (W S ns nc : Nat) (B : Nat → Option Nat) (σ : Nat → Nat → Int32) (i5 : Nat) (c5 : (Nat → Int32)) : (Nat → Int32) := (if ((nI i5) - (nI i5) / (nI 34) * (nI 34)) = 0 then (upd c5 (nI i5).toNatClampNeg (nI 0)) else (upd c5 (nI i5).toNatClampNeg (nI 100000)))
def m_X6_stands (W S ns nc : Nat) (B : Nat → Option Nat) (σ : Nat → Nat → Int32) : Int32 × (Nat → Int32) × (Nat → Int32) := ap (lp (m_X6_stands_L5 W S ns nc B σ) (1089 - 0) 0 (σ 47)) (fun (z5 : (Nat → Int32)) => ap (lp (m_X6_stands_L39 W S ns nc B σ) (S - 0) 0 z5) (fun (z39 : (Nat → Int32)) => ap (lp (m_X6_stands_L192 W S ns nc B σ) (33 - 0) 0 z39) (fun (z192 : (Nat → Int32)) => ap (lp (m_X6_stands_L303 W S ns nc B σ z192) (1089 - 0) 0 (σ 48)) (fun (z303 : (Nat → Int32)) => ap (lpe (m_X6_stands_L330 W S ns nc B σ z192 z303) (33 - 0) 0 ()) (fun (z330 : (Int32 × (Nat → Int32) × (Nat → Int32)) ⊕ (Unit)) => ((z330).elim id (fun (kz330 : Unit) => (nI 1, z192, z303))))))))
abbrev rm_X6_stands : Room := { frames := 2, cells := 0, slots := 0, locals := 47 }
set_option maxHeartbeats 4000000 in
set_option maxRecDepth 100000 in
theorem c_X6_stands {l : Launch} {D : va_G} {K : Nat → ClassId} {W S ns nc N : Nat} {ad : Nat → Nat} {B : Nat → Option Nat} {σ : Nat → Nat → Int32} (hG : GH W S ns nc N)   {z : Int32 × (Nat → Int32) × (Nat → Int32)} (hz : m_X6_stands W S ns nc B σ = z)  : MC l yX6_stands cX6_stands 5 (some .boolean) rm_X6_stands D (TY K) N ad (CT K W S ns nc ad B σ) [.ref (ad 36)] (BS (some (.int z.1)) N ad (CT K W S ns nc ad B (sA (sA σ 47 z.2.1) 48 z.2.2)) (bl z.1)) := by
  have hW := hG.1; have hW8 := hG.2.1; have hS := hG.2.2.1; have hS4 := hG.2.2.2.1; have hns := hG.2.2.2.2.1; have hnc := hG.2.2.2.2.2.1; have hWS := GH_ws hG
  refine MC.of (by decide) (Nat.le_of_ble_eq_true rfl) (fun p e s m args below meth c Q A H0 C X => ?_)
  replace C : Cx p s m args meth c cX6_stands RX6 5 D (TY K) A H0 := C
  show J p l e rm_X6_stands s m args below meth c Q D A H0 5 0 0 N ad (CT K W S ns nc ad B σ) 0 [(0, .ref (ad 36))] []
  unfold m_X6_stands at hz
  refine j_bipush 2 C (x := nI 32) dX6_stands_0 rfl (by decide) ?_
  refine j_istore_n 3 C [(1, .int (nI 32)), (0, .ref (ad 36))] dX6_stands_2 rfl rfl (by decide) rfl ?_
  refine j_iconst 4 C (x := nI 0) dX6_stands_3 rfl (by decide) ?_
  refine j_istore_n 5 C [(2, .int (nI 0)), (1, .int (nI 32)), (0, .ref (ad 36))] dX6_stands_4 rfl rfl (by decide) rfl ?_
  skip
  obtain ⟨z5, ez5, hz⟩ := ap_x hz
  have L5 : ∀ (n5 i5 : Nat) (c5 : (Nat → Int32)), 0 ≤ i5 → i5 < 5000 → n5 = 1089 - i5 → lp (m_X6_stands_L5 W S ns nc B σ) n5 i5 c5 = z5 → J p l e rm_X6_stands s m args below meth c Q D A H0 5 0 0 N ad (CT K W S ns nc ad B (sA σ 47 c5)) 5 [(0, .ref (ad 36)), (1, .int (nI 32)), (2, .int (nI i5))] [] := by
    intro n5
    induction n5 with
    | zero =>
      intro i5 c5 hl5 hi5 hn5 hz5
      refine j_iload_n 6 C dX6_stands_5 rfl rfl 2 rfl ?_
      refine j_sipush 9 C (x := nI 1089) dX6_stands_6 rfl (by decide) ?_
      refine j_ic_ge 37 12 C dX6_stands_9 rfl rfl (fun c_9 => ?_) (fun c_9 => ?_)
      · skip
        have n_9 := nat_le (a := 1089) (b := i5) rfl rfl (by omega) (by omega) c_9
        have hq5 : c5 = z5 := hz5
        subst hq5
        refine j_iconst 38 C (x := nI 0) dX6_stands_37 rfl (by decide) ?_
        refine j_istore_n 39 C [(2, .int (nI 0)), (0, .ref (ad 36)), (1, .int (nI 32))] dX6_stands_38 rfl rfl (by decide) rfl ?_
        skip
        obtain ⟨z39, ez39, hz⟩ := ap_x hz
        have L39 : ∀ (n39 i39 : Nat) (c39 : (Nat → Int32)), 0 ≤ i39 → i39 < 5000 → n39 = S - i39 → lp (m_X6_stands_L39 W S ns nc B σ) n39 i39 c39 = z39 → J p l e rm_X6_stands s m args below meth c Q D A H0 5 0 0 N ad (CT K W S ns nc ad B (sA σ 47 c39)) 39 [(0, .ref (ad 36)), (1, .int (nI 32)), (2, .int (nI i39))] [] := by
          intro n39
          induction n39 with
          | zero =>
            intro i39 c39 hl39 hi39 hn39 hz39
            refine j_iload_n 40 C dX6_stands_39 rfl rfl 2 rfl ?_
            refine j_aload_n 41 C dX6_stands_40 rfl rfl 0 rfl ?_
            refine k_get 44 C fl_X6_54 dX6_stands_41 rfl 36 (GH_r hG (by decide)) (σ 36) (by rfl) (CE_36 _) (.int (nI S)) rfl ?_
            refine j_ic_ge 190 47 C dX6_stands_44 rfl rfl (fun c_44 => ?_) (fun c_44 => ?_)
            · skip
              have n_44 := nat_le (a := S) (b := i39) rfl rfl (by omega) (by omega) c_44
              have hq39 : c39 = z39 := hz39
              subst hq39
              refine j_iconst 191 C (x := nI 0) dX6_stands_190 rfl (by decide) ?_
              refine j_istore_n 192 C [(2, .int (nI 0)), (0, .ref (ad 36)), (1, .int (nI 32))] dX6_stands_191 rfl rfl (by decide) rfl ?_
              skip
              obtain ⟨z192, ez192, hz⟩ := ap_x hz
              have L192 : ∀ (n192 i192 : Nat) (c192 : (Nat → Int32)), 0 ≤ i192 → i192 < 5000 → n192 = 33 - i192 → lp (m_X6_stands_L192 W S ns nc B σ) n192 i192 c192 = z192 → J p l e rm_X6_stands s m args below meth c Q D A H0 5 0 0 N ad (CT K W S ns nc ad B (sA σ 47 c192)) 192 [(0, .ref (ad 36)), (2, .int (nI i192))] [] := by
                intro n192
                induction n192 with
                | zero =>
                  intro i192 c192 hl192 hi192 hn192 hz192
                  refine j_iload_n 193 C dX6_stands_192 rfl rfl 1 rfl ?_
                  refine j_bipush 195 C (x := nI 33) dX6_stands_193 rfl (by decide) ?_
                  refine j_ic_ge 301 198 C dX6_stands_195 rfl rfl (fun c_195 => ?_) (fun c_195 => ?_)
                  · skip
                    have n_195 := nat_le (a := 33) (b := i192) rfl rfl (by omega) (by omega) c_195
                    have hq192 : c192 = z192 := hz192
                    subst hq192
                    refine j_iconst 302 C (x := nI 0) dX6_stands_301 rfl (by decide) ?_
                    refine j_istore_n 303 C [(2, .int (nI 0)), (0, .ref (ad 36))] dX6_stands_302 rfl rfl (by decide) rfl ?_
                    skip
                    obtain ⟨z303, ez303, hz⟩ := ap_x hz
                    have L303 : ∀ (n303 i303 : Nat) (c303 : (Nat → Int32)), 0 ≤ i303 → i303 < 5000 → n303 = 1089 - i303 → lp (m_X6_stands_L303 W S ns nc B σ c192) n303 i303 c303 = z303 → J p l e rm_X6_stands s m args below meth c Q D A H0 5 0 0 N ad (CT K W S ns nc ad B (sA (sA σ 47 c192) 48 c303)) 303 [(0, .ref (ad 36)), (2, .int (nI i303))] [] := by
                      intro n303
                      induction n303 with
                      | zero =>
                        intro i303 c303 hl303 hi303 hn303 hz303
                        refine j_iload_n 304 C dX6_stands_303 rfl rfl 1 rfl ?_
                        refine j_sipush 307 C (x := nI 1089) dX6_stands_304 rfl (by decide) ?_
                        refine j_ic_ge 328 310 C dX6_stands_307 rfl rfl (fun c_307 => ?_) (fun c_307 => ?_)
                        · skip
                          have n_307 := nat_le (a := 1089) (b := i303) rfl rfl (by omega) (by omega) c_307
                          have hq303 : c303 = z303 := hz303
                          subst hq303
                          refine j_iconst 329 C (x := nI 0) dX6_stands_328 rfl (by decide) ?_
                          refine j_istore_n 330 C [(2, .int (nI 0)), (0, .ref (ad 36))] dX6_stands_329 rfl rfl (by decide) rfl ?_
                          skip
                          obtain ⟨z330, ez330, hz⟩ := ap_x hz
                          have L330 : ∀ (n330 i330 : Nat) (c330 : Unit), 0 ≤ i330 → i330 < 5000 → n330 = 33 - i330 → lpe (m_X6_stands_L330 W S ns nc B σ c192 c303) n330 i330 c330 = z330 → J p l e rm_X6_stands s m args below meth c Q D A H0 5 0 0 N ad (CT K W S ns nc ad B (sA (sA σ 47 c192) 48 c303)) 330 [(0, .ref (ad 36)), (2, .int (nI i330))] [] := by
                            intro n330
                            induction n330 with
                            | zero =>
                              intro i330 c330 hl330 hi330 hn330 hz330
                              refine j_iload_n 331 C dX6_stands_330 rfl rfl 1 rfl ?_
                              refine j_bipush 333 C (x := nI 33) dX6_stands_331 rfl (by decide) ?_
                              refine j_ic_ge 358 336 C dX6_stands_333 rfl rfl (fun c_333 => ?_) (fun c_333 => ?_)
                              · skip
                                have n_333 := nat_le (a := 33) (b := i330) rfl rfl (by omega) (by omega) c_333
                                have hq330 : Sum.inr c330 = z330 := hz330
                                subst hq330
                                replace hz := el_r hz
                                refine j_iconst 359 C (x := nI 1) dX6_stands_358 rfl (by decide) ?_
                                subst hz
                                exact j_retI C X dX6_stands_359 (bl_nar bl_1) ⟨rfl, rfl, rfl, rfl, bl_1⟩
                              · exfalso
                                have n_333 := nat_nle (a := 33) (b := i330) rfl rfl (by omega) (by omega) c_333
                                omega
                            | succ n330 ih330 =>
                              intro i330 c330 hl330 hi330 hn330 hz330
                              refine j_iload_n 331 C dX6_stands_330 rfl rfl 1 rfl ?_
                              refine j_bipush 333 C (x := nI 33) dX6_stands_331 rfl (by decide) ?_
                              refine j_ic_ge 358 336 C dX6_stands_333 rfl rfl (fun c_333 => ?_) (fun c_333 => ?_)
                              · exfalso
                                have n_333 := nat_le (a := 33) (b := i330) rfl rfl (by omega) (by omega) c_333
                                omega
                              · skip
                                have n_333 := nat_nle (a := 33) (b := i330) rfl rfl (by omega) (by omega) c_333
                                obtain ⟨w330, hw330, hz330⟩ := lpe_s hz330
                                have ho330 := hz
                                clear hz
                                have hz := hw330
                                clear hw330
                                unfold m_X6_stands_L330 at hz
                                refine j_aload_n 337 C dX6_stands_336 rfl rfl 0 rfl ?_
                                refine k_get 340 C fl_X6_41 dX6_stands_337 rfl 36 (GH_r hG (by decide)) (σ 36) (by rfl) (CE_36 _) (.ref (ad 47)) rfl ?_
                                refine j_bipush 342 C (x := nI 33) dX6_stands_340 rfl (by decide) ?_
                                refine j_iload_n 343 C dX6_stands_342 rfl rfl 1 rfl ?_
                                refine j_imul 344 C dX6_stands_343 rfl rfl ?_
                                refine j_iload_n 345 C dX6_stands_344 rfl rfl 1 rfl ?_
                                refine j_iadd 346 C dX6_stands_345 rfl rfl ?_
                                refine k_iald 347 C dX6_stands_346 rfl 47 (GH_r hG (by decide)) c192 (by rfl) CE_47 (vp_inE (n := ((33 * i330) + i330)) (by simp only [nI_add, pk_mul]) (by omega) (by omega)) ?_
                                refine j_if_ge 352 350 C dX6_stands_347 rfl rfl (fun c_347 => ?_) (fun c_347 => ?_)
                                · replace hz := (if_pos c_347).symm.trans hz
                                  refine j_iinc 355 C (x' := nI (i330 + 1)) [(2, .int (nI (i330 + 1))), (0, .ref (ad 36))] dX6_stands_352 rfl 1 rfl (by rw [show Int32.ofInt 1 = nI 1 from by decide, nI_add]) (by decide) rfl ?_
                                  refine j_goto 330 C dX6_stands_355 rfl ?_
                                  subst hz
                                  refine j_lv [1, 0] (lv' := [(0, .ref (ad 36)), (2, .int (nI (i330 + 1)))]) rfl ?_
                                  have hz := ho330
                                  exact ih330 (i330 + 1) () (by omega) (by omega) (by omega) hz330
                                · replace hz := (if_neg c_347).symm.trans hz
                                  refine j_iconst 351 C (x := nI 0) dX6_stands_350 rfl (by decide) ?_
                                  subst hz
                                  have hz : Sum.inl (nI 0, c192, c303) = z330 := hz330
                                  subst hz
                                  have hz := ho330
                                  replace hz : (nI 0, c192, c303) = _ := hz
                                  subst hz
                                  exact j_retI C X dX6_stands_351 (bl_nar bl_0) ⟨rfl, rfl, rfl, rfl, bl_0⟩
                          refine j_lv [1, 0] (lv' := [(0, .ref (ad 36)), (2, .int (nI 0))]) rfl ?_
                          exact L330 _ 0 () (by omega) (by omega) rfl ez330
                        · exfalso
                          have n_307 := nat_nle (a := 1089) (b := i303) rfl rfl (by omega) (by omega) c_307
                          omega
                      | succ n303 ih303 =>
                        intro i303 c303 hl303 hi303 hn303 hz303
                        refine j_iload_n 304 C dX6_stands_303 rfl rfl 1 rfl ?_
                        refine j_sipush 307 C (x := nI 1089) dX6_stands_304 rfl (by decide) ?_
                        refine j_ic_ge 328 310 C dX6_stands_307 rfl rfl (fun c_307 => ?_) (fun c_307 => ?_)
                        · exfalso
                          have n_307 := nat_le (a := 1089) (b := i303) rfl rfl (by omega) (by omega) c_307
                          omega
                        · skip
                          have n_307 := nat_nle (a := 1089) (b := i303) rfl rfl (by omega) (by omega) c_307
                          obtain ⟨w303, hw303, hz303⟩ := lp_s hz303
                          have ho303 := hz
                          clear hz
                          have hz := hw303
                          clear hw303
                          unfold m_X6_stands_L303 at hz
                          refine j_aload_n 311 C dX6_stands_310 rfl rfl 0 rfl ?_
                          refine k_get 314 C fl_X6_44 dX6_stands_311 rfl 36 (GH_r hG (by decide)) (σ 36) (by rfl) (CE_36 _) (.ref (ad 48)) rfl ?_
                          refine j_iload_n 315 C dX6_stands_314 rfl rfl 1 rfl ?_
                          refine j_aload_n 316 C dX6_stands_315 rfl rfl 0 rfl ?_
                          refine k_get 319 C fl_X6_41 dX6_stands_316 rfl 36 (GH_r hG (by decide)) (σ 36) (by rfl) (CE_36 _) (.ref (ad 47)) rfl ?_
                          refine j_iload_n 320 C dX6_stands_319 rfl rfl 1 rfl ?_
                          refine k_iald 321 C dX6_stands_320 rfl 47 (GH_r hG (by decide)) c192 (by rfl) CE_47 (vp_inE (n := i303) rfl (by omega) (by omega)) ?_
                          refine k_iast 322 C dX6_stands_321 rfl 48 (GH_r hG (by decide)) c303 rfl CE_48 (vp_inE (n := i303) rfl (by omega) (by omega)) (sA (sA σ 47 c192) 48 (upd c303 (nI i303).toNatClampNeg (c192 (nI i303).toNatClampNeg))) sA_top ?_
                          obtain ⟨f321, e321, hz⟩ := ap_x hz
                          rw [e321]
                          refine j_iinc 325 C (x' := nI (i303 + 1)) [(2, .int (nI (i303 + 1))), (0, .ref (ad 36))] dX6_stands_322 rfl 1 rfl (by rw [show Int32.ofInt 1 = nI 1 from by decide, nI_add]) (by decide) rfl ?_
                          refine j_goto 303 C dX6_stands_325 rfl ?_
                          subst hz
                          refine j_lv [1, 0] (lv' := [(0, .ref (ad 36)), (2, .int (nI (i303 + 1)))]) rfl ?_
                          have hz := ho303
                          exact ih303 (i303 + 1) f321 (by omega) (by omega) (by omega) hz303
                    refine j_lv [1, 0] (lv' := [(0, .ref (ad 36)), (2, .int (nI 0))]) rfl ?_
                    refine j_ct (ct' := CT K W S ns nc ad B (sA (sA σ 47 c192) 48 (σ 48))) (fun r _ => congrFun (congrArg (CT K W S ns nc ad B) (sA_idr (by rfl))) r) ?_
                    exact L303 _ 0 (σ 48) (by omega) (by omega) rfl ez303
                  · exfalso
                    have n_195 := nat_nle (a := 33) (b := i192) rfl rfl (by omega) (by omega) c_195
                    omega
                | succ n192 ih192 =>
                  intro i192 c192 hl192 hi192 hn192 hz192
                  refine j_iload_n 193 C dX6_stands_192 rfl rfl 1 rfl ?_
                  refine j_bipush 195 C (x := nI 33) dX6_stands_193 rfl (by decide) ?_
                  refine j_ic_ge 301 198 C dX6_stands_195 rfl rfl (fun c_195 => ?_) (fun c_195 => ?_)
                  · exfalso
                    have n_195 := nat_le (a := 33) (b := i192) rfl rfl (by omega) (by omega) c_195
                    omega
                  · skip
                    have n_195 := nat_nle (a := 33) (b := i192) rfl rfl (by omega) (by omega) c_195
                    obtain ⟨w192, hw192, hz192⟩ := lp_s hz192
                    have ho192 := hz
                    clear hz
                    have hz := hw192
                    clear hw192
                    unfold m_X6_stands_L192 at hz
                    refine j_iconst 199 C (x := nI 0) dX6_stands_198 rfl (by decide) ?_
                    refine j_istore_n 200 C [(3, .int (nI 0)), (0, .ref (ad 36)), (2, .int (nI i192))] dX6_stands_199 rfl rfl (by decide) rfl ?_
                    skip
                    obtain ⟨z200, ez200, hz⟩ := ap_x hz
                    have L200 : ∀ (n200 i200 : Nat) (c200 : (Nat → Int32)), 0 ≤ i200 → i200 < 5000 → n200 = 33 - i200 → lp (m_X6_stands_L200 W S ns nc B σ i192) n200 i200 c200 = z200 → J p l e rm_X6_stands s m args below meth c Q D A H0 5 0 0 N ad (CT K W S ns nc ad B (sA σ 47 c200)) 200 [(0, .ref (ad 36)), (2, .int (nI i192)), (3, .int (nI i200))] [] := by
                      intro n200
                      induction n200 with
                      | zero =>
                        intro i200 c200 hl200 hi200 hn200 hz200
                        refine j_iload_n 201 C dX6_stands_200 rfl rfl 2 rfl ?_
                        refine j_bipush 203 C (x := nI 33) dX6_stands_201 rfl (by decide) ?_
                        refine j_ic_ge 295 206 C dX6_stands_203 rfl rfl (fun c_203 => ?_) (fun c_203 => ?_)
                        · skip
                          have n_203 := nat_le (a := 33) (b := i200) rfl rfl (by omega) (by omega) c_203
                          have hq200 : c200 = z200 := hz200
                          subst hq200
                          refine j_iinc 298 C (x' := nI (i192 + 1)) [(2, .int (nI (i192 + 1))), (0, .ref (ad 36)), (3, .int (nI i200))] dX6_stands_295 rfl 1 rfl (by rw [show Int32.ofInt 1 = nI 1 from by decide, nI_add]) (by decide) rfl ?_
                          refine j_goto 192 C dX6_stands_298 rfl ?_
                          subst hz
                          refine j_lv [1, 0] (lv' := [(0, .ref (ad 36)), (2, .int (nI (i192 + 1)))]) rfl ?_
                          have hz := ho192
                          exact ih192 (i192 + 1) c200 (by omega) (by omega) (by omega) hz192
                        · exfalso
                          have n_203 := nat_nle (a := 33) (b := i200) rfl rfl (by omega) (by omega) c_203
                          omega
                      | succ n200 ih200 =>
                        intro i200 c200 hl200 hi200 hn200 hz200
                        refine j_iload_n 201 C dX6_stands_200 rfl rfl 2 rfl ?_
                        refine j_bipush 203 C (x := nI 33) dX6_stands_201 rfl (by decide) ?_
                        refine j_ic_ge 295 206 C dX6_stands_203 rfl rfl (fun c_203 => ?_) (fun c_203 => ?_)
                        · exfalso
                          have n_203 := nat_le (a := 33) (b := i200) rfl rfl (by omega) (by omega) c_203
                          omega
                        · skip
                          have n_203 := nat_nle (a := 33) (b := i200) rfl rfl (by omega) (by omega) c_203
                          obtain ⟨w200, hw200, hz200⟩ := lp_s hz200
                          have ho200 := hz
                          clear hz
                          have hz := hw200
                          clear hw200
                          unfold m_X6_stands_L200 at hz
                          refine j_aload_n 207 C dX6_stands_206 rfl rfl 0 rfl ?_
                          refine k_get 210 C fl_X6_41 dX6_stands_207 rfl 36 (GH_r hG (by decide)) (σ 36) (by rfl) (CE_36 _) (.ref (ad 47)) rfl ?_
                          refine j_bipush 212 C (x := nI 33) dX6_stands_210 rfl (by decide) ?_
                          refine j_iload_n 213 C dX6_stands_212 rfl rfl 2 rfl ?_
                          refine j_imul 214 C dX6_stands_213 rfl rfl ?_
                          refine j_iload_n 215 C dX6_stands_214 rfl rfl 1 rfl ?_
                          refine j_iadd 216 C dX6_stands_215 rfl rfl ?_
                          refine k_iald 217 C dX6_stands_216 rfl 47 (GH_r hG (by decide)) c200 rfl CE_47 (vp_inE (n := ((33 * i200) + i192)) (by simp only [nI_add, pk_mul]) (by omega) (by omega)) ?_
                          refine j_ldc 219 C (x' := nI 50000) wv_X6_89 dX6_stands_217 rfl (by decide) ?_
                          refine j_ic_lt 225 222 C dX6_stands_219 rfl rfl (fun c_219 => ?_) (fun c_219 => ?_)
                          · replace hz := (if_pos c_219).symm.trans hz
                            refine j_iconst 226 C (x := nI 0) dX6_stands_225 rfl (by decide) ?_
                            refine j_istore 228 C [(4, .int (nI 0)), (0, .ref (ad 36)), (2, .int (nI i192)), (3, .int (nI i200))] dX6_stands_226 rfl (by decide) rfl ?_
                            skip
                            obtain ⟨z228, ez228, hz⟩ := ap_x hz
                            have L228 : ∀ (n228 i228 : Nat) (c228 : (Nat → Int32)), 0 ≤ i228 → i228 < 5000 → n228 = 33 - i228 → lp (m_X6_stands_L228 W S ns nc B σ i192 i200) n228 i228 c228 = z228 → J p l e rm_X6_stands s m args below meth c Q D A H0 5 0 0 N ad (CT K W S ns nc ad B (sA σ 47 c228)) 228 [(0, .ref (ad 36)), (2, .int (nI i192)), (3, .int (nI i200)), (4, .int (nI i228))] [] := by
                              intro n228
                              induction n228 with
                              | zero =>
                                intro i228 c228 hl228 hi228 hn228 hz228
                                refine j_iload 230 C dX6_stands_228 rfl 3 rfl ?_
                                refine j_bipush 232 C (x := nI 33) dX6_stands_230 rfl (by decide) ?_
                                refine j_ic_ge 289 235 C dX6_stands_232 rfl rfl (fun c_232 => ?_) (fun c_232 => ?_)
                                · skip
                                  have n_232 := nat_le (a := 33) (b := i228) rfl rfl (by omega) (by omega) c_232
                                  have hq228 : c228 = z228 := hz228
                                  subst hq228
                                  refine j_iinc 292 C (x' := nI (i200 + 1)) [(3, .int (nI (i200 + 1))), (0, .ref (ad 36)), (2, .int (nI i192)), (4, .int (nI i228))] dX6_stands_289 rfl 2 rfl (by rw [show Int32.ofInt 1 = nI 1 from by decide, nI_add]) (by decide) rfl ?_
                                  refine j_goto 200 C dX6_stands_292 rfl ?_
                                  subst hz
                                  refine j_lv [1, 2, 0] (lv' := [(0, .ref (ad 36)), (2, .int (nI i192)), (3, .int (nI (i200 + 1)))]) rfl ?_
                                  have hz := ho200
                                  exact ih200 (i200 + 1) c228 (by omega) (by omega) (by omega) hz200
                                · exfalso
                                  have n_232 := nat_nle (a := 33) (b := i228) rfl rfl (by omega) (by omega) c_232
                                  omega
                              | succ n228 ih228 =>
                                intro i228 c228 hl228 hi228 hn228 hz228
                                refine j_iload 230 C dX6_stands_228 rfl 3 rfl ?_
                                refine j_bipush 232 C (x := nI 33) dX6_stands_230 rfl (by decide) ?_
                                refine j_ic_ge 289 235 C dX6_stands_232 rfl rfl (fun c_232 => ?_) (fun c_232 => ?_)
                                · exfalso
                                  have n_232 := nat_le (a := 33) (b := i228) rfl rfl (by omega) (by omega) c_232
                                  omega
                                · skip
                                  have n_232 := nat_nle (a := 33) (b := i228) rfl rfl (by omega) (by omega) c_232
                                  obtain ⟨w228, hw228, hz228⟩ := lp_s hz228
                                  have ho228 := hz
                                  clear hz
                                  have hz := hw228
                                  clear hw228
                                  unfold m_X6_stands_L228 at hz
                                  refine j_aload_n 236 C dX6_stands_235 rfl rfl 0 rfl ?_
                                  refine k_get 239 C fl_X6_41 dX6_stands_236 rfl 36 (GH_r hG (by decide)) (σ 36) (by rfl) (CE_36 _) (.ref (ad 47)) rfl ?_
                                  refine j_bipush 241 C (x := nI 33) dX6_stands_239 rfl (by decide) ?_
                                  refine j_iload_n 242 C dX6_stands_241 rfl rfl 1 rfl ?_
                                  refine j_imul 243 C dX6_stands_242 rfl rfl ?_
                                  refine j_iload 245 C dX6_stands_243 rfl 3 rfl ?_
                                  refine j_iadd 246 C dX6_stands_245 rfl rfl ?_
                                  refine k_iald 247 C dX6_stands_246 rfl 47 (GH_r hG (by decide)) c228 rfl CE_47 (vp_inE (n := ((33 * i192) + i228)) (by simp only [nI_add, pk_mul]) (by omega) (by omega)) ?_
                                  refine j_ldc 249 C (x' := nI 50000) wv_X6_89 dX6_stands_247 rfl (by decide) ?_
                                  refine j_ic_ge 283 252 C dX6_stands_249 rfl rfl (fun c_249 => ?_) (fun c_249 => ?_)
                                  · replace hz := (if_pos c_249).symm.trans hz
                                    refine j_iinc 286 C (x' := nI (i228 + 1)) [(4, .int (nI (i228 + 1))), (0, .ref (ad 36)), (2, .int (nI i192)), (3, .int (nI i200))] dX6_stands_283 rfl 3 rfl (by rw [show Int32.ofInt 1 = nI 1 from by decide, nI_add]) (by decide) rfl ?_
                                    refine j_goto 228 C dX6_stands_286 rfl ?_
                                    subst hz
                                    refine j_lv [1, 2, 3, 0] (lv' := [(0, .ref (ad 36)), (2, .int (nI i192)), (3, .int (nI i200)), (4, .int (nI (i228 + 1)))]) rfl ?_
                                    have hz := ho228
                                    exact ih228 (i228 + 1) c228 (by omega) (by omega) (by omega) hz228
                                  · replace hz := (if_neg c_249).symm.trans hz
                                    refine j_aload_n 253 C dX6_stands_252 rfl rfl 0 rfl ?_
                                    refine j_iload_n 254 C dX6_stands_253 rfl rfl 2 rfl ?_
                                    refine j_iload 256 C dX6_stands_254 rfl 3 rfl ?_
                                    refine j_aload_n 257 C dX6_stands_256 rfl rfl 0 rfl ?_
                                    refine k_get 260 C fl_X6_41 dX6_stands_257 rfl 36 (GH_r hG (by decide)) (σ 36) (by rfl) (CE_36 _) (.ref (ad 47)) rfl ?_
                                    refine j_bipush 262 C (x := nI 33) dX6_stands_260 rfl (by decide) ?_
                                    refine j_iload_n 263 C dX6_stands_262 rfl rfl 2 rfl ?_
                                    refine j_imul 264 C dX6_stands_263 rfl rfl ?_
                                    refine j_iload_n 265 C dX6_stands_264 rfl rfl 1 rfl ?_
                                    refine j_iadd 266 C dX6_stands_265 rfl rfl ?_
                                    refine k_iald 267 C dX6_stands_266 rfl 47 (GH_r hG (by decide)) c228 rfl CE_47 (vp_inE (n := ((33 * i200) + i192)) (by simp only [nI_add, pk_mul]) (by omega) (by omega)) ?_
                                    refine j_aload_n 268 C dX6_stands_267 rfl rfl 0 rfl ?_
                                    refine k_get 271 C fl_X6_41 dX6_stands_268 rfl 36 (GH_r hG (by decide)) (σ 36) (by rfl) (CE_36 _) (.ref (ad 47)) rfl ?_
                                    refine j_bipush 273 C (x := nI 33) dX6_stands_271 rfl (by decide) ?_
                                    refine j_iload_n 274 C dX6_stands_273 rfl rfl 1 rfl ?_
                                    refine j_imul 275 C dX6_stands_274 rfl rfl ?_
                                    refine j_iload 277 C dX6_stands_275 rfl 3 rfl ?_
                                    refine j_iadd 278 C dX6_stands_277 rfl rfl ?_
                                    refine k_iald 279 C dX6_stands_278 rfl 47 (GH_r hG (by decide)) c228 rfl CE_47 (vp_inE (n := ((33 * i192) + i228)) (by simp only [nI_add, pk_mul]) (by omega) (by omega)) ?_
                                    refine j_iadd 280 C dX6_stands_279 rfl rfl ?_
                                    obtain ⟨y280, e280, hz⟩ := ap_x hz
                                    refine s_V 283 C (As := [.int (nI i200), .int (nI i228), .int ((c228 (((nI 33) * (nI i200)) + (nI i192)).toNatClampNeg) + (c228 (((nI 33) * (nI i192)) + (nI i228)).toNatClampNeg))]) cv_X6_76 (c_X6_bounds (l := l) (D := D) (K := K) (ad := ad) hG (a_one := i200) (e_one := rfl) (h_one := by omega) (a_other := i228) (e_other := rfl) (h_other := by omega) (hz := e280)) dX6_stands_280 rfl 36 6 (GH_r hG (by decide)) rfl (CE_36 _) rfl rfl rfl rfl rfl rfl ⟨⟨Nat.le_of_ble_eq_true rfl, Nat.le_of_ble_eq_true rfl⟩, Nat.zero_le _, Nat.zero_le _⟩ (Nat.le_of_ble_eq_true rfl) (st' := []) rfl (fun hE => ?_)
                                    refine j_ct (ct' := CT K W S ns nc ad B (sA σ 47 y280)) (fun r _ => congrFun (congrArg (CT K W S ns nc ad B) sA_top) r) ?_
                                    refine j_iinc 286 C (x' := nI (i228 + 1)) [(4, .int (nI (i228 + 1))), (0, .ref (ad 36)), (2, .int (nI i192)), (3, .int (nI i200))] dX6_stands_283 rfl 3 rfl (by rw [show Int32.ofInt 1 = nI 1 from by decide, nI_add]) (by decide) rfl ?_
                                    refine j_goto 228 C dX6_stands_286 rfl ?_
                                    subst hz
                                    refine j_lv [1, 2, 3, 0] (lv' := [(0, .ref (ad 36)), (2, .int (nI i192)), (3, .int (nI i200)), (4, .int (nI (i228 + 1)))]) rfl ?_
                                    have hz := ho228
                                    exact ih228 (i228 + 1) y280 (by omega) (by omega) (by omega) hz228
                            refine j_lv [1, 2, 3, 0] (lv' := [(0, .ref (ad 36)), (2, .int (nI i192)), (3, .int (nI i200)), (4, .int (nI 0))]) rfl ?_
                            exact L228 _ 0 c200 (by omega) (by omega) rfl ez228
                          · replace hz := (if_neg c_219).symm.trans hz
                            refine j_goto 289 C dX6_stands_222 rfl ?_
                            refine j_iinc 292 C (x' := nI (i200 + 1)) [(3, .int (nI (i200 + 1))), (0, .ref (ad 36)), (2, .int (nI i192))] dX6_stands_289 rfl 2 rfl (by rw [show Int32.ofInt 1 = nI 1 from by decide, nI_add]) (by decide) rfl ?_
                            refine j_goto 200 C dX6_stands_292 rfl ?_
                            subst hz
                            refine j_lv [1, 2, 0] (lv' := [(0, .ref (ad 36)), (2, .int (nI i192)), (3, .int (nI (i200 + 1)))]) rfl ?_
                            have hz := ho200
                            exact ih200 (i200 + 1) c200 (by omega) (by omega) (by omega) hz200
                    refine j_lv [1, 2, 0] (lv' := [(0, .ref (ad 36)), (2, .int (nI i192)), (3, .int (nI 0))]) rfl ?_
                    exact L200 _ 0 c192 (by omega) (by omega) rfl ez200
              refine j_lv [1, 0] (lv' := [(0, .ref (ad 36)), (2, .int (nI 0))]) rfl ?_
              exact L192 _ 0 c39 (by omega) (by omega) rfl ez192
            · exfalso
              have n_44 := nat_nle (a := S) (b := i39) rfl rfl (by omega) (by omega) c_44
              omega
          | succ n39 ih39 =>
            intro i39 c39 hl39 hi39 hn39 hz39
            refine j_iload_n 40 C dX6_stands_39 rfl rfl 2 rfl ?_
            refine j_aload_n 41 C dX6_stands_40 rfl rfl 0 rfl ?_
            refine k_get 44 C fl_X6_54 dX6_stands_41 rfl 36 (GH_r hG (by decide)) (σ 36) (by rfl) (CE_36 _) (.int (nI S)) rfl ?_
            refine j_ic_ge 190 47 C dX6_stands_44 rfl rfl (fun c_44 => ?_) (fun c_44 => ?_)
            · exfalso
              have n_44 := nat_le (a := S) (b := i39) rfl rfl (by omega) (by omega) c_44
              omega
            · skip
              have n_44 := nat_nle (a := S) (b := i39) rfl rfl (by omega) (by omega) c_44
              obtain ⟨w39, hw39, hz39⟩ := lp_s hz39
              have ho39 := hz
              clear hz
              have hz := hw39
              clear hw39
              unfold m_X6_stands_L39 at hz
              refine j_iconst 48 C (x := nI 0) dX6_stands_47 rfl (by decide) ?_
              refine j_istore_n 49 C [(3, .int (nI 0)), (0, .ref (ad 36)), (1, .int (nI 32)), (2, .int (nI i39))] dX6_stands_48 rfl rfl (by decide) rfl ?_
              skip
              obtain ⟨z49, ez49, hz⟩ := ap_x hz
              have L49 : ∀ (n49 i49 : Nat) (c49 : (Nat → Int32)), 0 ≤ i49 → i49 < 5000 → n49 = W - i49 → lp (m_X6_stands_L49 W S ns nc B σ i39) n49 i49 c49 = z49 → J p l e rm_X6_stands s m args below meth c Q D A H0 5 0 0 N ad (CT K W S ns nc ad B (sA σ 47 c49)) 49 [(0, .ref (ad 36)), (1, .int (nI 32)), (2, .int (nI i39)), (3, .int (nI i49))] [] := by
                intro n49
                induction n49 with
                | zero =>
                  intro i49 c49 hl49 hi49 hn49 hz49
                  refine j_iload_n 50 C dX6_stands_49 rfl rfl 3 rfl ?_
                  refine j_aload_n 51 C dX6_stands_50 rfl rfl 0 rfl ?_
                  refine k_get 54 C fl_X6_50 dX6_stands_51 rfl 36 (GH_r hG (by decide)) (σ 36) (by rfl) (CE_36 _) (.int (nI W)) rfl ?_
                  refine j_ic_ge 184 57 C dX6_stands_54 rfl rfl (fun c_54 => ?_) (fun c_54 => ?_)
                  · skip
                    have n_54 := nat_le (a := W) (b := i49) rfl rfl (by omega) (by omega) c_54
                    have hq49 : c49 = z49 := hz49
                    subst hq49
                    refine j_iinc 187 C (x' := nI (i39 + 1)) [(2, .int (nI (i39 + 1))), (0, .ref (ad 36)), (1, .int (nI 32)), (3, .int (nI i49))] dX6_stands_184 rfl 2 rfl (by rw [show Int32.ofInt 1 = nI 1 from by decide, nI_add]) (by decide) rfl ?_
                    refine j_goto 39 C dX6_stands_187 rfl ?_
                    subst hz
                    refine j_lv [1, 2, 0] (lv' := [(0, .ref (ad 36)), (1, .int (nI 32)), (2, .int (nI (i39 + 1)))]) rfl ?_
                    have hz := ho39
                    exact ih39 (i39 + 1) c49 (by omega) (by omega) (by omega) hz39
                  · exfalso
                    have n_54 := nat_nle (a := W) (b := i49) rfl rfl (by omega) (by omega) c_54
                    omega
                | succ n49 ih49 =>
                  intro i49 c49 hl49 hi49 hn49 hz49
                  refine j_iload_n 50 C dX6_stands_49 rfl rfl 3 rfl ?_
                  refine j_aload_n 51 C dX6_stands_50 rfl rfl 0 rfl ?_
                  refine k_get 54 C fl_X6_50 dX6_stands_51 rfl 36 (GH_r hG (by decide)) (σ 36) (by rfl) (CE_36 _) (.int (nI W)) rfl ?_
                  refine j_ic_ge 184 57 C dX6_stands_54 rfl rfl (fun c_54 => ?_) (fun c_54 => ?_)
                  · exfalso
                    have n_54 := nat_le (a := W) (b := i49) rfl rfl (by omega) (by omega) c_54
                    omega
                  · skip
                    have n_54 := nat_nle (a := W) (b := i49) rfl rfl (by omega) (by omega) c_54
                    obtain ⟨w49, hw49, hz49⟩ := lp_s hz49
                    have ho49 := hz
                    clear hz
                    have hz := hw49
                    clear hw49
                    unfold m_X6_stands_L49 at hz
                    refine j_iload_n 58 C dX6_stands_57 rfl rfl 2 rfl ?_
                    refine j_iload_n 59 C dX6_stands_58 rfl rfl 3 rfl ?_
                    obtain ⟨y59, e59, hz⟩ := ap_x hz
                    refine s_S 62 C (As := [.int (nI i39), .int (nI i49)]) cs_X6_81 (c_X6_node (l := l) (D := D) (K := K) (ad := ad) hG  (hz := e59)) dX6_stands_59 rfl rfl rfl rfl rfl ⟨⟨Nat.le_of_ble_eq_true rfl, Nat.le_of_ble_eq_true rfl⟩, Nat.zero_le _, Nat.zero_le _⟩ (Nat.le_of_ble_eq_true rfl) (st' := [.int y59]) rfl (fun hE => ?_)
                    have ey59 : y59 = nI ((8 * i39) + i49) := by rw [← e59]; exact m_X6_node_n rfl rfl
                    refine j_istore 64 C [(4, .int y59), (0, .ref (ad 36)), (1, .int (nI 32)), (2, .int (nI i39)), (3, .int (nI i49))] dX6_stands_62 rfl (by decide) rfl ?_
                    refine j_aload_n 65 C dX6_stands_64 rfl rfl 1 rfl ?_
                    refine j_iload_n 66 C dX6_stands_65 rfl rfl 2 rfl ?_
                    refine j_iload 68 C dX6_stands_66 rfl 0 rfl ?_
                    refine j_bipush 70 C (x := nI 60) dX6_stands_68 rfl (by decide) ?_
                    obtain ⟨y70, e70, hz⟩ := ap_x hz
                    refine s_V 73 C (As := [.int (nI 32), .int y59, .int (nI 60)]) cv_X6_76 (c_X6_bounds (l := l) (D := D) (K := K) (ad := ad) hG (a_one := 32) (e_one := rfl) (h_one := by omega) (a_other := ((8 * i39) + i49)) (e_other := (by simp only [ey59, nI_add, pk_mul])) (h_other := by omega) (hz := e70)) dX6_stands_70 rfl 36 6 (GH_r hG (by decide)) rfl (CE_36 _) rfl rfl rfl rfl rfl rfl ⟨⟨Nat.le_of_ble_eq_true rfl, Nat.le_of_ble_eq_true rfl⟩, Nat.zero_le _, Nat.zero_le _⟩ (Nat.le_of_ble_eq_true rfl) (st' := []) rfl (fun hE => ?_)
                    refine j_ct (ct' := CT K W S ns nc ad B (sA σ 47 y70)) (fun r _ => congrFun (congrArg (CT K W S ns nc ad B) sA_top) r) ?_
                    refine j_aload_n 74 C dX6_stands_73 rfl rfl 1 rfl ?_
                    refine j_iload 76 C dX6_stands_74 rfl 0 rfl ?_
                    refine j_iload_n 77 C dX6_stands_76 rfl rfl 2 rfl ?_
                    refine j_iconst 78 C (x := nI 0) dX6_stands_77 rfl (by decide) ?_
                    obtain ⟨y78, e78, hz⟩ := ap_x hz
                    refine s_V 81 C (As := [.int y59, .int (nI 32), .int (nI 0)]) cv_X6_76 (c_X6_bounds (l := l) (D := D) (K := K) (ad := ad) hG (a_one := ((8 * i39) + i49)) (e_one := (by simp only [ey59, nI_add, pk_mul])) (h_one := by omega) (a_other := 32) (e_other := rfl) (h_other := by omega) (hz := e78)) dX6_stands_78 rfl 36 6 (GH_r hG (by decide)) rfl (CE_36 _) rfl rfl rfl rfl rfl rfl ⟨⟨Nat.le_of_ble_eq_true rfl, Nat.le_of_ble_eq_true rfl⟩, Nat.zero_le _, Nat.zero_le _⟩ (Nat.le_of_ble_eq_true rfl) (st' := []) rfl (fun hE => ?_)
                    refine j_ct (ct' := CT K W S ns nc ad B (sA σ 47 y78)) (fun r _ => congrFun (congrArg (CT K W S ns nc ad B) sA_top) r) ?_
                    refine j_iload_n 82 C dX6_stands_81 rfl rfl 3 rfl ?_
                    refine j_iconst 83 C (x := nI 1) dX6_stands_82 rfl (by decide) ?_
                    refine j_iadd 84 C dX6_stands_83 rfl rfl ?_
                    refine j_aload_n 85 C dX6_stands_84 rfl rfl 1 rfl ?_
                    refine k_get 88 C fl_X6_54 dX6_stands_85 rfl 36 (GH_r hG (by decide)) (σ 36) (by rfl) (CE_36 _) (.int (nI S)) rfl ?_
                    refine j_ic_ge 130 91 C dX6_stands_88 rfl rfl (fun c_88 => ?_) (fun c_88 => ?_)
                    · replace hz := (if_pos c_88).symm.trans hz
                      have n_88 := nat_le (a := S) (b := (i39 + 1)) rfl (by simp only [ey59, nI_add, pk_mul]) (by omega) (by omega) c_88
                      refine j_iload_n 131 C dX6_stands_130 rfl rfl 4 rfl ?_
                      refine j_iconst 132 C (x := nI 1) dX6_stands_131 rfl (by decide) ?_
                      refine j_iadd 133 C dX6_stands_132 rfl rfl ?_
                      refine j_aload_n 134 C dX6_stands_133 rfl rfl 1 rfl ?_
                      refine k_get 137 C fl_X6_50 dX6_stands_134 rfl 36 (GH_r hG (by decide)) (σ 36) (by rfl) (CE_36 _) (.int (nI W)) rfl ?_
                      refine j_ic_ge 178 140 C dX6_stands_137 rfl rfl (fun c_137 => ?_) (fun c_137 => ?_)
                      · replace hz := (if_pos c_137).symm.trans hz
                        have n_137 := nat_le (a := W) (b := (i49 + 1)) rfl (by simp only [ey59, nI_add, pk_mul]) (by omega) (by omega) c_137
                        refine j_iinc 181 C (x' := nI (i49 + 1)) [(3, .int (nI (i49 + 1))), (4, .int y59), (0, .ref (ad 36)), (1, .int (nI 32)), (2, .int (nI i39))] dX6_stands_178 rfl 4 rfl (by rw [show Int32.ofInt 1 = nI 1 from by decide, nI_add]) (by decide) rfl ?_
                        refine j_goto 49 C dX6_stands_181 rfl ?_
                        subst hz
                        refine j_lv [2, 3, 4, 0] (lv' := [(0, .ref (ad 36)), (1, .int (nI 32)), (2, .int (nI i39)), (3, .int (nI (i49 + 1)))]) rfl ?_
                        have hz := ho49
                        exact ih49 (i49 + 1) y78 (by omega) (by omega) (by omega) hz49
                      · replace hz := (if_neg c_137).symm.trans hz
                        have n_137 := nat_nle (a := W) (b := (i49 + 1)) rfl (by simp only [ey59, nI_add, pk_mul]) (by omega) (by omega) c_137
                        refine j_aload_n 141 C dX6_stands_140 rfl rfl 1 rfl ?_
                        refine j_iload 143 C dX6_stands_141 rfl 0 rfl ?_
                        refine j_iload_n 144 C dX6_stands_143 rfl rfl 3 rfl ?_
                        refine j_iload_n 145 C dX6_stands_144 rfl rfl 4 rfl ?_
                        refine j_iconst 146 C (x := nI 1) dX6_stands_145 rfl (by decide) ?_
                        refine j_iadd 147 C dX6_stands_146 rfl rfl ?_
                        obtain ⟨y147, e147, hz⟩ := ap_x hz
                        refine s_S 150 C (As := [.int (nI i39), .int ((nI i49) + (nI 1))]) cs_X6_81 (c_X6_node (l := l) (D := D) (K := K) (ad := ad) hG  (hz := e147)) dX6_stands_147 rfl rfl rfl rfl rfl ⟨⟨Nat.le_of_ble_eq_true rfl, Nat.le_of_ble_eq_true rfl⟩, Nat.zero_le _, Nat.zero_le _⟩ (Nat.le_of_ble_eq_true rfl) (st' := [.int y147, .int y59, .ref (ad 36)]) rfl (fun hE => ?_)
                        have ey147 : y147 = nI ((8 * i39) + (i49 + 1)) := by rw [← e147]; exact m_X6_node_n rfl (by simp only [ey59, nI_add, pk_mul])
                        refine j_aload_n 151 C dX6_stands_150 rfl rfl 1 rfl ?_
                        refine k_get 154 C fl_X6_19 dX6_stands_151 rfl 36 (GH_r hG (by decide)) (σ 36) (by rfl) (CE_36 _) (.ref (ad 40)) rfl ?_
                        refine j_iload_n 155 C dX6_stands_154 rfl rfl 4 rfl ?_
                        refine k_zald 156 C dX6_stands_155 rfl 40 (GH_r hG (by decide)) (σ 40) (by rfl) CE_40 (vp_inE (n := i49) rfl (by omega) (by omega)) ?_
                        refine j_if_eq 168 159 C dX6_stands_156 rfl rfl (fun c_156 => ?_) (fun c_156 => ?_)
                        · replace hz := (if_pos c_156).symm.trans hz
                          refine j_iconst 169 C (x := nI 0) dX6_stands_168 rfl (by decide) ?_
                          refine j_aload_n 170 C dX6_stands_169 rfl rfl 1 rfl ?_
                          refine k_get 173 C fl_X6_16 dX6_stands_170 rfl 36 (GH_r hG (by decide)) (σ 36) (by rfl) (CE_36 _) (.ref (ad 39)) rfl ?_
                          refine j_iload_n 174 C dX6_stands_173 rfl rfl 3 rfl ?_
                          refine k_iald 175 C dX6_stands_174 rfl 39 (GH_r hG (by decide)) (σ 39) (by rfl) CE_39 (vp_inE (n := i39) rfl (by omega) (by omega)) ?_
                          obtain ⟨y175, e175, hz⟩ := ap_x hz
                          refine s_V 178 C (As := [.int y59, .int y147, .int (nI 0), .int ((σ 39) (nI i39).toNatClampNeg)]) cv_X6_85 (c_X6_within (l := l) (D := D) (K := K) (ad := ad) hG (a_one := ((8 * i39) + i49)) (e_one := (by simp only [ey59, ey147, nI_add, pk_mul])) (h_one := by omega) (a_other := ((8 * i39) + (i49 + 1))) (e_other := (by simp only [ey59, ey147, nI_add, pk_mul])) (h_other := by omega) (hz := e175)) dX6_stands_175 rfl 36 6 (GH_r hG (by decide)) rfl (CE_36 _) rfl rfl rfl rfl rfl rfl ⟨⟨Nat.le_of_ble_eq_true rfl, Nat.le_of_ble_eq_true rfl⟩, Nat.zero_le _, Nat.zero_le _⟩ (Nat.le_of_ble_eq_true rfl) (st' := []) rfl (fun hE => ?_)
                          refine j_ct (ct' := CT K W S ns nc ad B (sA σ 47 y175)) (fun r _ => congrFun (congrArg (CT K W S ns nc ad B) sA_top) r) ?_
                          refine j_iinc 181 C (x' := nI (i49 + 1)) [(3, .int (nI (i49 + 1))), (4, .int y59), (0, .ref (ad 36)), (1, .int (nI 32)), (2, .int (nI i39))] dX6_stands_178 rfl 4 rfl (by rw [show Int32.ofInt 1 = nI 1 from by decide, nI_add]) (by decide) rfl ?_
                          refine j_goto 49 C dX6_stands_181 rfl ?_
                          subst hz
                          refine j_lv [2, 3, 4, 0] (lv' := [(0, .ref (ad 36)), (1, .int (nI 32)), (2, .int (nI i39)), (3, .int (nI (i49 + 1)))]) rfl ?_
                          have hz := ho49
                          exact ih49 (i49 + 1) y175 (by omega) (by omega) (by omega) hz49
                        · replace hz := (if_neg c_156).symm.trans hz
                          refine j_aload_n 160 C dX6_stands_159 rfl rfl 1 rfl ?_
                          refine k_get 163 C fl_X6_23 dX6_stands_160 rfl 36 (GH_r hG (by decide)) (σ 36) (by rfl) (CE_36 _) (.ref (ad 41)) rfl ?_
                          refine j_iload_n 164 C dX6_stands_163 rfl rfl 4 rfl ?_
                          refine k_iald 165 C dX6_stands_164 rfl 41 (GH_r hG (by decide)) (σ 41) (by rfl) CE_41 (vp_inE (n := i49) rfl (by omega) (by omega)) ?_
                          refine j_goto 169 C dX6_stands_165 rfl ?_
                          refine j_aload_n 170 C dX6_stands_169 rfl rfl 1 rfl ?_
                          refine k_get 173 C fl_X6_16 dX6_stands_170 rfl 36 (GH_r hG (by decide)) (σ 36) (by rfl) (CE_36 _) (.ref (ad 39)) rfl ?_
                          refine j_iload_n 174 C dX6_stands_173 rfl rfl 3 rfl ?_
                          refine k_iald 175 C dX6_stands_174 rfl 39 (GH_r hG (by decide)) (σ 39) (by rfl) CE_39 (vp_inE (n := i39) rfl (by omega) (by omega)) ?_
                          obtain ⟨y175, e175, hz⟩ := ap_x hz
                          refine s_V 178 C (As := [.int y59, .int y147, .int ((σ 41) (nI i49).toNatClampNeg), .int ((σ 39) (nI i39).toNatClampNeg)]) cv_X6_85 (c_X6_within (l := l) (D := D) (K := K) (ad := ad) hG (a_one := ((8 * i39) + i49)) (e_one := (by simp only [ey59, ey147, nI_add, pk_mul])) (h_one := by omega) (a_other := ((8 * i39) + (i49 + 1))) (e_other := (by simp only [ey59, ey147, nI_add, pk_mul])) (h_other := by omega) (hz := e175)) dX6_stands_175 rfl 36 6 (GH_r hG (by decide)) rfl (CE_36 _) rfl rfl rfl rfl rfl rfl ⟨⟨Nat.le_of_ble_eq_true rfl, Nat.le_of_ble_eq_true rfl⟩, Nat.zero_le _, Nat.zero_le _⟩ (Nat.le_of_ble_eq_true rfl) (st' := []) rfl (fun hE => ?_)
                          refine j_ct (ct' := CT K W S ns nc ad B (sA σ 47 y175)) (fun r _ => congrFun (congrArg (CT K W S ns nc ad B) sA_top) r) ?_
                          refine j_iinc 181 C (x' := nI (i49 + 1)) [(3, .int (nI (i49 + 1))), (4, .int y59), (0, .ref (ad 36)), (1, .int (nI 32)), (2, .int (nI i39))] dX6_stands_178 rfl 4 rfl (by rw [show Int32.ofInt 1 = nI 1 from by decide, nI_add]) (by decide) rfl ?_
                          refine j_goto 49 C dX6_stands_181 rfl ?_
                          subst hz
                          refine j_lv [2, 3, 4, 0] (lv' := [(0, .ref (ad 36)), (1, .int (nI 32)), (2, .int (nI i39)), (3, .int (nI (i49 + 1)))]) rfl ?_
                          have hz := ho49
                          exact ih49 (i49 + 1) y175 (by omega) (by omega) (by omega) hz49
                    · replace hz := (if_neg c_88).symm.trans hz
                      have n_88 := nat_nle (a := S) (b := (i39 + 1)) rfl (by simp only [ey59, nI_add, pk_mul]) (by omega) (by omega) c_88
                      refine j_aload_n 92 C dX6_stands_91 rfl rfl 1 rfl ?_
                      refine j_iload 94 C dX6_stands_92 rfl 0 rfl ?_
                      refine j_iload_n 95 C dX6_stands_94 rfl rfl 3 rfl ?_
                      refine j_iconst 96 C (x := nI 1) dX6_stands_95 rfl (by decide) ?_
                      refine j_iadd 97 C dX6_stands_96 rfl rfl ?_
                      refine j_iload_n 98 C dX6_stands_97 rfl rfl 4 rfl ?_
                      obtain ⟨y98, e98, hz⟩ := ap_x hz
                      refine s_S 101 C (As := [.int ((nI i39) + (nI 1)), .int (nI i49)]) cs_X6_81 (c_X6_node (l := l) (D := D) (K := K) (ad := ad) hG  (hz := e98)) dX6_stands_98 rfl rfl rfl rfl rfl ⟨⟨Nat.le_of_ble_eq_true rfl, Nat.le_of_ble_eq_true rfl⟩, Nat.zero_le _, Nat.zero_le _⟩ (Nat.le_of_ble_eq_true rfl) (st' := [.int y98, .int y59, .ref (ad 36)]) rfl (fun hE => ?_)
                      have ey98 : y98 = nI ((8 * (i39 + 1)) + i49) := by rw [← e98]; exact m_X6_node_n (by simp only [ey59, nI_add, pk_mul]) rfl
                      refine j_aload_n 102 C dX6_stands_101 rfl rfl 1 rfl ?_
                      refine k_get 105 C fl_X6_13 dX6_stands_102 rfl 36 (GH_r hG (by decide)) (σ 36) (by rfl) (CE_36 _) (.ref (ad 38)) rfl ?_
                      refine j_iload_n 106 C dX6_stands_105 rfl rfl 3 rfl ?_
                      refine k_iald 107 C dX6_stands_106 rfl 38 (GH_r hG (by decide)) (σ 38) (by rfl) CE_38 (vp_inE (n := i39) rfl (by omega) (by omega)) ?_
                      obtain ⟨y107, e107, hz⟩ := ap_x hz
                      refine s_V 110 C (As := [.int y59, .int y98, .int ((σ 38) (nI i39).toNatClampNeg)]) cv_X6_76 (c_X6_bounds (l := l) (D := D) (K := K) (ad := ad) hG (a_one := ((8 * i39) + i49)) (e_one := (by simp only [ey59, ey98, nI_add, pk_mul])) (h_one := by omega) (a_other := ((8 * (i39 + 1)) + i49)) (e_other := (by simp only [ey59, ey98, nI_add, pk_mul])) (h_other := by omega) (hz := e107)) dX6_stands_107 rfl 36 6 (GH_r hG (by decide)) rfl (CE_36 _) rfl rfl rfl rfl rfl rfl ⟨⟨Nat.le_of_ble_eq_true rfl, Nat.le_of_ble_eq_true rfl⟩, Nat.zero_le _, Nat.zero_le _⟩ (Nat.le_of_ble_eq_true rfl) (st' := []) rfl (fun hE => ?_)
                      refine j_ct (ct' := CT K W S ns nc ad B (sA σ 47 y107)) (fun r _ => congrFun (congrArg (CT K W S ns nc ad B) sA_top) r) ?_
                      refine j_aload_n 111 C dX6_stands_110 rfl rfl 1 rfl ?_
                      refine j_iload_n 112 C dX6_stands_111 rfl rfl 3 rfl ?_
                      refine j_iconst 113 C (x := nI 1) dX6_stands_112 rfl (by decide) ?_
                      refine j_iadd 114 C dX6_stands_113 rfl rfl ?_
                      refine j_iload_n 115 C dX6_stands_114 rfl rfl 4 rfl ?_
                      obtain ⟨y115, e115, hz⟩ := ap_x hz
                      refine s_S 118 C (As := [.int ((nI i39) + (nI 1)), .int (nI i49)]) cs_X6_81 (c_X6_node (l := l) (D := D) (K := K) (ad := ad) hG  (hz := e115)) dX6_stands_115 rfl rfl rfl rfl rfl ⟨⟨Nat.le_of_ble_eq_true rfl, Nat.le_of_ble_eq_true rfl⟩, Nat.zero_le _, Nat.zero_le _⟩ (Nat.le_of_ble_eq_true rfl) (st' := [.int y115, .ref (ad 36)]) rfl (fun hE => ?_)
                      have ey115 : y115 = nI ((8 * (i39 + 1)) + i49) := by rw [← e115]; exact m_X6_node_n (by simp only [ey59, ey98, nI_add, pk_mul]) rfl
                      refine j_iload 120 C dX6_stands_118 rfl 0 rfl ?_
                      refine j_aload_n 121 C dX6_stands_120 rfl rfl 1 rfl ?_
                      refine k_get 124 C fl_X6_9 dX6_stands_121 rfl 36 (GH_r hG (by decide)) (σ 36) (by rfl) (CE_36 _) (.ref (ad 37)) rfl ?_
                      refine j_iload_n 125 C dX6_stands_124 rfl rfl 3 rfl ?_
                      refine k_iald 126 C dX6_stands_125 rfl 37 (GH_r hG (by decide)) (σ 37) (by rfl) CE_37 (vp_inE (n := i39) rfl (by omega) (by omega)) ?_
                      refine j_ineg 127 C dX6_stands_126 rfl rfl ?_
                      obtain ⟨y127, e127, hz⟩ := ap_x hz
                      refine s_V 130 C (As := [.int y115, .int y59, .int (-((σ 37) (nI i39).toNatClampNeg))]) cv_X6_76 (c_X6_bounds (l := l) (D := D) (K := K) (ad := ad) hG (a_one := ((8 * (i39 + 1)) + i49)) (e_one := (by simp only [ey59, ey98, ey115, nI_add, pk_mul])) (h_one := by omega) (a_other := ((8 * i39) + i49)) (e_other := (by simp only [ey59, ey98, ey115, nI_add, pk_mul])) (h_other := by omega) (hz := e127)) dX6_stands_127 rfl 36 6 (GH_r hG (by decide)) rfl (CE_36 _) rfl rfl rfl rfl rfl rfl ⟨⟨Nat.le_of_ble_eq_true rfl, Nat.le_of_ble_eq_true rfl⟩, Nat.zero_le _, Nat.zero_le _⟩ (Nat.le_of_ble_eq_true rfl) (st' := []) rfl (fun hE => ?_)
                      refine j_ct (ct' := CT K W S ns nc ad B (sA σ 47 y127)) (fun r _ => congrFun (congrArg (CT K W S ns nc ad B) sA_top) r) ?_
                      refine j_iload_n 131 C dX6_stands_130 rfl rfl 4 rfl ?_
                      refine j_iconst 132 C (x := nI 1) dX6_stands_131 rfl (by decide) ?_
                      refine j_iadd 133 C dX6_stands_132 rfl rfl ?_
                      refine j_aload_n 134 C dX6_stands_133 rfl rfl 1 rfl ?_
                      refine k_get 137 C fl_X6_50 dX6_stands_134 rfl 36 (GH_r hG (by decide)) (σ 36) (by rfl) (CE_36 _) (.int (nI W)) rfl ?_
                      refine j_ic_ge 178 140 C dX6_stands_137 rfl rfl (fun c_137 => ?_) (fun c_137 => ?_)
                      · replace hz := (if_pos c_137).symm.trans hz
                        have n_137 := nat_le (a := W) (b := (i49 + 1)) rfl (by simp only [ey59, ey98, ey115, nI_add, pk_mul]) (by omega) (by omega) c_137
                        refine j_iinc 181 C (x' := nI (i49 + 1)) [(3, .int (nI (i49 + 1))), (4, .int y59), (0, .ref (ad 36)), (1, .int (nI 32)), (2, .int (nI i39))] dX6_stands_178 rfl 4 rfl (by rw [show Int32.ofInt 1 = nI 1 from by decide, nI_add]) (by decide) rfl ?_
                        refine j_goto 49 C dX6_stands_181 rfl ?_
                        subst hz
                        refine j_lv [2, 3, 4, 0] (lv' := [(0, .ref (ad 36)), (1, .int (nI 32)), (2, .int (nI i39)), (3, .int (nI (i49 + 1)))]) rfl ?_
                        have hz := ho49
                        exact ih49 (i49 + 1) y127 (by omega) (by omega) (by omega) hz49
                      · replace hz := (if_neg c_137).symm.trans hz
                        have n_137 := nat_nle (a := W) (b := (i49 + 1)) rfl (by simp only [ey59, ey98, ey115, nI_add, pk_mul]) (by omega) (by omega) c_137
                        refine j_aload_n 141 C dX6_stands_140 rfl rfl 1 rfl ?_
                        refine j_iload 143 C dX6_stands_141 rfl 0 rfl ?_
                        refine j_iload_n 144 C dX6_stands_143 rfl rfl 3 rfl ?_
                        refine j_iload_n 145 C dX6_stands_144 rfl rfl 4 rfl ?_
                        refine j_iconst 146 C (x := nI 1) dX6_stands_145 rfl (by decide) ?_
                        refine j_iadd 147 C dX6_stands_146 rfl rfl ?_
                        obtain ⟨y147, e147, hz⟩ := ap_x hz
                        refine s_S 150 C (As := [.int (nI i39), .int ((nI i49) + (nI 1))]) cs_X6_81 (c_X6_node (l := l) (D := D) (K := K) (ad := ad) hG  (hz := e147)) dX6_stands_147 rfl rfl rfl rfl rfl ⟨⟨Nat.le_of_ble_eq_true rfl, Nat.le_of_ble_eq_true rfl⟩, Nat.zero_le _, Nat.zero_le _⟩ (Nat.le_of_ble_eq_true rfl) (st' := [.int y147, .int y59, .ref (ad 36)]) rfl (fun hE => ?_)
                        have ey147 : y147 = nI ((8 * i39) + (i49 + 1)) := by rw [← e147]; exact m_X6_node_n rfl (by simp only [ey59, ey98, ey115, nI_add, pk_mul])
                        refine j_aload_n 151 C dX6_stands_150 rfl rfl 1 rfl ?_
                        refine k_get 154 C fl_X6_19 dX6_stands_151 rfl 36 (GH_r hG (by decide)) (σ 36) (by rfl) (CE_36 _) (.ref (ad 40)) rfl ?_
                        refine j_iload_n 155 C dX6_stands_154 rfl rfl 4 rfl ?_
                        refine k_zald 156 C dX6_stands_155 rfl 40 (GH_r hG (by decide)) (σ 40) (by rfl) CE_40 (vp_inE (n := i49) rfl (by omega) (by omega)) ?_
                        refine j_if_eq 168 159 C dX6_stands_156 rfl rfl (fun c_156 => ?_) (fun c_156 => ?_)
                        · replace hz := (if_pos c_156).symm.trans hz
                          refine j_iconst 169 C (x := nI 0) dX6_stands_168 rfl (by decide) ?_
                          refine j_aload_n 170 C dX6_stands_169 rfl rfl 1 rfl ?_
                          refine k_get 173 C fl_X6_16 dX6_stands_170 rfl 36 (GH_r hG (by decide)) (σ 36) (by rfl) (CE_36 _) (.ref (ad 39)) rfl ?_
                          refine j_iload_n 174 C dX6_stands_173 rfl rfl 3 rfl ?_
                          refine k_iald 175 C dX6_stands_174 rfl 39 (GH_r hG (by decide)) (σ 39) (by rfl) CE_39 (vp_inE (n := i39) rfl (by omega) (by omega)) ?_
                          obtain ⟨y175, e175, hz⟩ := ap_x hz
                          refine s_V 178 C (As := [.int y59, .int y147, .int (nI 0), .int ((σ 39) (nI i39).toNatClampNeg)]) cv_X6_85 (c_X6_within (l := l) (D := D) (K := K) (ad := ad) hG (a_one := ((8 * i39) + i49)) (e_one := (by simp only [ey59, ey98, ey115, ey147, nI_add, pk_mul])) (h_one := by omega) (a_other := ((8 * i39) + (i49 + 1))) (e_other := (by simp only [ey59, ey98, ey115, ey147, nI_add, pk_mul])) (h_other := by omega) (hz := e175)) dX6_stands_175 rfl 36 6 (GH_r hG (by decide)) rfl (CE_36 _) rfl rfl rfl rfl rfl rfl ⟨⟨Nat.le_of_ble_eq_true rfl, Nat.le_of_ble_eq_true rfl⟩, Nat.zero_le _, Nat.zero_le _⟩ (Nat.le_of_ble_eq_true rfl) (st' := []) rfl (fun hE => ?_)
                          refine j_ct (ct' := CT K W S ns nc ad B (sA σ 47 y175)) (fun r _ => congrFun (congrArg (CT K W S ns nc ad B) sA_top) r) ?_
                          refine j_iinc 181 C (x' := nI (i49 + 1)) [(3, .int (nI (i49 + 1))), (4, .int y59), (0, .ref (ad 36)), (1, .int (nI 32)), (2, .int (nI i39))] dX6_stands_178 rfl 4 rfl (by rw [show Int32.ofInt 1 = nI 1 from by decide, nI_add]) (by decide) rfl ?_
                          refine j_goto 49 C dX6_stands_181 rfl ?_
                          subst hz
                          refine j_lv [2, 3, 4, 0] (lv' := [(0, .ref (ad 36)), (1, .int (nI 32)), (2, .int (nI i39)), (3, .int (nI (i49 + 1)))]) rfl ?_
                          have hz := ho49
                          exact ih49 (i49 + 1) y175 (by omega) (by omega) (by omega) hz49
                        · replace hz := (if_neg c_156).symm.trans hz
                          refine j_aload_n 160 C dX6_stands_159 rfl rfl 1 rfl ?_
                          refine k_get 163 C fl_X6_23 dX6_stands_160 rfl 36 (GH_r hG (by decide)) (σ 36) (by rfl) (CE_36 _) (.ref (ad 41)) rfl ?_
                          refine j_iload_n 164 C dX6_stands_163 rfl rfl 4 rfl ?_
                          refine k_iald 165 C dX6_stands_164 rfl 41 (GH_r hG (by decide)) (σ 41) (by rfl) CE_41 (vp_inE (n := i49) rfl (by omega) (by omega)) ?_
                          refine j_goto 169 C dX6_stands_165 rfl ?_
                          refine j_aload_n 170 C dX6_stands_169 rfl rfl 1 rfl ?_
                          refine k_get 173 C fl_X6_16 dX6_stands_170 rfl 36 (GH_r hG (by decide)) (σ 36) (by rfl) (CE_36 _) (.ref (ad 39)) rfl ?_
                          refine j_iload_n 174 C dX6_stands_173 rfl rfl 3 rfl ?_
                          refine k_iald 175 C dX6_stands_174 rfl 39 (GH_r hG (by decide)) (σ 39) (by rfl) CE_39 (vp_inE (n := i39) rfl (by omega) (by omega)) ?_
                          obtain ⟨y175, e175, hz⟩ := ap_x hz
                          refine s_V 178 C (As := [.int y59, .int y147, .int ((σ 41) (nI i49).toNatClampNeg), .int ((σ 39) (nI i39).toNatClampNeg)]) cv_X6_85 (c_X6_within (l := l) (D := D) (K := K) (ad := ad) hG (a_one := ((8 * i39) + i49)) (e_one := (by simp only [ey59, ey98, ey115, ey147, nI_add, pk_mul])) (h_one := by omega) (a_other := ((8 * i39) + (i49 + 1))) (e_other := (by simp only [ey59, ey98, ey115, ey147, nI_add, pk_mul])) (h_other := by omega) (hz := e175)) dX6_stands_175 rfl 36 6 (GH_r hG (by decide)) rfl (CE_36 _) rfl rfl rfl rfl rfl rfl ⟨⟨Nat.le_of_ble_eq_true rfl, Nat.le_of_ble_eq_true rfl⟩, Nat.zero_le _, Nat.zero_le _⟩ (Nat.le_of_ble_eq_true rfl) (st' := []) rfl (fun hE => ?_)
                          refine j_ct (ct' := CT K W S ns nc ad B (sA σ 47 y175)) (fun r _ => congrFun (congrArg (CT K W S ns nc ad B) sA_top) r) ?_
                          refine j_iinc 181 C (x' := nI (i49 + 1)) [(3, .int (nI (i49 + 1))), (4, .int y59), (0, .ref (ad 36)), (1, .int (nI 32)), (2, .int (nI i39))] dX6_stands_178 rfl 4 rfl (by rw [show Int32.ofInt 1 = nI 1 from by decide, nI_add]) (by decide) rfl ?_
                          refine j_goto 49 C dX6_stands_181 rfl ?_
                          subst hz
                          refine j_lv [2, 3, 4, 0] (lv' := [(0, .ref (ad 36)), (1, .int (nI 32)), (2, .int (nI i39)), (3, .int (nI (i49 + 1)))]) rfl ?_
                          have hz := ho49
                          exact ih49 (i49 + 1) y175 (by omega) (by omega) (by omega) hz49
              refine j_lv [1, 2, 3, 0] (lv' := [(0, .ref (ad 36)), (1, .int (nI 32)), (2, .int (nI i39)), (3, .int (nI 0))]) rfl ?_
              exact L49 _ 0 c39 (by omega) (by omega) rfl ez49
        refine j_lv [1, 2, 0] (lv' := [(0, .ref (ad 36)), (1, .int (nI 32)), (2, .int (nI 0))]) rfl ?_
        exact L39 _ 0 c5 (by omega) (by omega) rfl ez39
      · exfalso
        have n_9 := nat_nle (a := 1089) (b := i5) rfl rfl (by omega) (by omega) c_9
        omega
    | succ n5 ih5 =>
      intro i5 c5 hl5 hi5 hn5 hz5
      refine j_iload_n 6 C dX6_stands_5 rfl rfl 2 rfl ?_
      refine j_sipush 9 C (x := nI 1089) dX6_stands_6 rfl (by decide) ?_
      refine j_ic_ge 37 12 C dX6_stands_9 rfl rfl (fun c_9 => ?_) (fun c_9 => ?_)
      · exfalso
        have n_9 := nat_le (a := 1089) (b := i5) rfl rfl (by omega) (by omega) c_9
        omega
      · skip
        have n_9 := nat_nle (a := 1089) (b := i5) rfl rfl (by omega) (by omega) c_9
        obtain ⟨w5, hw5, hz5⟩ := lp_s hz5
        have ho5 := hz
        clear hz
        have hz := hw5
        clear hw5
        unfold m_X6_stands_L5 at hz
        refine j_aload_n 13 C dX6_stands_12 rfl rfl 0 rfl ?_
        refine k_get 16 C fl_X6_41 dX6_stands_13 rfl 36 (GH_r hG (by decide)) (σ 36) (by rfl) (CE_36 _) (.ref (ad 47)) rfl ?_
        refine j_iload_n 17 C dX6_stands_16 rfl rfl 2 rfl ?_
        refine j_iload_n 18 C dX6_stands_17 rfl rfl 2 rfl ?_
        refine j_bipush 20 C (x := nI 34) dX6_stands_18 rfl (by decide) ?_
        refine j_irem 21 C dX6_stands_20 rfl (by decide) rfl ?_
        refine j_if_ne 28 24 C dX6_stands_21 rfl rfl (fun c_21 => ?_) (fun c_21 => ?_)
        · replace hz := (if_neg c_21).symm.trans hz
          refine j_ldc 30 C (x' := nI 100000) wv_X6_80 dX6_stands_28 rfl (by decide) ?_
          refine k_iast 31 C dX6_stands_30 rfl 47 (GH_r hG (by decide)) c5 rfl CE_47 (vp_inE (n := i5) rfl (by omega) (by omega)) (sA σ 47 (upd c5 (nI i5).toNatClampNeg (nI 100000))) sA_top ?_
          refine j_iinc 34 C (x' := nI (i5 + 1)) [(2, .int (nI (i5 + 1))), (0, .ref (ad 36)), (1, .int (nI 32))] dX6_stands_31 rfl 2 rfl (by rw [show Int32.ofInt 1 = nI 1 from by decide, nI_add]) (by decide) rfl ?_
          refine j_goto 5 C dX6_stands_34 rfl ?_
          subst hz
          refine j_lv [1, 2, 0] (lv' := [(0, .ref (ad 36)), (1, .int (nI 32)), (2, .int (nI (i5 + 1)))]) rfl ?_
          have hz := ho5
          exact ih5 (i5 + 1) (upd c5 (nI i5).toNatClampNeg (nI 100000)) (by omega) (by omega) (by omega) hz5
        · replace hz := (if_pos c_21).symm.trans hz
          refine j_iconst 25 C (x := nI 0) dX6_stands_24 rfl (by decide) ?_
          refine j_goto 30 C dX6_stands_25 rfl ?_
          refine k_iast 31 C dX6_stands_30 rfl 47 (GH_r hG (by decide)) c5 rfl CE_47 (vp_inE (n := i5) rfl (by omega) (by omega)) (sA σ 47 (upd c5 (nI i5).toNatClampNeg (nI 0))) sA_top ?_
          refine j_iinc 34 C (x' := nI (i5 + 1)) [(2, .int (nI (i5 + 1))), (0, .ref (ad 36)), (1, .int (nI 32))] dX6_stands_31 rfl 2 rfl (by rw [show Int32.ofInt 1 = nI 1 from by decide, nI_add]) (by decide) rfl ?_
          refine j_goto 5 C dX6_stands_34 rfl ?_
          subst hz
          refine j_lv [1, 2, 0] (lv' := [(0, .ref (ad 36)), (1, .int (nI 32)), (2, .int (nI (i5 + 1)))]) rfl ?_
          have hz := ho5
          exact ih5 (i5 + 1) (upd c5 (nI i5).toNatClampNeg (nI 0)) (by omega) (by omega) (by omega) hz5
  refine j_lv [2, 1, 0] (lv' := [(0, .ref (ad 36)), (1, .int (nI 32)), (2, .int (nI 0))]) rfl ?_
  refine j_ct (ct' := CT K W S ns nc ad B (sA σ 47 (σ 47))) (fun r _ => congrFun (congrArg (CT K W S ns nc ad B) (sA_idr (by rfl))) r) ?_
  exact L5 _ 0 (σ 47) (by omega) (by omega) rfl ez5
def m_X6_sees (W S ns nc : Nat) (B : Nat → Option Nat) (σ : Nat → Nat → Int32) (k : Int32) : Int32 × (Nat → Int32) := ap (m_X6_node W S ns nc B σ (((σ 43) k.toNatClampNeg) / (nI 100)) ((((σ 43) k.toNatClampNeg) / (nI 10)) - (((σ 43) k.toNatClampNeg) / (nI 10)) / (nI 10) * (nI 10))) (fun (y24 : Int32) => (if (((σ 43) k.toNatClampNeg) - ((σ 43) k.toNatClampNeg) / (nI 10) * (nI 10)) = nI 0 then ap (m_X6_addsWithin W S ns nc B σ (nI 32) y24 ((σ 44) k.toNatClampNeg) ((σ 45) k.toNatClampNeg)) (fun (y79 : Int32 × (Nat → Int32)) => (y79.1, y79.2)) else (if (((σ 43) k.toNatClampNeg) - ((σ 43) k.toNatClampNeg) / (nI 10) * (nI 10)) = nI 1 then ap (m_X6_adds W S ns nc B σ y24 (nI 32) (-((σ 44) k.toNatClampNeg))) (fun (y93 : Int32 × (Nat → Int32)) => (y93.1, y93.2)) else (if (((σ 43) k.toNatClampNeg) - ((σ 43) k.toNatClampNeg) / (nI 10) * (nI 10)) = nI 2 then ap (m_X6_adds W S ns nc B σ (nI 32) y24 ((σ 44) k.toNatClampNeg)) (fun (y106 : Int32 × (Nat → Int32)) => (y106.1, y106.2)) else ap (m_X6_addsWithin W S ns nc B σ y24 (y24 + (nI 1)) ((σ 44) k.toNatClampNeg) ((σ 45) k.toNatClampNeg)) (fun (y127 : Int32 × (Nat → Int32)) => (y127.1, y127.2))))))
abbrev rm_X6_sees : Room := { frames := 3, cells := 0, slots := 0, locals := 73 }
set_option maxHeartbeats 4000000 in
set_option maxRecDepth 100000 in
theorem c_X6_sees {l : Launch} {D : va_G} {K : Nat → ClassId} {W S ns nc N : Nat} {ad : Nat → Nat} {B : Nat → Option Nat} {σ : Nat → Nat → Int32} (hG : GH W S ns nc N) {aN : Nat} {k : Int32} {a_k : Nat} (e_k : k = nI a_k) (h_k : a_k < ns) {z : Int32 × (Nat → Int32)} (hz : m_X6_sees W S ns nc B σ k = z) (haN : aN < 32) (hn : seeN (σ 43 (nI a_k).toNatClampNeg) = nI aN) : MC l yX6_sees cX6_sees 4 (some .boolean) rm_X6_sees D (TY K) N ad (CT K W S ns nc ad B σ) [.ref (ad 36), .int k] (BS (some (.int z.1)) N ad (CT K W S ns nc ad B (sA σ 47 z.2)) (bl z.1)) := by
  have hW := hG.1; have hW8 := hG.2.1; have hS := hG.2.2.1; have hS4 := hG.2.2.2.1; have hns := hG.2.2.2.2.1; have hnc := hG.2.2.2.2.2.1; have hWS := GH_ws hG
  subst e_k
  refine MC.of (by decide) (Nat.le_of_ble_eq_true rfl) (fun p e s m args below meth c Q A H0 C X => ?_)
  replace C : Cx p s m args meth c cX6_sees RX6 4 D (TY K) A H0 := C
  show J p l e rm_X6_sees s m args below meth c Q D A H0 4 0 0 N ad (CT K W S ns nc ad B σ) 0 [(0, .ref (ad 36)), (1, .int (nI a_k))] []
  unfold m_X6_sees at hz
  refine j_bipush 2 C (x := nI 32) dX6_sees_0 rfl (by decide) ?_
  refine j_istore_n 3 C [(2, .int (nI 32)), (0, .ref (ad 36)), (1, .int (nI a_k))] dX6_sees_2 rfl rfl (by decide) rfl ?_
  refine j_aload_n 4 C dX6_sees_3 rfl rfl 1 rfl ?_
  refine k_get 7 C fl_X6_29 dX6_sees_4 rfl 36 (GH_r hG (by decide)) (σ 36) rfl (CE_36 _) (.ref (ad 43)) rfl ?_
  refine j_iload_n 8 C dX6_sees_7 rfl rfl 2 rfl ?_
  refine k_iald 9 C dX6_sees_8 rfl 43 (GH_r hG (by decide)) (σ 43) rfl CE_43 (vp_inE (n := a_k) rfl (by omega) (by omega)) ?_
  refine j_bipush 11 C (x := nI 100) dX6_sees_9 rfl (by decide) ?_
  refine j_idiv 12 C dX6_sees_11 rfl (by decide) rfl ?_
  refine j_aload_n 13 C dX6_sees_12 rfl rfl 1 rfl ?_
  refine k_get 16 C fl_X6_29 dX6_sees_13 rfl 36 (GH_r hG (by decide)) (σ 36) rfl (CE_36 _) (.ref (ad 43)) rfl ?_
  refine j_iload_n 17 C dX6_sees_16 rfl rfl 2 rfl ?_
  refine k_iald 18 C dX6_sees_17 rfl 43 (GH_r hG (by decide)) (σ 43) rfl CE_43 (vp_inE (n := a_k) rfl (by omega) (by omega)) ?_
  refine j_bipush 20 C (x := nI 10) dX6_sees_18 rfl (by decide) ?_
  refine j_idiv 21 C dX6_sees_20 rfl (by decide) rfl ?_
  refine j_bipush 23 C (x := nI 10) dX6_sees_21 rfl (by decide) ?_
  refine j_irem 24 C dX6_sees_23 rfl (by decide) rfl ?_
  obtain ⟨y24, e24, hz⟩ := ap_x hz
  refine s_S 27 C (As := [.int (((σ 43) (nI a_k).toNatClampNeg) / (nI 100)), .int ((((σ 43) (nI a_k).toNatClampNeg) / (nI 10)) - (((σ 43) (nI a_k).toNatClampNeg) / (nI 10)) / (nI 10) * (nI 10))]) cs_X6_81 (c_X6_node (l := l) (D := D) (K := K) (ad := ad) hG  (hz := e24)) dX6_sees_24 rfl rfl rfl rfl rfl ⟨⟨Nat.le_of_ble_eq_true rfl, Nat.le_of_ble_eq_true rfl⟩, Nat.zero_le _, Nat.zero_le _⟩ (Nat.le_of_ble_eq_true rfl) (st' := [.int y24]) rfl (fun hE => ?_)
  have ey24 : y24 = nI aN := by rw [← e24]; exact hn
  refine j_istore_n 28 C [(3, .int y24), (2, .int (nI 32)), (0, .ref (ad 36)), (1, .int (nI a_k))] dX6_sees_27 rfl rfl (by decide) rfl ?_
  refine j_aload_n 29 C dX6_sees_28 rfl rfl 2 rfl ?_
  refine k_get 32 C fl_X6_29 dX6_sees_29 rfl 36 (GH_r hG (by decide)) (σ 36) rfl (CE_36 _) (.ref (ad 43)) rfl ?_
  refine j_iload_n 33 C dX6_sees_32 rfl rfl 3 rfl ?_
  refine k_iald 34 C dX6_sees_33 rfl 43 (GH_r hG (by decide)) (σ 43) rfl CE_43 (vp_inE (n := a_k) rfl (by omega) (by omega)) ?_
  refine j_bipush 36 C (x := nI 10) dX6_sees_34 rfl (by decide) ?_
  refine j_irem 37 C dX6_sees_36 rfl (by decide) rfl ?_
  rcases Classical.em ((((σ 43) (nI a_k).toNatClampNeg) - ((σ 43) (nI a_k).toNatClampNeg) / (nI 10) * (nI 10)) = nI 0) with c_3700 | c_3700
  · replace hz := (if_pos c_3700).symm.trans hz
    refine j_swIn 64 C dX6_sees_37 (off := 27) (by rw [c_3700]; decide) (by rw [c_3700]; decide) (by rw [c_3700]; decide) rfl ?_
    refine j_aload_n 65 C dX6_sees_64 rfl rfl 2 rfl ?_
    refine j_iload_n 66 C dX6_sees_65 rfl rfl 1 rfl ?_
    refine j_iload_n 67 C dX6_sees_66 rfl rfl 0 rfl ?_
    refine j_aload_n 68 C dX6_sees_67 rfl rfl 2 rfl ?_
    refine k_get 71 C fl_X6_32 dX6_sees_68 rfl 36 (GH_r hG (by decide)) (σ 36) rfl (CE_36 _) (.ref (ad 44)) rfl ?_
    refine j_iload_n 72 C dX6_sees_71 rfl rfl 3 rfl ?_
    refine k_iald 73 C dX6_sees_72 rfl 44 (GH_r hG (by decide)) (σ 44) rfl CE_44 (vp_inE (n := a_k) rfl (by omega) (by omega)) ?_
    refine j_aload_n 74 C dX6_sees_73 rfl rfl 2 rfl ?_
    refine k_get 77 C fl_X6_35 dX6_sees_74 rfl 36 (GH_r hG (by decide)) (σ 36) rfl (CE_36 _) (.ref (ad 45)) rfl ?_
    refine j_iload_n 78 C dX6_sees_77 rfl rfl 3 rfl ?_
    refine k_iald 79 C dX6_sees_78 rfl 45 (GH_r hG (by decide)) (σ 45) rfl CE_45 (vp_inE (n := a_k) rfl (by omega) (by omega)) ?_
    obtain ⟨y79, e79, hz⟩ := ap_x hz
    refine s_V 82 C (As := [.int (nI 32), .int y24, .int ((σ 44) (nI a_k).toNatClampNeg), .int ((σ 45) (nI a_k).toNatClampNeg)]) cv_X6_93 (c_X6_addsWithin (l := l) (D := D) (K := K) (ad := ad) hG (a_one := 32) (e_one := rfl) (h_one := by omega) (a_other := aN) (e_other := (by simp only [ey24, nI_add, pk_mul])) (h_other := by omega) (hz := e79)) dX6_sees_79 rfl 36 6 (GH_r hG (by decide)) rfl (CE_36 _) rfl rfl rfl rfl rfl rfl ⟨⟨Nat.le_of_ble_eq_true rfl, Nat.le_of_ble_eq_true rfl⟩, Nat.zero_le _, Nat.zero_le _⟩ (Nat.le_of_ble_eq_true rfl) (st' := [.int y79.1]) rfl (fun hE => ?_)
    have hbl79 : bl y79.1 := hE
    subst hz
    exact j_retI C X dX6_sees_82 (bl_nar hbl79) ⟨rfl, rfl, rfl, rfl, hbl79⟩
  · replace hz := (if_neg c_3700).symm.trans hz
    rcases Classical.em ((((σ 43) (nI a_k).toNatClampNeg) - ((σ 43) (nI a_k).toNatClampNeg) / (nI 10) * (nI 10)) = nI 1) with c_3701 | c_3701
    · replace hz := (if_pos c_3701).symm.trans hz
      refine j_swIn 83 C dX6_sees_37 (off := 46) (by rw [c_3701]; decide) (by rw [c_3701]; decide) (by rw [c_3701]; decide) rfl ?_
      refine j_aload_n 84 C dX6_sees_83 rfl rfl 2 rfl ?_
      refine j_iload_n 85 C dX6_sees_84 rfl rfl 0 rfl ?_
      refine j_iload_n 86 C dX6_sees_85 rfl rfl 1 rfl ?_
      refine j_aload_n 87 C dX6_sees_86 rfl rfl 2 rfl ?_
      refine k_get 90 C fl_X6_32 dX6_sees_87 rfl 36 (GH_r hG (by decide)) (σ 36) rfl (CE_36 _) (.ref (ad 44)) rfl ?_
      refine j_iload_n 91 C dX6_sees_90 rfl rfl 3 rfl ?_
      refine k_iald 92 C dX6_sees_91 rfl 44 (GH_r hG (by decide)) (σ 44) rfl CE_44 (vp_inE (n := a_k) rfl (by omega) (by omega)) ?_
      refine j_ineg 93 C dX6_sees_92 rfl rfl ?_
      obtain ⟨y93, e93, hz⟩ := ap_x hz
      refine s_V 96 C (As := [.int y24, .int (nI 32), .int (-((σ 44) (nI a_k).toNatClampNeg))]) cv_X6_90 (c_X6_adds (l := l) (D := D) (K := K) (ad := ad) hG (a_one := aN) (e_one := (by simp only [ey24, nI_add, pk_mul])) (h_one := by omega) (a_other := 32) (e_other := rfl) (h_other := by omega) (hz := e93)) dX6_sees_93 rfl 36 6 (GH_r hG (by decide)) rfl (CE_36 _) rfl rfl rfl rfl rfl rfl ⟨⟨Nat.le_of_ble_eq_true rfl, Nat.le_of_ble_eq_true rfl⟩, Nat.zero_le _, Nat.zero_le _⟩ (Nat.le_of_ble_eq_true rfl) (st' := [.int y93.1]) rfl (fun hE => ?_)
      have hbl93 : bl y93.1 := hE
      subst hz
      exact j_retI C X dX6_sees_96 (bl_nar hbl93) ⟨rfl, rfl, rfl, rfl, hbl93⟩
    · replace hz := (if_neg c_3701).symm.trans hz
      rcases Classical.em ((((σ 43) (nI a_k).toNatClampNeg) - ((σ 43) (nI a_k).toNatClampNeg) / (nI 10) * (nI 10)) = nI 2) with c_3702 | c_3702
      · replace hz := (if_pos c_3702).symm.trans hz
        refine j_swIn 97 C dX6_sees_37 (off := 60) (by rw [c_3702]; decide) (by rw [c_3702]; decide) (by rw [c_3702]; decide) rfl ?_
        refine j_aload_n 98 C dX6_sees_97 rfl rfl 2 rfl ?_
        refine j_iload_n 99 C dX6_sees_98 rfl rfl 1 rfl ?_
        refine j_iload_n 100 C dX6_sees_99 rfl rfl 0 rfl ?_
        refine j_aload_n 101 C dX6_sees_100 rfl rfl 2 rfl ?_
        refine k_get 104 C fl_X6_32 dX6_sees_101 rfl 36 (GH_r hG (by decide)) (σ 36) rfl (CE_36 _) (.ref (ad 44)) rfl ?_
        refine j_iload_n 105 C dX6_sees_104 rfl rfl 3 rfl ?_
        refine k_iald 106 C dX6_sees_105 rfl 44 (GH_r hG (by decide)) (σ 44) rfl CE_44 (vp_inE (n := a_k) rfl (by omega) (by omega)) ?_
        obtain ⟨y106, e106, hz⟩ := ap_x hz
        refine s_V 109 C (As := [.int (nI 32), .int y24, .int ((σ 44) (nI a_k).toNatClampNeg)]) cv_X6_90 (c_X6_adds (l := l) (D := D) (K := K) (ad := ad) hG (a_one := 32) (e_one := rfl) (h_one := by omega) (a_other := aN) (e_other := (by simp only [ey24, nI_add, pk_mul])) (h_other := by omega) (hz := e106)) dX6_sees_106 rfl 36 6 (GH_r hG (by decide)) rfl (CE_36 _) rfl rfl rfl rfl rfl rfl ⟨⟨Nat.le_of_ble_eq_true rfl, Nat.le_of_ble_eq_true rfl⟩, Nat.zero_le _, Nat.zero_le _⟩ (Nat.le_of_ble_eq_true rfl) (st' := [.int y106.1]) rfl (fun hE => ?_)
        have hbl106 : bl y106.1 := hE
        subst hz
        exact j_retI C X dX6_sees_109 (bl_nar hbl106) ⟨rfl, rfl, rfl, rfl, hbl106⟩
      · replace hz := (if_neg c_3702).symm.trans hz
        refine j_swOut 110 C dX6_sees_37 (sw_out3 c_3700 c_3701 c_3702) rfl ?_
        refine j_aload_n 111 C dX6_sees_110 rfl rfl 2 rfl ?_
        refine j_iload_n 112 C dX6_sees_111 rfl rfl 0 rfl ?_
        refine j_iload_n 113 C dX6_sees_112 rfl rfl 0 rfl ?_
        refine j_iconst 114 C (x := nI 1) dX6_sees_113 rfl (by decide) ?_
        refine j_iadd 115 C dX6_sees_114 rfl rfl ?_
        refine j_aload_n 116 C dX6_sees_115 rfl rfl 2 rfl ?_
        refine k_get 119 C fl_X6_32 dX6_sees_116 rfl 36 (GH_r hG (by decide)) (σ 36) rfl (CE_36 _) (.ref (ad 44)) rfl ?_
        refine j_iload_n 120 C dX6_sees_119 rfl rfl 3 rfl ?_
        refine k_iald 121 C dX6_sees_120 rfl 44 (GH_r hG (by decide)) (σ 44) rfl CE_44 (vp_inE (n := a_k) rfl (by omega) (by omega)) ?_
        refine j_aload_n 122 C dX6_sees_121 rfl rfl 2 rfl ?_
        refine k_get 125 C fl_X6_35 dX6_sees_122 rfl 36 (GH_r hG (by decide)) (σ 36) rfl (CE_36 _) (.ref (ad 45)) rfl ?_
        refine j_iload_n 126 C dX6_sees_125 rfl rfl 3 rfl ?_
        refine k_iald 127 C dX6_sees_126 rfl 45 (GH_r hG (by decide)) (σ 45) rfl CE_45 (vp_inE (n := a_k) rfl (by omega) (by omega)) ?_
        obtain ⟨y127, e127, hz⟩ := ap_x hz
        refine s_V 130 C (As := [.int y24, .int (y24 + (nI 1)), .int ((σ 44) (nI a_k).toNatClampNeg), .int ((σ 45) (nI a_k).toNatClampNeg)]) cv_X6_93 (c_X6_addsWithin (l := l) (D := D) (K := K) (ad := ad) hG (a_one := aN) (e_one := (by simp only [ey24, nI_add, pk_mul])) (h_one := by omega) (a_other := (aN + 1)) (e_other := (by simp only [ey24, nI_add, pk_mul])) (h_other := by omega) (hz := e127)) dX6_sees_127 rfl 36 6 (GH_r hG (by decide)) rfl (CE_36 _) rfl rfl rfl rfl rfl rfl ⟨⟨Nat.le_of_ble_eq_true rfl, Nat.le_of_ble_eq_true rfl⟩, Nat.zero_le _, Nat.zero_le _⟩ (Nat.le_of_ble_eq_true rfl) (st' := [.int y127.1]) rfl (fun hE => ?_)
        have hbl127 : bl y127.1 := hE
        subst hz
        exact j_retI C X dX6_sees_130 (bl_nar hbl127) ⟨rfl, rfl, rfl, rfl, hbl127⟩
def m_X6_agrees_L67 (W S ns nc : Nat) (B : Nat → Option Nat) (σ : Nat → Nat → Int32) (heap : Int32) (i67 : Nat) (c67 : (Nat → Int32)) : (Int32 × (Nat → Int32)) ⊕ ((Nat → Int32)) := (if ((heap >>> ((nI i67) &&& 31)) &&& (nI 1)) = (nI 1) then ap (m_X6_sees W S ns nc B (sA σ 47 c67) (nI i67)) (fun (y86 : Int32 × (Nat → Int32)) => (if y86.1 = 0 then (Sum.inl (nI 0, y86.2)) else (Sum.inr y86.2))) else (Sum.inr c67))
def m_X6_agrees_L40 (W S ns nc : Nat) (B : Nat → Option Nat) (σ : Nat → Nat → Int32) (i40 : Nat) (c40 : (Nat → Int32)) : (Nat → Int32) := ap (upd c40 (nI i40).toNatClampNeg ((σ 48) (nI i40).toNatClampNeg)) (fun (f58 : Nat → Int32) => f58)
def m_X6_agrees_L2 (W S ns nc : Nat) (B : Nat → Option Nat) (σ : Nat → Nat → Int32) (heap : Int32) (i2 : Nat) (c2 : Unit) : (Int32 × (Nat → Int32)) ⊕ (Unit) := (if ((heap >>> ((nI i2) &&& 31)) &&& (nI 1)) = (nI 1) then (if (((σ 49) (nI i2).toNatClampNeg) &&& heap) = 0 then (Sum.inr ()) else (Sum.inl (nI 0, (σ 47)))) else (Sum.inr ()))
def m_X6_agrees (W S ns nc : Nat) (B : Nat → Option Nat) (σ : Nat → Nat → Int32) (heap : Int32) : Int32 × (Nat → Int32) := ap (lpe (m_X6_agrees_L2 W S ns nc B σ heap) (ns - 0) 0 ()) (fun (z2 : (Int32 × (Nat → Int32)) ⊕ (Unit)) => ((z2).elim id (fun (kz2 : Unit) => ap (lp (m_X6_agrees_L40 W S ns nc B σ) (1089 - 0) 0 (σ 47)) (fun (z40 : (Nat → Int32)) => ap (lpe (m_X6_agrees_L67 W S ns nc B σ heap) (ns - 0) 0 z40) (fun (z67 : (Int32 × (Nat → Int32)) ⊕ ((Nat → Int32))) => ((z67).elim id (fun (kz67 : (Nat → Int32)) => (nI 1, kz67))))))))
abbrev rm_X6_agrees : Room := { frames := 4, cells := 0, slots := 0, locals := 96 }
set_option maxHeartbeats 4000000 in
set_option maxRecDepth 100000 in
theorem c_X6_agrees {l : Launch} {D : va_G} {K : Nat → ClassId} {W S ns nc N : Nat} {ad : Nat → Nat} {B : Nat → Option Nat} {σ : Nat → Nat → Int32} (hG : GH W S ns nc N) {heap : Int32}  {z : Int32 × (Nat → Int32)} (hz : m_X6_agrees W S ns nc B σ heap = z) (hsee : SeeOK (σ 43) ns) : MC l yX6_agrees cX6_agrees 3 (some .boolean) rm_X6_agrees D (TY K) N ad (CT K W S ns nc ad B σ) [.ref (ad 36), .int heap] (BS (some (.int z.1)) N ad (CT K W S ns nc ad B (sA σ 47 z.2)) (bl z.1)) := by
  have hW := hG.1; have hW8 := hG.2.1; have hS := hG.2.2.1; have hS4 := hG.2.2.2.1; have hns := hG.2.2.2.2.1; have hnc := hG.2.2.2.2.2.1; have hWS := GH_ws hG
  refine MC.of (by decide) (Nat.le_of_ble_eq_true rfl) (fun p e s m args below meth c Q A H0 C X => ?_)
  replace C : Cx p s m args meth c cX6_agrees RX6 3 D (TY K) A H0 := C
  show J p l e rm_X6_agrees s m args below meth c Q D A H0 3 0 0 N ad (CT K W S ns nc ad B σ) 0 [(0, .ref (ad 36)), (1, .int heap)] []
  unfold m_X6_agrees at hz
  refine j_iconst 1 C (x := nI 0) dX6_agrees_0 rfl (by decide) ?_
  refine j_istore_n 2 C [(2, .int (nI 0)), (0, .ref (ad 36)), (1, .int heap)] dX6_agrees_1 rfl rfl (by decide) rfl ?_
  skip
  obtain ⟨z2, ez2, hz⟩ := ap_x hz
  have L2 : ∀ (n2 i2 : Nat) (c2 : Unit), 0 ≤ i2 → i2 < 5000 → n2 = ns - i2 → lpe (m_X6_agrees_L2 W S ns nc B σ heap) n2 i2 c2 = z2 → J p l e rm_X6_agrees s m args below meth c Q D A H0 3 0 0 N ad (CT K W S ns nc ad B σ) 2 [(0, .ref (ad 36)), (1, .int heap), (2, .int (nI i2))] [] := by
    intro n2
    induction n2 with
    | zero =>
      intro i2 c2 hl2 hi2 hn2 hz2
      refine j_iload_n 3 C dX6_agrees_2 rfl rfl 2 rfl ?_
      refine j_aload_n 4 C dX6_agrees_3 rfl rfl 0 rfl ?_
      refine k_get 7 C fl_X6_69 dX6_agrees_4 rfl 36 (GH_r hG (by decide)) (σ 36) rfl (CE_36 _) (.int (nI ns)) rfl ?_
      refine j_ic_ge 38 10 C dX6_agrees_7 rfl rfl (fun c_7 => ?_) (fun c_7 => ?_)
      · skip
        have n_7 := nat_le (a := ns) (b := i2) rfl rfl (by omega) (by omega) c_7
        have hq2 : Sum.inr c2 = z2 := hz2
        subst hq2
        replace hz := el_r hz
        refine j_iconst 39 C (x := nI 0) dX6_agrees_38 rfl (by decide) ?_
        refine j_istore_n 40 C [(2, .int (nI 0)), (0, .ref (ad 36)), (1, .int heap)] dX6_agrees_39 rfl rfl (by decide) rfl ?_
        skip
        obtain ⟨z40, ez40, hz⟩ := ap_x hz
        have L40 : ∀ (n40 i40 : Nat) (c40 : (Nat → Int32)), 0 ≤ i40 → i40 < 5000 → n40 = 1089 - i40 → lp (m_X6_agrees_L40 W S ns nc B σ) n40 i40 c40 = z40 → J p l e rm_X6_agrees s m args below meth c Q D A H0 3 0 0 N ad (CT K W S ns nc ad B (sA σ 47 c40)) 40 [(0, .ref (ad 36)), (1, .int heap), (2, .int (nI i40))] [] := by
          intro n40
          induction n40 with
          | zero =>
            intro i40 c40 hl40 hi40 hn40 hz40
            refine j_iload_n 41 C dX6_agrees_40 rfl rfl 2 rfl ?_
            refine j_sipush 44 C (x := nI 1089) dX6_agrees_41 rfl (by decide) ?_
            refine j_ic_ge 65 47 C dX6_agrees_44 rfl rfl (fun c_44 => ?_) (fun c_44 => ?_)
            · skip
              have n_44 := nat_le (a := 1089) (b := i40) rfl rfl (by omega) (by omega) c_44
              have hq40 : c40 = z40 := hz40
              subst hq40
              refine j_iconst 66 C (x := nI 0) dX6_agrees_65 rfl (by decide) ?_
              refine j_istore_n 67 C [(2, .int (nI 0)), (0, .ref (ad 36)), (1, .int heap)] dX6_agrees_66 rfl rfl (by decide) rfl ?_
              skip
              obtain ⟨z67, ez67, hz⟩ := ap_x hz
              have L67 : ∀ (n67 i67 : Nat) (c67 : (Nat → Int32)), 0 ≤ i67 → i67 < 5000 → n67 = ns - i67 → lpe (m_X6_agrees_L67 W S ns nc B σ heap) n67 i67 c67 = z67 → J p l e rm_X6_agrees s m args below meth c Q D A H0 3 0 0 N ad (CT K W S ns nc ad B (sA σ 47 c67)) 67 [(0, .ref (ad 36)), (1, .int heap), (2, .int (nI i67))] [] := by
                intro n67
                induction n67 with
                | zero =>
                  intro i67 c67 hl67 hi67 hn67 hz67
                  refine j_iload_n 68 C dX6_agrees_67 rfl rfl 2 rfl ?_
                  refine j_aload_n 69 C dX6_agrees_68 rfl rfl 0 rfl ?_
                  refine k_get 72 C fl_X6_69 dX6_agrees_69 rfl 36 (GH_r hG (by decide)) (σ 36) (by rfl) (CE_36 _) (.int (nI ns)) rfl ?_
                  refine j_ic_ge 100 75 C dX6_agrees_72 rfl rfl (fun c_72 => ?_) (fun c_72 => ?_)
                  · skip
                    have n_72 := nat_le (a := ns) (b := i67) rfl rfl (by omega) (by omega) c_72
                    have hq67 : Sum.inr c67 = z67 := hz67
                    subst hq67
                    replace hz := el_r hz
                    refine j_iconst 101 C (x := nI 1) dX6_agrees_100 rfl (by decide) ?_
                    subst hz
                    exact j_retI C X dX6_agrees_101 (bl_nar bl_1) ⟨rfl, rfl, rfl, rfl, bl_1⟩
                  · exfalso
                    have n_72 := nat_nle (a := ns) (b := i67) rfl rfl (by omega) (by omega) c_72
                    omega
                | succ n67 ih67 =>
                  intro i67 c67 hl67 hi67 hn67 hz67
                  refine j_iload_n 68 C dX6_agrees_67 rfl rfl 2 rfl ?_
                  refine j_aload_n 69 C dX6_agrees_68 rfl rfl 0 rfl ?_
                  refine k_get 72 C fl_X6_69 dX6_agrees_69 rfl 36 (GH_r hG (by decide)) (σ 36) (by rfl) (CE_36 _) (.int (nI ns)) rfl ?_
                  refine j_ic_ge 100 75 C dX6_agrees_72 rfl rfl (fun c_72 => ?_) (fun c_72 => ?_)
                  · exfalso
                    have n_72 := nat_le (a := ns) (b := i67) rfl rfl (by omega) (by omega) c_72
                    omega
                  · skip
                    have n_72 := nat_nle (a := ns) (b := i67) rfl rfl (by omega) (by omega) c_72
                    obtain ⟨w67, hw67, hz67⟩ := lpe_s hz67
                    have ho67 := hz
                    clear hz
                    have hz := hw67
                    clear hw67
                    unfold m_X6_agrees_L67 at hz
                    refine j_iload_n 76 C dX6_agrees_75 rfl rfl 1 rfl ?_
                    refine j_iload_n 77 C dX6_agrees_76 rfl rfl 2 rfl ?_
                    refine j_ishr 78 C dX6_agrees_77 rfl rfl ?_
                    refine j_iconst 79 C (x := nI 1) dX6_agrees_78 rfl (by decide) ?_
                    refine j_iand 80 C dX6_agrees_79 rfl rfl ?_
                    refine j_iconst 81 C (x := nI 1) dX6_agrees_80 rfl (by decide) ?_
                    refine j_ic_ne 94 84 C dX6_agrees_81 rfl rfl (fun c_81 => ?_) (fun c_81 => ?_)
                    · replace hz := (if_neg c_81).symm.trans hz
                      refine j_iinc 97 C (x' := nI (i67 + 1)) [(2, .int (nI (i67 + 1))), (0, .ref (ad 36)), (1, .int heap)] dX6_agrees_94 rfl 2 rfl (by rw [show Int32.ofInt 1 = nI 1 from by decide, nI_add]) (by decide) rfl ?_
                      refine j_goto 67 C dX6_agrees_97 rfl ?_
                      subst hz
                      refine j_lv [1, 2, 0] (lv' := [(0, .ref (ad 36)), (1, .int heap), (2, .int (nI (i67 + 1)))]) rfl ?_
                      have hz := ho67
                      exact ih67 (i67 + 1) c67 (by omega) (by omega) (by omega) hz67
                    · replace hz := (if_pos c_81).symm.trans hz
                      refine j_aload_n 85 C dX6_agrees_84 rfl rfl 0 rfl ?_
                      refine j_iload_n 86 C dX6_agrees_85 rfl rfl 2 rfl ?_
                      obtain ⟨aN, haN, hn⟩ := hsee i67 (by omega)
                      obtain ⟨y86, e86, hz⟩ := ap_x hz
                      refine s_V 89 C (As := [.int (nI i67)]) cv_X6_97 (c_X6_sees (l := l) (D := D) (K := K) (ad := ad) hG (a_k := i67) (e_k := rfl) (h_k := by omega) (haN := haN) (hn := hn) (hz := e86)) dX6_agrees_86 rfl 36 6 (GH_r hG (by decide)) rfl (CE_36 _) rfl rfl rfl rfl rfl rfl ⟨⟨Nat.le_of_ble_eq_true rfl, Nat.le_of_ble_eq_true rfl⟩, Nat.zero_le _, Nat.zero_le _⟩ (Nat.le_of_ble_eq_true rfl) (st' := [.int y86.1]) rfl (fun hE => ?_)
                      refine j_ct (ct' := CT K W S ns nc ad B (sA σ 47 y86.2)) (fun r _ => congrFun (congrArg (CT K W S ns nc ad B) sA_top) r) ?_
                      have hbl86 : bl y86.1 := hE
                      refine j_if_ne 94 92 C dX6_agrees_89 rfl rfl (fun c_89 => ?_) (fun c_89 => ?_)
                      · replace hz := (if_neg c_89).symm.trans hz
                        refine j_iinc 97 C (x' := nI (i67 + 1)) [(2, .int (nI (i67 + 1))), (0, .ref (ad 36)), (1, .int heap)] dX6_agrees_94 rfl 2 rfl (by rw [show Int32.ofInt 1 = nI 1 from by decide, nI_add]) (by decide) rfl ?_
                        refine j_goto 67 C dX6_agrees_97 rfl ?_
                        subst hz
                        refine j_lv [1, 2, 0] (lv' := [(0, .ref (ad 36)), (1, .int heap), (2, .int (nI (i67 + 1)))]) rfl ?_
                        have hz := ho67
                        exact ih67 (i67 + 1) y86.2 (by omega) (by omega) (by omega) hz67
                      · replace hz := (if_pos c_89).symm.trans hz
                        refine j_iconst 93 C (x := nI 0) dX6_agrees_92 rfl (by decide) ?_
                        subst hz
                        have hz : Sum.inl (nI 0, y86.2) = z67 := hz67
                        subst hz
                        have hz := ho67
                        replace hz : (nI 0, y86.2) = _ := hz
                        subst hz
                        exact j_retI C X dX6_agrees_93 (bl_nar bl_0) ⟨rfl, rfl, rfl, rfl, bl_0⟩
              refine j_lv [1, 2, 0] (lv' := [(0, .ref (ad 36)), (1, .int heap), (2, .int (nI 0))]) rfl ?_
              exact L67 _ 0 c40 (by omega) (by omega) rfl ez67
            · exfalso
              have n_44 := nat_nle (a := 1089) (b := i40) rfl rfl (by omega) (by omega) c_44
              omega
          | succ n40 ih40 =>
            intro i40 c40 hl40 hi40 hn40 hz40
            refine j_iload_n 41 C dX6_agrees_40 rfl rfl 2 rfl ?_
            refine j_sipush 44 C (x := nI 1089) dX6_agrees_41 rfl (by decide) ?_
            refine j_ic_ge 65 47 C dX6_agrees_44 rfl rfl (fun c_44 => ?_) (fun c_44 => ?_)
            · exfalso
              have n_44 := nat_le (a := 1089) (b := i40) rfl rfl (by omega) (by omega) c_44
              omega
            · skip
              have n_44 := nat_nle (a := 1089) (b := i40) rfl rfl (by omega) (by omega) c_44
              obtain ⟨w40, hw40, hz40⟩ := lp_s hz40
              have ho40 := hz
              clear hz
              have hz := hw40
              clear hw40
              unfold m_X6_agrees_L40 at hz
              refine j_aload_n 48 C dX6_agrees_47 rfl rfl 0 rfl ?_
              refine k_get 51 C fl_X6_41 dX6_agrees_48 rfl 36 (GH_r hG (by decide)) (σ 36) (by rfl) (CE_36 _) (.ref (ad 47)) rfl ?_
              refine j_iload_n 52 C dX6_agrees_51 rfl rfl 2 rfl ?_
              refine j_aload_n 53 C dX6_agrees_52 rfl rfl 0 rfl ?_
              refine k_get 56 C fl_X6_44 dX6_agrees_53 rfl 36 (GH_r hG (by decide)) (σ 36) (by rfl) (CE_36 _) (.ref (ad 48)) rfl ?_
              refine j_iload_n 57 C dX6_agrees_56 rfl rfl 2 rfl ?_
              refine k_iald 58 C dX6_agrees_57 rfl 48 (GH_r hG (by decide)) (σ 48) (by rfl) CE_48 (vp_inE (n := i40) rfl (by omega) (by omega)) ?_
              refine k_iast 59 C dX6_agrees_58 rfl 47 (GH_r hG (by decide)) c40 rfl CE_47 (vp_inE (n := i40) rfl (by omega) (by omega)) (sA σ 47 (upd c40 (nI i40).toNatClampNeg ((σ 48) (nI i40).toNatClampNeg))) sA_top ?_
              obtain ⟨f58, e58, hz⟩ := ap_x hz
              rw [e58]
              refine j_iinc 62 C (x' := nI (i40 + 1)) [(2, .int (nI (i40 + 1))), (0, .ref (ad 36)), (1, .int heap)] dX6_agrees_59 rfl 2 rfl (by rw [show Int32.ofInt 1 = nI 1 from by decide, nI_add]) (by decide) rfl ?_
              refine j_goto 40 C dX6_agrees_62 rfl ?_
              subst hz
              refine j_lv [1, 2, 0] (lv' := [(0, .ref (ad 36)), (1, .int heap), (2, .int (nI (i40 + 1)))]) rfl ?_
              have hz := ho40
              exact ih40 (i40 + 1) f58 (by omega) (by omega) (by omega) hz40
        refine j_lv [1, 2, 0] (lv' := [(0, .ref (ad 36)), (1, .int heap), (2, .int (nI 0))]) rfl ?_
        refine j_ct (ct' := CT K W S ns nc ad B (sA σ 47 (σ 47))) (fun r _ => congrFun (congrArg (CT K W S ns nc ad B) (sA_idr (by rfl))) r) ?_
        exact L40 _ 0 (σ 47) (by omega) (by omega) rfl ez40
      · exfalso
        have n_7 := nat_nle (a := ns) (b := i2) rfl rfl (by omega) (by omega) c_7
        omega
    | succ n2 ih2 =>
      intro i2 c2 hl2 hi2 hn2 hz2
      refine j_iload_n 3 C dX6_agrees_2 rfl rfl 2 rfl ?_
      refine j_aload_n 4 C dX6_agrees_3 rfl rfl 0 rfl ?_
      refine k_get 7 C fl_X6_69 dX6_agrees_4 rfl 36 (GH_r hG (by decide)) (σ 36) rfl (CE_36 _) (.int (nI ns)) rfl ?_
      refine j_ic_ge 38 10 C dX6_agrees_7 rfl rfl (fun c_7 => ?_) (fun c_7 => ?_)
      · exfalso
        have n_7 := nat_le (a := ns) (b := i2) rfl rfl (by omega) (by omega) c_7
        omega
      · skip
        have n_7 := nat_nle (a := ns) (b := i2) rfl rfl (by omega) (by omega) c_7
        obtain ⟨w2, hw2, hz2⟩ := lpe_s hz2
        have ho2 := hz
        clear hz
        have hz := hw2
        clear hw2
        unfold m_X6_agrees_L2 at hz
        refine j_iload_n 11 C dX6_agrees_10 rfl rfl 1 rfl ?_
        refine j_iload_n 12 C dX6_agrees_11 rfl rfl 2 rfl ?_
        refine j_ishr 13 C dX6_agrees_12 rfl rfl ?_
        refine j_iconst 14 C (x := nI 1) dX6_agrees_13 rfl (by decide) ?_
        refine j_iand 15 C dX6_agrees_14 rfl rfl ?_
        refine j_iconst 16 C (x := nI 1) dX6_agrees_15 rfl (by decide) ?_
        refine j_ic_ne 32 19 C dX6_agrees_16 rfl rfl (fun c_16 => ?_) (fun c_16 => ?_)
        · replace hz := (if_neg c_16).symm.trans hz
          refine j_iinc 35 C (x' := nI (i2 + 1)) [(2, .int (nI (i2 + 1))), (0, .ref (ad 36)), (1, .int heap)] dX6_agrees_32 rfl 2 rfl (by rw [show Int32.ofInt 1 = nI 1 from by decide, nI_add]) (by decide) rfl ?_
          refine j_goto 2 C dX6_agrees_35 rfl ?_
          subst hz
          refine j_lv [1, 2, 0] (lv' := [(0, .ref (ad 36)), (1, .int heap), (2, .int (nI (i2 + 1)))]) rfl ?_
          have hz := ho2
          exact ih2 (i2 + 1) () (by omega) (by omega) (by omega) hz2
        · replace hz := (if_pos c_16).symm.trans hz
          refine j_aload_n 20 C dX6_agrees_19 rfl rfl 0 rfl ?_
          refine k_get 23 C fl_X6_47 dX6_agrees_20 rfl 36 (GH_r hG (by decide)) (σ 36) rfl (CE_36 _) (.ref (ad 49)) rfl ?_
          refine j_iload_n 24 C dX6_agrees_23 rfl rfl 2 rfl ?_
          refine k_iald 25 C dX6_agrees_24 rfl 49 (GH_r hG (by decide)) (σ 49) rfl CE_49 (vp_inE (n := i2) rfl (by omega) (by omega)) ?_
          refine j_iload_n 26 C dX6_agrees_25 rfl rfl 1 rfl ?_
          refine j_iand 27 C dX6_agrees_26 rfl rfl ?_
          refine j_if_eq 32 30 C dX6_agrees_27 rfl rfl (fun c_27 => ?_) (fun c_27 => ?_)
          · replace hz := (if_pos c_27).symm.trans hz
            refine j_iinc 35 C (x' := nI (i2 + 1)) [(2, .int (nI (i2 + 1))), (0, .ref (ad 36)), (1, .int heap)] dX6_agrees_32 rfl 2 rfl (by rw [show Int32.ofInt 1 = nI 1 from by decide, nI_add]) (by decide) rfl ?_
            refine j_goto 2 C dX6_agrees_35 rfl ?_
            subst hz
            refine j_lv [1, 2, 0] (lv' := [(0, .ref (ad 36)), (1, .int heap), (2, .int (nI (i2 + 1)))]) rfl ?_
            have hz := ho2
            exact ih2 (i2 + 1) () (by omega) (by omega) (by omega) hz2
          · replace hz := (if_neg c_27).symm.trans hz
            refine j_iconst 31 C (x := nI 0) dX6_agrees_30 rfl (by decide) ?_
            subst hz
            have hz : Sum.inl (nI 0, (σ 47)) = z2 := hz2
            subst hz
            have hz := ho2
            replace hz : (nI 0, (σ 47)) = _ := hz
            subst hz
            exact j_retI C X dX6_agrees_31 (bl_nar bl_0) ⟨rfl, rfl, rfl, (congrArg _ sA_id.symm), bl_0⟩
  refine j_lv [1, 2, 0] (lv' := [(0, .ref (ad 36)), (1, .int heap), (2, .int (nI 0))]) rfl ?_
  exact L2 _ 0 () (by omega) (by omega) rfl ez2
def m_X6_pairs_L33 (W S ns nc : Nat) (B : Nat → Option Nat) (σ : Nat → Nat → Int32) (all : Int32) (i23 : Nat) (i33 : Nat) (c33 : (Nat → Int32) × (Nat → Int32)) : (Nat → Int32) × (Nat → Int32) := ap (((nI 1) <<< ((nI i23) &&& 31)) ||| ((nI 1) <<< ((nI i33) &&& 31))) (fun (x48 : Int32) => (if (all &&& x48) = x48 then ap (m_X6_agrees W S ns nc B (sA (sA σ 49 c33.2) 47 c33.1) x48) (fun (y62 : Int32 × (Nat → Int32)) => (if y62.1 = 0 then ap (upd c33.2 (nI i23).toNatClampNeg ((c33.2 (nI i23).toNatClampNeg) ||| ((nI 1) <<< ((nI i33) &&& 31)))) (fun (f82 : Nat → Int32) => ap (upd f82 (nI i33).toNatClampNeg ((f82 (nI i33).toNatClampNeg) ||| ((nI 1) <<< ((nI i23) &&& 31)))) (fun (f94 : Nat → Int32) => (y62.2, f94))) else (y62.2, c33.2))) else (c33.1, c33.2)))
def m_X6_pairs_L23 (W S ns nc : Nat) (B : Nat → Option Nat) (σ : Nat → Nat → Int32) (all : Int32) (i23 : Nat) (c23 : (Nat → Int32) × (Nat → Int32)) : (Nat → Int32) × (Nat → Int32) := ap (lp (m_X6_pairs_L33 W S ns nc B σ all i23) (ns - i23) i23 (c23.1, c23.2)) (fun (z33 : (Nat → Int32) × (Nat → Int32)) => (z33.1, z33.2))
def m_X6_pairs_L2 (W S ns nc : Nat) (B : Nat → Option Nat) (σ : Nat → Nat → Int32) (i2 : Nat) (c2 : (Nat → Int32)) : (Nat → Int32) := (upd c2 (nI i2).toNatClampNeg (nI 0))
def m_X6_pairs (W S ns nc : Nat) (B : Nat → Option Nat) (σ : Nat → Nat → Int32) (all : Int32) : (Nat → Int32) × (Nat → Int32) := ap (lp (m_X6_pairs_L2 W S ns nc B σ) (10 - 0) 0 (σ 49)) (fun (z2 : (Nat → Int32)) => ap (lp (m_X6_pairs_L23 W S ns nc B σ all) (ns - 0) 0 ((σ 47), z2)) (fun (z23 : (Nat → Int32) × (Nat → Int32)) => (z23.1, z23.2)))
abbrev rm_X6_pairs : Room := { frames := 5, cells := 0, slots := 0, locals := 118 }
set_option maxHeartbeats 4000000 in
set_option maxRecDepth 100000 in
theorem c_X6_pairs {l : Launch} {D : va_G} {K : Nat → ClassId} {W S ns nc N : Nat} {ad : Nat → Nat} {B : Nat → Option Nat} {σ : Nat → Nat → Int32} (hG : GH W S ns nc N) {all : Int32}  {z : (Nat → Int32) × (Nat → Int32)} (hz : m_X6_pairs W S ns nc B σ all = z) (hsee : SeeOK (σ 43) ns) : MC l yX6_pairs cX6_pairs 5 none rm_X6_pairs D (TY K) N ad (CT K W S ns nc ad B σ) [.ref (ad 36), .int all] (BS none N ad (CT K W S ns nc ad B (sA (sA σ 47 z.1) 49 z.2)) True) := by
  have hW := hG.1; have hW8 := hG.2.1; have hS := hG.2.2.1; have hS4 := hG.2.2.2.1; have hns := hG.2.2.2.2.1; have hnc := hG.2.2.2.2.2.1; have hWS := GH_ws hG
  refine MC.of (by decide) (Nat.le_of_ble_eq_true rfl) (fun p e s m args below meth c Q A H0 C X => ?_)
  replace C : Cx p s m args meth c cX6_pairs RX6 5 D (TY K) A H0 := C
  show J p l e rm_X6_pairs s m args below meth c Q D A H0 5 0 0 N ad (CT K W S ns nc ad B σ) 0 [(0, .ref (ad 36)), (1, .int all)] []
  unfold m_X6_pairs at hz
  refine j_iconst 1 C (x := nI 0) dX6_pairs_0 rfl (by decide) ?_
  refine j_istore_n 2 C [(2, .int (nI 0)), (0, .ref (ad 36)), (1, .int all)] dX6_pairs_1 rfl rfl (by decide) rfl ?_
  skip
  obtain ⟨z2, ez2, hz⟩ := ap_x hz
  have L2 : ∀ (n2 i2 : Nat) (c2 : (Nat → Int32)), 0 ≤ i2 → i2 < 5000 → n2 = 10 - i2 → lp (m_X6_pairs_L2 W S ns nc B σ) n2 i2 c2 = z2 → J p l e rm_X6_pairs s m args below meth c Q D A H0 5 0 0 N ad (CT K W S ns nc ad B (sA σ 49 c2)) 2 [(0, .ref (ad 36)), (1, .int all), (2, .int (nI i2))] [] := by
    intro n2
    induction n2 with
    | zero =>
      intro i2 c2 hl2 hi2 hn2 hz2
      refine j_iload_n 3 C dX6_pairs_2 rfl rfl 2 rfl ?_
      refine j_bipush 5 C (x := nI 10) dX6_pairs_3 rfl (by decide) ?_
      refine j_ic_ge 21 8 C dX6_pairs_5 rfl rfl (fun c_5 => ?_) (fun c_5 => ?_)
      · skip
        have n_5 := nat_le (a := 10) (b := i2) rfl rfl (by omega) (by omega) c_5
        have hq2 : c2 = z2 := hz2
        subst hq2
        refine j_iconst 22 C (x := nI 0) dX6_pairs_21 rfl (by decide) ?_
        refine j_istore_n 23 C [(2, .int (nI 0)), (0, .ref (ad 36)), (1, .int all)] dX6_pairs_22 rfl rfl (by decide) rfl ?_
        skip
        obtain ⟨z23, ez23, hz⟩ := ap_x hz
        have L23 : ∀ (n23 i23 : Nat) (c23 : (Nat → Int32) × (Nat → Int32)), 0 ≤ i23 → i23 < 5000 → n23 = ns - i23 → lp (m_X6_pairs_L23 W S ns nc B σ all) n23 i23 c23 = z23 → J p l e rm_X6_pairs s m args below meth c Q D A H0 5 0 0 N ad (CT K W S ns nc ad B (sA (sA σ 49 c23.2) 47 c23.1)) 23 [(0, .ref (ad 36)), (1, .int all), (2, .int (nI i23))] [] := by
          intro n23
          induction n23 with
          | zero =>
            intro i23 c23 hl23 hi23 hn23 hz23
            refine j_iload_n 24 C dX6_pairs_23 rfl rfl 2 rfl ?_
            refine j_aload_n 25 C dX6_pairs_24 rfl rfl 0 rfl ?_
            refine k_get 28 C fl_X6_69 dX6_pairs_25 rfl 36 (GH_r hG (by decide)) (σ 36) (by rfl) (CE_36 _) (.int (nI ns)) rfl ?_
            refine j_ic_ge 107 31 C dX6_pairs_28 rfl rfl (fun c_28 => ?_) (fun c_28 => ?_)
            · skip
              have n_28 := nat_le (a := ns) (b := i23) rfl rfl (by omega) (by omega) c_28
              have hq23 : c23 = z23 := hz23
              subst hq23
              subst hz
              exact j_retV C X dX6_pairs_107 ⟨rfl, rfl, rfl, (CT_x (by intro a; (by_cases h0 : a = 47; (· (first | (subst h0; simp [sA]; done) | (rw [h0]; simp [sA]; done))); by_cases h1 : a = 49; (· (first | (subst h1; simp [sA]; done) | (rw [h1]; simp [sA]; done))); simp [sA, h0, h1]))), trivial⟩
            · exfalso
              have n_28 := nat_nle (a := ns) (b := i23) rfl rfl (by omega) (by omega) c_28
              omega
          | succ n23 ih23 =>
            intro i23 c23 hl23 hi23 hn23 hz23
            refine j_iload_n 24 C dX6_pairs_23 rfl rfl 2 rfl ?_
            refine j_aload_n 25 C dX6_pairs_24 rfl rfl 0 rfl ?_
            refine k_get 28 C fl_X6_69 dX6_pairs_25 rfl 36 (GH_r hG (by decide)) (σ 36) (by rfl) (CE_36 _) (.int (nI ns)) rfl ?_
            refine j_ic_ge 107 31 C dX6_pairs_28 rfl rfl (fun c_28 => ?_) (fun c_28 => ?_)
            · exfalso
              have n_28 := nat_le (a := ns) (b := i23) rfl rfl (by omega) (by omega) c_28
              omega
            · skip
              have n_28 := nat_nle (a := ns) (b := i23) rfl rfl (by omega) (by omega) c_28
              obtain ⟨w23, hw23, hz23⟩ := lp_s hz23
              have ho23 := hz
              clear hz
              have hz := hw23
              clear hw23
              unfold m_X6_pairs_L23 at hz
              refine j_iload_n 32 C dX6_pairs_31 rfl rfl 2 rfl ?_
              refine j_istore_n 33 C [(3, .int (nI i23)), (0, .ref (ad 36)), (1, .int all), (2, .int (nI i23))] dX6_pairs_32 rfl rfl (by decide) rfl ?_
              skip
              obtain ⟨z33, ez33, hz⟩ := ap_x hz
              have L33 : ∀ (n33 i33 : Nat) (c33 : (Nat → Int32) × (Nat → Int32)), 0 ≤ i33 → i33 < 5000 → n33 = ns - i33 → lp (m_X6_pairs_L33 W S ns nc B σ all i23) n33 i33 c33 = z33 → J p l e rm_X6_pairs s m args below meth c Q D A H0 5 0 0 N ad (CT K W S ns nc ad B (sA (sA σ 49 c33.2) 47 c33.1)) 33 [(0, .ref (ad 36)), (1, .int all), (2, .int (nI i23)), (3, .int (nI i33))] [] := by
                intro n33
                induction n33 with
                | zero =>
                  intro i33 c33 hl33 hi33 hn33 hz33
                  refine j_iload_n 34 C dX6_pairs_33 rfl rfl 3 rfl ?_
                  refine j_aload_n 35 C dX6_pairs_34 rfl rfl 0 rfl ?_
                  refine k_get 38 C fl_X6_69 dX6_pairs_35 rfl 36 (GH_r hG (by decide)) (σ 36) (by rfl) (CE_36 _) (.int (nI ns)) rfl ?_
                  refine j_ic_ge 101 41 C dX6_pairs_38 rfl rfl (fun c_38 => ?_) (fun c_38 => ?_)
                  · skip
                    have n_38 := nat_le (a := ns) (b := i33) rfl rfl (by omega) (by omega) c_38
                    have hq33 : c33 = z33 := hz33
                    subst hq33
                    refine j_iinc 104 C (x' := nI (i23 + 1)) [(2, .int (nI (i23 + 1))), (0, .ref (ad 36)), (1, .int all), (3, .int (nI i33))] dX6_pairs_101 rfl 2 rfl (by rw [show Int32.ofInt 1 = nI 1 from by decide, nI_add]) (by decide) rfl ?_
                    refine j_goto 23 C dX6_pairs_104 rfl ?_
                    subst hz
                    refine j_lv [1, 2, 0] (lv' := [(0, .ref (ad 36)), (1, .int all), (2, .int (nI (i23 + 1)))]) rfl ?_
                    have hz := ho23
                    exact ih23 (i23 + 1) (c33.1, c33.2) (by omega) (by omega) (by omega) hz23
                  · exfalso
                    have n_38 := nat_nle (a := ns) (b := i33) rfl rfl (by omega) (by omega) c_38
                    omega
                | succ n33 ih33 =>
                  intro i33 c33 hl33 hi33 hn33 hz33
                  refine j_iload_n 34 C dX6_pairs_33 rfl rfl 3 rfl ?_
                  refine j_aload_n 35 C dX6_pairs_34 rfl rfl 0 rfl ?_
                  refine k_get 38 C fl_X6_69 dX6_pairs_35 rfl 36 (GH_r hG (by decide)) (σ 36) (by rfl) (CE_36 _) (.int (nI ns)) rfl ?_
                  refine j_ic_ge 101 41 C dX6_pairs_38 rfl rfl (fun c_38 => ?_) (fun c_38 => ?_)
                  · exfalso
                    have n_38 := nat_le (a := ns) (b := i33) rfl rfl (by omega) (by omega) c_38
                    omega
                  · skip
                    have n_38 := nat_nle (a := ns) (b := i33) rfl rfl (by omega) (by omega) c_38
                    obtain ⟨w33, hw33, hz33⟩ := lp_s hz33
                    have ho33 := hz
                    clear hz
                    have hz := hw33
                    clear hw33
                    unfold m_X6_pairs_L33 at hz
                    refine j_iconst 42 C (x := nI 1) dX6_pairs_41 rfl (by decide) ?_
                    refine j_iload_n 43 C dX6_pairs_42 rfl rfl 2 rfl ?_
                    refine j_ishl 44 C dX6_pairs_43 rfl rfl ?_
                    refine j_iconst 45 C (x := nI 1) dX6_pairs_44 rfl (by decide) ?_
                    refine j_iload_n 46 C dX6_pairs_45 rfl rfl 3 rfl ?_
                    refine j_ishl 47 C dX6_pairs_46 rfl rfl ?_
                    refine j_ior 48 C dX6_pairs_47 rfl rfl ?_
                    obtain ⟨x48, e48, hz⟩ := ap_x hz
                    refine j_st (st' := [.int x48]) (by rw [← e48]) ?_
                    refine j_istore 50 C [(4, .int x48), (0, .ref (ad 36)), (1, .int all), (2, .int (nI i23)), (3, .int (nI i33))] dX6_pairs_48 rfl (by decide) rfl ?_
                    refine j_iload_n 51 C dX6_pairs_50 rfl rfl 2 rfl ?_
                    refine j_iload 53 C dX6_pairs_51 rfl 0 rfl ?_
                    refine j_iand 54 C dX6_pairs_53 rfl rfl ?_
                    refine j_iload 56 C dX6_pairs_54 rfl 0 rfl ?_
                    refine j_ic_ne 95 59 C dX6_pairs_56 rfl rfl (fun c_56 => ?_) (fun c_56 => ?_)
                    · replace hz := (if_neg c_56).symm.trans hz
                      refine j_iinc 98 C (x' := nI (i33 + 1)) [(3, .int (nI (i33 + 1))), (4, .int x48), (0, .ref (ad 36)), (1, .int all), (2, .int (nI i23))] dX6_pairs_95 rfl 4 rfl (by rw [show Int32.ofInt 1 = nI 1 from by decide, nI_add]) (by decide) rfl ?_
                      refine j_goto 33 C dX6_pairs_98 rfl ?_
                      subst hz
                      refine j_lv [2, 3, 4, 0] (lv' := [(0, .ref (ad 36)), (1, .int all), (2, .int (nI i23)), (3, .int (nI (i33 + 1)))]) rfl ?_
                      have hz := ho33
                      exact ih33 (i33 + 1) (c33.1, c33.2) (by omega) (by omega) (by omega) hz33
                    · replace hz := (if_pos c_56).symm.trans hz
                      refine j_aload_n 60 C dX6_pairs_59 rfl rfl 1 rfl ?_
                      refine j_iload 62 C dX6_pairs_60 rfl 0 rfl ?_
                      obtain ⟨y62, e62, hz⟩ := ap_x hz
                      refine s_V 65 C (As := [.int x48]) cv_X6_100 (c_X6_agrees (l := l) (D := D) (K := K) (ad := ad) hG (hsee := hsee) (hz := e62)) dX6_pairs_62 rfl 36 6 (GH_r hG (by decide)) rfl (CE_36 _) rfl rfl rfl rfl rfl rfl ⟨⟨Nat.le_of_ble_eq_true rfl, Nat.le_of_ble_eq_true rfl⟩, Nat.zero_le _, Nat.zero_le _⟩ (Nat.le_of_ble_eq_true rfl) (st' := [.int y62.1]) rfl (fun hE => ?_)
                      refine j_ct (ct' := CT K W S ns nc ad B (sA (sA σ 49 c33.2) 47 y62.2)) (fun r _ => congrFun (congrArg (CT K W S ns nc ad B) sA_top) r) ?_
                      have hbl62 : bl y62.1 := hE
                      refine j_if_eq 71 68 C dX6_pairs_65 rfl rfl (fun c_65 => ?_) (fun c_65 => ?_)
                      · replace hz := (if_pos c_65).symm.trans hz
                        refine j_aload_n 72 C dX6_pairs_71 rfl rfl 1 rfl ?_
                        refine k_get 75 C fl_X6_47 dX6_pairs_72 rfl 36 (GH_r hG (by decide)) (σ 36) (by rfl) (CE_36 _) (.ref (ad 49)) rfl ?_
                        refine j_iload_n 76 C dX6_pairs_75 rfl rfl 3 rfl ?_
                        refine j_dup2 77 C dX6_pairs_76 rfl rfl rfl ?_
                        refine k_iald 78 C dX6_pairs_77 rfl 49 (GH_r hG (by decide)) c33.2 (by rfl) CE_49 (vp_inE (n := i23) rfl (by omega) (by omega)) ?_
                        refine j_iconst 79 C (x := nI 1) dX6_pairs_78 rfl (by decide) ?_
                        refine j_iload_n 80 C dX6_pairs_79 rfl rfl 4 rfl ?_
                        refine j_ishl 81 C dX6_pairs_80 rfl rfl ?_
                        refine j_ior 82 C dX6_pairs_81 rfl rfl ?_
                        refine k_iast 83 C dX6_pairs_82 rfl 49 (GH_r hG (by decide)) c33.2 (by rfl) CE_49 (vp_inE (n := i23) rfl (by omega) (by omega)) (sA (sA σ 49 (upd c33.2 (nI i23).toNatClampNeg ((c33.2 (nI i23).toNatClampNeg) ||| ((nI 1) <<< ((nI i33) &&& 31))))) 47 y62.2) (sA_2 (by first | decide | omega)) ?_
                        obtain ⟨f82, e82, hz⟩ := ap_x hz
                        rw [e82]
                        refine j_aload_n 84 C dX6_pairs_83 rfl rfl 1 rfl ?_
                        refine k_get 87 C fl_X6_47 dX6_pairs_84 rfl 36 (GH_r hG (by decide)) (σ 36) (by rfl) (CE_36 _) (.ref (ad 49)) rfl ?_
                        refine j_iload_n 88 C dX6_pairs_87 rfl rfl 4 rfl ?_
                        refine j_dup2 89 C dX6_pairs_88 rfl rfl rfl ?_
                        refine k_iald 90 C dX6_pairs_89 rfl 49 (GH_r hG (by decide)) f82 (by rfl) CE_49 (vp_inE (n := i33) rfl (by omega) (by omega)) ?_
                        refine j_iconst 91 C (x := nI 1) dX6_pairs_90 rfl (by decide) ?_
                        refine j_iload_n 92 C dX6_pairs_91 rfl rfl 3 rfl ?_
                        refine j_ishl 93 C dX6_pairs_92 rfl rfl ?_
                        refine j_ior 94 C dX6_pairs_93 rfl rfl ?_
                        refine k_iast 95 C dX6_pairs_94 rfl 49 (GH_r hG (by decide)) f82 (by rfl) CE_49 (vp_inE (n := i33) rfl (by omega) (by omega)) (sA (sA σ 49 (upd f82 (nI i33).toNatClampNeg ((f82 (nI i33).toNatClampNeg) ||| ((nI 1) <<< ((nI i23) &&& 31))))) 47 y62.2) (sA_2 (by first | decide | omega)) ?_
                        obtain ⟨f94, e94, hz⟩ := ap_x hz
                        rw [e94]
                        refine j_iinc 98 C (x' := nI (i33 + 1)) [(3, .int (nI (i33 + 1))), (4, .int x48), (0, .ref (ad 36)), (1, .int all), (2, .int (nI i23))] dX6_pairs_95 rfl 4 rfl (by rw [show Int32.ofInt 1 = nI 1 from by decide, nI_add]) (by decide) rfl ?_
                        refine j_goto 33 C dX6_pairs_98 rfl ?_
                        subst hz
                        refine j_lv [2, 3, 4, 0] (lv' := [(0, .ref (ad 36)), (1, .int all), (2, .int (nI i23)), (3, .int (nI (i33 + 1)))]) rfl ?_
                        have hz := ho33
                        exact ih33 (i33 + 1) (y62.2, f94) (by omega) (by omega) (by omega) hz33
                      · replace hz := (if_neg c_65).symm.trans hz
                        refine j_goto 95 C dX6_pairs_68 rfl ?_
                        refine j_iinc 98 C (x' := nI (i33 + 1)) [(3, .int (nI (i33 + 1))), (4, .int x48), (0, .ref (ad 36)), (1, .int all), (2, .int (nI i23))] dX6_pairs_95 rfl 4 rfl (by rw [show Int32.ofInt 1 = nI 1 from by decide, nI_add]) (by decide) rfl ?_
                        refine j_goto 33 C dX6_pairs_98 rfl ?_
                        subst hz
                        refine j_lv [2, 3, 4, 0] (lv' := [(0, .ref (ad 36)), (1, .int all), (2, .int (nI i23)), (3, .int (nI (i33 + 1)))]) rfl ?_
                        have hz := ho33
                        exact ih33 (i33 + 1) (y62.2, c33.2) (by omega) (by omega) (by omega) hz33
              refine j_lv [1, 2, 3, 0] (lv' := [(0, .ref (ad 36)), (1, .int all), (2, .int (nI i23)), (3, .int (nI i23))]) rfl ?_
              exact L33 _ i23 (c23.1, c23.2) (by omega) (by omega) rfl ez33
        refine j_lv [1, 2, 0] (lv' := [(0, .ref (ad 36)), (1, .int all), (2, .int (nI 0))]) rfl ?_
        refine j_ct (ct' := CT K W S ns nc ad B (sA (sA σ 49 c2) 47 (σ 47))) (fun r _ => congrFun (congrArg (CT K W S ns nc ad B) (sA_idr (by rfl))) r) ?_
        exact L23 _ 0 ((σ 47), c2) (by omega) (by omega) rfl ez23
      · exfalso
        have n_5 := nat_nle (a := 10) (b := i2) rfl rfl (by omega) (by omega) c_5
        omega
    | succ n2 ih2 =>
      intro i2 c2 hl2 hi2 hn2 hz2
      refine j_iload_n 3 C dX6_pairs_2 rfl rfl 2 rfl ?_
      refine j_bipush 5 C (x := nI 10) dX6_pairs_3 rfl (by decide) ?_
      refine j_ic_ge 21 8 C dX6_pairs_5 rfl rfl (fun c_5 => ?_) (fun c_5 => ?_)
      · exfalso
        have n_5 := nat_le (a := 10) (b := i2) rfl rfl (by omega) (by omega) c_5
        omega
      · skip
        have n_5 := nat_nle (a := 10) (b := i2) rfl rfl (by omega) (by omega) c_5
        obtain ⟨w2, hw2, hz2⟩ := lp_s hz2
        have ho2 := hz
        clear hz
        have hz := hw2
        clear hw2
        unfold m_X6_pairs_L2 at hz
        refine j_aload_n 9 C dX6_pairs_8 rfl rfl 0 rfl ?_
        refine k_get 12 C fl_X6_47 dX6_pairs_9 rfl 36 (GH_r hG (by decide)) (σ 36) (by rfl) (CE_36 _) (.ref (ad 49)) rfl ?_
        refine j_iload_n 13 C dX6_pairs_12 rfl rfl 2 rfl ?_
        refine j_iconst 14 C (x := nI 0) dX6_pairs_13 rfl (by decide) ?_
        refine k_iast 15 C dX6_pairs_14 rfl 49 (GH_r hG (by decide)) c2 rfl CE_49 (vp_inE (n := i2) rfl (by omega) (by omega)) (sA σ 49 (upd c2 (nI i2).toNatClampNeg (nI 0))) sA_top ?_
        refine j_iinc 18 C (x' := nI (i2 + 1)) [(2, .int (nI (i2 + 1))), (0, .ref (ad 36)), (1, .int all)] dX6_pairs_15 rfl 2 rfl (by rw [show Int32.ofInt 1 = nI 1 from by decide, nI_add]) (by decide) rfl ?_
        refine j_goto 2 C dX6_pairs_18 rfl ?_
        subst hz
        refine j_lv [1, 2, 0] (lv' := [(0, .ref (ad 36)), (1, .int all), (2, .int (nI (i2 + 1)))]) rfl ?_
        have hz := ho2
        exact ih2 (i2 + 1) (upd c2 (nI i2).toNatClampNeg (nI 0)) (by omega) (by omega) (by omega) hz2
  refine j_lv [1, 2, 0] (lv' := [(0, .ref (ad 36)), (1, .int all), (2, .int (nI 0))]) rfl ?_
  refine j_ct (ct' := CT K W S ns nc ad B (sA σ 49 (σ 49))) (fun r _ => congrFun (congrArg (CT K W S ns nc ad B) (sA_idr (by rfl))) r) ?_
  exact L2 _ 0 (σ 49) (by omega) (by omega) rfl ez2
def m_X6_bits_L4 (W S ns nc : Nat) (B : Nat → Option Nat) (σ : Nat → Nat → Int32) (v : Int32) (i4 : Nat) (c4 : Int32) : Int32 := ap (c4 + ((v >>> ((nI i4) &&& 31)) &&& (nI 1))) (fun (x17 : Int32) => x17)
def m_X6_bits (W S ns nc : Nat) (B : Nat → Option Nat) (σ : Nat → Nat → Int32) (v : Int32) : Int32 := ap (lp (m_X6_bits_L4 W S ns nc B σ v) (10 - 0) 0 (nI 0)) (fun (z4 : Int32) => z4)
abbrev rm_X6_bits : Room := { frames := 0, cells := 0, slots := 0, locals := 0 }
set_option maxHeartbeats 4000000 in
set_option maxRecDepth 100000 in
theorem c_X6_bits {l : Launch} {D : va_G} {K : Nat → ClassId} {W S ns nc N : Nat} {ad : Nat → Nat} {B : Nat → Option Nat} {σ : Nat → Nat → Int32} (hG : GH W S ns nc N) {v : Int32}  {z : Int32} (hz : m_X6_bits W S ns nc B σ v = z)  : MC l yX6_bits cX6_bits 3 (some .int) rm_X6_bits D (TY K) N ad (CT K W S ns nc ad B σ) [.int v] (BS (some (.int z)) N ad (CT K W S ns nc ad B σ) True) := by
  have hW := hG.1; have hW8 := hG.2.1; have hS := hG.2.2.1; have hS4 := hG.2.2.2.1; have hns := hG.2.2.2.2.1; have hnc := hG.2.2.2.2.2.1; have hWS := GH_ws hG
  refine MC.of (by decide) (Nat.le_of_ble_eq_true rfl) (fun p e s m args below meth c Q A H0 C X => ?_)
  replace C : Cx p s m args meth c cX6_bits RX6 3 D (TY K) A H0 := C
  show J p l e rm_X6_bits s m args below meth c Q D A H0 3 0 0 N ad (CT K W S ns nc ad B σ) 0 [(0, .int v)] []
  unfold m_X6_bits at hz
  refine j_iconst 1 C (x := nI 0) dX6_bits_0 rfl (by decide) ?_
  refine j_istore_n 2 C [(1, .int (nI 0)), (0, .int v)] dX6_bits_1 rfl rfl (by decide) rfl ?_
  refine j_iconst 3 C (x := nI 0) dX6_bits_2 rfl (by decide) ?_
  refine j_istore_n 4 C [(2, .int (nI 0)), (1, .int (nI 0)), (0, .int v)] dX6_bits_3 rfl rfl (by decide) rfl ?_
  skip
  obtain ⟨z4, ez4, hz⟩ := ap_x hz
  have L4 : ∀ (n4 i4 : Nat) (c4 : Int32), 0 ≤ i4 → i4 < 5000 → n4 = 10 - i4 → lp (m_X6_bits_L4 W S ns nc B σ v) n4 i4 c4 = z4 → J p l e rm_X6_bits s m args below meth c Q D A H0 3 0 0 N ad (CT K W S ns nc ad B σ) 4 [(0, .int v), (1, .int c4), (2, .int (nI i4))] [] := by
    intro n4
    induction n4 with
    | zero =>
      intro i4 c4 hl4 hi4 hn4 hz4
      refine j_iload_n 5 C dX6_bits_4 rfl rfl 2 rfl ?_
      refine j_bipush 7 C (x := nI 10) dX6_bits_5 rfl (by decide) ?_
      refine j_ic_ge 24 10 C dX6_bits_7 rfl rfl (fun c_7 => ?_) (fun c_7 => ?_)
      · skip
        have n_7 := nat_le (a := 10) (b := i4) rfl rfl (by omega) (by omega) c_7
        have hq4 : c4 = z4 := hz4
        subst hq4
        refine j_iload_n 25 C dX6_bits_24 rfl rfl 1 rfl ?_
        subst hz
        exact j_retI C X dX6_bits_25 rfl ⟨rfl, rfl, rfl, rfl, trivial⟩
      · exfalso
        have n_7 := nat_nle (a := 10) (b := i4) rfl rfl (by omega) (by omega) c_7
        omega
    | succ n4 ih4 =>
      intro i4 c4 hl4 hi4 hn4 hz4
      refine j_iload_n 5 C dX6_bits_4 rfl rfl 2 rfl ?_
      refine j_bipush 7 C (x := nI 10) dX6_bits_5 rfl (by decide) ?_
      refine j_ic_ge 24 10 C dX6_bits_7 rfl rfl (fun c_7 => ?_) (fun c_7 => ?_)
      · exfalso
        have n_7 := nat_le (a := 10) (b := i4) rfl rfl (by omega) (by omega) c_7
        omega
      · skip
        have n_7 := nat_nle (a := 10) (b := i4) rfl rfl (by omega) (by omega) c_7
        obtain ⟨w4, hw4, hz4⟩ := lp_s hz4
        have ho4 := hz
        clear hz
        have hz := hw4
        clear hw4
        unfold m_X6_bits_L4 at hz
        refine j_iload_n 11 C dX6_bits_10 rfl rfl 1 rfl ?_
        refine j_iload_n 12 C dX6_bits_11 rfl rfl 0 rfl ?_
        refine j_iload_n 13 C dX6_bits_12 rfl rfl 2 rfl ?_
        refine j_ishr 14 C dX6_bits_13 rfl rfl ?_
        refine j_iconst 15 C (x := nI 1) dX6_bits_14 rfl (by decide) ?_
        refine j_iand 16 C dX6_bits_15 rfl rfl ?_
        refine j_iadd 17 C dX6_bits_16 rfl rfl ?_
        obtain ⟨x17, e17, hz⟩ := ap_x hz
        refine j_st (st' := [.int x17]) (by rw [← e17]) ?_
        refine j_istore_n 18 C [(1, .int x17), (0, .int v), (2, .int (nI i4))] dX6_bits_17 rfl rfl (by decide) rfl ?_
        refine j_iinc 21 C (x' := nI (i4 + 1)) [(2, .int (nI (i4 + 1))), (1, .int x17), (0, .int v)] dX6_bits_18 rfl 2 rfl (by rw [show Int32.ofInt 1 = nI 1 from by decide, nI_add]) (by decide) rfl ?_
        refine j_goto 4 C dX6_bits_21 rfl ?_
        subst hz
        refine j_lv [2, 1, 0] (lv' := [(0, .int v), (1, .int x17), (2, .int (nI (i4 + 1)))]) rfl ?_
        have hz := ho4
        exact ih4 (i4 + 1) x17 (by omega) (by omega) (by omega) hz4
  refine j_lv [2, 1, 0] (lv' := [(0, .int v), (1, .int (nI 0)), (2, .int (nI 0))]) rfl ?_
  exact L4 _ 0 (nI 0) (by omega) (by omega) rfl ez4
def m_X6_found_L61 (W S ns nc : Nat) (B : Nat → Option Nat) (σ : Nat → Nat → Int32) (c4 : Int32) (y38 : Int32 × (Nat → Int32) × (Nat → Int32)) (y48 : (Nat → Int32) × (Nat → Int32)) (i53 : Nat) (i61 : Nat) (c61 : (Nat → Int32)) : (Int32 × (Nat → Int32) × (Nat → Int32) × (Nat → Int32) × (Nat → Int32)) ⊕ ((Nat → Int32)) := (if ((nI i61) &&& c4) = (nI i61) then ap (m_X6_bits W S ns nc B (sA (sA (sA σ 47 c61) 48 y38.2.2) 49 y48.2) (nI i61)) (fun (y74 : Int32) => (if y74 = (nI i53) then ap (m_X6_agrees W S ns nc B (sA (sA (sA σ 47 c61) 48 y38.2.2) 49 y48.2) (c4 &&& ((nI i61) ^^^ (-1)))) (fun (y87 : Int32 × (Nat → Int32)) => (if y87.1 = 0 then (Sum.inr y87.2) else (Sum.inl (nI 1, (upd (σ 36) 18 (nI i61)), y87.2, y38.2.2, y48.2)))) else (Sum.inr c61))) else (Sum.inr c61))
def m_X6_found_L53 (W S ns nc : Nat) (B : Nat → Option Nat) (σ : Nat → Nat → Int32) (c4 : Int32) (y38 : Int32 × (Nat → Int32) × (Nat → Int32)) (y48 : (Nat → Int32) × (Nat → Int32)) (i53 : Nat) (c53 : (Nat → Int32)) : (Int32 × (Nat → Int32) × (Nat → Int32) × (Nat → Int32) × (Nat → Int32)) ⊕ ((Nat → Int32)) := ap (lpe (m_X6_found_L61 W S ns nc B σ c4 y38 y48 i53) ((c4).toNatClampNeg + 1 - 0) 0 c53) (fun (z61 : (Int32 × (Nat → Int32) × (Nat → Int32) × (Nat → Int32) × (Nat → Int32)) ⊕ ((Nat → Int32))) => ((z61).elim Sum.inl (fun (kz61 : (Nat → Int32)) => (Sum.inr kz61))))
def m_X6_found_L4 (W S ns nc : Nat) (B : Nat → Option Nat) (σ : Nat → Nat → Int32) (i4 : Nat) (c4 : Int32) : Int32 := (if ((σ 46) (nI i4).toNatClampNeg) = 0 then c4 ||| (nI 0) else ap (c4 ||| ((nI 1) <<< ((nI i4) &&& 31))) (fun (x30 : Int32) => x30))
def m_X6_found (W S ns nc : Nat) (B : Nat → Option Nat) (σ : Nat → Nat → Int32) : Int32 × (Nat → Int32) × (Nat → Int32) × (Nat → Int32) × (Nat → Int32) := ap (lp (m_X6_found_L4 W S ns nc B σ) (ns - 0) 0 (nI 0)) (fun (z4 : Int32) => ap (m_X6_stands W S ns nc B σ) (fun (y38 : Int32 × (Nat → Int32) × (Nat → Int32)) => (if y38.1 = 0 then (nI 0, (σ 36), y38.2.1, y38.2.2, (σ 49)) else ap (m_X6_pairs W S ns nc B (sA (sA σ 47 y38.2.1) 48 y38.2.2) z4) (fun (y48 : (Nat → Int32) × (Nat → Int32)) => ap (lpe (m_X6_found_L53 W S ns nc B σ z4 y38 y48) (10 + 1 - 0) 0 y48.1) (fun (z53 : (Int32 × (Nat → Int32) × (Nat → Int32) × (Nat → Int32) × (Nat → Int32)) ⊕ ((Nat → Int32))) => ((z53).elim id (fun (kz53 : (Nat → Int32)) => (nI 0, (σ 36), kz53, y38.2.2, y48.2))))))))
theorem q_all {W S ns nc : Nat} {B : Nat → Option Nat} {σ : Nat → Nat → Int32} {n : Nat} (hn : n ≤ 10) : ∃ aN : Nat, aN < 1024 ∧ lp (m_X6_found_L4 W S ns nc B σ) n 0 (nI 0) = nI aN ∧ ∀ k, aN.testBit k = (decide (k < n) && !decide (σ 46 k = 0)) := by
  refine q_heap (fun i a hi ha => ?_) hn
  unfold m_X6_found_L4 ap
  rw [nI_clamp (by omega)]
  by_cases h : σ 46 i = 0
  · simp only [h, if_true, decide_true, Bool.not_true]
    rw [q_or]
    simp
  · simp only [h, if_false, decide_false, Bool.not_false, if_true]
    rw [q_shl i hi, q_or]
theorem found_all {W S ns nc : Nat} {B : Nat → Option Nat} {σ : Nat → Nat → Int32} {n : Nat} {z : Int32} (hn : n ≤ 10) (h : lp (m_X6_found_L4 W S ns nc B σ) n 0 (nI 0) = z) : ∃ aN : Nat, aN < 1024 ∧ z = nI aN ∧ z.toNatClampNeg = aN := by
  obtain ⟨a, h1, h2, h3⟩ := q_all (W := W) (S := S) (ns := ns) (nc := nc) (B := B) (σ := σ) hn
  rw [h] at h2
  exact ⟨a, h1, h2, by rw [h2]; exact nI_clamp (by omega)⟩
abbrev rm_X6_found : Room := { frames := 6, cells := 0, slots := 0, locals := 142 }
set_option maxHeartbeats 4000000 in
set_option maxRecDepth 100000 in
theorem c_X6_found {l : Launch} {D : va_G} {K : Nat → ClassId} {W S ns nc N : Nat} {ad : Nat → Nat} {B : Nat → Option Nat} {σ : Nat → Nat → Int32} (hG : GH W S ns nc N)   {z : Int32 × (Nat → Int32) × (Nat → Int32) × (Nat → Int32) × (Nat → Int32)} (hz : m_X6_found W S ns nc B σ = z) (hsee : SeeOK (σ 43) ns) : MC l yX6_found cX6_found 4 (some .boolean) rm_X6_found D (TY K) N ad (CT K W S ns nc ad B σ) [.ref (ad 36)] (BS (some (.int z.1)) N ad (CT K W S ns nc ad B (sA (sA (sA (sA σ 36 z.2.1) 47 z.2.2.1) 48 z.2.2.2.1) 49 z.2.2.2.2)) (bl z.1)) := by
  have hW := hG.1; have hW8 := hG.2.1; have hS := hG.2.2.1; have hS4 := hG.2.2.2.1; have hns := hG.2.2.2.2.1; have hnc := hG.2.2.2.2.2.1; have hWS := GH_ws hG
  refine MC.of (by decide) (Nat.le_of_ble_eq_true rfl) (fun p e s m args below meth c Q A H0 C X => ?_)
  replace C : Cx p s m args meth c cX6_found RX6 4 D (TY K) A H0 := C
  show J p l e rm_X6_found s m args below meth c Q D A H0 4 0 0 N ad (CT K W S ns nc ad B σ) 0 [(0, .ref (ad 36))] []
  unfold m_X6_found at hz
  refine j_iconst 1 C (x := nI 0) dX6_found_0 rfl (by decide) ?_
  refine j_istore_n 2 C [(1, .int (nI 0)), (0, .ref (ad 36))] dX6_found_1 rfl rfl (by decide) rfl ?_
  refine j_iconst 3 C (x := nI 0) dX6_found_2 rfl (by decide) ?_
  refine j_istore_n 4 C [(2, .int (nI 0)), (1, .int (nI 0)), (0, .ref (ad 36))] dX6_found_3 rfl rfl (by decide) rfl ?_
  skip
  obtain ⟨z4, ez4, hz⟩ := ap_x hz
  have L4 : ∀ (n4 i4 : Nat) (c4 : Int32), 0 ≤ i4 → i4 < 5000 → n4 = ns - i4 → lp (m_X6_found_L4 W S ns nc B σ) n4 i4 c4 = z4 → J p l e rm_X6_found s m args below meth c Q D A H0 4 0 0 N ad (CT K W S ns nc ad B σ) 4 [(0, .ref (ad 36)), (1, .int c4), (2, .int (nI i4))] [] := by
    intro n4
    induction n4 with
    | zero =>
      intro i4 c4 hl4 hi4 hn4 hz4
      refine j_iload_n 5 C dX6_found_4 rfl rfl 2 rfl ?_
      refine j_aload_n 6 C dX6_found_5 rfl rfl 0 rfl ?_
      refine k_get 9 C fl_X6_69 dX6_found_6 rfl 36 (GH_r hG (by decide)) (σ 36) rfl (CE_36 _) (.int (nI ns)) rfl ?_
      refine j_ic_ge 37 12 C dX6_found_9 rfl rfl (fun c_9 => ?_) (fun c_9 => ?_)
      · skip
        have n_9 := nat_le (a := ns) (b := i4) rfl rfl (by omega) (by omega) c_9
        have hq4 : c4 = z4 := hz4
        subst hq4
        obtain ⟨aN, haN, hall, hA⟩ := found_all (by omega) ez4
        refine j_aload_n 38 C dX6_found_37 rfl rfl 0 rfl ?_
        obtain ⟨y38, e38, hz⟩ := ap_x hz
        refine s_V 41 C (As := []) cv_X6_110 (c_X6_stands (l := l) (D := D) (K := K) (ad := ad) hG  (hz := e38)) dX6_found_38 rfl 36 6 (GH_r hG (by decide)) rfl (CE_36 _) rfl rfl rfl rfl rfl rfl ⟨⟨Nat.le_of_ble_eq_true rfl, Nat.le_of_ble_eq_true rfl⟩, Nat.zero_le _, Nat.zero_le _⟩ (Nat.le_of_ble_eq_true rfl) (st' := [.int y38.1]) rfl (fun hE => ?_)
        have hbl38 : bl y38.1 := hE
        refine j_if_ne 46 44 C dX6_found_41 rfl rfl (fun c_41 => ?_) (fun c_41 => ?_)
        · replace hz := (if_neg c_41).symm.trans hz
          refine j_aload_n 47 C dX6_found_46 rfl rfl 0 rfl ?_
          refine j_iload_n 48 C dX6_found_47 rfl rfl 1 rfl ?_
          obtain ⟨y48, e48, hz⟩ := ap_x hz
          refine s_V 51 C (As := [.int c4]) cv_X6_113 (c_X6_pairs (l := l) (D := D) (K := K) (ad := ad) hG (hsee := hsee) (hz := e48)) dX6_found_48 rfl 36 6 (GH_r hG (by decide)) rfl (CE_36 _) rfl rfl rfl rfl rfl rfl ⟨⟨Nat.le_of_ble_eq_true rfl, Nat.le_of_ble_eq_true rfl⟩, Nat.zero_le _, Nat.zero_le _⟩ (Nat.le_of_ble_eq_true rfl) (st' := []) rfl (fun hE => ?_)
          refine j_ct (ct' := CT K W S ns nc ad B (sA (sA (sA σ 47 y48.1) 48 y38.2.2) 49 y48.2)) (fun r _ => congrFun (congrArg (CT K W S ns nc ad B) ((congrArg (fun x => sA x 49 y48.2) (sA_2 (by first | decide | omega))).trans rfl)) r) ?_
          refine j_iconst 52 C (x := nI 0) dX6_found_51 rfl (by decide) ?_
          refine j_istore_n 53 C [(2, .int (nI 0)), (0, .ref (ad 36)), (1, .int c4)] dX6_found_52 rfl rfl (by decide) rfl ?_
          skip
          obtain ⟨z53, ez53, hz⟩ := ap_x hz
          have L53 : ∀ (n53 i53 : Nat) (c53 : (Nat → Int32)), 0 ≤ i53 → i53 < 5000 → n53 = 10 + 1 - i53 → lpe (m_X6_found_L53 W S ns nc B σ c4 y38 y48) n53 i53 c53 = z53 → J p l e rm_X6_found s m args below meth c Q D A H0 4 0 0 N ad (CT K W S ns nc ad B (sA (sA (sA σ 47 c53) 48 y38.2.2) 49 y48.2)) 53 [(0, .ref (ad 36)), (1, .int c4), (2, .int (nI i53))] [] := by
            intro n53
            induction n53 with
            | zero =>
              intro i53 c53 hl53 hi53 hn53 hz53
              refine j_iload_n 54 C dX6_found_53 rfl rfl 2 rfl ?_
              refine j_bipush 56 C (x := nI 10) dX6_found_54 rfl (by decide) ?_
              refine j_ic_gt 115 59 C dX6_found_56 rfl rfl (fun c_56 => ?_) (fun c_56 => ?_)
              · skip
                have n_56 := nat_lt (a := 10) (b := i53) rfl rfl (by omega) (by omega) c_56
                have hq53 : Sum.inr c53 = z53 := hz53
                subst hq53
                replace hz := el_r hz
                refine j_iconst 116 C (x := nI 0) dX6_found_115 rfl (by decide) ?_
                subst hz
                exact j_retI C X dX6_found_116 (bl_nar bl_0) ⟨rfl, rfl, rfl, (CT_x (by intro a; (by_cases h0 : a = 36; (· (first | (subst h0; simp [sA]; done) | (rw [h0]; simp [sA]; done))); by_cases h1 : a = 47; (· (first | (subst h1; simp [sA]; done) | (rw [h1]; simp [sA]; done))); by_cases h2 : a = 48; (· (first | (subst h2; simp [sA]; done) | (rw [h2]; simp [sA]; done))); by_cases h3 : a = 49; (· (first | (subst h3; simp [sA]; done) | (rw [h3]; simp [sA]; done))); simp [sA, h0, h1, h2, h3]))), bl_0⟩
              · exfalso
                have n_56 := nat_nlt (a := 10) (b := i53) rfl rfl (by omega) (by omega) c_56
                omega
            | succ n53 ih53 =>
              intro i53 c53 hl53 hi53 hn53 hz53
              refine j_iload_n 54 C dX6_found_53 rfl rfl 2 rfl ?_
              refine j_bipush 56 C (x := nI 10) dX6_found_54 rfl (by decide) ?_
              refine j_ic_gt 115 59 C dX6_found_56 rfl rfl (fun c_56 => ?_) (fun c_56 => ?_)
              · exfalso
                have n_56 := nat_lt (a := 10) (b := i53) rfl rfl (by omega) (by omega) c_56
                omega
              · skip
                have n_56 := nat_nlt (a := 10) (b := i53) rfl rfl (by omega) (by omega) c_56
                obtain ⟨w53, hw53, hz53⟩ := lpe_s hz53
                have ho53 := hz
                clear hz
                have hz := hw53
                clear hw53
                unfold m_X6_found_L53 at hz
                refine j_iconst 60 C (x := nI 0) dX6_found_59 rfl (by decide) ?_
                refine j_istore_n 61 C [(3, .int (nI 0)), (0, .ref (ad 36)), (1, .int c4), (2, .int (nI i53))] dX6_found_60 rfl rfl (by decide) rfl ?_
                skip
                obtain ⟨z61, ez61, hz⟩ := ap_x hz
                have L61 : ∀ (n61 i61 : Nat) (c61 : (Nat → Int32)), 0 ≤ i61 → i61 < 5000 → n61 = (c4).toNatClampNeg + 1 - i61 → lpe (m_X6_found_L61 W S ns nc B σ c4 y38 y48 i53) n61 i61 c61 = z61 → J p l e rm_X6_found s m args below meth c Q D A H0 4 0 0 N ad (CT K W S ns nc ad B (sA (sA (sA σ 47 c61) 48 y38.2.2) 49 y48.2)) 61 [(0, .ref (ad 36)), (1, .int c4), (2, .int (nI i53)), (3, .int (nI i61))] [] := by
                  intro n61
                  induction n61 with
                  | zero =>
                    intro i61 c61 hl61 hi61 hn61 hz61
                    refine j_iload_n 62 C dX6_found_61 rfl rfl 3 rfl ?_
                    refine j_iload_n 63 C dX6_found_62 rfl rfl 1 rfl ?_
                    refine j_ic_gt 109 66 C dX6_found_63 rfl rfl (fun c_63 => ?_) (fun c_63 => ?_)
                    · skip
                      have n_63 := nat_lt (a := aN) (b := i61) (by simp only [hall, nI_add, pk_mul]) rfl (by omega) (by omega) c_63
                      have hq61 : Sum.inr c61 = z61 := hz61
                      subst hq61
                      replace hz := el_r hz
                      refine j_iinc 112 C (x' := nI (i53 + 1)) [(2, .int (nI (i53 + 1))), (0, .ref (ad 36)), (1, .int c4), (3, .int (nI i61))] dX6_found_109 rfl 2 rfl (by rw [show Int32.ofInt 1 = nI 1 from by decide, nI_add]) (by decide) rfl ?_
                      refine j_goto 53 C dX6_found_112 rfl ?_
                      subst hz
                      refine j_lv [1, 2, 0] (lv' := [(0, .ref (ad 36)), (1, .int c4), (2, .int (nI (i53 + 1)))]) rfl ?_
                      have hz := ho53
                      exact ih53 (i53 + 1) c61 (by omega) (by omega) (by omega) hz53
                    · exfalso
                      have n_63 := nat_nlt (a := aN) (b := i61) (by simp only [hall, nI_add, pk_mul]) rfl (by omega) (by omega) c_63
                      omega
                  | succ n61 ih61 =>
                    intro i61 c61 hl61 hi61 hn61 hz61
                    refine j_iload_n 62 C dX6_found_61 rfl rfl 3 rfl ?_
                    refine j_iload_n 63 C dX6_found_62 rfl rfl 1 rfl ?_
                    refine j_ic_gt 109 66 C dX6_found_63 rfl rfl (fun c_63 => ?_) (fun c_63 => ?_)
                    · exfalso
                      have n_63 := nat_lt (a := aN) (b := i61) (by simp only [hall, nI_add, pk_mul]) rfl (by omega) (by omega) c_63
                      omega
                    · skip
                      have n_63 := nat_nlt (a := aN) (b := i61) (by simp only [hall, nI_add, pk_mul]) rfl (by omega) (by omega) c_63
                      obtain ⟨w61, hw61, hz61⟩ := lpe_s hz61
                      have ho61 := hz
                      clear hz
                      have hz := hw61
                      clear hw61
                      unfold m_X6_found_L61 at hz
                      refine j_iload_n 67 C dX6_found_66 rfl rfl 3 rfl ?_
                      refine j_iload_n 68 C dX6_found_67 rfl rfl 1 rfl ?_
                      refine j_iand 69 C dX6_found_68 rfl rfl ?_
                      refine j_iload_n 70 C dX6_found_69 rfl rfl 3 rfl ?_
                      refine j_ic_ne 103 73 C dX6_found_70 rfl rfl (fun c_70 => ?_) (fun c_70 => ?_)
                      · replace hz := (if_neg c_70).symm.trans hz
                        refine j_iinc 106 C (x' := nI (i61 + 1)) [(3, .int (nI (i61 + 1))), (0, .ref (ad 36)), (1, .int c4), (2, .int (nI i53))] dX6_found_103 rfl 3 rfl (by rw [show Int32.ofInt 1 = nI 1 from by decide, nI_add]) (by decide) rfl ?_
                        refine j_goto 61 C dX6_found_106 rfl ?_
                        subst hz
                        refine j_lv [1, 2, 3, 0] (lv' := [(0, .ref (ad 36)), (1, .int c4), (2, .int (nI i53)), (3, .int (nI (i61 + 1)))]) rfl ?_
                        have hz := ho61
                        exact ih61 (i61 + 1) c61 (by omega) (by omega) (by omega) hz61
                      · replace hz := (if_pos c_70).symm.trans hz
                        refine j_iload_n 74 C dX6_found_73 rfl rfl 3 rfl ?_
                        obtain ⟨y74, e74, hz⟩ := ap_x hz
                        refine s_S 77 C (As := [.int (nI i61)]) cs_X6_117 (c_X6_bits (l := l) (D := D) (K := K) (ad := ad) hG  (hz := e74)) dX6_found_74 rfl rfl rfl rfl rfl ⟨⟨Nat.le_of_ble_eq_true rfl, Nat.le_of_ble_eq_true rfl⟩, Nat.zero_le _, Nat.zero_le _⟩ (Nat.le_of_ble_eq_true rfl) (st' := [.int y74]) rfl (fun hE => ?_)
                        refine j_iload_n 78 C dX6_found_77 rfl rfl 2 rfl ?_
                        refine j_ic_ne 103 81 C dX6_found_78 rfl rfl (fun c_78 => ?_) (fun c_78 => ?_)
                        · replace hz := (if_neg c_78).symm.trans hz
                          refine j_iinc 106 C (x' := nI (i61 + 1)) [(3, .int (nI (i61 + 1))), (0, .ref (ad 36)), (1, .int c4), (2, .int (nI i53))] dX6_found_103 rfl 3 rfl (by rw [show Int32.ofInt 1 = nI 1 from by decide, nI_add]) (by decide) rfl ?_
                          refine j_goto 61 C dX6_found_106 rfl ?_
                          subst hz
                          refine j_lv [1, 2, 3, 0] (lv' := [(0, .ref (ad 36)), (1, .int c4), (2, .int (nI i53)), (3, .int (nI (i61 + 1)))]) rfl ?_
                          have hz := ho61
                          exact ih61 (i61 + 1) c61 (by omega) (by omega) (by omega) hz61
                        · replace hz := (if_pos c_78).symm.trans hz
                          refine j_aload_n 82 C dX6_found_81 rfl rfl 0 rfl ?_
                          refine j_iload_n 83 C dX6_found_82 rfl rfl 1 rfl ?_
                          refine j_iload_n 84 C dX6_found_83 rfl rfl 3 rfl ?_
                          refine j_iconst 85 C (x := (-1)) dX6_found_84 rfl (by decide) ?_
                          refine j_ixor 86 C dX6_found_85 rfl rfl ?_
                          refine j_iand 87 C dX6_found_86 rfl rfl ?_
                          obtain ⟨y87, e87, hz⟩ := ap_x hz
                          refine s_V 90 C (As := [.int (c4 &&& ((nI i61) ^^^ (-1)))]) cv_X6_100 (c_X6_agrees (l := l) (D := D) (K := K) (ad := ad) hG (hsee := hsee) (hz := e87)) dX6_found_87 rfl 36 6 (GH_r hG (by decide)) rfl (CE_36 _) rfl rfl rfl rfl rfl rfl ⟨⟨Nat.le_of_ble_eq_true rfl, Nat.le_of_ble_eq_true rfl⟩, Nat.zero_le _, Nat.zero_le _⟩ (Nat.le_of_ble_eq_true rfl) (st' := [.int y87.1]) rfl (fun hE => ?_)
                          refine j_ct (ct' := CT K W S ns nc ad B (sA (sA (sA σ 47 y87.2) 48 y38.2.2) 49 y48.2)) (fun r _ => congrFun (congrArg (CT K W S ns nc ad B) (sA_3 (by first | decide | omega) (by first | decide | omega))) r) ?_
                          have hbl87 : bl y87.1 := hE
                          refine j_if_ne 96 93 C dX6_found_90 rfl rfl (fun c_90 => ?_) (fun c_90 => ?_)
                          · replace hz := (if_neg c_90).symm.trans hz
                            refine j_aload_n 97 C dX6_found_96 rfl rfl 0 rfl ?_
                            refine j_iload_n 98 C dX6_found_97 rfl rfl 3 rfl ?_
                            refine k_put 101 C fl_X6_121 fp_X6 rfl dX6_found_98 rfl 36 (GH_r hG (by decide)) (σ 36) (by rfl) (CE_36 _) rfl rfl (Nat.le_of_ble_eq_true rfl) rfl (sA (sA (sA (sA σ 47 y87.2) 48 y38.2.2) 49 y48.2) 36 (upd (σ 36) 18 (nI i61))) rfl ?_
                            refine j_iconst 102 C (x := nI 1) dX6_found_101 rfl (by decide) ?_
                            subst hz
                            have hz : Sum.inl (nI 1, (upd (σ 36) 18 (nI i61)), y87.2, y38.2.2, y48.2) = z61 := hz61
                            subst hz
                            have hz := ho61
                            replace hz : Sum.inl (nI 1, (upd (σ 36) 18 (nI i61)), y87.2, y38.2.2, y48.2) = _ := hz
                            subst hz
                            have hz : Sum.inl (nI 1, (upd (σ 36) 18 (nI i61)), y87.2, y38.2.2, y48.2) = z53 := hz53
                            subst hz
                            have hz := ho53
                            replace hz : (nI 1, (upd (σ 36) 18 (nI i61)), y87.2, y38.2.2, y48.2) = _ := hz
                            subst hz
                            exact j_retI C X dX6_found_102 (bl_nar bl_1) ⟨rfl, rfl, rfl, (CT_x (by intro a; (by_cases h0 : a = 36; (· (first | (subst h0; simp [sA]; done) | (rw [h0]; simp [sA]; done))); by_cases h1 : a = 47; (· (first | (subst h1; simp [sA]; done) | (rw [h1]; simp [sA]; done))); by_cases h2 : a = 48; (· (first | (subst h2; simp [sA]; done) | (rw [h2]; simp [sA]; done))); by_cases h3 : a = 49; (· (first | (subst h3; simp [sA]; done) | (rw [h3]; simp [sA]; done))); simp [sA, h0, h1, h2, h3]))), bl_1⟩
                          · replace hz := (if_pos c_90).symm.trans hz
                            refine j_goto 103 C dX6_found_93 rfl ?_
                            refine j_iinc 106 C (x' := nI (i61 + 1)) [(3, .int (nI (i61 + 1))), (0, .ref (ad 36)), (1, .int c4), (2, .int (nI i53))] dX6_found_103 rfl 3 rfl (by rw [show Int32.ofInt 1 = nI 1 from by decide, nI_add]) (by decide) rfl ?_
                            refine j_goto 61 C dX6_found_106 rfl ?_
                            subst hz
                            refine j_lv [1, 2, 3, 0] (lv' := [(0, .ref (ad 36)), (1, .int c4), (2, .int (nI i53)), (3, .int (nI (i61 + 1)))]) rfl ?_
                            have hz := ho61
                            exact ih61 (i61 + 1) y87.2 (by omega) (by omega) (by omega) hz61
                refine j_lv [1, 2, 3, 0] (lv' := [(0, .ref (ad 36)), (1, .int c4), (2, .int (nI i53)), (3, .int (nI 0))]) rfl ?_
                exact L61 _ 0 c53 (by omega) (by omega) rfl ez61
          refine j_lv [1, 2, 0] (lv' := [(0, .ref (ad 36)), (1, .int c4), (2, .int (nI 0))]) rfl ?_
          exact L53 _ 0 y48.1 (by omega) (by omega) rfl ez53
        · replace hz := (if_pos c_41).symm.trans hz
          refine j_iconst 45 C (x := nI 0) dX6_found_44 rfl (by decide) ?_
          subst hz
          exact j_retI C X dX6_found_45 (bl_nar bl_0) ⟨rfl, rfl, rfl, (CT_x (by intro a; (by_cases h0 : a = 36; (· (first | (subst h0; simp [sA]; done) | (rw [h0]; simp [sA]; done))); by_cases h1 : a = 47; (· (first | (subst h1; simp [sA]; done) | (rw [h1]; simp [sA]; done))); by_cases h2 : a = 48; (· (first | (subst h2; simp [sA]; done) | (rw [h2]; simp [sA]; done))); by_cases h3 : a = 49; (· (first | (subst h3; simp [sA]; done) | (rw [h3]; simp [sA]; done))); simp [sA, h0, h1, h2, h3]))), bl_0⟩
      · exfalso
        have n_9 := nat_nle (a := ns) (b := i4) rfl rfl (by omega) (by omega) c_9
        omega
    | succ n4 ih4 =>
      intro i4 c4 hl4 hi4 hn4 hz4
      refine j_iload_n 5 C dX6_found_4 rfl rfl 2 rfl ?_
      refine j_aload_n 6 C dX6_found_5 rfl rfl 0 rfl ?_
      refine k_get 9 C fl_X6_69 dX6_found_6 rfl 36 (GH_r hG (by decide)) (σ 36) rfl (CE_36 _) (.int (nI ns)) rfl ?_
      refine j_ic_ge 37 12 C dX6_found_9 rfl rfl (fun c_9 => ?_) (fun c_9 => ?_)
      · exfalso
        have n_9 := nat_le (a := ns) (b := i4) rfl rfl (by omega) (by omega) c_9
        omega
      · skip
        have n_9 := nat_nle (a := ns) (b := i4) rfl rfl (by omega) (by omega) c_9
        obtain ⟨w4, hw4, hz4⟩ := lp_s hz4
        have ho4 := hz
        clear hz
        have hz := hw4
        clear hw4
        unfold m_X6_found_L4 at hz
        refine j_iload_n 13 C dX6_found_12 rfl rfl 1 rfl ?_
        refine j_aload_n 14 C dX6_found_13 rfl rfl 0 rfl ?_
        refine k_get 17 C fl_X6_38 dX6_found_14 rfl 36 (GH_r hG (by decide)) (σ 36) rfl (CE_36 _) (.ref (ad 46)) rfl ?_
        refine j_iload_n 18 C dX6_found_17 rfl rfl 2 rfl ?_
        refine k_zald 19 C dX6_found_18 rfl 46 (GH_r hG (by decide)) (σ 46) rfl CE_46 (vp_inE (n := i4) rfl (by omega) (by omega)) ?_
        refine j_if_eq 28 22 C dX6_found_19 rfl rfl (fun c_19 => ?_) (fun c_19 => ?_)
        · replace hz := (if_pos c_19).symm.trans hz
          refine j_iconst 29 C (x := nI 0) dX6_found_28 rfl (by decide) ?_
          refine j_ior 30 C dX6_found_29 rfl rfl ?_
          refine j_istore_n 31 C [(1, .int (c4 ||| (nI 0))), (0, .ref (ad 36)), (2, .int (nI i4))] dX6_found_30 rfl rfl (by decide) rfl ?_
          refine j_iinc 34 C (x' := nI (i4 + 1)) [(2, .int (nI (i4 + 1))), (1, .int (c4 ||| (nI 0))), (0, .ref (ad 36))] dX6_found_31 rfl 2 rfl (by rw [show Int32.ofInt 1 = nI 1 from by decide, nI_add]) (by decide) rfl ?_
          refine j_goto 4 C dX6_found_34 rfl ?_
          subst hz
          refine j_lv [2, 1, 0] (lv' := [(0, .ref (ad 36)), (1, .int (c4 ||| (nI 0))), (2, .int (nI (i4 + 1)))]) rfl ?_
          have hz := ho4
          exact ih4 (i4 + 1) (c4 ||| (nI 0)) (by omega) (by omega) (by omega) hz4
        · replace hz := (if_neg c_19).symm.trans hz
          refine j_iconst 23 C (x := nI 1) dX6_found_22 rfl (by decide) ?_
          refine j_iload_n 24 C dX6_found_23 rfl rfl 2 rfl ?_
          refine j_ishl 25 C dX6_found_24 rfl rfl ?_
          refine j_goto 29 C dX6_found_25 rfl ?_
          refine j_ior 30 C dX6_found_29 rfl rfl ?_
          obtain ⟨x30, e30, hz⟩ := ap_x hz
          refine j_st (st' := [.int x30]) (by rw [← e30]) ?_
          refine j_istore_n 31 C [(1, .int x30), (0, .ref (ad 36)), (2, .int (nI i4))] dX6_found_30 rfl rfl (by decide) rfl ?_
          refine j_iinc 34 C (x' := nI (i4 + 1)) [(2, .int (nI (i4 + 1))), (1, .int x30), (0, .ref (ad 36))] dX6_found_31 rfl 2 rfl (by rw [show Int32.ofInt 1 = nI 1 from by decide, nI_add]) (by decide) rfl ?_
          refine j_goto 4 C dX6_found_34 rfl ?_
          subst hz
          refine j_lv [2, 1, 0] (lv' := [(0, .ref (ad 36)), (1, .int x30), (2, .int (nI (i4 + 1)))]) rfl ?_
          have hz := ho4
          exact ih4 (i4 + 1) x30 (by omega) (by omega) (by omega) hz4
  refine j_lv [2, 1, 0] (lv' := [(0, .ref (ad 36)), (1, .int (nI 0)), (2, .int (nI 0))]) rfl ?_
  exact L4 _ 0 (nI 0) (by omega) (by omega) rfl ez4
def m_X6_reckons (W S ns nc : Nat) (B : Nat → Option Nat) (σ : Nat → Nat → Int32) : Int32 × (Nat → Int32) × (Nat → Int32) × (Nat → Int32) × (Nat → Int32) := (if (σ 36 16) = 0 then ap (m_X6_found W S ns nc B σ) (fun (y9 : Int32 × (Nat → Int32) × (Nat → Int32) × (Nat → Int32) × (Nat → Int32)) => (y9.1, (upd (upd y9.2.1 17 y9.1) 16 (nI 1)), y9.2.2.1, y9.2.2.2.1, y9.2.2.2.2)) else (σ 36 17, (upd (σ 36) 16 (nI 1)), (σ 47), (σ 48), (σ 49)))
abbrev rm_X6_reckons : Room := { frames := 7, cells := 0, slots := 0, locals := 165 }
set_option maxHeartbeats 4000000 in
set_option maxRecDepth 100000 in
theorem c_X6_reckons {l : Launch} {D : va_G} {K : Nat → ClassId} {W S ns nc N : Nat} {ad : Nat → Nat} {B : Nat → Option Nat} {σ : Nat → Nat → Int32} (hG : GH W S ns nc N)   {z : Int32 × (Nat → Int32) × (Nat → Int32) × (Nat → Int32) × (Nat → Int32)} (hz : m_X6_reckons W S ns nc B σ = z) (hsee : SeeOK (σ 43) ns) (hb17 : bl (σ 36 17)) : MC l yX6_reckons cX6_reckons 1 (some .boolean) rm_X6_reckons D (TY K) N ad (CT K W S ns nc ad B σ) [.ref (ad 36)] (BS (some (.int z.1)) N ad (CT K W S ns nc ad B (sA (sA (sA (sA σ 36 z.2.1) 47 z.2.2.1) 48 z.2.2.2.1) 49 z.2.2.2.2)) (bl z.1)) := by
  have hW := hG.1; have hW8 := hG.2.1; have hS := hG.2.2.1; have hS4 := hG.2.2.2.1; have hns := hG.2.2.2.2.1; have hnc := hG.2.2.2.2.2.1; have hWS := GH_ws hG
  refine MC.of (by decide) (Nat.le_of_ble_eq_true rfl) (fun p e s m args below meth c Q A H0 C X => ?_)
  replace C : Cx p s m args meth c cX6_reckons RX6 1 D (TY K) A H0 := C
  show J p l e rm_X6_reckons s m args below meth c Q D A H0 1 0 0 N ad (CT K W S ns nc ad B σ) 0 [(0, .ref (ad 36))] []
  unfold m_X6_reckons at hz
  refine j_aload_n 1 C dX6_reckons_0 rfl rfl 0 rfl ?_
  refine k_get 4 C fl_X6_61 dX6_reckons_1 rfl 36 (GH_r hG (by decide)) (σ 36) rfl (CE_36 _) (.int (σ 36 16)) rfl ?_
  refine j_if_ne 15 7 C dX6_reckons_4 rfl rfl (fun c_4 => ?_) (fun c_4 => ?_)
  · replace hz := (if_neg c_4).symm.trans hz
    refine j_aload_n 16 C dX6_reckons_15 rfl rfl 0 rfl ?_
    refine j_iconst 17 C (x := nI 1) dX6_reckons_16 rfl (by decide) ?_
    refine k_put 20 C fl_X6_61 fp_X6 rfl dX6_reckons_17 rfl 36 (GH_r hG (by decide)) (σ 36) rfl (CE_36 _) (bl_nar bl_1) (bl_fit bl_1) (Nat.le_of_ble_eq_true rfl) rfl (sA σ 36 (upd (σ 36) 16 (nI 1))) rfl ?_
    refine j_aload_n 21 C dX6_reckons_20 rfl rfl 0 rfl ?_
    refine k_get 24 C fl_X6_107 dX6_reckons_21 rfl 36 (GH_r hG (by decide)) (upd (σ 36) 16 (nI 1)) rfl (CE_36 _) (.int (σ 36 17)) rfl ?_
    subst hz
    exact j_retI C X dX6_reckons_24 (bl_nar hb17) ⟨rfl, rfl, rfl, (CT_x (by intro a; (by_cases h0 : a = 36; (· (first | (subst h0; simp [sA]; done) | (rw [h0]; simp [sA]; done))); by_cases h1 : a = 47; (· (first | (subst h1; simp [sA]; done) | (rw [h1]; simp [sA]; done))); by_cases h2 : a = 48; (· (first | (subst h2; simp [sA]; done) | (rw [h2]; simp [sA]; done))); by_cases h3 : a = 49; (· (first | (subst h3; simp [sA]; done) | (rw [h3]; simp [sA]; done))); simp [sA, h0, h1, h2, h3]))), hb17⟩
  · replace hz := (if_pos c_4).symm.trans hz
    refine j_aload_n 8 C dX6_reckons_7 rfl rfl 0 rfl ?_
    refine j_aload_n 9 C dX6_reckons_8 rfl rfl 0 rfl ?_
    obtain ⟨y9, e9, hz⟩ := ap_x hz
    refine s_V 12 C (As := []) cv_X6_103 (c_X6_found (l := l) (D := D) (K := K) (ad := ad) hG (hsee := hsee) (hz := e9)) dX6_reckons_9 rfl 36 6 (GH_r hG (by decide)) rfl (CE_36 _) rfl rfl rfl rfl rfl rfl ⟨⟨Nat.le_of_ble_eq_true rfl, Nat.le_of_ble_eq_true rfl⟩, Nat.zero_le _, Nat.zero_le _⟩ (Nat.le_of_ble_eq_true rfl) (st' := [.int y9.1, .ref (ad 36)]) rfl (fun hE => ?_)
    have hbl9 : bl y9.1 := hE
    refine k_put 15 C fl_X6_107 fp_X6 rfl dX6_reckons_12 rfl 36 (GH_r hG (by decide)) y9.2.1 (by rfl) (CE_36 _) (bl_nar hbl9) (bl_fit hbl9) (Nat.le_of_ble_eq_true rfl) rfl (sA (sA (sA (sA σ 36 (upd y9.2.1 17 y9.1)) 47 y9.2.2.1) 48 y9.2.2.2.1) 49 y9.2.2.2.2) (sA_4 (by first | decide | omega) (by first | decide | omega) (by first | decide | omega)) ?_
    refine j_aload_n 16 C dX6_reckons_15 rfl rfl 0 rfl ?_
    refine j_iconst 17 C (x := nI 1) dX6_reckons_16 rfl (by decide) ?_
    refine k_put 20 C fl_X6_61 fp_X6 rfl dX6_reckons_17 rfl 36 (GH_r hG (by decide)) (upd y9.2.1 17 y9.1) (by rfl) (CE_36 _) (bl_nar bl_1) (bl_fit bl_1) (Nat.le_of_ble_eq_true rfl) rfl (sA (sA (sA (sA σ 36 (upd (upd y9.2.1 17 y9.1) 16 (nI 1))) 47 y9.2.2.1) 48 y9.2.2.2.1) 49 y9.2.2.2.2) (sA_4 (by first | decide | omega) (by first | decide | omega) (by first | decide | omega)) ?_
    refine j_aload_n 21 C dX6_reckons_20 rfl rfl 0 rfl ?_
    refine k_get 24 C fl_X6_107 dX6_reckons_21 rfl 36 (GH_r hG (by decide)) (upd (upd y9.2.1 17 y9.1) 16 (nI 1)) (by rfl) (CE_36 _) (.int y9.1) rfl ?_
    subst hz
    exact j_retI C X dX6_reckons_24 (bl_nar hbl9) ⟨rfl, rfl, rfl, rfl, hbl9⟩

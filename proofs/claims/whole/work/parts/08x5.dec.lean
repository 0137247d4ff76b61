def q_hs (W S nc : Nat) (B : Nat → Option Nat) (s : Nat → (Nat → Int) → Prop) (σ : Nat → Nat → Int32) : Prop := ∀ i, i < nc → ∀ q, B i = some q → 50 ≤ q ∧ ∃ k c d z m, q_seeV W S k c d z m ∧ σ q 0 = nI k ∧ σ q 1 = nI c ∧ σ q 2 = nI d ∧ (σ q 3).toInt = z ∧ (σ q 4).toInt = m ∧ s i = q_see W k c d z m
def q_Q (R : (Nat → Int) → Prop) (s : Nat → (Nat → Int) → Prop) (a n out : Nat) (x : Nat → Int) : Prop := R x ∧ ∀ i, n ≤ i → a.testBit i = true → out.testBit i = false → s i x
def q_sub2 (n out c : Nat) : Prop := ∀ k, n ≤ k → c.testBit k = out.testBit k
abbrev q_D (W S n : Nat) (R : (Nat → Int) → Prop) (s : Nat → (Nat → Int) → Prop) (a out L : Nat) (σ σ' : Nat → Nat → Int32) : Prop := (∀ r, r ≠ 9 → r ≠ 34 → (∀ j, j < n → r ≠ 12 + 2 * j) → σ' r = σ r) ∧ (∀ j, j ≠ 8 → σ' 9 j = σ 9 j) ∧ (∃ L', L' < 1024 ∧ σ' 9 8 = nI L' ∧ ((L' = L ∧ σ' 34 = σ 34) ∨ (q_cand R s a L' ∧ q_sub2 n out L' ∧ q_pc 10 L' < q_pc 10 L ∧ q_Is (W * S + 1) (q_Ag R s (a &&& (1023 ^^^ L'))) (q_cv (W * S + 1) (σ' 34)))) ∧ ∀ c, q_cand R s a c → q_sub2 n out c → q_pc 10 L' ≤ q_pc 10 c ∧ (q_pc 10 c = q_pc 10 L' → L' = L ∨ L' ≤ c))
theorem q_D.rows {W S n : Nat} {R : (Nat → Int) → Prop} {s : Nat → (Nat → Int) → Prop} {a out L : Nat} {σ σ' : Nat → Nat → Int32} (h : q_D W S n R s a out L σ σ') : ∀ r, r ≠ 9 → r ≠ 34 → (∀ j, j < n → r ≠ 12 + 2 * j) → σ' r = σ r := h.1
theorem q_D.nine {W S n : Nat} {R : (Nat → Int) → Prop} {s : Nat → (Nat → Int) → Prop} {a out L : Nat} {σ σ' : Nat → Nat → Int32} (h : q_D W S n R s a out L σ σ') : ∀ j, j ≠ 8 → σ' 9 j = σ 9 j := h.2.1
theorem q_D.res {W S n : Nat} {R : (Nat → Int) → Prop} {s : Nat → (Nat → Int) → Prop} {a out L : Nat} {σ σ' : Nat → Nat → Int32} (h : q_D W S n R s a out L σ σ') : ∃ L', L' < 1024 ∧ σ' 9 8 = nI L' ∧ ((L' = L ∧ σ' 34 = σ 34) ∨ (q_cand R s a L' ∧ q_sub2 n out L' ∧ q_pc 10 L' < q_pc 10 L ∧ q_Is (W * S + 1) (q_Ag R s (a &&& (1023 ^^^ L'))) (q_cv (W * S + 1) (σ' 34)))) ∧ ∀ c, q_cand R s a c → q_sub2 n out c → q_pc 10 L' ≤ q_pc 10 c ∧ (q_pc 10 c = q_pc 10 L' → L' = L ∨ L' ≤ c) := h.2.2
theorem q_copy {W S ns nc : Nat} {B : Nat → Option Nat} {σ : Nat → Nat → Int32} {g h : Nat} : ∀ a b, a < W * S + 1 → b < W * S + 1 → q_cv (W * S + 1) (m_X1_copyFrom W S ns nc B σ g h) a b = q_cv (W * S + 1) (σ (12 + 2 * h)) a b := by
  intro a b ha hb
  unfold m_X1_copyFrom q_cv va_cpy
  rw [if_pos rfl]
  have : a * (W * S + 1) + b < (W * S + 1) * (W * S + 1) := ixlt ha hb
  rw [if_pos ⟨by omega, by omega⟩]
  simp
theorem q_bclt {W S ns nc : Nat} {B : Nat → Option Nat} {σ σ' : Nat → Nat → Int32} {x y : Nat} (hx : x < 1024) (hy : y < 1024) : (m_J6_bitCount_0f7a4 W S ns nc B σ (nI x) < m_J6_bitCount_0f7a4 W S ns nc B σ' (nI y)) = (q_pc 10 x < q_pc 10 y) := by
  rw [q_bc hx, q_bc hy]
  have := q_pc_le 10 x
  have := q_pc_le 10 y
  exact propext (nI_ltI (by omega) (by omega))
theorem q_Q_Ag {R : (Nat → Int) → Prop} {s : Nat → (Nat → Int) → Prop} {a out : Nat} (ha : a < 1024) (x : Nat → Int) : q_Q R s a 0 out x ↔ q_Ag R s (a &&& (1023 ^^^ out)) x := by
  constructor
  · rintro ⟨h1, h2⟩
    refine ⟨h1, fun i hi => ?_⟩
    rw [q_keep ha] at hi
    cases e1 : a.testBit i <;> cases e2 : out.testBit i <;> rw [e1, e2] at hi <;> simp at hi
    exact h2 i (Nat.zero_le _) e1 e2
  · rintro ⟨h1, h2⟩
    exact ⟨h1, fun i _ e1 e2 => h2 i (by rw [q_keep ha, e1, e2]; rfl)⟩
theorem q_D_skip {W S n : Nat} {R : (Nat → Int) → Prop} {s : Nat → (Nat → Int) → Prop} {a out L : Nat} {σ : Nat → Nat → Int32} (hL : L < 1024) (h8 : σ 9 8 = nI L) (hout : ∀ i, out.testBit i = true → n ≤ i) (hc : ¬ q_pc 10 out < q_pc 10 L) : q_D W S n R s a out L σ σ := by
  refine ⟨fun _ _ _ _ => rfl, fun _ _ => rfl, L, hL, h8, Or.inl ⟨rfl, rfl⟩, fun c hcc hs => ?_⟩
  have h1 := (q_pc_sub (a := c) (c := out) (fun k hk => by rw [hs k (hout k hk)]; exact hk) 10).1
  exact ⟨by omega, fun _ => Or.inl rfl⟩
theorem q_dec0 {W S ns nc : Nat} {B : Nat → Option Nat} {σ : Nat → Nat → Int32} {R : (Nat → Int) → Prop} {s : Nat → (Nat → Int) → Prop} {a out L g : Nat} (ha : a < 1024) (hL : L < 1024) (ho : out < 1024) (h8 : σ 9 8 = nI L) (hoa : ∀ i, out.testBit i = true → a.testBit i = true) (hg : q_Is (W * S + 1) (q_Q R s a 0 out) (q_cv (W * S + 1) (σ (12 + 2 * g)))) : q_D W S 0 R s a out L σ (m_X0_decide W S ns nc B 0 σ g (nI out)) := by
  simp only [m_X0_decide, ap]
  rw [h8]
  simp only [q_bclt ho hL]
  by_cases c : q_pc 10 out < q_pc 10 L
  · rw [if_pos c, if_pos (by decide)]
    have hcp := q_copy (W := W) (S := S) (ns := ns) (nc := nc) (B := B) (σ := sA σ 9 (upd (σ 9) 8 (nI out))) (g := 11) (h := g)
    generalize m_X1_copyFrom W S ns nc B (sA σ 9 (upd (σ 9) 8 (nI out))) 11 g = y at hcp ⊢
    rw [sA_ne (a := 12 + 2 * g) (by omega)] at hcp
    have hI : q_Is (W * S + 1) (q_Ag R s (a &&& (1023 ^^^ out))) (q_cv (W * S + 1) y) := q_cg (q_Is_cg (fun i j hi hj => (hcp i j hi hj).symm) hg) (q_Q_Ag ha)
    refine ⟨fun r h1 h2 _ => by rw [sA_ne (by omega), sA_ne h1], fun j hj => by rw [sA_ne (by omega), sA_at]; unfold upd; rw [if_neg hj], out, ho, by rw [sA_ne (by omega), sA_at]; unfold upd; rw [if_pos rfl], Or.inr ⟨⟨hoa, q_ex hI⟩, fun _ _ => rfl, c, ?_⟩, fun c' hc hs => ?_⟩
    · have : (sA (sA σ 9 (upd (σ 9) 8 (nI out))) (12 + 2 * 11) y) 34 = y := sA_at
      rw [this]; exact hI
    · have : c' = out := Nat.eq_of_testBit_eq (fun k => hs k (Nat.zero_le _))
      subst this
      exact ⟨Nat.le_refl _, fun _ => Or.inr (Nat.le_refl _)⟩
  · rw [if_neg c]
    exact q_D_skip hL h8 (fun _ _ => Nat.zero_le _) c
theorem q_tlt {x y n : Nat} (hx : x.testBit n = false) (hy : y.testBit n = true) (h : ∀ j, n < j → x.testBit j = y.testBit j) : x < y := by
  have e : x / 2 ^ (n + 1) = y / 2 ^ (n + 1) := by
    apply Nat.eq_of_testBit_eq
    intro i
    rw [Nat.testBit_div_two_pow, Nat.testBit_div_two_pow]
    exact h _ (by omega)
  rw [Nat.testBit_eq_decide_div_mod_eq] at hx hy
  have e1 : x / 2 ^ (n + 1) = x / 2 ^ n / 2 := by rw [Nat.pow_succ, Nat.div_div_eq_div_mul]
  have e2 : y / 2 ^ (n + 1) = y / 2 ^ n / 2 := by rw [Nat.pow_succ, Nat.div_div_eq_div_mul]
  have hx' : ¬ x / 2 ^ n % 2 = 1 := by simpa using hx
  have hy' : y / 2 ^ n % 2 = 1 := by simpa using hy
  have h3 : x / 2 ^ n < y / 2 ^ n := by omega
  exact Nat.lt_of_div_lt_div h3
theorem q_hs_k {W S nc n : Nat} {B : Nat → Option Nat} {s : Nat → (Nat → Int) → Prop} {σ σ' : Nat → Nat → Int32} (hn : n ≤ 10) (h : q_hs W S nc B s σ) (hk : ∀ r, r ≠ 9 → r ≠ 34 → (∀ j, j < n → r ≠ 12 + 2 * j) → σ' r = σ r) : q_hs W S nc B s σ' := by
  intro i hi q hq
  obtain ⟨h50, k, c, d, z, m, hv, e⟩ := h i hi q hq
  refine ⟨h50, k, c, d, z, m, hv, ?_⟩
  rw [hk q (by omega) (by omega) (fun j hj => by omega)]
  exact e
theorem q_or_tb {out n k : Nat} : (out ||| 2 ^ n).testBit k = (out.testBit k || decide (n = k)) := by rw [Nat.testBit_or, Nat.testBit_two_pow]
theorem q_deci {W S ns nc : Nat} {B : Nat → Option Nat} {R : (Nat → Int) → Prop} {s : Nat → (Nat → Int) → Prop} {a : Nat} (hW : 0 < W) (hW8 : W ≤ 8) (hS : S ≤ 4) (hnc : nc ≤ 10) (ha : a < 1024) (hat : ∀ k, a.testBit k = (decide (k < nc) && (B k).isSome)) (hD : q_Dp (W * S + 1) R) : ∀ (n : Nat), n ≤ nc → ∀ {σ : Nat → Nat → Int32} {g out L : Nat}, q_hs W S nc B s σ → L < 1024 → out < 1024 → σ 9 8 = nI L → (∀ i, out.testBit i = true → a.testBit i = true) → (∀ i, out.testBit i = true → n ≤ i) → n ≤ g → g ≠ 11 → q_Is (W * S + 1) (q_Q R s a n out) (q_cv (W * S + 1) (σ (12 + 2 * g))) → q_D W S n R s a out L σ (m_X0_decide W S ns nc B n σ g (nI out))
  | 0, _, σ, g, out, L, hs, hL, ho, h8, hoa, hon, hg, hg11, hI => q_dec0 ha hL ho h8 hoa hI
  | n + 1, hn, σ, g, out, L, hs, hL, ho, h8, hoa, hon, hg, hg11, hI => by
    have hn33 : W * S + 1 ≤ 33 := by
      have : W * S ≤ 8 * 4 := Nat.mul_le_mul hW8 hS
      omega
    have IH := fun {σ : Nat → Nat → Int32} {g out L : Nat} => @q_deci W S ns nc B R s a hW hW8 hS hnc ha hat hD n (by omega) σ g out L
    have hoN : out.testBit n = false := by
      cases e : out.testBit n
      · rfl
      · have := hon n e; omega
    have h2n : 2 ^ n < 1024 := q_two (by omega)
    have ho2 : out ||| 2 ^ n < 1024 := q_or_lt ho h2n
    simp only [m_X0_decide, ap]
    rw [h8]
    simp only [q_bclt ho hL]
    by_cases c : q_pc 10 out < q_pc 10 L
    · rw [if_pos c, if_pos ((nI_leI (by omega) (by omega)).mpr (by omega)), if_pos (by rw [← nI_0]; exact (nI_ltI (by omega) (by omega)).mpr (by omega))]
      have hatn : m_X4_at W S ns nc B σ (nI n) = B n := by
        unfold m_X4_at
        rw [if_neg (nI_pos (by omega)), if_neg (fun q => by have := (nI_leI (by omega) (by omega)).mp q; omega), nI_clamp (by omega)]
      have hcp := q_copy (W := W) (S := S) (ns := ns) (nc := nc) (B := B) (σ := σ) (g := n) (h := g)
      generalize m_X1_copyFrom W S ns nc B σ n g = y at hcp ⊢
      have hy : q_Is (W * S + 1) (q_Q R s a (n + 1) out) (q_cv (W * S + 1) y) := q_Is_cg (fun i j hi hj => (hcp i j hi hj).symm) hI
      rw [hatn, q_shl n (by omega), q_or]
      have han := hat n
      have hrow : ∀ f : Nat → Int32, (sA σ (12 + 2 * n) f) (12 + 2 * n) = f := fun f => sA_at
      have hoth : ∀ (f : Nat → Int32) (r : Nat), r ≠ 12 + 2 * n → (sA σ (12 + 2 * n) f) r = σ r := fun f r hr => sA_ne hr
      have hsk : ∀ f : Nat → Int32, q_hs W S nc B s (sA σ (12 + 2 * n) f) := fun f => q_hs_k (n := n + 1) (by omega) hs (fun r _ _ h3 => hoth f r (h3 n (by omega)))
      cases hb : B n with
      | none =>
        simp only [Option.elim_none]
        have haf : a.testBit n = false := by rw [han, hb]; simp
        have hQ : ∀ x, q_Q R s a (n + 1) out x ↔ q_Q R s a n out x := fun x => ⟨fun q => ⟨q.1, fun i hi e1 e2 => by
          by_cases e : i = n
          · subst e; rw [haf] at e1; cases e1
          · exact q.2 i (by omega) e1 e2⟩, fun q => ⟨q.1, fun i hi => q.2 i (by omega)⟩⟩
        have D1 := IH (σ := sA σ (12 + 2 * n) y) (g := n) (out := out) (L := L) (hsk y) hL ho (by rw [hoth y 9 (by omega)]; exact h8) hoa (fun i hi => by have := hon i hi; omega) (Nat.le_refl _) (by omega) (by rw [hrow]; exact q_cg hy hQ)
        obtain ⟨r1, r2, L', l1, l2, l3, l4⟩ := D1
        refine ⟨fun r h1 h2 h3 => ?_, fun j hj => ?_, L', l1, l2, ?_, fun c' hc' hs' => l4 c' hc' (fun k hk => ?_)⟩
        · rw [r1 r h1 h2 (fun j hj => h3 j (by omega)), hoth y r (h3 n (by omega))]
        · rw [r2 j hj, hoth y 9 (by omega)]
        · rcases l3 with ⟨e1, e2⟩ | ⟨e1, e2, e3, e4⟩
          · exact Or.inl ⟨e1, by rw [e2, hoth y 34 (by omega)]⟩
          · exact Or.inr ⟨e1, fun k hk => e2 k (by omega), e3, e4⟩
        · by_cases e : k = n
          · subst e
            rw [hoN]
            cases e5 : c'.testBit k
            · rfl
            · have := hc'.1 k e5; rw [haf] at this; cases this
          · exact hs' k (by omega)
      | some q =>
        simp only [Option.elim_some]
        have haT : a.testBit n = true := by rw [han, hb]; simp; omega
        obtain ⟨h50, k, cc, d, z, m, hv, f0, f1, f2, f3, f4, f5⟩ := hs n (by omega) q hb
        have hD1 : q_Dp (W * S + 1) (q_Q R s a (n + 1) out) := fun x hx => hD x hx.1
        have hbind := q_seeX (ns := ns) (nc := nc) (B := B) (σ := sA σ (12 + 2 * n) y) (g := n) (q := q) hn33 hW8 hS hv (by rw [hoth y q (by omega)]; exact f0) (by rw [hoth y q (by omega)]; exact f1) (by rw [hoth y q (by omega)]; exact f2) (by rw [hoth y q (by omega)]; exact f3) (by rw [hoth y q (by omega)]; exact f4) (by rw [hrow]; exact hy) hD1 rfl
        generalize m_X3_bind W S ns nc B (sA σ (12 + 2 * n) y) q n = w at hbind ⊢
        rw [← f5] at hbind
        -- the second branch: out with n
        have hQ2 : ∀ x, q_Q R s a (n + 1) out x ↔ q_Q R s a n (out ||| 2 ^ n) x := fun x => ⟨fun t => ⟨t.1, fun i hi e1 e2 => by
          rw [q_or_tb, Bool.or_eq_false_iff] at e2
          have : n ≠ i := by simpa using e2.2
          exact t.2 i (by omega) e1 e2.1⟩, fun t => ⟨t.1, fun i hi e1 e2 => t.2 i (by omega) e1 (by rw [q_or_tb, e2]; simp; omega)⟩⟩
        have hoa2 : ∀ i, (out ||| 2 ^ n).testBit i = true → a.testBit i = true := fun i hi => by
          rw [q_or_tb, Bool.or_eq_true] at hi
          rcases hi with hi | hi
          · exact hoa i hi
          · have : n = i := by simpa using hi
            rw [← this]; exact haT
        have hon2 : ∀ i, (out ||| 2 ^ n).testBit i = true → n ≤ i := fun i hi => by
          rw [q_or_tb, Bool.or_eq_true] at hi
          rcases hi with hi | hi
          · have := hon i hi; omega
          · have : n = i := by simpa using hi
            omega
        have hsub2 : ∀ c', q_sub2 (n + 1) out c' → c'.testBit n = true → q_sub2 n (out ||| 2 ^ n) c' := fun c' h1 h2 k hk => by
          rw [q_or_tb]
          by_cases e : n = k
          · subst e; rw [h2]; simp
          · rw [h1 k (by omega)]; simp [e]
        have hsub1 : ∀ c', q_sub2 (n + 1) out c' → c'.testBit n = false → q_sub2 n out c' := fun c' h1 h2 k hk => by
          by_cases e : n = k
          · subst e; rw [h2, hoN]
          · exact h1 k (by omega)
        have hup2 : ∀ c', q_sub2 n (out ||| 2 ^ n) c' → q_sub2 (n + 1) out c' := fun c' h1 k hk => by
          rw [h1 k (by omega), q_or_tb]
          have : ¬ n = k := by omega
          simp [this]
        rcases hbind with ⟨w1, w2⟩ | ⟨w1, w2⟩
        · rw [if_neg (by rw [w1]; decide)]
          have hQ1 : ∀ x, (q_Q R s a (n + 1) out x ∧ s n x) ↔ q_Q R s a n out x := fun x => ⟨fun t => ⟨t.1.1, fun i hi e1 e2 => by
            by_cases e : i = n
            · rw [e]; exact t.2
            · exact t.1.2 i (by omega) e1 e2⟩, fun t => ⟨⟨t.1, fun i hi => t.2 i (by omega)⟩, t.2 n (Nat.le_refl _) haT hoN⟩⟩
          have D1 := IH (σ := sA σ (12 + 2 * n) w.2) (g := n) (out := out) (L := L) (hsk w.2) hL ho (by rw [hoth w.2 9 (by omega)]; exact h8) hoa (fun i hi => by have := hon i hi; omega) (Nat.le_refl _) (by omega) (by rw [hrow]; exact q_cg w2 hQ1)
          generalize m_X0_decide W S ns nc B n (sA σ (12 + 2 * n) w.2) n (nI out) = σ1 at D1 ⊢
          obtain ⟨r1, r2, L1, l1, l2, l3, l4⟩ := D1
          have D2 := IH (σ := σ1) (g := g) (out := out ||| 2 ^ n) (L := L1) (q_hs_k (n := n) (by omega) (hsk w.2) r1) l1 ho2 l2 hoa2 hon2 (by omega) hg11 (by rw [r1 (12 + 2 * g) (by omega) (by omega) (fun j hj => by omega), hoth w.2 _ (by omega)]; exact q_cg hI hQ2)
          generalize m_X0_decide W S ns nc B n σ1 g (nI (out ||| 2 ^ n)) = σ2 at D2 ⊢
          obtain ⟨s1, s2, L2, m1, m2, m3, m4⟩ := D2
          have hL21 : q_pc 10 L2 ≤ q_pc 10 L1 := by rcases m3 with ⟨e, -⟩ | ⟨-, -, e, -⟩; rw [e]; exact Nat.le_refl _; omega
          have hL1L : q_pc 10 L1 ≤ q_pc 10 L := by rcases l3 with ⟨e, -⟩ | ⟨-, -, e, -⟩; rw [e]; exact Nat.le_refl _; omega
          refine ⟨fun r h1 h2 h3 => ?_, fun j hj => ?_, L2, m1, m2, ?_, fun c' hc' hs' => ?_⟩
          · rw [s1 r h1 h2 (fun j hj => h3 j (by omega)), r1 r h1 h2 (fun j hj => h3 j (by omega)), hoth w.2 r (h3 n (by omega))]
          · rw [s2 j hj, r2 j hj, hoth w.2 9 (by omega)]
          · rcases m3 with ⟨e1, e2⟩ | ⟨e1, e2, e3, e4⟩
            · rw [e1]
              rcases l3 with ⟨t1, t2⟩ | ⟨t1, t2, t3, t4⟩
              · exact Or.inl ⟨t1, by rw [e2, t2, hoth w.2 34 (by omega)]⟩
              · exact Or.inr ⟨t1, fun k hk => t2 k (by omega), t3, by rw [e2]; exact t4⟩
            · exact Or.inr ⟨e1, hup2 L2 e2, by omega, e4⟩
          · cases e : c'.testBit n with
            | false =>
              have t := l4 c' hc' (hsub1 c' hs' e)
              refine ⟨by omega, fun e5 => ?_⟩
              have e6 : L2 = L1 := by
                rcases m3 with ⟨e6, -⟩ | ⟨-, -, e6, -⟩
                · exact e6
                · omega
              rw [e6]
              exact t.2 (by omega)
            | true =>
              have t := m4 c' hc' (hsub2 c' hs' e)
              refine ⟨t.1, fun e5 => ?_⟩
              rcases t.2 e5 with e6 | e6
              · rw [e6]
                rcases l3 with ⟨t1, -⟩ | ⟨-, t2, -, -⟩
                · exact Or.inl t1
                · refine Or.inr (Nat.le_of_lt (q_tlt (n := n) (by rw [t2 n (Nat.le_refl _)]; exact hoN) e (fun j hj => ?_)))
                  rw [t2 j (by omega), hs' j (by omega)]
              · exact Or.inr e6
        · rw [if_pos (by rw [w1]; rfl)]
          have D2 := IH (σ := sA σ (12 + 2 * n) w.2) (g := g) (out := out ||| 2 ^ n) (L := L) (hsk w.2) hL ho2 (by rw [hoth w.2 9 (by omega)]; exact h8) hoa2 hon2 (by omega) hg11 (by rw [hoth w.2 _ (by omega)]; exact q_cg hI hQ2)
          generalize m_X0_decide W S ns nc B n (sA σ (12 + 2 * n) w.2) g (nI (out ||| 2 ^ n)) = σ2 at D2 ⊢
          obtain ⟨s1, s2, L2, m1, m2, m3, m4⟩ := D2
          refine ⟨fun r h1 h2 h3 => ?_, fun j hj => ?_, L2, m1, m2, ?_, fun c' hc' hs' => ?_⟩
          · rw [s1 r h1 h2 (fun j hj => h3 j (by omega)), hoth w.2 r (h3 n (by omega))]
          · rw [s2 j hj, hoth w.2 9 (by omega)]
          · rcases m3 with ⟨e1, e2⟩ | ⟨e1, e2, e3, e4⟩
            · exact Or.inl ⟨e1, by rw [e2, hoth w.2 34 (by omega)]⟩
            · exact Or.inr ⟨e1, hup2 L2 e2, e3, e4⟩
          · cases e : c'.testBit n with
            | false =>
              exfalso
              obtain ⟨x, hx1, hx2⟩ := hc'.2
              refine w2 ⟨x, ⟨hx1, fun i hi e1 e2 => hx2 i ?_⟩, hx2 n ?_⟩
              · rw [q_keep ha, e1, hs' i hi, e2]; rfl
              · rw [q_keep ha, haT, e]; rfl
            | true => exact m4 c' hc' (hsub2 c' hs' e)
    · rw [if_neg c]
      exact q_D_skip hL h8 hon c
def q_rk (W S : Nat) (f37 f38 f39 f40 f41 : Nat → Int32) : (Nat → Int) → Prop := q_RK W S (fun k => (f37 k).toInt) (fun k => (f38 k).toInt) (fun k => (f39 k).toInt) (fun c => (if f40 c = 0 then nI 0 else f41 c).toInt) (W * S)
def q_tr (W S : Nat) (f37 f38 f39 f40 f41 : Nat → Int32) : Prop := q_rg W S (fun k => (f37 k).toInt) (fun k => (f38 k).toInt) (fun k => (f39 k).toInt) (fun c => (if f40 c = 0 then nI 0 else f41 c).toInt)
def q_ha (n : Nat) (f46 : Nat → Int32) (a : Nat) : Prop := a < 1024 ∧ ∀ k, a.testBit k = (decide (k < n) && !decide (f46 k = 0))
def q_mt (R : (Nat → Int) → Prop) (s : Nat → (Nat → Int) → Prop) (n : Nat) (f46 : Nat → Int32) (v : Int32) (Z : ((Nat → Int) → Prop) → Prop) : Prop := ∃ a F, q_ha n f46 a ∧ F < 1024 ∧ v = nI F ∧ q_least R s a F ∧ Z (q_Ag R s (a &&& (1023 ^^^ F)))
def q_rcY (W S n : Nat) (R : (Nat → Int) → Prop) (s : Nat → (Nat → Int) → Prop) (f46 f36 f47 : Nat → Int32) : Prop := q_mt R s n f46 (f36 18) (fun P => q_RI W S P f47)
def q_rc (W S n : Nat) (R : (Nat → Int) → Prop) (s : Nat → (Nat → Int) → Prop) (f46 f36 f47 : Nat → Int32) : Prop := bl (f36 17) ∧ (f36 16 = 0 ∨ (f36 17 = nI 1 ∧ q_rcY W S n R s f46 f36 f47) ∨ (f36 17 = nI 0 ∧ ¬ ∃ x, R x))
def q_ccY (W S n : Nat) (R : (Nat → Int) → Prop) (s : Nat → (Nat → Int) → Prop) (f46 f9 f34 : Nat → Int32) : Prop := q_mt R s n f46 (f9 8) (fun P => q_Is (W * S + 1) P (q_cv (W * S + 1) f34))
def q_cc (W S n : Nat) (R : (Nat → Int) → Prop) (s : Nat → (Nat → Int) → Prop) (f46 f9 f32 f34 : Nat → Int32) : Prop := bl (f9 7) ∧ ((f9 5 = 0 ∧ f9 6 = 0) ∨ (f9 5 ≠ 0 ∧ ((f9 7 = nI 1 ∧ q_Is (W * S + 1) R (q_cv (W * S + 1) f32) ∧ (f9 6 = 0 ∨ q_ccY W S n R s f46 f9 f34)) ∨ (f9 7 = nI 0 ∧ ¬ ∃ x, R x))))
abbrev q_H6 (W S n : Nat) (σ : Nat → Nat → Int32) : Prop := (2 ≤ W) ∧ (W ≤ 8) ∧ (1 ≤ S) ∧ (S ≤ 4) ∧ (n ≤ 10) ∧ (q_tr W S (σ 37) (σ 38) (σ 39) (σ 40) (σ 41)) ∧ (∀ i, i < n → q_sv W S (σ 43) (σ 44) (σ 45) i) ∧ (q_rc W S n (q_rk W S (σ 37) (σ 38) (σ 39) (σ 40) (σ 41)) (q_sg W (σ 43) (σ 44) (σ 45)) (σ 46) (σ 36) (σ 47))
theorem q_H6.s1 {W S n : Nat} {σ : Nat → Nat → Int32} (h : q_H6 W S n σ) : 2 ≤ W := h.1
theorem q_H6.s2 {W S n : Nat} {σ : Nat → Nat → Int32} (h : q_H6 W S n σ) : W ≤ 8 := h.2.1
theorem q_H6.s3 {W S n : Nat} {σ : Nat → Nat → Int32} (h : q_H6 W S n σ) : 1 ≤ S := h.2.2.1
theorem q_H6.s4 {W S n : Nat} {σ : Nat → Nat → Int32} (h : q_H6 W S n σ) : S ≤ 4 := h.2.2.2.1
theorem q_H6.s5 {W S n : Nat} {σ : Nat → Nat → Int32} (h : q_H6 W S n σ) : n ≤ 10 := h.2.2.2.2.1
theorem q_H6.tr {W S n : Nat} {σ : Nat → Nat → Int32} (h : q_H6 W S n σ) : q_tr W S (σ 37) (σ 38) (σ 39) (σ 40) (σ 41) := h.2.2.2.2.2.1
theorem q_H6.sv {W S n : Nat} {σ : Nat → Nat → Int32} (h : q_H6 W S n σ) : ∀ i, i < n → q_sv W S (σ 43) (σ 44) (σ 45) i := h.2.2.2.2.2.2.1
theorem q_H6.rc {W S n : Nat} {σ : Nat → Nat → Int32} (h : q_H6 W S n σ) : q_rc W S n (q_rk W S (σ 37) (σ 38) (σ 39) (σ 40) (σ 41)) (q_sg W (σ 43) (σ 44) (σ 45)) (σ 46) (σ 36) (σ 47) := h.2.2.2.2.2.2.2
abbrev q_Tl (W S n N : Nat) (B : Nat → Option Nat) (σ : Nat → Nat → Int32) : Prop := (50 ≤ N) ∧ (BOK B N) ∧ (∀ i, n ≤ i → B i = none) ∧ (∀ k, k < S → σ 2 k = σ 37 k) ∧ (∀ k, k < S → σ 3 k = σ 38 k) ∧ (∀ k, k < S → σ 4 k = σ 39 k) ∧ (∀ c, c < W → σ 6 c = σ 40 c ∧ bl (σ 40 c) ∧ (W ≤ c + 1 → σ 40 c = nI 0)) ∧ (∀ c, c < W → σ 5 c = if σ 40 c = 0 then nI 0 else σ 41 c) ∧ (∀ c, c < W → σ 35 c = σ 42 c) ∧ (∀ i, i < n → (B i = none ↔ σ 46 i = 0)) ∧ (∀ i, i < n → ∀ q, B i = some q → σ q = sgtW (σ 43 i) (σ 44 i) (σ 45 i))
theorem q_Tl.n50 {W S n N : Nat} {B : Nat → Option Nat} {σ : Nat → Nat → Int32} (h : q_Tl W S n N B σ) : 50 ≤ N := h.1
theorem q_Tl.bok {W S n N : Nat} {B : Nat → Option Nat} {σ : Nat → Nat → Int32} (h : q_Tl W S n N B σ) : BOK B N := h.2.1
theorem q_Tl.bz {W S n N : Nat} {B : Nat → Option Nat} {σ : Nat → Nat → Int32} (h : q_Tl W S n N B σ) : ∀ i, n ≤ i → B i = none := h.2.2.1
theorem q_Tl.t2 {W S n N : Nat} {B : Nat → Option Nat} {σ : Nat → Nat → Int32} (h : q_Tl W S n N B σ) : ∀ k, k < S → σ 2 k = σ 37 k := h.2.2.2.1
theorem q_Tl.t3 {W S n N : Nat} {B : Nat → Option Nat} {σ : Nat → Nat → Int32} (h : q_Tl W S n N B σ) : ∀ k, k < S → σ 3 k = σ 38 k := h.2.2.2.2.1
theorem q_Tl.t4 {W S n N : Nat} {B : Nat → Option Nat} {σ : Nat → Nat → Int32} (h : q_Tl W S n N B σ) : ∀ k, k < S → σ 4 k = σ 39 k := h.2.2.2.2.2.1
theorem q_Tl.t6 {W S n N : Nat} {B : Nat → Option Nat} {σ : Nat → Nat → Int32} (h : q_Tl W S n N B σ) : ∀ c, c < W → σ 6 c = σ 40 c ∧ bl (σ 40 c) ∧ (W ≤ c + 1 → σ 40 c = nI 0) := h.2.2.2.2.2.2.1
theorem q_Tl.t5 {W S n N : Nat} {B : Nat → Option Nat} {σ : Nat → Nat → Int32} (h : q_Tl W S n N B σ) : ∀ c, c < W → σ 5 c = if σ 40 c = 0 then nI 0 else σ 41 c := h.2.2.2.2.2.2.2.1
theorem q_Tl.t35 {W S n N : Nat} {B : Nat → Option Nat} {σ : Nat → Nat → Int32} (h : q_Tl W S n N B σ) : ∀ c, c < W → σ 35 c = σ 42 c := h.2.2.2.2.2.2.2.2.1
theorem q_Tl.sn {W S n N : Nat} {B : Nat → Option Nat} {σ : Nat → Nat → Int32} (h : q_Tl W S n N B σ) : ∀ i, i < n → (B i = none ↔ σ 46 i = 0) := h.2.2.2.2.2.2.2.2.2.1
theorem q_Tl.ss {W S n N : Nat} {B : Nat → Option Nat} {σ : Nat → Nat → Int32} (h : q_Tl W S n N B σ) : ∀ i, i < n → ∀ q, B i = some q → σ q = sgtW (σ 43 i) (σ 44 i) (σ 45 i) := h.2.2.2.2.2.2.2.2.2.2
abbrev q_rel (W S n N : Nat) (B : Nat → Option Nat) (σ : Nat → Nat → Int32) : Prop := (q_H6 W S n σ) ∧ (q_Tl W S n N B σ) ∧ (q_cc W S n (q_rk W S (σ 37) (σ 38) (σ 39) (σ 40) (σ 41)) (q_sg W (σ 43) (σ 44) (σ 45)) (σ 46) (σ 9) (σ 32) (σ 34))
theorem q_rel.h6 {W S n N : Nat} {B : Nat → Option Nat} {σ : Nat → Nat → Int32} (h : q_rel W S n N B σ) : q_H6 W S n σ := h.1
theorem q_rel.tt {W S n N : Nat} {B : Nat → Option Nat} {σ : Nat → Nat → Int32} (h : q_rel W S n N B σ) : q_Tl W S n N B σ := h.2.1
theorem q_rel.cc {W S n N : Nat} {B : Nat → Option Nat} {σ : Nat → Nat → Int32} (h : q_rel W S n N B σ) : q_cc W S n (q_rk W S (σ 37) (σ 38) (σ 39) (σ 40) (σ 41)) (q_sg W (σ 43) (σ 44) (σ 45)) (σ 46) (σ 9) (σ 32) (σ 34) := h.2.2
theorem q_bl (x : Int32) (h : bl x) : x = nI 1 ∨ x = nI 0 := h.symm
theorem q_haE (n : Nat) (f46 : Nat → Int32) (hn : n ≤ 10) : ∃ a, q_ha n f46 a := by
  obtain ⟨a, h1, -, h3⟩ := q_all (W := 0) (S := 0) (ns := 0) (nc := 0) (B := fun _ => none) (σ := fun _ => f46) hn
  exact ⟨a, h1, h3⟩
theorem q_haU {n : Nat} {f46 : Nat → Int32} {a b : Nat} (h : q_ha n f46 a) (h' : q_ha n f46 b) : a = b := Nat.eq_of_testBit_eq (fun k => by rw [h.2, h'.2])
theorem q_RKD {W S m : Nat} {tf tt st th : Nat → Int} : q_Dp (W * S + 1) (q_RK W S tf tt st th m) := fun x hx => hx.1
theorem q_AgD {n : Nat} {R : (Nat → Int) → Prop} {s : Nat → (Nat → Int) → Prop} {h : Nat} (hR : q_Dp n R) : q_Dp n (q_Ag R s h) := fun x hx => hR x hx.1
theorem q_reck {W S n : Nat} {B : Nat → Option Nat} {σ : Nat → Nat → Int32} (h : q_H6 W S n σ) {z : Int32 × (Nat → Int32) × (Nat → Int32) × (Nat → Int32) × (Nat → Int32)} (hz : m_X6_reckons W S n n B σ = z) :
    q_H6 W S n (RkS σ z) ∧ ((z.1 = nI 1 ∧ q_rcY W S n (q_rk W S (σ 37) (σ 38) (σ 39) (σ 40) (σ 41)) (q_sg W (σ 43) (σ 44) (σ 45)) (σ 46) z.2.1 z.2.2.1) ∨ (z.1 = nI 0 ∧ ¬ ∃ x, q_rk W S (σ 37) (σ 38) (σ 39) (σ 40) (σ 41) x)) := by
  have hW := h.s1
  have key : q_rc W S n (q_rk W S (σ 37) (σ 38) (σ 39) (σ 40) (σ 41)) (q_sg W (σ 43) (σ 44) (σ 45)) (σ 46) z.2.1 z.2.2.1 ∧ ((z.1 = nI 1 ∧ q_rcY W S n (q_rk W S (σ 37) (σ 38) (σ 39) (σ 40) (σ 41)) (q_sg W (σ 43) (σ 44) (σ 45)) (σ 46) z.2.1 z.2.2.1) ∨ (z.1 = nI 0 ∧ ¬ ∃ x, q_rk W S (σ 37) (σ 38) (σ 39) (σ 40) (σ 41) x)) := by
    have hrc := h.rc
    have htr := h.tr
    have hsv := h.sv
    unfold m_X6_reckons at hz
    by_cases c : σ 36 16 = 0
    · rw [if_pos c] at hz
      obtain ⟨y, e, hz⟩ := q_apx hz
      obtain ⟨a, ha⟩ := q_haE n (σ 46) h.s5
      have hf := q_found (W := W) (S := S) (ns := n) (nc := n) (B := B) (σ := σ) (tf := fun k => (σ 37 k).toInt) (tt := fun k => (σ 38 k).toInt) (st := fun k => (σ 39 k).toInt) (th := fun c => (if σ 40 c = 0 then nI 0 else σ 41 c).toInt) (by omega) h.s2 h.s4 h.s5 htr (fun _ _ => rfl) (fun _ _ => rfl) (fun _ _ => rfl) (fun _ _ => rfl) hsv e ha.1 ha.2
      subst hz
      rcases hf with ⟨h1, h2, F, h3, h4, h5, h6⟩ | ⟨h1, h2, h3⟩
      · have hm : q_rcY W S n (q_rk W S (σ 37) (σ 38) (σ 39) (σ 40) (σ 41)) (q_sg W (σ 43) (σ 44) (σ 45)) (σ 46) (upd (upd y.2.1 17 y.1) 16 (nI 1)) y.2.2.1 := ⟨a, F, ha, h3, by rw [h4]; rfl, h5, h6⟩
        exact ⟨⟨Or.inr h1, Or.inr (Or.inl ⟨h1, hm⟩)⟩, Or.inl ⟨h1, hm⟩⟩
      · exact ⟨⟨Or.inl h1, Or.inr (Or.inr ⟨h1, h3⟩)⟩, Or.inr ⟨h1, h3⟩⟩
    · rw [if_neg c] at hz
      subst hz
      obtain ⟨b1, b2 | ⟨b2, b3⟩ | ⟨b2, b3⟩⟩ := hrc
      · exact absurd b2 c
      · have hm : q_rcY W S n (q_rk W S (σ 37) (σ 38) (σ 39) (σ 40) (σ 41)) (q_sg W (σ 43) (σ 44) (σ 45)) (σ 46) (upd (σ 36) 16 (nI 1)) (σ 47) := b3
        exact ⟨⟨b1, Or.inr (Or.inl ⟨b2, hm⟩)⟩, Or.inl ⟨b2, hm⟩⟩
      · exact ⟨⟨b1, Or.inr (Or.inr ⟨b2, b3⟩)⟩, Or.inr ⟨b2, b3⟩⟩
  exact ⟨⟨h.s1, h.s2, h.s3, h.s4, h.s5, h.tr, h.sv, key.1⟩, key.2⟩
theorem q_Tl_hs {W S n N : Nat} {B : Nat → Option Nat} {σ : Nat → Nat → Int32} (h : q_H6 W S n σ) (t : q_Tl W S n N B σ) : q_hs W S n B (q_sg W (σ 43) (σ 44) (σ 45)) σ := by
  intro i hi q hq
  have hv := h.sv i hi
  have e := t.ss i hi q hq
  have hW := h.s2
  have hS := h.s4
  obtain ⟨v0, v⟩ := hv
  have hq2 : q_sg W (σ 43) (σ 44) (σ 45) i = q_see W ((σ 43 i).toNatClampNeg / 100) ((σ 43 i).toNatClampNeg / 10 % 10) ((σ 43 i).toNatClampNeg % 10) (σ 44 i).toInt (σ 45 i).toInt := rfl
  generalize (σ 43 i).toNatClampNeg = w at v0 v hq2
  have v1 := v.1
  have v2 := v.2.1
  have ew : w = 100 * (w / 100) + 10 * (w / 10 % 10) + w % 10 := by omega
  have hd := q_dec (k := w / 100) (c := w / 10 % 10) (d := w % 10) (by omega) (by omega) (by omega)
  rw [← ew, ← v0] at hd
  refine ⟨(t.bok i q hq).1, _, _, _, _, _, v, ?_, ?_, ?_, ?_, ?_, hq2⟩
  · rw [e]
    unfold sgtW sgt
    rw [if_pos rfl]
    exact hd.1
  · rw [e]
    unfold sgtW sgt
    rw [if_neg (by omega), if_pos rfl]
    exact hd.2.1
  · rw [e]
    unfold sgtW sgt
    rw [if_neg (by omega), if_neg (by omega), if_pos rfl]
    exact hd.2.2
  · rw [e]; rfl
  · rw [e]; rfl
theorem q_findQ {W S n : Nat} {B : Nat → Option Nat} {σ σ' : Nat → Nat → Int32} {R : (Nat → Int) → Prop} {s : Nat → (Nat → Int) → Prop} {f46 : Nat → Int32} (hW : 0 < W) (hW8 : W ≤ 8) (hS : S ≤ 4) (hn : n ≤ 10) (hR : q_Dp (W * S + 1) R) (hs : q_hs W S n B s σ) (hsn : ∀ i, i < n → (B i = none ↔ f46 i = 0)) (h32 : q_Is (W * S + 1) R (q_cv (W * S + 1) (σ 32))) (hz : m_X0_findQuarrel W S n n B σ = σ') :
    (∀ r, r ≠ 9 → (∀ j, j ≤ 11 → j ≠ 10 → r ≠ 12 + 2 * j) → σ' r = σ r) ∧ (∀ j, j ≠ 8 → σ' 9 j = σ 9 j) ∧ q_ccY W S n R s f46 (σ' 9) (σ' 34) := by
  unfold m_X0_findQuarrel at hz
  obtain ⟨y5, e5, hz⟩ := q_apx hz
  obtain ⟨y19, e19, hz⟩ := q_apx hz
  obtain ⟨y31, e31, hz⟩ := q_apx hz
  obtain ⟨y43, e43, hz⟩ := q_apx hz
  subst hz
  obtain ⟨a, ha, ea, hat⟩ := q_hp (W := W) (S := S) (ns := n) (B := B) (σ := σ) hn
  rw [ea] at e5
  subst e5
  have hcp := q_copy (W := W) (S := S) (ns := n) (nc := n) (B := B) (σ := sA σ 9 (upd (σ 9) 8 (nI a))) (g := 11) (h := 10)
  rw [e19, sA_ne (a := 12 + 2 * 10) (by omega)] at hcp
  have hha : q_ha n f46 a := ⟨ha, fun k => by
    rw [hat]
    by_cases hk : k < n
    · have := hsn k hk
      cases hB : B k with
      | none => rw [hB] at this; simp [this.mp rfl]
      | some q =>
        rw [hB] at this
        have : ¬ f46 k = 0 := fun e => by have := this.mpr e; cases this
        simp [this]
    · simp [hk]⟩
  have hQ : ∀ x, R x ↔ q_Q R s a n 0 x := fun x => ⟨fun h => ⟨h, fun i hi e1 _ => by rw [hat] at e1; simp at e1; omega⟩, fun h => h.1⟩
  have hAg : ∀ x, R x ↔ q_Ag R s (a &&& (1023 ^^^ a)) x := fun x => ⟨fun h => ⟨h, fun i hi => by
    rw [q_keep ha] at hi
    cases e : a.testBit i <;> rw [e] at hi <;> simp at hi⟩, fun h => h.1⟩
  have hb : ∀ r, r ≠ 9 → r ≠ 34 → (sA (sA σ 9 (upd (σ 9) 8 (nI a))) (12 + 2 * 11) y19) r = σ r := fun r h1 h2 => by rw [sA_ne (by omega), sA_ne h1]
  have hb9 : (sA (sA σ 9 (upd (σ 9) 8 (nI a))) (12 + 2 * 11) y19) 9 = upd (σ 9) 8 (nI a) := by rw [sA_ne (by omega), sA_at]
  have hb34 : (sA (sA σ 9 (upd (σ 9) 8 (nI a))) (12 + 2 * 11) y19) 34 = y19 := sA_at
  have D := q_deci (W := W) (S := S) (ns := n) (nc := n) (B := B) (R := R) (s := s) (a := a) hW hW8 hS hn ha hat hR n (Nat.le_refl _) (σ := sA (sA σ 9 (upd (σ 9) 8 (nI a))) (12 + 2 * 11) y19) (g := 10) (out := 0) (L := a) (q_hs_k (n := n) hn hs (fun r h1 h2 _ => hb r h1 h2)) ha (by omega) (by rw [hb9]; unfold upd; rw [if_pos rfl]) (fun i hi => by simp at hi) (fun i hi => by simp at hi) hn (by omega) (by
    rw [hb (12 + 2 * 10) (by omega) (by omega)]
    exact q_cg h32 hQ)
  rw [nI_0] at D
  rw [nI_0] at e43
  rw [e43] at D
  obtain ⟨r1, r2, L', l1, l2, l3, l4⟩ := D
  refine ⟨fun r h1 h2 => ?_, fun j hj => ?_, ?_⟩
  · have h11 := h2 11 (by omega) (by omega)
    rw [r1 r h1 (by omega) (fun j hj => h2 j (by omega) (by omega)), hb r h1 (by omega)]
  · rw [r2 j hj, hb9]
    unfold upd
    rw [if_neg hj]
  · have hout : ∀ c, q_cand R s a c → q_sub2 n 0 c := fun c hc k hk => by
      cases e : c.testBit k
      · simp
      · have := hc.1 k e
        rw [hat] at this
        simp at this
        omega
    rcases l3 with ⟨e1, e2⟩ | ⟨e1, e2, e3, e4⟩
    · subst e1
      refine ⟨L', L', hha, l1, l2, ⟨q_cand_a ha (q_ex h32), fun c hc => ?_⟩, ?_⟩
      · have t := l4 c hc (hout c hc)
        by_cases e : q_pc 10 c = q_pc 10 L'
        · have hle := q_le_of hc.1
          have := q_pc_eq ha (by omega) hc.1 e
          exact Or.inr ⟨e.symm, by omega⟩
        · exact Or.inl (by omega)
      · show q_Is (W * S + 1) (q_Ag R s (L' &&& (1023 ^^^ L'))) (q_cv (W * S + 1) (y43 34))
        rw [e2, hb34]
        exact q_cg (q_Is_cg (fun i j hi hj => (hcp i j hi hj).symm) h32) hAg
    · refine ⟨a, L', hha, l1, l2, ⟨e1, fun c hc => ?_⟩, e4⟩
      have t := l4 c hc (hout c hc)
      by_cases e : q_pc 10 c = q_pc 10 L'
      · rcases t.2 e with e5 | e5
        · subst e5; omega
        · exact Or.inr ⟨e.symm, e5⟩
      · exact Or.inl (by omega)
theorem q_some {W S n N : Nat} {B : Nat → Option Nat} {σ : Nat → Nat → Int32} (h : q_rel W S n N B σ) {z : Int32 × (Nat → Nat → Int32)} (hz : m_X0_areSome W S n n B σ = z) :
    (∀ r, r ≠ 9 → (∀ j, j ≤ 11 → r ≠ 12 + 2 * j) → z.2 r = σ r) ∧ q_cc W S n (q_rk W S (σ 37) (σ 38) (σ 39) (σ 40) (σ 41)) (q_sg W (σ 43) (σ 44) (σ 45)) (σ 46) (z.2 9) (z.2 32) (z.2 34) ∧ ((z.1 = nI 1 ∧ q_ccY W S n (q_rk W S (σ 37) (σ 38) (σ 39) (σ 40) (σ 41)) (q_sg W (σ 43) (σ 44) (σ 45)) (σ 46) (z.2 9) (z.2 34)) ∨ (z.1 = nI 0 ∧ ¬ ∃ x, q_rk W S (σ 37) (σ 38) (σ 39) (σ 40) (σ 41) x)) := by
  obtain ⟨h6, t, hcc⟩ := h
  have hW := h6.s1
  have hs := q_Tl_hs h6 t
  have hn33 : W * S + 1 ≤ 33 := by
    have : W * S ≤ 8 * 4 := Nat.mul_le_mul h6.s2 h6.s4
    omega
  generalize hR : q_rk W S (σ 37) (σ 38) (σ 39) (σ 40) (σ 41) = R at hcc ⊢
  generalize q_sg W (σ 43) (σ 44) (σ 45) = s at hcc hs ⊢
  have hRD : q_Dp (W * S + 1) R := by rw [← hR]; exact q_RKD
  -- the search
  have hfind : ∀ (σ0 σ' : Nat → Nat → Int32), (∀ r, r ≠ 9 → (∀ j, j ≤ 11 → r ≠ 12 + 2 * j) → σ0 r = σ r) → q_Is (W * S + 1) R (q_cv (W * S + 1) (σ0 32)) → σ0 9 5 ≠ 0 → σ0 9 7 = nI 1 → m_X0_findQuarrel W S n n B σ0 = σ' →
      (∀ r, r ≠ 9 → (∀ j, j ≤ 11 → r ≠ 12 + 2 * j) → (sA σ' 9 (upd (σ' 9) 6 (nI 1))) r = σ r) ∧ q_cc W S n R s (σ 46) ((sA σ' 9 (upd (σ' 9) 6 (nI 1))) 9) ((sA σ' 9 (upd (σ' 9) 6 (nI 1))) 32) ((sA σ' 9 (upd (σ' 9) 6 (nI 1))) 34) ∧ ((σ' 9 7 = nI 1 ∧ q_ccY W S n R s (σ 46) ((sA σ' 9 (upd (σ' 9) 6 (nI 1))) 9) ((sA σ' 9 (upd (σ' 9) 6 (nI 1))) 34)) ∨ (σ' 9 7 = nI 0 ∧ ¬ ∃ x, R x)) := by
    intro σ0 σ' h0 h32 h5 h7 e
    have hs0 : q_hs W S n B s σ0 := by
      intro i hi q hq
      obtain ⟨h50, k, c, d, z, m, hv, e⟩ := hs i hi q hq
      refine ⟨h50, k, c, d, z, m, hv, ?_⟩
      rw [h0 q (by omega) (fun j hj => by omega)]
      exact e
    obtain ⟨r1, r2, r3⟩ := q_findQ (by omega) h6.s2 h6.s4 h6.s5 hRD hs0 t.sn h32 e
    have e32 : σ' 32 = σ0 32 := r1 32 (by omega) (fun j _ _ => by omega)
    have e9 : (sA σ' 9 (upd (σ' 9) 6 (nI 1))) 9 = upd (σ' 9) 6 (nI 1) := sA_at
    have e5 : σ' 9 5 = σ0 9 5 := r2 5 (by omega)
    have e7 : σ' 9 7 = σ0 9 7 := r2 7 (by omega)
    have f32 : (sA σ' 9 (upd (σ' 9) 6 (nI 1))) 32 = σ0 32 := by rw [sA_ne (by omega), e32]
    have f34 : (sA σ' 9 (upd (σ' 9) 6 (nI 1))) 34 = σ' 34 := sA_ne (by omega)
    rw [e9, f32, f34]
    have hY : q_ccY W S n R s (σ 46) (upd (σ' 9) 6 (nI 1)) (σ' 34) := r3
    refine ⟨fun r h1 h2 => ?_, ⟨Or.inr ?_, Or.inr ⟨?_, Or.inl ⟨?_, h32, Or.inr hY⟩⟩⟩, Or.inl ⟨by rw [e7]; exact h7, hY⟩⟩
    · rw [sA_ne h1, r1 r h1 (fun j hj _ => h2 j hj), h0 r h1 h2]
    · show σ' 9 7 = nI 1
      rw [e7]; exact h7
    · show σ' 9 5 ≠ 0
      rw [e5]; exact h5
    · show σ' 9 7 = nI 1
      rw [e7]; exact h7
  unfold m_X0_areSome at hz
  obtain ⟨b7, hc⟩ := hcc
  by_cases c5 : σ 9 5 = 0
  · rw [if_pos c5] at hz
    have c6 : σ 9 6 = 0 := by
      rcases hc with ⟨-, e⟩ | ⟨e, -⟩
      · exact e
      · exact absurd c5 e
    obtain ⟨y11, e11, hz⟩ := q_apx hz
    obtain ⟨y23, e23, hz⟩ := q_apx hz
    have hcl := q_clearIs (W := W) (S := S) (ns := n) (nc := n) (B := B) (σ := σ) (g := 10) hn33 (tf := fun k => (σ 37 k).toInt) (tt := fun k => (σ 38 k).toInt) (st := fun k => (σ 39 k).toInt) (th := fun c => (if σ 40 c = 0 then nI 0 else σ 41 c).toInt)
    rw [e11] at hcl
    have hb := q_bind (W := W) (S := S) (ns := n) (nc := n) (B := B) (σ := sA σ (12 + 2 * 10) y11) (g := 10) hn33 h6.s2 h6.s4 h6.tr (fun k hk => by rw [sA_ne (by omega), t.t2 k hk]) (fun k hk => by rw [sA_ne (by omega), t.t3 k hk]) (fun k hk => by rw [sA_ne (by omega), t.t4 k hk]) (fun k hk => by rw [sA_ne (by omega), t.t5 k hk]) (by rw [sA_at]; exact hcl) e23
    have hR' : ∀ x, q_RK W S (fun k => (σ 37 k).toInt) (fun k => (σ 38 k).toInt) (fun k => (σ 39 k).toInt) (fun c => (if σ 40 c = 0 then nI 0 else σ 41 c).toInt) (W * S) x ↔ R x := fun x => by rw [← hR]; exact Iff.rfl
    have hkeep : ∀ f : Nat → Int32, ∀ r, r ≠ 9 → (∀ j, j ≤ 11 → r ≠ 12 + 2 * j) → (sA (sA σ (12 + 2 * 10) y23.2) 9 f) r = σ r := fun f r h1 h2 => by rw [sA_ne h1, sA_ne (h2 10 (by omega))]
    have k9 : ∀ f : Nat → Int32, (sA (sA σ (12 + 2 * 10) y23.2) 9 f) 9 = f := fun f => sA_at
    have k32 : ∀ f : Nat → Int32, (sA (sA σ (12 + 2 * 10) y23.2) 9 f) 32 = y23.2 := fun f => by rw [sA_ne (by omega)]; exact sA_at
    rcases hb with ⟨h1, h2⟩ | ⟨h1, h2⟩
    · rw [if_neg (by rw [h1]; decide), if_pos c6] at hz
      obtain ⟨y49, e49, hz⟩ := q_apx hz
      subst hz
      exact hfind _ y49 (hkeep _) (by rw [k32]; exact q_cg h2 hR') (by rw [k9]; show nI 1 ≠ 0; decide) (by rw [k9]; exact h1) e49
    · rw [if_pos (by rw [h1]; rfl)] at hz
      subst hz
      have hno : ¬ ∃ x, R x := fun ⟨x, hx⟩ => h2 ⟨x, (hR' x).mpr hx⟩
      refine ⟨hkeep _, ?_, Or.inr ⟨h1, hno⟩⟩
      dsimp only
      rw [k9]
      exact ⟨Or.inl h1, Or.inr ⟨by show nI 1 ≠ 0; decide, Or.inr ⟨h1, hno⟩⟩⟩
  · rw [if_neg c5] at hz
    rcases hc with ⟨e, -⟩ | ⟨-, hc⟩
    · exact absurd e c5
    · rcases hc with ⟨e7, e32, e6⟩ | ⟨e7, hno⟩
      · rw [if_neg (by rw [e7]; decide)] at hz
        by_cases c6 : σ 9 6 = 0
        · rw [if_pos c6] at hz
          obtain ⟨y49, e49, hz⟩ := q_apx hz
          subst hz
          exact hfind σ y49 (fun _ _ _ => rfl) e32 c5 e7 e49
        · rw [if_neg c6] at hz
          subst hz
          rcases e6 with e6 | e6
          · exact absurd e6 c6
          · exact ⟨fun _ _ _ => rfl, ⟨b7, Or.inr ⟨c5, Or.inl ⟨e7, e32, Or.inr e6⟩⟩⟩, Or.inl ⟨e7, e6⟩⟩
      · rw [if_pos (by rw [e7]; rfl)] at hz
        subst hz
        exact ⟨fun _ _ _ => rfl, ⟨b7, Or.inr ⟨c5, Or.inr ⟨e7, hno⟩⟩⟩, Or.inr ⟨e7, hno⟩⟩

abbrev q_smt (W S : Nat) (f g : Nat → Int32) : Prop := (∀ a b, a < W * S + 1 → b < W * S + 1 → f (a * (W * S + 1) + b) = g (33 * q_nd W a + q_nd W b)) ∧ (∀ a b, a < W * S + 1 → b < W * S + 1 → -60 ≤ (f (a * (W * S + 1) + b)).toInt ∧ (f (a * (W * S + 1) + b)).toInt ≤ 60) ∧ (∀ a, a < W * S + 1 → (f (a * (W * S + 1) + 0)).toInt ≤ 0 ∧ 0 ≤ (f (0 * (W * S + 1) + a)).toInt ∧ 0 ≤ (f (a * (W * S + 1) + 0)).toInt + (f (0 * (W * S + 1) + a)).toInt)
theorem q_smI {W S : Nat} {P : (Nat → Int) → Prop} {f g : Nat → Int32} (hP : q_Dp (W * S + 1) P) (h : q_Is (W * S + 1) P (q_cv (W * S + 1) f)) (h' : q_RI W S P g) : q_smt W S f g := by
  refine ⟨fun a b ha hb => ?_, fun a b ha hb => q_bnd h hP ha hb, fun a ha => ?_⟩
  · rw [q_eqi]
    exact q_uniq h h'.1 (fun _ => Iff.rfl) ha hb
  · have h0 : 0 < W * S + 1 := by omega
    have e1 : (f (a * (W * S + 1) + 0)).toInt = q_cv (W * S + 1) f a 0 := rfl
    have e2 : (f (0 * (W * S + 1) + a)).toInt = q_cv (W * S + 1) f 0 a := rfl
    rw [e1, e2]
    have hc := h.1
    have h00 := hc.1 0 h0
    have t1 := hc.2 a 0 a ha h0 ha
    have t2 := hc.2 0 a 0 h0 ha h0
    have s1 : q_So (W * S + 1) (q_cv (W * S + 1) f) (fun c => q_cv (W * S + 1) f a c) := q_at (b := 0) hc ha
    have s2 : q_So (W * S + 1) (q_cv (W * S + 1) f) (fun c => q_cv (W * S + 1) f 0 c) := q_at (b := 0) hc h0
    have p1 := hP _ ((h.2 _).mp s1) a ha
    have p2 := hP _ ((h.2 _).mp s2) a ha
    have haa := hc.1 a ha
    omega
theorem q_smY {W S n : Nat} {R : (Nat → Int) → Prop} {s : Nat → (Nat → Int) → Prop} {f46 f9 f34 f36 f47 : Nat → Int32} (hR : q_Dp (W * S + 1) R) (h : q_ccY W S n R s f46 f9 f34) (h' : q_rcY W S n R s f46 f36 f47) : q_smt W S f34 f47 ∧ ∃ F, F < 1024 ∧ f9 8 = nI F ∧ f36 18 = nI F := by
  obtain ⟨a, F, a1, a2, a3, a4, a5⟩ := h
  obtain ⟨b, G, b1, b2, b3, b4, b5⟩ := h'
  have e := q_haU a1 b1
  subst e
  have e := q_least_u a4 b4
  subst e
  exact ⟨q_smI (q_AgD hR) a5 b5, F, a2, a3, b3⟩
theorem q_lowH {W S n : Nat} {B : Nat → Option Nat} {σ : Nat → Nat → Int32} {u : Nat} (hu : u < 33) : m_X6_low W S n n B σ (nI u) = -(σ 47 (33 * u + 32)) := by
  unfold m_X6_low
  have : (nI 33 * nI u + nI 33) - nI 1 = nI (33 * u + 32) := by
    rw [nI_mul, nI_add, show 33 * u + 33 = (33 * u + 32) + 1 by omega, ← nI_add (33 * u + 32) 1]
    simp
  rw [this, nI_clamp (by omega)]
theorem q_highH {W S n : Nat} {B : Nat → Option Nat} {σ : Nat → Nat → Int32} {u : Nat} (hu : u < 33) : m_X6_high W S n n B σ (nI u) = σ 47 (33 * 32 + u) := by
  unfold m_X6_high
  rw [nI_add, nI_clamp (by omega)]
theorem q_mostH {W S n : Nat} {B : Nat → Option Nat} {σ : Nat → Nat → Int32} {a b : Nat} (hn : W * S + 1 ≤ 33) (ha : a < W * S + 1) (hb : b < W * S + 1) : m_X1_most W S n n B σ 11 (nI a) (nI b) = σ 34 (a * (W * S + 1) + b) := by
  unfold m_X1_most ap
  simp only [q_place hn ha, q_place hn hb, q_one, if_false]
  rw [q_ix hn (by omega) (by omega)]
theorem q_leastH {W S n : Nat} {B : Nat → Option Nat} {σ : Nat → Nat → Int32} {a : Nat} (hn : W * S + 1 ≤ 33) (ha : a < W * S + 1) : m_X1_least W S n n B σ 11 (nI a) = -(σ 34 (a * (W * S + 1) + 0)) := by
  unfold m_X1_least ap
  rw [q_mostH hn ha (by omega)]
theorem q_greatH {W S n : Nat} {B : Nat → Option Nat} {σ : Nat → Nat → Int32} {a : Nat} (hn : W * S + 1 ≤ 33) (ha : a < W * S + 1) : m_X1_greatest W S n n B σ 11 (nI a) = σ 34 (0 * (W * S + 1) + a) := by
  unfold m_X1_greatest ap
  rw [q_mostH hn (by omega) ha]
theorem q_nIb {v : Int32} (h0 : 0 ≤ v.toInt) (h1 : v.toInt ≤ 60) : ∃ k : Nat, k ≤ 60 ∧ v = nI k := ⟨v.toInt.toNat, by omega, by rw [q_eqi, q_nt (by omega)]; omega⟩
theorem q_ws {W S : Nat} (h8 : W ≤ 8) (h4 : S ≤ 4) : W * S + 1 ≤ 33 := by
  have : W * S ≤ 8 * 4 := Nat.mul_le_mul h8 h4
  omega
theorem q_MP {W S n : Nat} {B : Nat → Option Nat} {σ : Nat → Nat → Int32} (h : q_H6 W S n σ) : SeeOK (σ 43) n ∧ bl (σ 36 17) ∧ RkOK W S n n B σ := by
  have s1 := h.s1
  have s2 := h.s2
  have s4 := h.s4
  refine ⟨fun k hk => ?_, h.rc.1, fun y hy hne => ?_⟩
  · have hv := h.sv k hk
    have h5 := h.s5
    rw [nI_clamp (by omega)]
    obtain ⟨v0, v⟩ := hv
    generalize (σ 43 k).toNatClampNeg = w at v0 v
    have v1 := v.1
    have v2 := v.2.1
    have ew : w = 100 * (w / 100) + 10 * (w / 10 % 10) + w % 10 := by omega
    have hd := q_dec (k := w / 100) (c := w / 10 % 10) (d := w % 10) (by omega) (by omega) (by omega)
    rw [← ew, ← v0] at hd
    refine ⟨8 * (w / 100) + w / 10 % 10, by omega, ?_⟩
    unfold seeN
    rw [hd.1, hd.2.1, nI_mul, nI_add]
  · obtain ⟨h6, hh⟩ := q_reck h hy
    rcases hh with ⟨e1, a, F, a1, a2, a3, a4, a5⟩ | ⟨e1, -⟩
    · intro k j hk hj
      have hp := q_pl hk hj
      have hn := q_nd_p (W := W) (k := k) (c := j) hj
      have e0 : q_fv y.2.2.1 (q_nd W (1 + k * W + j)) (q_nd W 0) = q_rv W y.2.2.1 (1 + k * W + j) 0 := rfl
      have e0' : q_fv y.2.2.1 (q_nd W 0) (q_nd W (1 + k * W + j)) = q_rv W y.2.2.1 0 (1 + k * W + j) := rfl
      have hP : q_Dp (W * S + 1) (q_Ag (q_rk W S (σ 37) (σ 38) (σ 39) (σ 40) (σ 41)) (q_sg W (σ 43) (σ 44) (σ 45)) (a &&& (1023 ^^^ F))) := q_AgD q_RKD
      have b1 := q_bnd a5.1 hP (a := 1 + k * W + j) (b := 0) hp (by omega)
      have b2 := q_bnd a5.1 hP (a := 0) (b := 1 + k * W + j) (by omega) hp
      have s0 : q_So (W * S + 1) (q_rv W y.2.2.1) (fun c => q_rv W y.2.2.1 (1 + k * W + j) c) := q_at (b := 0) a5.1.1 hp
      have s0' : q_So (W * S + 1) (q_rv W y.2.2.1) (fun c => q_rv W y.2.2.1 0 c) := q_at (b := 0) a5.1.1 (by omega)
      have p1 := hP _ ((a5.1.2 _).mp s0) _ hp
      have p2 := hP _ ((a5.1.2 _).mp s0') _ hp
      have z1 := a5.1.1.1 _ hp
      have z2 := a5.1.1.1 0 (by omega)
      rw [hn, q_nd_0] at e0 e0'
      rw [← e0] at b1 p1
      rw [← e0'] at b2 p2
      unfold q_fv at b1 b2 p1 p2
      have e47 : RkS σ y 47 = y.2.2.1 := rfl
      rw [q_lowH (u := 8 * k + j) (by omega), q_highH (u := 8 * k + j) (by omega), e47]
      obtain ⟨lo, l1, l2⟩ := q_nIb (v := -(y.2.2.1 (33 * (8 * k + j) + 32))) (by rw [q_tneg (by omega) (by omega)]; omega) (by rw [q_tneg (by omega) (by omega)]; omega)
      obtain ⟨hi, l3, l4⟩ := q_nIb (v := y.2.2.1 (33 * 32 + (8 * k + j))) (by omega) (by omega)
      exact ⟨lo, hi, by omega, by omega, l2, l4⟩
    · rw [e1] at hne
      exact absurd rfl hne
theorem q_some_rel {W S n N : Nat} {B : Nat → Option Nat} {σ : Nat → Nat → Int32} (h : q_rel W S n N B σ) {z : Int32 × (Nat → Nat → Int32)} (hz : m_X0_areSome W S n n B σ = z) : q_rel W S n N B z.2 ∧ z.2 35 = σ 35 ∧ ((z.1 = nI 1 ∧ q_ccY W S n (q_rk W S (z.2 37) (z.2 38) (z.2 39) (z.2 40) (z.2 41)) (q_sg W (z.2 43) (z.2 44) (z.2 45)) (z.2 46) (z.2 9) (z.2 34)) ∨ (z.1 = nI 0 ∧ ¬ ∃ x, q_rk W S (z.2 37) (z.2 38) (z.2 39) (z.2 40) (z.2 41) x)) := by
  obtain ⟨r, c, a⟩ := q_some h hz
  obtain ⟨⟨s1, s2, s3, s4, s5, tr, sv, rc⟩, ⟨n50, bok, bz, t2, t3, t4, t6, t5, t35, sn, ss⟩, cc⟩ := h
  have e : ∀ r', (35 ≤ r' ∨ r' < 9) → z.2 r' = σ r' := fun r' hr => r r' (by omega) (fun j hj => by omega)
  have e2 := e 2 (by omega)
  have e3 := e 3 (by omega)
  have e4 := e 4 (by omega)
  have e5 := e 5 (by omega)
  have e6 := e 6 (by omega)
  have e35 := e 35 (by omega)
  have e36 := e 36 (by omega)
  have e37 := e 37 (by omega)
  have e38 := e 38 (by omega)
  have e39 := e 39 (by omega)
  have e40 := e 40 (by omega)
  have e41 := e 41 (by omega)
  have e42 := e 42 (by omega)
  have e43 := e 43 (by omega)
  have e44 := e 44 (by omega)
  have e45 := e 45 (by omega)
  have e46 := e 46 (by omega)
  have e47 := e 47 (by omega)
  rw [e37, e38, e39, e40, e41, e43, e44, e45, e46]
  refine ⟨⟨⟨s1, s2, s3, s4, s5, ?_, ?_, ?_⟩, ⟨n50, bok, bz, ?_, ?_, ?_, ?_, ?_, ?_, ?_, ?_⟩, ?_⟩, e35, a⟩
  · rw [e37, e38, e39, e40, e41]; exact tr
  · rw [e43, e44, e45]; exact sv
  · rw [e36, e37, e38, e39, e40, e41, e43, e44, e45, e46, e47]; exact rc
  · rw [e2, e37]; exact t2
  · rw [e3, e38]; exact t3
  · rw [e4, e39]; exact t4
  · rw [e6, e40]; exact t6
  · rw [e5, e40, e41]; exact t5
  · rw [e35, e42]; exact t35
  · rw [e46]; exact sn
  · rw [e43, e44, e45]
    intro i hi q hq
    rw [e q (Or.inl (by have := (bok i q hq).1; omega))]
    exact ss i hi q hq
  · rw [e37, e38, e39, e40, e41, e43, e44, e45, e46]; exact c
theorem q_reck_rel {W S n N : Nat} {B : Nat → Option Nat} {σ : Nat → Nat → Int32} (h : q_rel W S n N B σ) {z : Int32 × (Nat → Int32) × (Nat → Int32) × (Nat → Int32) × (Nat → Int32)} (hz : m_X6_reckons W S n n B σ = z) : q_rel W S n N B (RkS σ z) ∧ ((z.1 = nI 1 ∧ q_rcY W S n (q_rk W S (σ 37) (σ 38) (σ 39) (σ 40) (σ 41)) (q_sg W (σ 43) (σ 44) (σ 45)) (σ 46) z.2.1 z.2.2.1) ∨ (z.1 = nI 0 ∧ ¬ ∃ x, q_rk W S (σ 37) (σ 38) (σ 39) (σ 40) (σ 41) x)) := by
  obtain ⟨a, b⟩ := q_reck h.h6 hz
  refine ⟨⟨a, ⟨h.tt.n50, h.tt.bok, h.tt.bz, h.tt.t2, h.tt.t3, h.tt.t4, h.tt.t6, h.tt.t5, h.tt.t35, h.tt.sn, ?_⟩, h.cc⟩, b⟩
  intro i hi q hq
  have := (h.tt.bok i q hq).1
  have e : RkS σ z q = σ q := by
    unfold RkS
    rw [sA_ne (by omega), sA_ne (by omega), sA_ne (by omega), sA_ne (by omega)]
  rw [e]
  exact h.tt.ss i hi q hq
theorem q_ask {W S n N : Nat} {B : Nat → Option Nat} {σ : Nat → Nat → Int32} (h : q_rel W S n N B σ) {y : Int32 × (Nat → Nat → Int32)} (hy : m_X0_areSome W S n n B σ = y) : q_rel W S n N B y.2 ∧ ∀ {z : Int32 × (Nat → Int32) × (Nat → Int32) × (Nat → Int32) × (Nat → Int32)}, m_X6_reckons W S n n B y.2 = z → q_rel W S n N B (RkS y.2 z) ∧ ((y.1 = nI 1 ∧ z.1 = nI 1 ∧ q_smt W S (y.2 34) z.2.2.1 ∧ ∃ F, F < 1024 ∧ y.2 9 8 = nI F ∧ z.2.1 18 = nI F) ∨ (y.1 = nI 0 ∧ z.1 = nI 0)) := by
  obtain ⟨h1, e35, h2⟩ := q_some_rel h hy
  refine ⟨h1, fun {z} hz => ?_⟩
  obtain ⟨h3, h4⟩ := q_reck_rel h1 hz
  refine ⟨h3, ?_⟩
  rcases h2 with ⟨a1, a2⟩ | ⟨a1, a2⟩ <;> rcases h4 with ⟨b1, b2⟩ | ⟨b1, b2⟩
  · exact Or.inl ⟨a1, b1, q_smY q_RKD a2 b2⟩
  · obtain ⟨a, F, c1, c2, c3, ⟨⟨c4, x, hx⟩, -⟩, c5⟩ := a2
    exact absurd ⟨x, hx.1⟩ b2
  · obtain ⟨a, F, c1, c2, c3, ⟨⟨c4, x, hx⟩, -⟩, c5⟩ := b2
    exact absurd ⟨x, hx.1⟩ a2
  · exact Or.inr ⟨a1, b1⟩
theorem q_XP {W S n N : Nat} {B : Nat → Option Nat} {σ : Nat → Nat → Int32} (h : q_rel W S n N B σ) : GH W S n n N ∧ BOK B N ∧ bl (σ 9 7) ∧ AsOK W S n n B σ := by
  have hn := q_ws h.h6.s2 h.h6.s4
  refine ⟨⟨h.h6.s1, h.h6.s2, h.h6.s3, h.h6.s4, h.h6.s5, h.h6.s5, h.tt.n50⟩, h.tt.bok, h.cc.1, fun y hy hne => ?_⟩
  obtain ⟨h1, h2⟩ := q_ask h hy
  rcases (h2 rfl).2 with ⟨a1, a2, a3, -⟩ | ⟨a1, -⟩
  · intro k j hk hj
    have hp := q_pl hk hj
    have t1 := a3.2.1 _ _ hp (show 0 < W * S + 1 by omega)
    have t2 := a3.2.1 _ _ (show 0 < W * S + 1 by omega) hp
    have t3 := a3.2.2 _ hp
    rw [q_leastH hn hp, q_greatH hn hp]
    obtain ⟨lo, l1, l2⟩ := q_nIb (v := -(y.2 34 ((1 + k * W + j) * (W * S + 1) + 0))) (by rw [q_tneg (by omega) (by omega)]; omega) (by rw [q_tneg (by omega) (by omega)]; omega)
    obtain ⟨hi, l3, l4⟩ := q_nIb (v := y.2 34 (0 * (W * S + 1) + (1 + k * W + j))) (by omega) (by omega)
    exact ⟨lo, hi, by omega, by omega, l2, l4⟩
  · rw [a1] at hne
    exact absurd rfl hne
theorem q_lpc {α : Type} {f g : Nat → α → α} : ∀ {n i : Nat} {a : α}, (∀ j c, i ≤ j → j < i + n → f j c = g j c) → lp f n i a = lp g n i a
  | 0, _, _, _ => rfl
  | n + 1, i, a, h => by
    show lp f n (i + 1) (f i a) = lp g n (i + 1) (g i a)
    rw [h i a (Nat.le_refl _) (by omega)]
    exact q_lpc (fun j c h1 h2 => h j c (by omega) (by omega))
theorem q_lpa {α : Type} {f : Nat → α → α} : ∀ {n i : Nat} {a : α}, lp f (n + 1) i a = f (i + n) (lp f n i a)
  | 0, _, _ => rfl
  | n + 1, i, a => by
    show lp f (n + 1) (i + 1) (f i a) = f (i + (n + 1)) (lp f n (i + 1) (f i a))
    rw [q_lpa, show i + 1 + n = i + (n + 1) by omega]
theorem q_lp_sh {α : Type} {g : Nat → α → α} {b i m : Nat} {a : α} : lp g (m + 0) i a = lp g m i a ∧ ∀ n, lp (fun j c => g (b + j) c) n i a = lp g n (b + i) a := by
  refine ⟨rfl, fun n => ?_⟩
  induction n with
  | zero => rfl
  | succ n ih => rw [q_lpa, q_lpa, ih, show b + (i + n) = b + i + n by omega]
theorem q_lp_ad {α : Type} {g : Nat → α → α} {m i : Nat} {a : α} : ∀ n, lp g (m + n) i a = lp g n (i + m) (lp g m i a)
  | 0 => rfl
  | n + 1 => by rw [← Nat.add_assoc, q_lpa, q_lpa, q_lp_ad n, show i + (m + n) = i + m + n by omega]
theorem q_nest {α : Type} {g : Nat → α → α} {W : Nat} {a : α} : ∀ S, lp (fun i c => lp (fun j c => g (1 + i * W + j) c) W 0 c) S 0 a = lp g (S * W) 1 a
  | 0 => by rw [Nat.zero_mul]; rfl
  | S + 1 => by
    rw [q_lpa, q_nest S]
    have := (q_lp_sh (g := g) (b := 1 + (0 + S) * W) (i := 0) (m := 0) (a := lp g (S * W) 1 a)).2 W
    rw [this, Nat.zero_add, Nat.add_zero, show (S + 1) * W = S * W + W by rw [Nat.add_mul, Nat.one_mul], q_lp_ad]
theorem q_nest2 {α : Type} {f : Nat → α → α} {q : Nat → Nat → α → α} {W S : Nat} {a : α} (h : ∀ i j c, i < S → j < W → q i j c = f (1 + i * W + j) c) : lp (fun i c => lp (q i) W 0 c) S 0 a = lp f (W * S) 1 a := by
  rw [Nat.mul_comm, ← q_nest]
  refine q_lpc (fun i c _ hi => q_lpc (fun j c _ hj => h i j c (by omega) (by omega)))
theorem q_sle {u v : Nat → Int32} : ∀ {n i : Nat}, n ≤ 1000 → (∀ j, i ≤ j → j < i + n → -1000 ≤ (u j).toInt ∧ (u j).toInt ≤ (v j).toInt ∧ (v j).toInt ≤ 1000) → (lp (fun j c => c + u j) n i (nI 0)).toInt ≤ (lp (fun j c => c + v j) n i (nI 0)).toInt ∧ -1000 * (n : Int) ≤ (lp (fun j c => c + u j) n i (nI 0)).toInt ∧ (lp (fun j c => c + v j) n i (nI 0)).toInt ≤ 1000 * (n : Int)
  | 0, _, _, _ => by
    show (nI 0).toInt ≤ (nI 0).toInt ∧ -1000 * ((0 : Nat) : Int) ≤ (nI 0).toInt ∧ (nI 0).toInt ≤ 1000 * ((0 : Nat) : Int)
    decide
  | n + 1, i, hn, h => by
    rw [q_lpa, q_lpa]
    have ih := q_sle (u := u) (v := v) (n := n) (i := i) (by omega) (fun j h1 h2 => h j h1 (by omega))
    have hh := h (i + n) (by omega) (by omega)
    generalize lp (fun j c => c + u j) n i (nI 0) = x at ih ⊢
    generalize lp (fun j c => c + v j) n i (nI 0) = y at ih ⊢
    rw [q_tadd (by omega) (by omega), q_tadd (by omega) (by omega)]
    omega
theorem q_nle {a b : Int32} : ¬ a ≤ b ↔ b < a := by rw [q_lei, q_lt]; omega
theorem q_hS {W S ns nc : Nat} {B : Nat → Option Nat} {σ : Nat → Nat → Int32} {v : Int32} (h : S ≤ 100) : m_X2_hasSurface W S ns nc B σ v = if 0 ≤ v.toInt ∧ v.toInt < S then nI 1 else nI 0 := by
  unfold m_X2_hasSurface
  simp only [q_lt, q_lei, q_nt (show S < 2147483648 by omega), show ((0 : Int32)).toInt = 0 from rfl]
  split
  · rw [if_neg (by omega)]
  · split
    · rw [if_neg (by omega)]
    · rw [if_pos (by omega)]
theorem q_hC {W S ns nc : Nat} {B : Nat → Option Nat} {σ : Nat → Nat → Int32} {v : Int32} (h : W ≤ 100) : m_X2_hasColumn W S ns nc B σ v = if 0 ≤ v.toInt ∧ v.toInt < W then nI 1 else nI 0 := by
  unfold m_X2_hasColumn
  simp only [q_lt, q_lei, q_nt (show W < 2147483648 by omega), show ((0 : Int32)).toInt = 0 from rfl]
  split
  · rw [if_neg (by omega)]
  · split
    · rw [if_neg (by omega)]
    · rw [if_pos (by omega)]
theorem q_sb {a b : Nat} (ha : a ≤ 100) (hb : b ≤ 100) : (nI a - nI b).toInt = (a : Int) - b := by
  rw [q_tsub (by rw [q_nt (by omega), q_nt (by omega)]; omega) (by rw [q_nt (by omega), q_nt (by omega)]; omega), q_nt (by omega), q_nt (by omega)]
theorem q_hN {W S ns nc : Nat} {B : Nat → Option Nat} {σ : Nat → Nat → Int32} {v : Int32} (h : W ≤ 100) : m_X2_hasNextColumn W S ns nc B σ v = if 0 ≤ v.toInt ∧ v.toInt + 1 < W then nI 1 else nI 0 := by
  unfold m_X2_hasNextColumn
  simp only [q_lt, q_lei, q_sb h (show 1 ≤ 100 by omega), show ((0 : Int32)).toInt = 0 from rfl]
  split
  · rw [if_neg (by omega)]
  · split
    · rw [if_neg (by omega)]
    · rw [if_pos (by omega)]
theorem q_hP {W S ns nc : Nat} {B : Nat → Option Nat} {σ : Nat → Nat → Int32} {v w : Int32} (h : W ≤ 100) (h' : S ≤ 100) : m_X2_hasPlace W S ns nc B σ v w = if (0 ≤ v.toInt ∧ v.toInt < S) ∧ (0 ≤ w.toInt ∧ w.toInt < W) then nI 1 else nI 0 := by
  unfold m_X2_hasPlace ap
  rw [q_hS h', q_hC h]
  by_cases c : 0 ≤ v.toInt ∧ v.toInt < S <;> by_cases d : 0 ≤ w.toInt ∧ w.toInt < W <;> simp only [c, d, if_true, if_false, q_one, q_zer, true_and, and_true, false_and, and_false, and_self]
theorem q_6in {W S ns nc : Nat} {B : Nat → Option Nat} {σ : Nat → Nat → Int32} {v lo hi : Int32} : m_X6_in W S ns nc B σ v lo hi = if lo.toInt ≤ v.toInt ∧ v.toInt ≤ hi.toInt then nI 1 else nI 0 := by
  unfold m_X6_in
  simp only [q_lt]
  split
  · rw [if_neg (by omega)]
  · split
    · rw [if_neg (by omega)]
    · rw [if_pos (by omega)]
theorem q_n0 : (nI 0).toInt = 0 := rfl
theorem q_n1 : (nI 1).toInt = 1 := rfl
theorem q_n30 : (nI 30).toInt = 30 := rfl
theorem q_n60 : (nI 60).toInt = 60 := rfl
theorem q_6P {W S ns nc : Nat} {B : Nat → Option Nat} {σ : Nat → Nat → Int32} {v w : Int32} (h : W ≤ 100) (h' : S ≤ 100) : m_X6_isPlace W S ns nc B σ v w = if (0 ≤ v.toInt ∧ v.toInt < S) ∧ (0 ≤ w.toInt ∧ w.toInt < W) then nI 1 else nI 0 := by
  unfold m_X6_isPlace ap
  simp only [q_6in, q_sb h (show 1 ≤ 100 by omega), q_sb h' (show 1 ≤ 100 by omega), q_n0]
  have e1 : (0 ≤ v.toInt ∧ v.toInt ≤ (S : Int) - (1 : Nat)) = (0 ≤ v.toInt ∧ v.toInt < S) := propext ⟨fun q => by omega, fun q => by omega⟩
  have e2 : (0 ≤ w.toInt ∧ w.toInt ≤ (W : Int) - (1 : Nat)) = (0 ≤ w.toInt ∧ w.toInt < W) := propext ⟨fun q => by omega, fun q => by omega⟩
  simp only [e1, e2]
  by_cases c : 0 ≤ v.toInt ∧ v.toInt < S <;> by_cases d : 0 ≤ w.toInt ∧ w.toInt < W <;> simp only [c, d, if_true, if_false, q_one, q_zer, true_and, and_true, false_and, and_false, and_self]
theorem q_dep {W S ns nc : Nat} {B : Nat → Option Nat} {σ : Nat → Nat → Int32} {v : Int32} : m_X5_isDepth W S ns nc B σ v = if 0 ≤ v.toInt ∧ v.toInt ≤ 60 then nI 1 else nI 0 := by
  unfold m_X5_isDepth
  simp only [q_lt, q_n60, show ((0 : Int32)).toInt = 0 from rfl]
  split
  · rw [if_neg (by omega)]
  · split
    · rw [if_neg (by omega)]
    · rw [if_pos (by omega)]
theorem q_wit {W S ns nc : Nat} {B : Nat → Option Nat} {σ : Nat → Nat → Int32} {v : Int32} {m : Nat} (hm : m ≤ 100) : m_X5_isWithin W S ns nc B σ v (nI m) = if -(m : Int) ≤ v.toInt ∧ v.toInt ≤ m then nI 1 else nI 0 := by
  unfold m_X5_isWithin
  simp only [q_lt, q_tneg (a := nI m) (by rw [q_nt (by omega)]; omega) (by rw [q_nt (by omega)]; omega), q_nt (show m < 2147483648 by omega)]
  split
  · rw [if_neg (by omega)]
  · split
    · rw [if_neg (by omega)]
    · rw [if_pos (by omega)]
theorem q_end {W S ns nc : Nat} {B : Nat → Option Nat} {σ : Nat → Nat → Int32} {v : Int32} : m_X5_isEnd W S ns nc B σ v = if 0 ≤ v.toInt ∧ v.toInt ≤ 1 then nI 1 else nI 0 := by
  unfold m_X5_isEnd
  simp only [q_eqi, q_n1, show ((0 : Int32)).toInt = 0 from rfl]
  split
  · rw [if_pos (by omega)]
  · split
    · rw [if_pos (by omega)]
    · rw [if_neg (by omega)]
theorem q_nIo {v : Int32} (h0 : 0 ≤ v.toInt) : ∃ k : Nat, v = nI k ∧ (k : Int) = v.toInt := ⟨v.toInt.toNat, by rw [q_eqi, q_nt (by have := Int32.toInt_lt v; omega)]; omega, by omega⟩
theorem q_nodP {W S n : Nat} {B : Nat → Option Nat} {σ : Nat → Nat → Int32} {k c : Nat} (hc : c < W) : m_X6_node W S n n B σ (nI k) (nI c) = nI (q_nd W (1 + k * W + c)) := by
  unfold m_X6_node
  rw [nI_mul, nI_add, q_nd_p hc]
theorem q_ndl {W S p : Nat} (hW : 2 ≤ W) (hW8 : W ≤ 8) (hS : S ≤ 4) (hp : p < W * S + 1) : q_nd W p < 33 := (q_nd_lt (by omega) hW8 hS hp).1
theorem q_vh {W S n : Nat} {B B' : Nat → Option Nat} {σ τ : Nat → Nat → Int32} {p : Nat} (hW : 2 ≤ W) (hW8 : W ≤ 8) (hS : S ≤ 4) (hs : q_smt W S (σ 34) (τ 47)) (hp : p < W * S + 1) : m_X6_high W S n n B' τ (nI (q_nd W p)) = m_X1_greatest W S n n B σ 11 (nI p) := by
  rw [q_highH (q_ndl hW hW8 hS hp), q_greatH (q_ws hW8 hS) hp, hs.1 0 p (by omega) hp]
  rfl
theorem q_vl {W S n : Nat} {B B' : Nat → Option Nat} {σ τ : Nat → Nat → Int32} {p : Nat} (hW : 2 ≤ W) (hW8 : W ≤ 8) (hS : S ≤ 4) (hs : q_smt W S (σ 34) (τ 47)) (hp : p < W * S + 1) : m_X6_low W S n n B' τ (nI (q_nd W p)) = m_X1_least W S n n B σ 11 (nI p) := by
  rw [q_lowH (q_ndl hW hW8 hS hp), q_leastH (q_ws hW8 hS) hp, hs.1 p 0 hp (by omega)]
  rfl
theorem q_openE {W S n : Nat} {B B' : Nat → Option Nat} {σ τ : Nat → Nat → Int32} (hW : 2 ≤ W) (hW8 : W ≤ 8) (hS : S ≤ 4) (hs : q_smt W S (σ 34) (τ 47)) : m_X1_openSum W S n n B σ 11 = m_X6_opens W S n n B' τ := by
  unfold m_X1_openSum m_X6_opens ap
  rw [Nat.add_sub_cancel]
  refine (q_nest2 (q := fun i j c => m_X6_opens_L14 W S n n B' τ i j c) (fun i j c hi hj => ?_)).symm
  have hp := q_pl hi hj
  unfold m_X6_opens_L14 m_X1_openSum_L4 ap
  dsimp only
  rw [q_nodP hj, q_vh (B := B) hW hW8 hS hs hp, q_vl (B := B) hW hW8 hS hs hp]
theorem q_afterE {W S n : Nat} {B B' : Nat → Option Nat} {σ τ : Nat → Nat → Int32} {p : Nat} (v : Int32) (hW : 2 ≤ W) (hW8 : W ≤ 8) (hS : S ≤ 4) (hs : q_smt W S (σ 34) (τ 47)) (hp : p < W * S + 1) : m_X1_openSumAfterBore W S n n B σ 11 (nI p) v = m_X6_opensBy W S n n B' τ (nI (q_nd W p)) v := by
  have hn := q_ws hW8 hS
  unfold m_X1_openSumAfterBore m_X6_opensBy ap
  rw [q_place hn hp]
  simp only [q_one, if_false]
  rw [Nat.add_sub_cancel]
  refine (q_nest2 (q := fun i j c => m_X6_opensBy_L17 W S n n B' τ (nI (q_nd W p)) v i j c) (fun i j c hi hj => ?_)).symm
  have hp' := q_pl hi hj
  have l1 := q_ndl hW hW8 hS hp
  have l2 := q_ndl hW hW8 hS hp'
  have e1 := hs.1 p (1 + i * W + j) hp hp'
  have e2 := hs.1 0 (1 + i * W + j) (by omega) hp'
  have e3 := hs.1 (1 + i * W + j) 0 hp' (by omega)
  have e4 := hs.1 (1 + i * W + j) p hp' hp
  have i2 : (nI (1 + i * W + j)).toNatClampNeg = 0 * (W * S + 1) + (1 + i * W + j) := by rw [nI_clamp (by omega)]; omega
  have i3 : ((nI (1 + i * W + j)) * (nI (W * S + 1))).toNatClampNeg = (1 + i * W + j) * (W * S + 1) + 0 := by
    rw [nI_mul, nI_clamp (by have : (1 + i * W + j) * (W * S + 1) ≤ 33 * 33 := Nat.mul_le_mul (by omega) hn; omega)]; rfl
  unfold m_X6_opensBy_L17 m_X1_openSumAfterBore_L15 ap
  dsimp only
  rw [q_nodP hj, q_highH l2, q_lowH l2, q_jx (by omega) (by omega), q_jx (by omega) (by omega), q_ix hn (by omega) (by omega), q_ix hn (by omega) (by omega), i2, i3]
  rw [show (12 + 2 * 11) = 34 from rfl, e1, e2, e3, e4, q_nd_0]
  generalize τ 47 (33 * 32 + q_nd W (1 + i * W + j)) = hh
  generalize τ 47 (33 * q_nd W (1 + i * W + j) + 32) = ll
  generalize v + τ 47 (33 * q_nd W p + q_nd W (1 + i * W + j)) = up
  generalize v - τ 47 (33 * q_nd W (1 + i * W + j) + q_nd W p) = dn
  by_cases c1 : hh ≤ up <;> by_cases c2 : dn ≤ -ll
  · rw [if_pos c1, if_pos c2, if_neg (fun q => q_nle.mpr q c1), if_neg (fun q => q_nle.mpr q c2)]
  · rw [if_pos c1, if_neg c2, if_neg (fun q => q_nle.mpr q c1), if_pos (q_nle.mp c2)]
  · rw [if_neg c1, if_pos c2, if_pos (q_nle.mp c1), if_neg (fun q => q_nle.mpr q c2)]
  · rw [if_neg c1, if_neg c2, if_pos (q_nle.mp c1), if_pos (q_nle.mp c2)]
theorem q_gainE {W S n : Nat} {B B' : Nat → Option Nat} {σ τ : Nat → Nat → Int32} {p : Nat} (hW : 2 ≤ W) (hW8 : W ≤ 8) (hS : S ≤ 4) (hs : q_smt W S (σ 34) (τ 47)) (hp : p < W * S + 1) : m_X5_gain W S n n B σ (nI p) = m_X6_tellsAt W S n n B' τ (nI (q_nd W p)) := by
  unfold m_X5_gain m_X6_tellsAt ap
  dsimp only
  rw [q_vh (B := B) hW hW8 hS hs hp, q_vl (B := B) hW hW8 hS hs hp, q_openE (B' := B') hW hW8 hS hs]
  congr 1
  refine q_lpc (fun j c _ _ => ?_)
  unfold m_X5_gain_L24 m_X6_tellsAt_L8 ap
  dsimp only
  rw [q_afterE (B' := B') (nI j) hW hW8 hS hs hp]
  by_cases q : m_X6_opensBy W S n n B' τ (nI (q_nd W p)) (nI j) ≤ c
  · rw [if_pos q, if_neg (fun t => q_nle.mpr t q)]
  · rw [if_neg q, if_pos (q_nle.mp q)]
theorem q_gain0 {W S n : Nat} {B : Nat → Option Nat} {σ : Nat → Nat → Int32} {g : Nat → Int32} {p : Nat} (hW : 2 ≤ W) (hW8 : W ≤ 8) (hS : S ≤ 4) (hs : q_smt W S (σ 34) g) (hp : p < W * S + 1) : 0 ≤ (m_X5_gain W S n n B σ (nI p)).toInt := by
  have hn := q_ws hW8 hS
  have h0 : 0 < W * S + 1 := by omega
  unfold m_X5_gain ap
  dsimp only
  have hg := hs.2.1 0 p h0 hp
  have hl := hs.2.1 p 0 hp h0
  have hz := hs.2.2 p hp
  obtain ⟨lo, l1, l2⟩ := q_nIb (v := m_X1_least W S n n B σ 11 (nI p)) (by rw [q_leastH hn hp, q_tneg (by omega) (by omega)]; omega) (by rw [q_leastH hn hp, q_tneg (by omega) (by omega)]; omega)
  obtain ⟨hi, l3, l4⟩ := q_nIb (v := m_X1_greatest W S n n B σ 11 (nI p)) (by rw [q_greatH hn hp]; omega) (by rw [q_greatH hn hp]; omega)
  rw [l2, l4, nI_clamp (by omega), nI_clamp (by omega)]
  -- the sum
  have eO : m_X1_openSum W S n n B σ 11 = lp (fun j c => c + (m_X1_greatest W S n n B σ 11 (nI j) - m_X1_least W S n n B σ 11 (nI j))) (W * S) 1 (nI 0) := rfl
  have tO : ∀ j, j < W * S + 1 → (m_X1_greatest W S n n B σ 11 (nI j) - m_X1_least W S n n B σ 11 (nI j)).toInt = (σ 34 (0 * (W * S + 1) + j)).toInt + (σ 34 (j * (W * S + 1) + 0)).toInt := by
    intro j hj
    have b1 := hs.2.1 0 j h0 hj
    have b2 := hs.2.1 j 0 hj h0
    rw [q_leastH hn hj, q_greatH hn hj, q_tsub (by rw [q_tneg (by omega) (by omega)]; omega) (by rw [q_tneg (by omega) (by omega)]; omega), q_tneg (by omega) (by omega)]
    omega
  have hO : 0 ≤ (m_X1_openSum W S n n B σ 11).toInt ∧ (m_X1_openSum W S n n B σ 11).toInt ≤ 33000 := by
    have := q_sle (u := fun _ => nI 0) (v := fun j => m_X1_greatest W S n n B σ 11 (nI j) - m_X1_least W S n n B σ 11 (nI j)) (n := W * S) (i := 1) (by omega) (fun j h1 h2 => by
      have hj : j < W * S + 1 := by omega
      have b1 := hs.2.1 0 j h0 hj
      have b2 := hs.2.1 j 0 hj h0
      have b3 := hs.2.2 j hj
      rw [tO j hj, q_n0]
      omega)
    rw [← eO] at this
    have e0 : ∀ m i, lp (fun (j : Nat) (c : Int32) => c + nI 0) m i (nI 0) = nI 0 := by
      intro m i
      have := q_lp (f := fun (j : Nat) (c : Int32) => c + nI 0) (fun _ c => c = nI 0) (n := m) (i := i) (a := nI 0) rfl (fun j c _ _ hc => by rw [hc]; rfl)
      exact this
    rw [e0, q_n0] at this
    omega
  have hA : ∀ j, j ≤ 60 → (m_X1_openSumAfterBore W S n n B σ 11 (nI p) (nI j)).toInt ≤ (m_X1_openSum W S n n B σ 11).toInt := by
    intro v hv
    unfold m_X1_openSumAfterBore ap
    rw [q_place hn hp]
    simp only [q_one, if_false]
    rw [Nat.add_sub_cancel, eO]
    have hstep : ∀ (r : Nat) (c : Int32), r < W * S + 1 → ∃ u : Int32, (∀ c, m_X1_openSumAfterBore_L15 W S n n B σ 11 (nI p) (nI v) r c = c + u) ∧ -1000 ≤ u.toInt ∧ u.toInt ≤ (m_X1_greatest W S n n B σ 11 (nI r) - m_X1_least W S n n B σ 11 (nI r)).toInt ∧ (m_X1_greatest W S n n B σ 11 (nI r) - m_X1_least W S n n B σ 11 (nI r)).toInt ≤ 1000 := by
      intro r c hr
      have b1 := hs.2.1 0 r h0 hr
      have b2 := hs.2.1 r 0 hr h0
      have b3 := hs.2.1 p r hp hr
      have b4 := hs.2.1 r p hr hp
      have i2 : (nI r).toNatClampNeg = 0 * (W * S + 1) + r := by rw [nI_clamp (by omega)]; omega
      have i3 : ((nI r) * (nI (W * S + 1))).toNatClampNeg = r * (W * S + 1) + 0 := by
        rw [nI_mul, nI_clamp (by have : r * (W * S + 1) ≤ 33 * 33 := Nat.mul_le_mul (by omega) hn; omega)]; rfl
      rw [tO r hr]
      unfold m_X1_openSumAfterBore_L15 ap
      dsimp only
      rw [q_ix hn (by omega) (by omega), q_ix hn (by omega) (by omega), i2, i3, show (12 + 2 * 11) = 34 from rfl]
      refine ⟨_, fun c => rfl, ?_⟩
      generalize σ 34 (0 * (W * S + 1) + r) = H at b1 ⊢
      generalize σ 34 (r * (W * S + 1) + 0) = L at b2 ⊢
      generalize σ 34 (p * (W * S + 1) + r) = X at b3 ⊢
      generalize σ 34 (r * (W * S + 1) + p) = Y at b4 ⊢
      have hvv : (nI v).toInt = v := q_nt (by omega)
      have tX : (nI v + X).toInt = v + X.toInt := by rw [q_tadd (by omega) (by omega)]; omega
      have tY : (nI v - Y).toInt = v - Y.toInt := by rw [q_tsub (by omega) (by omega)]; omega
      have tL : (-L).toInt = -L.toInt := q_tneg (by omega) (by omega)
      have t1 : (if nI v + X < H then nI v + X else H).toInt ≤ H.toInt ∧ -60 ≤ (if nI v + X < H then nI v + X else H).toInt := by
        by_cases c : nI v + X < H
        · rw [if_pos c]; rw [q_lt] at c; omega
        · rw [if_neg c]; omega
      have t2 : -L.toInt ≤ (if -L < nI v - Y then nI v - Y else -L).toInt ∧ (if -L < nI v - Y then nI v - Y else -L).toInt ≤ 120 := by
        by_cases c : -L < nI v - Y
        · rw [if_pos c]; rw [q_lt] at c; omega
        · rw [if_neg c]; omega
      generalize (if nI v + X < H then nI v + X else H) = A at t1 ⊢
      generalize (if -L < nI v - Y then nI v - Y else -L) = Z at t2 ⊢
      rw [q_tsub (by omega) (by omega)]
      omega
    have hu : ∃ u : Nat → Int32, ∀ r, r < W * S + 1 → (∀ c, m_X1_openSumAfterBore_L15 W S n n B σ 11 (nI p) (nI v) r c = c + u r) ∧ -1000 ≤ (u r).toInt ∧ (u r).toInt ≤ (m_X1_greatest W S n n B σ 11 (nI r) - m_X1_least W S n n B σ 11 (nI r)).toInt ∧ (m_X1_greatest W S n n B σ 11 (nI r) - m_X1_least W S n n B σ 11 (nI r)).toInt ≤ 1000 := by
      refine ⟨fun r => m_X1_openSumAfterBore_L15 W S n n B σ 11 (nI p) (nI v) r (nI 0), fun r hr => ?_⟩
      obtain ⟨u, h1, h2⟩ := hstep r 0 hr
      have e : m_X1_openSumAfterBore_L15 W S n n B σ 11 (nI p) (nI v) r (nI 0) = u := by rw [h1, nI_0]; simp
      dsimp only
      rw [e]
      exact ⟨h1, h2⟩
    obtain ⟨u, hu⟩ := hu
    rw [q_lpc (g := fun j c => c + u j) (fun j c h1 h2 => (hu j (by omega)).1 c)]
    exact (q_sle (u := u) (v := fun j => m_X1_greatest W S n n B σ 11 (nI j) - m_X1_least W S n n B σ 11 (nI j)) (n := W * S) (i := 1) (by omega) (fun j h1 h2 => (hu j (by omega)).2)).1
  have hM := q_lp (f := m_X5_gain_L24 W S n n B σ (nI p)) (fun _ c => 0 ≤ c.toInt ∧ c.toInt ≤ (m_X1_openSum W S n n B σ 11).toInt) (n := hi + 1 - lo) (i := lo) (a := nI 0) (by rw [q_n0]; omega) (fun j c h1 h2 hc => by
    have := hA j (by omega)
    unfold m_X5_gain_L24 ap
    dsimp only
    by_cases q : c < m_X1_openSumAfterBore W S n n B σ 11 (nI p) (nI j)
    · rw [if_pos q]
      rw [q_lt] at q
      omega
    · rw [if_neg q]; exact hc)
  rw [q_tsub (by omega) (by omega)]
  omega
theorem q_nextE {W S n : Nat} {B B' : Nat → Option Nat} {σ τ : Nat → Nat → Int32} {y : Int32 × (Nat → Nat → Int32)} {z : Int32 × (Nat → Int32) × (Nat → Int32) × (Nat → Int32) × (Nat → Int32)} (hW : 2 ≤ W) (hW8 : W ≤ 8) (hS1 : 1 ≤ S) (hS : S ≤ 4) (hs : q_smt W S (y.2 34) z.2.2.1) : (lp (m_X5_next_L18 W S n n B σ y) (S - 0) 0 ((-1), (-1))).1 = (lp (m_X6_next_L15 W S n n B' τ z) (S - 0) 0 (nI 0, (-1))).1 := by
  have hs' : q_smt W S (y.2 34) ((RkS τ z) 47) := hs
  have v : ∀ i j, i < S → j < W → m_X6_tellsAt W S n n B' (sA (sA (sA (sA τ 36 z.2.1) 47 z.2.2.1) 48 z.2.2.2.1) 49 z.2.2.2.2) (nI (q_nd W (1 + i * W + j))) = m_X5_gain W S n n B y.2 (nI (1 + i * W + j)) := fun i j hi hj => (q_gainE (B := B) (B' := B') hW hW8 hS hs' (q_pl hi hj)).symm
  have st : ∀ i j c, i < S → j < W → m_X5_next_L32 W S n n B σ y i j c = m_X6_next_L26 W S n n B' τ z i j c := by
    intro i j c hi hj
    unfold m_X5_next_L32 m_X6_next_L26 ap
    dsimp only
    rw [q_nodP hj, v i j hi hj, q_plO]
    by_cases q : m_X5_gain W S n n B y.2 (nI (1 + i * W + j)) ≤ c.2
    · rw [if_pos q, if_neg (fun t => q_nle.mpr t q)]
    · rw [if_neg q, if_pos (q_nle.mp q), nI_mul, nI_mul, Nat.mul_comm]
  have st0 : m_X5_next_L32 W S n n B σ y 0 0 ((-1), (-1)) = m_X6_next_L26 W S n n B' τ z 0 0 (nI 0, (-1)) := by
    unfold m_X5_next_L32 m_X6_next_L26 ap
    dsimp only
    rw [q_nodP (by omega), v 0 0 (by omega) (by omega), q_plO]
    have g0 := q_gain0 (n := n) (B := B) hW hW8 hS hs (q_pl (W := W) (S := S) (k := 0) (c := 0) (by omega) (by omega))
    have q : -1 < m_X5_gain W S n n B y.2 (nI (1 + 0 * W + 0)) := by
      rw [q_lt, show ((-1 : Int32)).toInt = -1 from rfl]; omega
    rw [if_neg (fun t => q_nle.mpr q t), if_pos q]
    rfl
  obtain ⟨S', rfl⟩ : ∃ S', S = S' + 1 := ⟨S - 1, by omega⟩
  obtain ⟨W', rfl⟩ : ∃ W', W = W' + 1 := ⟨W - 1, by omega⟩
  congr 1
  have o : ∀ i c, i < S' + 1 → m_X5_next_L18 (W' + 1) (S' + 1) n n B σ y i c = m_X6_next_L15 (W' + 1) (S' + 1) n n B' τ z i c := by
    intro i c hi
    unfold m_X5_next_L18 m_X6_next_L15 ap
    dsimp only
    rw [q_lpc (fun j c h1 h2 => st i j c hi (by omega))]
  have o0 : m_X5_next_L18 (W' + 1) (S' + 1) n n B σ y 0 ((-1), (-1)) = m_X6_next_L15 (W' + 1) (S' + 1) n n B' τ z 0 (nI 0, (-1)) := by
    unfold m_X5_next_L18 m_X6_next_L15 ap
    dsimp only
    have e : lp (m_X5_next_L32 (W' + 1) (S' + 1) n n B σ y 0) (W' + 1 - 0) 0 ((-1), (-1)) = lp (m_X6_next_L26 (W' + 1) (S' + 1) n n B' τ z 0) (W' + 1 - 0) 0 (nI 0, (-1)) := by
      show lp (m_X5_next_L32 (W' + 1) (S' + 1) n n B σ y 0) W' (0 + 1) (m_X5_next_L32 (W' + 1) (S' + 1) n n B σ y 0 0 ((-1), (-1))) = lp (m_X6_next_L26 (W' + 1) (S' + 1) n n B' τ z 0) W' (0 + 1) (m_X6_next_L26 (W' + 1) (S' + 1) n n B' τ z 0 0 (nI 0, (-1)))
      rw [st0]
      exact q_lpc (fun j c h1 h2 => st 0 j c (by omega) (by omega))
    rw [e]
  show lp (m_X5_next_L18 (W' + 1) (S' + 1) n n B σ y) S' (0 + 1) (m_X5_next_L18 (W' + 1) (S' + 1) n n B σ y 0 ((-1), (-1))) = lp (m_X6_next_L15 (W' + 1) (S' + 1) n n B' τ z) S' (0 + 1) (m_X6_next_L15 (W' + 1) (S' + 1) n n B' τ z 0 (nI 0, (-1)))
  rw [o0]
  exact q_lpc (fun j c h1 h2 => o j c (by omega))
theorem q_end1 {W S n : Nat} {B : Nat → Option Nat} {σ : Nat → Nat → Int32} {p : Int32} : m_X5_end W S n n B σ p (nI 1) = m_X1_greatest W S n n B σ 11 p ∧ m_X5_end W S n n B σ p (nI 0) = m_X1_least W S n n B σ 11 p := by
  unfold m_X5_end ap
  dsimp only
  rw [if_neg (by decide), if_pos (by decide)]
  exact ⟨rfl, rfl⟩
theorem q_ad0 (x : Int32) : x + nI 0 = x := by rw [nI_0]; simp
theorem q_layE {W S n : Nat} {B B' : Nat → Option Nat} {σ τ : Nat → Nat → Int32} {y : Int32 × (Nat → Nat → Int32)} {z : Int32 × (Nat → Int32) × (Nat → Int32) × (Nat → Int32) × (Nat → Int32)} (hW : 2 ≤ W) (hW8 : W ≤ 8) (hS : S ≤ 4) (hs : q_smt W S (y.2 34) z.2.2.1) {k : Nat} (hk : k < W) {d : Int32} {a : Int32 × Int32} : lp (m_X5_layer_L39 W S n n B σ (nI k) d y) (S - 0) 0 a = lp (m_X6_layer_L41 W S n n B' τ (nI k) d z) (S - 0) 0 a := by
  have hs' : q_smt W S (y.2 34) ((RkS τ z) 47) := hs
  refine q_lpc (fun i c _ hi => ?_)
  have hp := q_pl (W := W) (S := S) (k := i) (c := k) (by omega) hk
  unfold m_X5_layer_L39 m_X6_layer_L41 ap
  dsimp only
  have vh := q_vh (n := n) (B := B) (B' := B') (σ := y.2) (τ := sA (sA (sA (sA τ 36 z.2.1) 47 z.2.2.1) 48 z.2.2.2.1) 49 z.2.2.2.2) hW hW8 hS hs' hp
  have vl := q_vl (n := n) (B := B) (B' := B') (σ := y.2) (τ := sA (sA (sA (sA τ 36 z.2.1) 47 z.2.2.1) 48 z.2.2.2.1) 49 z.2.2.2.2) hW hW8 hS hs' hp
  rw [q_nodP hk, vh, vl, q_plO, q_end1.1, q_end1.2, q_ad0, q_ad0]
theorem q_depE {W S n : Nat} {B B' : Nat → Option Nat} {σ τ : Nat → Nat → Int32} (hW : 2 ≤ W) (hW8 : W ≤ 8) (hS : S ≤ 4) (hs : q_smt W S (σ 34) (τ 47)) {i k : Nat} (hi : i < S) (hk : k < W) {w : Int32} : m_X5_end W S n n B σ (nI (1 + i * W + k)) w = m_X6_depth W S n n B' τ (nI i) (nI k) w := by
  have hp := q_pl hi hk
  unfold m_X5_end m_X6_depth ap
  dsimp only
  rw [q_nodP hk, q_vh (B := B) hW hW8 hS hs hp, q_vl (B := B) hW hW8 hS hs hp]
theorem q_bendE {W S n : Nat} {B B' : Nat → Option Nat} {σ τ : Nat → Nat → Int32} {y : Int32 × (Nat → Nat → Int32)} {z : Int32 × (Nat → Int32) × (Nat → Int32) × (Nat → Int32) × (Nat → Int32)} (hW : 2 ≤ W) (hW8 : W ≤ 8) (hS : S ≤ 4) (hs : q_smt W S (y.2 34) z.2.2.1) {w a : Int32} : lp (m_X5_bend_L23 W S n n B σ w y) (S - 0) 0 a = lp (m_X6_bend_L22 W S n n B' τ w z) (S - 0) 0 a := by
  have hs' : q_smt W S (y.2 34) ((RkS τ z) 47) := hs
  refine q_lpc (fun i c _ hi => ?_)
  unfold m_X5_bend_L23 m_X6_bend_L22 ap
  refine q_lpc (fun j c hj1 hj => ?_)
  unfold m_X5_bend_L37 m_X6_bend_L33 ap
  dsimp only
  have e1 : nI j - nI 1 = nI (j - 1) := by
    rw [show j = (j - 1) + 1 by omega, ← nI_add]
    simp
  have d := fun k (hk : k < W) => q_depE (n := n) (B := B) (B' := B') (σ := y.2) (τ := sA (sA (sA (sA τ 36 z.2.1) 47 z.2.2.1) 48 z.2.2.2.1) 49 z.2.2.2.2) hW hW8 hS hs' (i := i) (by omega) hk (w := w)
  rw [e1, nI_add, q_plO, q_plO, q_plO, d j (by omega), d (j - 1) (by omega), d (j + 1) (by omega)]
  split
  · rfl
  · congr 1

def q_lo (be al : Nat → Int) (M : Nat → Nat → Int) : Prop := ∀ a b, a < 33 → b < 33 → be b - al a ≤ M a b
def q_T (k : Nat) (M : Nat → Nat → Int) : Prop := ∀ a b j, a < 33 → b < 33 → j < k → M a j + M j b < 50000 - 600 * (k + 1) → M a b ≤ M a j + M j b
abbrev q_J (W S k : Nat) (be al : Nat → Int) (M0 M : Nat → Nat → Int) : Prop := (q_lo be al M) ∧ (∀ a b, a < 33 → b < 33 → M a b ≤ M0 a b) ∧ (∀ a b, a < 33 → b < 33 → M a b ≤ 100000) ∧ (∀ a, a < 32 → M a a = 0) ∧ (q_T k M) ∧ (q_far W S M) ∧ (∀ y, q_So (W * S + 1) (fun a b => M (q_nd W a) (q_nd W b)) y ↔ q_So (W * S + 1) (fun a b => M0 (q_nd W a) (q_nd W b)) y)
theorem q_J.lo {W S k : Nat} {be al : Nat → Int} {M0 M : Nat → Nat → Int} (h : q_J W S k be al M0 M) : q_lo be al M := h.1
theorem q_J.hi {W S k : Nat} {be al : Nat → Int} {M0 M : Nat → Nat → Int} (h : q_J W S k be al M0 M) : ∀ a b, a < 33 → b < 33 → M a b ≤ M0 a b := h.2.1
theorem q_J.up {W S k : Nat} {be al : Nat → Int} {M0 M : Nat → Nat → Int} (h : q_J W S k be al M0 M) : ∀ a b, a < 33 → b < 33 → M a b ≤ 100000 := h.2.2.1
theorem q_J.di {W S k : Nat} {be al : Nat → Int} {M0 M : Nat → Nat → Int} (h : q_J W S k be al M0 M) : ∀ a, a < 32 → M a a = 0 := h.2.2.2.1
theorem q_J.T {W S k : Nat} {be al : Nat → Int} {M0 M : Nat → Nat → Int} (h : q_J W S k be al M0 M) : q_T k M := h.2.2.2.2.1
theorem q_J.far {W S k : Nat} {be al : Nat → Int} {M0 M : Nat → Nat → Int} (h : q_J W S k be al M0 M) : q_far W S M := h.2.2.2.2.2.1
theorem q_J.so {W S k : Nat} {be al : Nat → Int} {M0 M : Nat → Nat → Int} (h : q_J W S k be al M0 M) : ∀ y, q_So (W * S + 1) (fun a b => M (q_nd W a) (q_nd W b)) y ↔ q_So (W * S + 1) (fun a b => M0 (q_nd W a) (q_nd W b)) y := h.2.2.2.2.2.2
theorem q_thr_le {M : Nat → Nat → Int} {k : Nat} (a b : Nat) : q_thr M k k 0 a b ≤ M a b ∧ (M a k < 50000 → M k b < 50000 → q_thr M k k 0 a b ≤ M a k + M k b) ∧ (q_thr M k k 0 a b = M a b ∨ (M a k < 50000 ∧ M k b < 50000 ∧ q_thr M k k 0 a b = M a k + M k b)) := by
  unfold q_thr
  by_cases c : M a k < 50000 ∧ M k b < 50000 ∧ M a k + 0 + M k b < M a b
  · rw [if_pos c]; exact ⟨by omega, fun _ _ => by omega, Or.inr ⟨c.1, c.2.1, by omega⟩⟩
  · rw [if_neg c]; exact ⟨by omega, fun h1 h2 => by omega, Or.inl rfl⟩
theorem q_T_s {k : Nat} {M : Nat → Nat → Int} (hk : k < 33) (hT : q_T k M) (hm : ∀ a b, a < 33 → b < 33 → -600 ≤ M a b) (hd : ∀ a, a < k → M a a = 0) (h0 : M k k = 0) : q_T (k + 1) (q_thr M k k 0) := by
  have hle := fun a b => @q_thr_le M k a b
  have hrow : ∀ b, q_thr M k k 0 k b = M k b := fun b => by
    unfold q_thr; rw [if_neg (by omega)]
  have hcol : ∀ a, q_thr M k k 0 a k = M a k := fun a => by
    unfold q_thr; rw [if_neg (by omega)]
  have hvia : ∀ a b, a < 33 → b < 33 → M a k + M k b < 50000 - 600 → q_thr M k k 0 a b ≤ M a k + M k b := fun a b ha hb h => by
    have h1 := hm a k ha hk
    have h2 := hm k b hk hb
    exact (hle a b).2.1 (by omega) (by omega)
  intro a b j ha hb hj h
  by_cases e : j = k
  · subst e
    rw [hrow, hcol] at h ⊢
    exact hvia a b ha hb (by omega)
  · have hjk : j < k := by omega
    have hj33 : j < 33 := by omega
    have l1 := (hle a b).1
    have t1 := hT a b j ha hb hjk
    have ma := hm a k ha hk
    have mb := hm k b hk hb
    have mj := hm j k hj33 hk
    have mk := hm k j hk hj33
    rcases (hle a j).2.2 with c1 | ⟨c1, c2, c3⟩ <;> rcases (hle j b).2.2 with d1 | ⟨d1, d2, d3⟩
    · rw [c1, d1] at h ⊢
      have := t1 (by omega)
      omega
    · rw [c1, d3] at h ⊢
      have := hT a k j ha hk hjk (by omega)
      have := hvia a b ha hb (by omega)
      omega
    · rw [c3, d1] at h ⊢
      have := hT k b j hk hb hjk (by omega)
      have := hvia a b ha hb (by omega)
      omega
    · rw [c3, d3] at h ⊢
      have h5 : 0 ≤ M k j + M j k := by
        by_cases q : M k j + M j k < 50000 - 600 * (k + 1)
        · have := hT k k j hk hk hjk q
          omega
        · omega
      have := hvia a b ha hb (by omega)
      omega
theorem q_J_s {W S k : Nat} {be al : Nat → Int} {M0 M : Nat → Nat → Int} (hW : 0 < W) (hW8 : W ≤ 8) (hS : S ≤ 4) (hk : k < 32) (hab : ∀ a, a < 32 → be a = al a) (hbe : ∀ a, a < 33 → -210 ≤ be a ∧ al a ≤ 390) (h : q_J W S k be al M0 M) : q_J W S (k + 1) be al M0 (q_thr M k k 0) := by
  have hle := fun a b => @q_thr_le M k a b
  have hm : ∀ a b, a < 33 → b < 33 → -600 ≤ M a b := fun a b ha hb => by
    have h1 := h.lo a b ha hb
    have h2 := hbe a ha
    have h3 := hbe b hb
    omega
  have hlo : q_lo be al (q_thr M k k 0) := fun a b ha hb => by
    have h1 := h.lo a b ha hb
    have h2 := h.lo a k ha (by omega)
    have h3 := h.lo k b (by omega) hb
    have h4 := hab k hk
    rcases (hle a b).2.2 with c | ⟨-, -, c⟩ <;> omega
  have hun : ¬ q_us W S k → ∀ a b, a < 33 → b < 33 → q_thr M k k 0 a b = M a b := fun hu a b ha hb => by
    unfold q_thr
    rw [if_neg]
    rintro ⟨q1, q2, q3⟩
    have f1 := h.far a k ha (by omega) (fun q => hu q.2)
    have f2 := h.far k b (by omega) hb (fun q => hu q.1)
    by_cases e1 : a = k
    · by_cases e2 : k = b
      · subst e1 e2
        have := h.di a hk
        omega
      · rw [if_neg e2] at f2; omega
    · rw [if_neg e1] at f1; omega
  refine ⟨hlo, fun a b ha hb => ?_, fun a b ha hb => ?_, fun a ha => ?_, q_T_s (by omega) h.T hm (fun a ha => h.di a (by omega)) (h.di k hk), fun u v hu hv hc => ?_, fun y => ?_⟩
  · have := (hle a b).1
    have := h.hi a b ha hb
    omega
  · have := (hle a b).1
    have := h.up a b ha hb
    omega
  · have h1 := h.di a ha
    have h2 := (hle a a).1
    have h3 := h.lo a k (by omega) (by omega)
    have h4 := h.lo k a (by omega) (by omega)
    by_cases c : q_thr M k k 0 a a = M a a
    · rw [c]; exact h1
    · rcases (hle a a).2.2 with c' | ⟨c1, c2, c3⟩
      · exact absurd c' c
      · have h5 := hab a ha
        have h6 := hab k hk
        omega
  · by_cases e : q_us W S k
    · unfold q_thr
      rw [if_neg]
      · exact h.far u v hu hv hc
      · rintro ⟨q1, q2, q3⟩
        have hcu : q_us W S u := by
          by_cases z : q_us W S u
          · exact z
          · have f1 := h.far u k hu (by omega) (fun q => z q.1)
            rw [if_neg (fun (e2 : u = k) => z (by rw [e2]; exact e))] at f1
            omega
        have hcv : q_us W S v := by
          by_cases z : q_us W S v
          · exact z
          · have f1 := h.far k v (by omega) hv (fun q => z q.2)
            rw [if_neg (fun (e2 : k = v) => z (by rw [← e2]; exact e))] at f1
            omega
        exact hc ⟨hcu, hcv⟩
    · rw [hun e u v hu hv]; exact h.far u v hu hv hc
  · rw [← h.so y]
    by_cases e : q_us W S k
    · obtain ⟨i, hi, hik⟩ := q_us_nd hW8 hS (show k < 33 by omega) e
      constructor
      · intro q a b ha hb
        have := q a b ha hb
        have := (hle (q_nd W a) (q_nd W b)).1
        simp only at *
        omega
      · intro q a b ha hb
        have h1 := q a b ha hb
        have h2 := q a i ha hi
        have h3 := q i b hi hb
        simp only [hik] at h1 h2 h3 ⊢
        rcases (hle (q_nd W a) (q_nd W b)).2.2 with c | ⟨-, -, c⟩ <;> omega
    · exact q_So_cg (fun a b ha hb => hun e _ _ (q_nd_lt hW hW8 hS ha).1 (q_nd_lt hW hW8 hS hb).1) y
theorem q_far_s {W S k : Nat} {M : Nat → Nat → Int} (hk : k < 33) (hu : q_us W S k) (h : q_far W S M) : q_far W S (q_thr M k k 0) := by
  intro u v hu' hv hc
  unfold q_thr
  rw [if_neg]
  · exact h u v hu' hv hc
  · rintro ⟨q1, q2, q3⟩
    have hcu : q_us W S u := by
      by_cases z : q_us W S u
      · exact z
      · have f1 := h u k hu' hk (fun q => z q.1)
        rw [if_neg (fun (e2 : u = k) => z (by rw [e2]; exact hu))] at f1
        omega
    have hcv : q_us W S v := by
      by_cases z : q_us W S v
      · exact z
      · have f1 := h k v hk hv (fun q => z q.2)
        rw [if_neg (fun (e2 : k = v) => z (by rw [← e2]; exact hu))] at f1
        omega
    exact hc ⟨hcu, hcv⟩
theorem q_fw_end {W S : Nat} {be al : Nat → Int} {M0 M : Nat → Nat → Int} (hW : 0 < W) (hW8 : W ≤ 8) (hS : S ≤ 4) (hbe : ∀ a, a < 33 → -210 ≤ be a ∧ al a ≤ 390) (h : q_J W S 32 be al M0 M) (h0 : M 32 32 = 0) (hd : ∀ a, a < 33 → q_us W S a → M0 a 32 ≤ 0) (hup : ∀ b, b < 33 → q_us W S b → M0 32 b ≤ 60) :
    q_far W S (q_thr M 32 32 0) ∧ ((∀ u, u < 33 → 0 ≤ q_thr M 32 32 0 u u) → q_Is (W * S + 1) (q_So (W * S + 1) (fun a b => M0 (q_nd W a) (q_nd W b))) (fun a b => q_thr M 32 32 0 (q_nd W a) (q_nd W b))) ∧ ∀ u, u < 33 → q_thr M 32 32 0 u u < 0 → ¬ ∃ y, q_So (W * S + 1) (fun a b => M0 (q_nd W a) (q_nd W b)) y := by
  have hle := fun a b => @q_thr_le M 32 a b
  have hm : ∀ a b, a < 33 → b < 33 → -600 ≤ M a b := fun a b ha hb => by
    have h1 := h.lo a b ha hb
    have h2 := hbe a ha
    have h3 := hbe b hb
    omega
  have hT := q_T_s (by omega) h.T hm (fun a ha => h.di a ha) h0
  have hfar := q_far_s (k := 32) (by omega) (Or.inl rfl) h.far
  have hso : ∀ y, q_So (W * S + 1) (fun a b => q_thr M 32 32 0 (q_nd W a) (q_nd W b)) y ↔ q_So (W * S + 1) (fun a b => M0 (q_nd W a) (q_nd W b)) y := fun y => by
    rw [← h.so y]
    constructor
    · intro q a b ha hb
      have := q a b ha hb
      have := (hle (q_nd W a) (q_nd W b)).1
      simp only at *
      omega
    · intro q a b ha hb
      have h1 := q a b ha hb
      have h2 := q a 0 ha (by omega)
      have h3 := q 0 b (by omega) hb
      simp only [q_nd_0] at h1 h2 h3 ⊢
      rcases (hle (q_nd W a) (q_nd W b)).2.2 with c | ⟨-, -, c⟩ <;> omega
  have hb60 : ∀ a b, a < 33 → b < 33 → q_us W S a → q_us W S b → q_thr M 32 32 0 a b ≤ 60 := fun a b ha hb ua ub => by
    have h1 := h.hi a 32 ha (by omega)
    have h2 := h.hi 32 b (by omega) hb
    have h3 := hd a ha ua
    have h4 := hup b hb ub
    have := (hle a b).2.1 (by omega) (by omega)
    omega
  have hdi : ∀ a, a < 33 → q_thr M 32 32 0 a a ≤ 0 := fun a ha => by
    have h1 := (hle a a).1
    by_cases e : a = 32
    · subst e; omega
    · have := h.di a (by omega); omega
  refine ⟨hfar, fun hpos => ⟨⟨fun a ha => ?_, fun a b c ha hb hc => ?_⟩, hso⟩, fun u hu hneg => ?_⟩
  · have na := q_nd_lt hW hW8 hS ha
    have := hdi _ na.1
    have := hpos _ na.1
    show q_thr M 32 32 0 (q_nd W a) (q_nd W a) = 0
    omega
  · have na := q_nd_lt hW hW8 hS ha
    have nb := q_nd_lt hW hW8 hS hb
    have nc := q_nd_lt hW hW8 hS hc
    have h1 := hb60 _ _ na.1 nb.1 na.2 nb.2
    have h2 := hb60 _ _ nb.1 nc.1 nb.2 nc.2
    exact hT _ _ _ na.1 nc.1 nb.1 (by omega)
  · rintro ⟨y, hy⟩
    by_cases e : q_us W S u
    · obtain ⟨a, ha, rfl⟩ := q_us_nd hW8 hS hu e
      have := (hso y).mpr hy a a ha ha
      simp only at this
      omega
    · have := hfar u u hu hu (fun q => e q.1)
      rw [if_pos rfl] at this
      omega
/-! the loops of stands() -/
theorem q_frow {W S ns nc : Nat} {B : Nat → Option Nat} {σ : Nat → Nat → Int32} {f : Nat → Int32} {k s : Nat} (hk : k < 33) (hs : s < 33) (hb : ∀ a b, a < 33 → b < 33 → -3000 ≤ q_fv f a b ∧ q_fv f a b ≤ 100000) (hx : q_fv f s k < 50000) (h0 : 0 ≤ q_fv f k k) :
    ∀ a b, a < 33 → b < 33 → q_fv (lp (m_X6_stands_L228 W S ns nc B σ k s) (33 - 0) 0 f) a b = if a = s ∧ q_fv f k b < 50000 ∧ q_fv f s k + 0 + q_fv f k b < q_fv f s b then q_fv f s k + 0 + q_fv f k b else q_fv f a b := by
  have k2 := q_lp (f := m_X6_stands_L228 W S ns nc B σ k s) (fun j c => ∀ a b, a < 33 → b < 33 → q_fv c a b = if (a = s ∧ b < j) ∧ q_fv f k b < 50000 ∧ q_fv f s k + 0 + q_fv f k b < q_fv f s b then q_fv f s k + 0 + q_fv f k b else q_fv f a b) (n := 33 - 0) (i := 0) (a := f) (fun a b _ _ => by rw [if_neg (by omega)]) ?_
  · intro a b ha hb
    rw [k2 a b ha hb]
    by_cases h : a = s ∧ q_fv f k b < 50000 ∧ q_fv f s k + 0 + q_fv f k b < q_fv f s b
    · rw [if_pos h, if_pos ⟨⟨h.1, by omega⟩, h.2⟩]
    · rw [if_neg h, if_neg (fun e => h ⟨e.1.1, e.2⟩)]
  · intro j c _ hj hJ a b ha hbn
    have hjn : j < 33 := by omega
    have h1 := hJ k j hk hjn
    rw [if_neg (by omega)] at h1
    have h2 := hJ s j hs hjn
    rw [if_neg (by omega)] at h2
    have h3 := hJ s k hs hk
    rw [if_neg (by omega)] at h3
    have b1 := hb k j hk hjn
    have b2 := hb s j hs hjn
    have b3 := hb s k hs hk
    have h1' : (c (33 * k + j)).toInt = q_fv f k j := h1
    have h3' : (c (33 * s + k)).toInt = q_fv f s k := h3
    have e5 : (nI 50000).toInt = 50000 := rfl
    unfold m_X6_stands_L228 ap
    rw [q_jx (by omega) (by omega), q_jx (by omega) (by omega)]
    by_cases hc : nI 50000 ≤ c (33 * k + j)
    · rw [if_pos hc, hJ a b ha hbn]
      rw [q_lei, h1', e5] at hc
      by_cases e : a = s ∧ b < j
      · by_cases e2 : q_fv f k b < 50000 ∧ q_fv f s k + 0 + q_fv f k b < q_fv f s b
        · rw [if_pos ⟨e, e2⟩, if_pos ⟨⟨e.1, by omega⟩, e2⟩]
        · rw [if_neg (fun q => e2 q.2), if_neg (fun q => e2 q.2)]
      · rw [if_neg (fun q => e q.1), if_neg]
        rintro ⟨⟨q1, q2⟩, q3, q4⟩
        have : b = j := by omega
        subst this
        omega
    · rw [if_neg hc, q_bounds hs hjn a b hbn]
      rw [q_lei, h1', e5] at hc
      have t2 : (c (33 * s + k) + c (33 * k + j)).toInt = q_fv f s k + 0 + q_fv f k j := by rw [q_tadd (by omega) (by omega), h1', h3']; omega
      rw [t2, h2]
      by_cases e : a = s ∧ b = j
      · obtain ⟨rfl, rfl⟩ := e
        rw [hJ a b ha hbn, if_neg (c := (a = a ∧ b < b) ∧ _) (by omega)]
        by_cases e2 : q_fv f a k + 0 + q_fv f k b < q_fv f a b
        · rw [if_pos ⟨rfl, rfl, e2⟩, if_pos ⟨⟨rfl, by omega⟩, by omega, e2⟩]
        · rw [if_neg (fun q => e2 q.2.2), if_neg (fun q => e2 q.2.2)]
      · rw [if_neg (fun q => e ⟨q.1, q.2.1⟩), hJ a b ha hbn]
        by_cases e1 : (a = s ∧ b < j) ∧ q_fv f k b < 50000 ∧ q_fv f s k + 0 + q_fv f k b < q_fv f s b
        · rw [if_pos e1, if_pos ⟨⟨e1.1.1, by omega⟩, e1.2⟩]
        · rw [if_neg e1, if_neg (fun q => e1 ⟨⟨q.1.1, by omega⟩, q.2⟩)]
theorem q_fstep {W S ns nc : Nat} {B : Nat → Option Nat} {σ : Nat → Nat → Int32} {k : Nat} {f : Nat → Int32} (hk : k < 33) (hb : ∀ a b, a < 33 → b < 33 → -1000 ≤ q_fv f a b ∧ q_fv f a b ≤ 100000) (h0 : 0 ≤ q_fv f k k) :
    ∀ a b, a < 33 → b < 33 → q_fv (m_X6_stands_L192 W S ns nc B σ k f) a b = q_thr (q_fv f) k k 0 a b := by
  have hnr := fun c s => @q_frow W S ns nc B σ c k s hk
  have hle : ∀ a b, a < 33 → b < 33 → -3000 ≤ q_thr (q_fv f) k k 0 a b ∧ q_thr (q_fv f) k k 0 a b ≤ q_fv f a b := fun a b ha hb' => by
    have h1 := hb a b ha hb'
    have h2 := hb a k ha hk
    have h3 := hb k b hk hb'
    unfold q_thr
    split <;> omega
  have hrow : ∀ b, b < 33 → q_thr (q_fv f) k k 0 k b = q_fv f k b := fun b hb' => by
    unfold q_thr
    rw [if_neg (by omega)]
  unfold m_X6_stands_L192 ap
  dsimp only
  have k2 := q_lp (f := m_X6_stands_L200 W S ns nc B σ k) (fun s c => ∀ a b, a < 33 → b < 33 → q_fv c a b = if a < s then q_thr (q_fv f) k k 0 a b else q_fv f a b) (n := 33 - 0) (i := 0) (a := f) (fun a b _ _ => by rw [if_neg (by omega)]) ?_
  · intro a b ha hb
    rw [k2 a b ha hb, if_pos (by omega)]
  · intro s c _ hs hI a b ha hbn
    have hsn : s < 33 := by omega
    have hct : ∀ b, b < 33 → q_fv c k b = q_fv f k b := fun b hb' => by
      rw [hI k b hk hb']
      split
      · exact hrow b hb'
      · rfl
    have hcs : ∀ b, b < 33 → q_fv c s b = q_fv f s b := fun b hb' => by
      rw [hI s b hsn hb', if_neg (by omega)]
    have e1 : (c (33 * s + k)).toInt = q_fv f s k := hcs k hk
    have e5 : (nI 50000).toInt = 50000 := rfl
    unfold m_X6_stands_L200 ap
    rw [q_jx (by omega) (by omega)]
    by_cases hc : c (33 * s + k) < nI 50000
    · rw [if_pos hc]
      rw [q_lt, e1, e5] at hc
      rw [hnr c s hsn (fun a b ha hb' => by
        rw [hI a b ha hb']
        have h1 := hle a b ha hb'
        have h2 := hb a b ha hb'
        split <;> omega) (by rw [hcs k hk]; exact hc) (by rw [hct k hk]; exact h0) a b ha hbn, hcs k hk, hct b hbn, hcs b hbn]
      by_cases has : a = s
      · subst has
        rw [hcs b hbn, if_pos (c := a < a + 1) (by omega)]
        unfold q_thr
        by_cases z : q_fv f k b < 50000 ∧ q_fv f a k + 0 + q_fv f k b < q_fv f a b
        · rw [if_pos ⟨rfl, z⟩, if_pos ⟨hc, z⟩]
        · rw [if_neg (fun q => z q.2), if_neg (fun q => z q.2)]
      · rw [if_neg (fun q => has q.1), hI a b ha hbn]
        by_cases h6 : a < s
        · rw [if_pos h6, if_pos (c := a < s + 1) (by omega)]
        · rw [if_neg h6, if_neg (c := a < s + 1) (by omega)]
    · rw [if_neg hc, hI a b ha hbn]
      rw [q_lt, e1, e5] at hc
      by_cases has : a = s
      · subst has
        rw [if_neg (by omega), if_pos (by omega)]
        unfold q_thr
        rw [if_neg (fun q => hc q.1)]
      · by_cases h6 : a < s
        · rw [if_pos h6, if_pos (c := a < s + 1) (by omega)]
        · rw [if_neg h6, if_neg (c := a < s + 1) (by omega)]
def q_sm (f : Nat → Int) : Nat → Int
  | 0 => 0
  | n + 1 => q_sm f n + f n
theorem q_sm_b {f : Nat → Int} {l u : Int} : ∀ {n : Nat}, (∀ i, i < n → l ≤ f i ∧ f i ≤ u) → n * l ≤ q_sm f n ∧ q_sm f n ≤ n * u
  | 0, _ => by simp [q_sm]
  | n + 1, h => by
    have h1 := q_sm_b (n := n) (fun i hi => h i (by omega))
    have h2 := h n (by omega)
    have e1 : ((n + 1 : Nat) : Int) * l = n * l + l := by rw [Int.natCast_add, Int.add_mul]; simp
    have e2 : ((n + 1 : Nat) : Int) * u = n * u + u := by rw [Int.natCast_add, Int.add_mul]; simp
    show _ ≤ q_sm f n + f n ∧ q_sm f n + f n ≤ _
    rw [e1, e2]
    omega
abbrev q_K (W S : Nat) (be al : Nat → Int) (dn : Nat → Prop) (P : (Nat → Int) → Prop) (M : Nat → Nat → Int) : Prop := (q_lo be al M) ∧ (∀ a b, a < 33 → b < 33 → M a b ≤ 100000) ∧ (∀ a, a < 33 → M a a = 0) ∧ (q_far W S M) ∧ (∀ y, q_So (W * S + 1) (fun a b => M (q_nd W a) (q_nd W b)) y ↔ P y) ∧ (∀ u, dn u → M u 32 ≤ 0 ∧ M 32 u ≤ 60)
theorem q_K.lo {W S : Nat} {be al : Nat → Int} {dn : Nat → Prop} {P : (Nat → Int) → Prop} {M : Nat → Nat → Int} (h : q_K W S be al dn P M) : q_lo be al M := h.1
theorem q_K.up {W S : Nat} {be al : Nat → Int} {dn : Nat → Prop} {P : (Nat → Int) → Prop} {M : Nat → Nat → Int} (h : q_K W S be al dn P M) : ∀ a b, a < 33 → b < 33 → M a b ≤ 100000 := h.2.1
theorem q_K.di {W S : Nat} {be al : Nat → Int} {dn : Nat → Prop} {P : (Nat → Int) → Prop} {M : Nat → Nat → Int} (h : q_K W S be al dn P M) : ∀ a, a < 33 → M a a = 0 := h.2.2.1
theorem q_K.far {W S : Nat} {be al : Nat → Int} {dn : Nat → Prop} {P : (Nat → Int) → Prop} {M : Nat → Nat → Int} (h : q_K W S be al dn P M) : q_far W S M := h.2.2.2.1
theorem q_K.so {W S : Nat} {be al : Nat → Int} {dn : Nat → Prop} {P : (Nat → Int) → Prop} {M : Nat → Nat → Int} (h : q_K W S be al dn P M) : ∀ y, q_So (W * S + 1) (fun a b => M (q_nd W a) (q_nd W b)) y ↔ P y := h.2.2.2.2.1
theorem q_K.dn {W S : Nat} {be al : Nat → Int} {dn : Nat → Prop} {P : (Nat → Int) → Prop} {M : Nat → Nat → Int} (h : q_K W S be al dn P M) : ∀ u, dn u → M u 32 ≤ 0 ∧ M 32 u ≤ 60 := h.2.2.2.2.2
theorem q_K_b {W S ns nc : Nat} {B : Nat → Option Nat} {σ : Nat → Nat → Int32} {f : Nat → Int32} {be al : Nat → Int} {dn : Nat → Prop} {P : (Nat → Int) → Prop} {i j : Nat} {v : Int32} (hW : 0 < W) (hW8 : W ≤ 8) (hS : S ≤ 4) (hi : i < W * S + 1) (hj : j < W * S + 1) (hij : i ≠ j) (h : q_K W S be al dn P (q_fv f)) {one other : Int32} (h1 : one = nI (q_nd W i)) (h2 : other = nI (q_nd W j)) {r : Int} (hr : v.toInt = r) (hv : be (q_nd W j) - al (q_nd W i) ≤ r) (hd : ∀ u, dn u → u < 32) : q_K W S be al dn (fun y => P y ∧ y j - y i ≤ r) (q_fv (m_X6_bounds W S ns nc B (sA σ 47 f) one other v)) ∧ q_fv (m_X6_bounds W S ns nc B (sA σ 47 f) one other v) (q_nd W i) (q_nd W j) ≤ r ∧ ∀ a b, b < 33 → q_fv (m_X6_bounds W S ns nc B (sA σ 47 f) one other v) a b ≤ q_fv f a b := by
  subst h1 h2 hr
  have ni := q_nd_lt hW hW8 hS hi
  have nj := q_nd_lt hW hW8 hS hj
  have hb := fun a b hb => q_bounds (W := W) (S := S) (ns := ns) (nc := nc) (B := B) (σ := σ) (f := f) (v := v) ni.1 nj.1 a b hb
  generalize q_fv (m_X6_bounds W S ns nc B (sA σ 47 f) (nI (q_nd W i)) (nI (q_nd W j)) v) = M at hb ⊢
  have hle : ∀ a b, b < 33 → M a b ≤ q_fv f a b := fun a b hb' => by
    rw [hb a b hb']
    split
    · next q => obtain ⟨rfl, rfl, q⟩ := q; omega
    · omega
  have hne : q_nd W i ≠ q_nd W j := fun e => hij (q_nd_inj hW hW8 hS hi hj e)
  have hij' : M (q_nd W i) (q_nd W j) ≤ v.toInt := by
    rw [hb _ _ nj.1]
    by_cases q : v.toInt < q_fv f (q_nd W i) (q_nd W j)
    · rw [if_pos ⟨rfl, rfl, q⟩]; omega
    · rw [if_neg (fun e => q e.2.2)]; omega
  refine ⟨⟨fun a b ha hb' => ?_, fun a b ha hb' => ?_, fun a ha => ?_, fun u w hu hw hc => ?_, fun y => ?_, fun u hu => ?_⟩, hij', hle⟩
  · rw [hb a b hb']
    split
    · next q => obtain ⟨rfl, rfl, q⟩ := q; exact hv
    · exact h.lo a b ha hb'
  · have := hle a b hb'
    have := h.up a b ha hb'
    omega
  · rw [hb a a ha, if_neg (fun q => hne (q.1.symm.trans q.2.1))]
    exact h.di a ha
  · rw [hb u w hw, if_neg (fun q => hc (by rw [q.1, q.2.1]; exact ⟨ni.2, nj.2⟩))]
    exact h.far u w hu hw hc
  · dsimp only
    rw [← h.so y]
    constructor
    · intro q
      refine ⟨fun a b ha hb' => ?_, ?_⟩
      · have h1 := q a b ha hb'
        have h2 := hle (q_nd W a) (q_nd W b) (q_nd_lt hW hW8 hS hb').1
        simp only at h1 ⊢
        omega
      · have h1 := q i j hi hj
        simp only at h1
        omega
    · rintro ⟨q1, q2⟩ a b ha hb'
      have h1 := q1 a b ha hb'
      simp only at h1 ⊢
      rw [hb _ _ (q_nd_lt hW hW8 hS hb').1]
      split
      · next q =>
        have e1 := q_nd_inj hW hW8 hS ha hi q.1
        have e2 := q_nd_inj hW hW8 hS hb' hj q.2.1
        rw [e1, e2]; exact q2
      · exact h1
  · have h1 := h.dn u hu
    have h2 := hle u 32 (by omega)
    have h3 := hle 32 u (by have := hd u hu; omega)
    omega
theorem q_K_dn {W S : Nat} {be al : Nat → Int} {dn : Nat → Prop} {P : (Nat → Int) → Prop} {M : Nat → Nat → Int} (h : q_K W S be al dn P M) {n : Nat} (h1 : M n 32 ≤ 0) (h2 : M 32 n ≤ 60) : q_K W S be al (fun u => dn u ∨ u = n) P M :=
  ⟨h.lo, h.up, h.di, h.far, h.so, fun u hu => by rcases hu with hu | rfl; exact h.dn u hu; exact ⟨h1, h2⟩⟩
theorem q_K_cg {W S : Nat} {be al : Nat → Int} {dn : Nat → Prop} {P P' : (Nat → Int) → Prop} {M : Nat → Nat → Int} (h : q_K W S be al dn P M) (e : ∀ y, P y ↔ P' y) : q_K W S be al dn P' M :=
  ⟨h.lo, h.up, h.di, h.far, fun y => (h.so y).trans (e y), h.dn⟩
def q_rp (th tf : Nat → Int) (k c : Nat) : Int := q_sm th c + q_sm tf k
theorem q_s49 {W S ns nc : Nat} {B : Nat → Option Nat} {σ : Nat → Nat → Int32} {f : Nat → Int32} {be al : Nat → Int} {dn : Nat → Prop} {P : (Nat → Int) → Prop} {tf tt st th : Nat → Int} {k c : Nat} (hW8 : W ≤ 8) (hS : S ≤ 4) (hk : k < S) (hc : c < W) (hr : q_rg W S tf tt st th) (h37 : ∀ k, k < S → (σ 37 k).toInt = tf k) (h38 : ∀ k, k < S → (σ 38 k).toInt = tt k) (h39 : ∀ k, k < S → (σ 39 k).toInt = st k) (h41 : ∀ c, c < W → (if σ 40 c = 0 then nI 0 else σ 41 c).toInt = th c) (hbe : ∀ k c, k < S → c < W → be (8 * k + c) = q_rp th tf k c ∧ al (8 * k + c) = q_rp th tf k c ∧ -210 ≤ q_rp th tf k c ∧ q_rp th tf k c ≤ 390) (hbt : be 32 = -210) (hat : al 32 = 330) (hd : ∀ u, dn u → u < 32) (h : q_K W S be al dn P (q_fv f)) :
    q_K W S be al (fun u => dn u ∨ u = 8 * k + c) (fun y => P y ∧ (0 ≤ y (1 + k * W + c) - y 0 ∧ y (1 + k * W + c) - y 0 ≤ 60) ∧ q_tC W S tf tt k c y ∧ q_sC W S st th k c y) (q_fv (m_X6_stands_L49 W S ns nc B σ k c f)) := by
  have hW : 0 < W := by omega
  have hp := q_pl hk hc
  have ht0 : 0 < W * S + 1 := by omega
  have en : nI (8 * k + c) = nI (q_nd W (1 + k * W + c)) := by rw [q_nd_p hc]
  have e32 : nI 32 = nI (q_nd W 0) := rfl
  have b0 := hbe k c hk hc
  have d1 : ∀ u, (dn u ∨ u = 8 * k + c) → u < 32 := fun u hu => by rcases hu with hu | rfl; exact hd u hu; omega
  unfold m_X6_stands_L49 ap m_X6_node
  simp only [nI_mul, nI_add]
  obtain ⟨k1, l1, g1⟩ := q_K_b (ns := ns) (nc := nc) (B := B) (σ := σ) (v := nI 60) (r := 60) hW hW8 hS ht0 hp (by omega) h e32 en rfl (by rw [q_nd_p hc, q_nd_0, b0.1, hat]; omega) hd
  generalize m_X6_bounds W S ns nc B (sA σ 47 f) (nI 32) (nI (8 * k + c)) (nI 60) = f1 at k1 l1 g1 ⊢
  obtain ⟨k2, l2, g2⟩ := q_K_b (ns := ns) (nc := nc) (B := B) (σ := σ) (v := nI 0) (r := 0) hW hW8 hS hp ht0 (by omega) k1 en e32 rfl (by rw [q_nd_p hc, q_nd_0, b0.2.1, hbt]; omega) hd
  generalize m_X6_bounds W S ns nc B (sA σ 47 f1) (nI (8 * k + c)) (nI 32) (nI 0) = f2 at k2 l2 g2 ⊢
  rw [q_nd_p hc, q_nd_0] at l1 l2
  have k2' := q_K_dn k2 l2 (by have := g2 32 (8 * k + c) (by omega); omega)
  have eS : (nI S ≤ nI (k + 1)) = (S ≤ k + 1) := propext (nI_leI (by omega) (by omega))
  have eW : (nI W ≤ nI (c + 1)) = (W ≤ c + 1) := propext (nI_leI (by omega) (by omega))
  simp only [eS, eW]
  rw [nI_clamp (show k < 2 ^ 31 by omega), nI_clamp (show c < 2 ^ 31 by omega)]
  -- the step to the next column
  have step : ∀ (g : Nat → Int32) (P' : (Nat → Int) → Prop), q_K W S be al (fun u => dn u ∨ u = 8 * k + c) P' (q_fv g) → q_K W S be al (fun u => dn u ∨ u = 8 * k + c) (fun y => P' y ∧ q_sC W S st th k c y) (q_fv (if W ≤ c + 1 then g else (if σ 40 c = 0 then m_X6_within W S ns nc B (sA σ 47 g) (nI (8 * k + c)) (nI (8 * k + (c + 1))) (nI 0) (σ 39 k) else m_X6_within W S ns nc B (sA σ 47 g) (nI (8 * k + c)) (nI (8 * k + (c + 1))) (σ 41 c) (σ 39 k)))) := by
    intro g P' hg
    by_cases cW : W ≤ c + 1
    · rw [if_pos cW]
      exact q_K_cg hg (fun y => ⟨fun q => ⟨q, fun z => absurd z (by omega)⟩, fun q => q.1⟩)
    · rw [if_neg cW]
      have hc1 : c + 1 < W := by omega
      have hp1 := q_pl hk hc1
      have en1 : nI (8 * k + (c + 1)) = nI (q_nd W (1 + k * W + (c + 1))) := by rw [q_nd_p hc1]
      have b1 := hbe k (c + 1) hk hc1
      have e4 := h39 k hk
      have e5 := h41 c hc
      have r1 := hr.1 k hk
      have r2 := hr.2 c hc
      have bs : q_rp th tf k (c + 1) = q_rp th tf k c + th c := by unfold q_rp; rw [q_sm]; omega
      have main : ∀ v : Int32, v.toInt = th c → q_K W S be al (fun u => dn u ∨ u = 8 * k + c) (fun y => P' y ∧ q_sC W S st th k c y) (q_fv (m_X6_within W S ns nc B (sA σ 47 g) (nI (8 * k + c)) (nI (8 * k + (c + 1))) v (σ 39 k))) := by
        intro v hv
        unfold m_X6_within ap
        have t1 : (v + σ 39 k).toInt = th c + st k := by rw [q_tadd (by omega) (by omega)]; omega
        have t2 : (σ 39 k - v).toInt = st k - th c := by rw [q_tsub (by omega) (by omega)]; omega
        obtain ⟨k3, l3, g3⟩ := q_K_b (ns := ns) (nc := nc) (B := B) (σ := σ) (v := v + σ 39 k) (r := th c + st k) hW hW8 hS hp hp1 (by omega) hg en en1 t1 (by rw [q_nd_p hc, q_nd_p hc1, b1.1, b0.2.1]; omega) d1
        dsimp only
        rw [sA_top]
        generalize m_X6_bounds W S ns nc B (sA σ 47 g) (nI (8 * k + c)) (nI (8 * k + (c + 1))) (v + σ 39 k) = f3 at k3 l3 g3 ⊢
        obtain ⟨k4, l4, g4⟩ := q_K_b (ns := ns) (nc := nc) (B := B) (σ := σ) (v := σ 39 k - v) (r := st k - th c) hW hW8 hS hp1 hp (by omega) k3 en1 en t2 (by rw [q_nd_p hc, q_nd_p hc1, b1.2.1, b0.1]; omega) d1
        refine q_K_cg k4 (fun y => ?_)
        unfold q_sC
        constructor
        · rintro ⟨⟨q1, q2⟩, q3⟩
          exact ⟨q1, fun _ => ⟨by omega, by omega⟩⟩
        · rintro ⟨q1, q2⟩
          have := q2 hc1
          exact ⟨⟨q1, by omega⟩, by omega⟩
      by_cases c0 : σ 40 c = 0
      · rw [if_pos c0]
        rw [if_pos c0] at e5
        exact main (nI 0) e5
      · rw [if_neg c0]
        rw [if_neg c0] at e5
        exact main (σ 41 c) e5
  by_cases cS : S ≤ k + 1
  · rw [if_pos cS]
    refine q_K_cg (step f2 _ k2') (fun y => ?_)
    constructor
    · rintro ⟨⟨⟨q1, q2⟩, q3⟩, q4⟩
      exact ⟨q1, ⟨by omega, by omega⟩, fun z => absurd z (by omega), q4⟩
    · rintro ⟨q1, ⟨q2, q3⟩, q4, q5⟩
      exact ⟨⟨⟨q1, by omega⟩, by omega⟩, q5⟩
  · rw [if_neg cS]
    have hk1 : k + 1 < S := by omega
    have hp2 := q_pl hk1 hc
    have en2 : nI (8 * (k + 1) + c) = nI (q_nd W (1 + (k + 1) * W + c)) := by rw [q_nd_p hc]
    have b2 := hbe (k + 1) c hk1 hc
    have e7 := h37 k hk
    have e8 := h38 k hk
    have r1 := hr.1 k hk
    have bs : q_rp th tf (k + 1) c = q_rp th tf k c + tf k := by unfold q_rp; rw [q_sm]; omega
    have hne : 1 + k * W + c ≠ 1 + (k + 1) * W + c := by rw [Nat.add_mul]; omega
    have t3 : (-σ 37 k).toInt = -tf k := by rw [q_tneg (by omega) (by omega), e7]
    obtain ⟨k5, l5, g5⟩ := q_K_b (ns := ns) (nc := nc) (B := B) (σ := σ) (v := σ 38 k) (r := tt k) hW hW8 hS hp hp2 hne k2' en en2 e8 (by rw [q_nd_p hc, q_nd_p hc, b2.1, b0.2.1]; omega) d1
    generalize m_X6_bounds W S ns nc B (sA σ 47 f2) (nI (8 * k + c)) (nI (8 * (k + 1) + c)) (σ 38 k) = f5 at k5 l5 g5 ⊢
    obtain ⟨k6, l6, g6⟩ := q_K_b (ns := ns) (nc := nc) (B := B) (σ := σ) (v := -σ 37 k) (r := -tf k) hW hW8 hS hp2 hp (Ne.symm hne) k5 en2 en t3 (by rw [q_nd_p hc, q_nd_p hc, b2.2.1, b0.1]; omega) d1
    generalize m_X6_bounds W S ns nc B (sA σ 47 f5) (nI (8 * (k + 1) + c)) (nI (8 * k + c)) (-σ 37 k) = f6 at k6 l6 g6 ⊢
    refine q_K_cg (step f6 _ k6) (fun y => ?_)
    unfold q_tC
    constructor
    · rintro ⟨⟨⟨⟨⟨q1, q2⟩, q3⟩, q4⟩, q5⟩, q6⟩
      exact ⟨q1, ⟨by omega, by omega⟩, fun _ => ⟨by omega, by omega⟩, q6⟩
    · rintro ⟨q1, ⟨q2, q3⟩, q4, q5⟩
      have := q4 hk1
      exact ⟨⟨⟨⟨⟨q1, by omega⟩, by omega⟩, by omega⟩, by omega⟩, q5⟩
theorem q_fill {W S ns nc : Nat} {B : Nat → Option Nat} {σ : Nat → Nat → Int32} {f : Nat → Int32} : ∀ a b, a < 33 → b < 33 → q_fv (lp (m_X6_stands_L5 W S ns nc B σ) (1089 - 0) 0 f) a b = if a = b then 0 else 100000 := by
  have k := q_lp (f := m_X6_stands_L5 W S ns nc B σ) (fun i c => ∀ t, t < i → c t = if t % 34 = 0 then nI 0 else nI 100000) (n := 1089 - 0) (i := 0) (a := f) (fun t ht => absurd ht (by omega)) ?_
  · intro a b ha hb
    unfold q_fv
    rw [k _ (by omega)]
    have : ((33 * a + b) % 34 = 0) ↔ a = b := by omega
    by_cases e : a = b
    · rw [if_pos (this.mpr e), if_pos e]; rfl
    · rw [if_neg (fun q => e (this.mp q)), if_neg e]; rfl
  · intro j c _ hj hJ t ht
    unfold m_X6_stands_L5 upd
    rw [q_div (by omega) (by omega), nI_mul, q_sub (by omega), nI_clamp (by omega)]
    have hm : (j - j / 34 * 34 = 0) = (j % 34 = 0) := by
      apply propext; omega
    simp only [q_nz (show j - j / 34 * 34 < 1024 by omega), hm]
    by_cases e : t = j
    · subst e
      by_cases q : t % 34 = 0
      · rw [if_pos q, if_pos q, if_pos rfl]
      · rw [if_neg q, if_neg q, if_pos rfl]
    · by_cases q : j % 34 = 0
      · rw [if_pos q, if_neg e]; exact hJ t (by omega)
      · rw [if_neg q, if_neg e]; exact hJ t (by omega)
def q_be (W S : Nat) (th tf : Nat → Int) (u : Nat) : Int := if u = 32 then -210 else if u / 8 < S ∧ u % 8 < W then q_rp th tf (u / 8) (u % 8) else 0
def q_al (W S : Nat) (th tf : Nat → Int) (u : Nat) : Int := if u = 32 then 330 else if u / 8 < S ∧ u % 8 < W then q_rp th tf (u / 8) (u % 8) else 0
theorem q_rp_b {W S : Nat} {tf tt st th : Nat → Int} (hW8 : W ≤ 8) (hS : S ≤ 4) (hr : q_rg W S tf tt st th) {k c : Nat} (hk : k < S) (hc : c < W) : -210 ≤ q_rp th tf k c ∧ q_rp th tf k c ≤ 390 := by
  have h1 := q_sm_b (f := th) (l := -30) (u := 30) (n := c) (fun i hi => hr.2 i (by omega))
  have h2 := q_sm_b (f := tf) (l := 0) (u := 60) (n := k) (fun i hi => by have := hr.1 i (by omega); omega)
  unfold q_rp
  omega
theorem q_be_b {W S : Nat} {tf tt st th : Nat → Int} (hW8 : W ≤ 8) (hS : S ≤ 4) (hr : q_rg W S tf tt st th) (u : Nat) : -210 ≤ q_be W S th tf u ∧ q_be W S th tf u ≤ 390 ∧ q_al W S th tf u ≤ 390 ∧ -210 ≤ q_al W S th tf u := by
  unfold q_be q_al
  by_cases e : u = 32
  · simp [e]
  · simp only [e, if_false]
    by_cases q : u / 8 < S ∧ u % 8 < W
    · rw [if_pos q]
      have := q_rp_b hW8 hS hr q.1 q.2
      omega
    · rw [if_neg q]; omega
def q_A (W S : Nat) (tf tt st th : Nat → Int) (k c : Nat) (y : Nat → Int) : Prop := (0 ≤ y (1 + k * W + c) - y 0 ∧ y (1 + k * W + c) - y 0 ≤ 60) ∧ q_tC W S tf tt k c y ∧ q_sC W S st th k c y
def q_P0 (W S : Nat) (y : Nat → Int) : Prop := q_So (W * S + 1) (fun a b => if q_nd W a = q_nd W b then 0 else 100000) y
def q_dn (W S m : Nat) (u : Nat) : Prop := ∃ k c, k < S ∧ c < W ∧ k * W + c < m ∧ u = 8 * k + c
theorem q_M0 {W S ns nc : Nat} {B : Nat → Option Nat} {σ : Nat → Nat → Int32} {f : Nat → Int32} {tf tt st th : Nat → Int} (hW : 0 < W) (hW8 : W ≤ 8) (hS : S ≤ 4) (hr : q_rg W S tf tt st th) (h37 : ∀ k, k < S → (σ 37 k).toInt = tf k) (h38 : ∀ k, k < S → (σ 38 k).toInt = tt k) (h39 : ∀ k, k < S → (σ 39 k).toInt = st k) (h41 : ∀ c, c < W → (if σ 40 c = 0 then nI 0 else σ 41 c).toInt = th c) (hf : ∀ a b, a < 33 → b < 33 → q_fv f a b = if a = b then 0 else 100000) :
    q_K W S (q_be W S th tf) (q_al W S th tf) (q_dn W S (W * S)) (fun y => q_P0 W S y ∧ ∀ k c, k < S → c < W → k * W + c < W * S → q_A W S tf tt st th k c y) (q_fv (lp (m_X6_stands_L39 W S ns nc B σ) (S - 0) 0 f)) := by
  have hbe : ∀ k c, k < S → c < W → q_be W S th tf (8 * k + c) = q_rp th tf k c ∧ q_al W S th tf (8 * k + c) = q_rp th tf k c ∧ -210 ≤ q_rp th tf k c ∧ q_rp th tf k c ≤ 390 := fun k c hk hc => by
    have e1 : (8 * k + c) / 8 = k := by omega
    have e2 : (8 * k + c) % 8 = c := by omega
    refine ⟨?_, ?_, q_rp_b hW8 hS hr hk hc⟩
    · unfold q_be; rw [if_neg (by omega), e1, e2, if_pos ⟨hk, hc⟩]
    · unfold q_al; rw [if_neg (by omega), e1, e2, if_pos ⟨hk, hc⟩]
  have h0 : q_K W S (q_be W S th tf) (q_al W S th tf) (q_dn W S 0) (fun y => q_P0 W S y ∧ ∀ k c, k < S → c < W → k * W + c < 0 → q_A W S tf tt st th k c y) (q_fv f) := by
    refine ⟨fun a b ha hb => ?_, fun a b ha hb => ?_, fun a ha => ?_, fun u v hu hv _ => hf u v hu hv, fun y => ?_, fun u hu => ?_⟩
    · have h1 := q_be_b hW8 hS hr a
      have h2 := q_be_b hW8 hS hr b
      rw [hf a b ha hb]
      by_cases e : a = b
      · subst e
        rw [if_pos rfl]
        unfold q_be q_al
        by_cases e : a = 32
        · rw [if_pos e, if_pos e]; omega
        · rw [if_neg e, if_neg e]; omega
      · rw [if_neg e]; omega
    · rw [hf a b ha hb]; split <;> omega
    · rw [hf a a ha ha, if_pos rfl]
    · constructor
      · intro q
        exact ⟨(q_So_cg (fun a b ha hb => hf _ _ (q_nd_lt hW hW8 hS ha).1 (q_nd_lt hW hW8 hS hb).1) y).mp q, fun k c _ _ h => absurd h (by omega)⟩
      · intro q
        exact (q_So_cg (fun a b ha hb => hf _ _ (q_nd_lt hW hW8 hS ha).1 (q_nd_lt hW hW8 hS hb).1) y).mpr q.1
    · obtain ⟨k, c, _, _, h, _⟩ := hu
      exact absurd h (by omega)
  have key := q_lp (f := m_X6_stands_L39 W S ns nc B σ) (fun k g => q_K W S (q_be W S th tf) (q_al W S th tf) (q_dn W S (k * W)) (fun y => q_P0 W S y ∧ ∀ k' c, k' < S → c < W → k' * W + c < k * W → q_A W S tf tt st th k' c y) (q_fv g)) (n := S - 0) (i := 0) (a := f) (by rw [Nat.zero_mul]; exact h0) ?_
  · rw [show (0 + (S - 0)) * W = W * S by rw [Nat.zero_add, Nat.sub_zero, Nat.mul_comm]] at key
    exact key
  · intro k g _ hk hI
    have hkS : k < S := by omega
    have key2 := q_lp (f := m_X6_stands_L49 W S ns nc B σ k) (fun j g => q_K W S (q_be W S th tf) (q_al W S th tf) (q_dn W S (k * W + j)) (fun y => q_P0 W S y ∧ ∀ k' c, k' < S → c < W → k' * W + c < k * W + j → q_A W S tf tt st th k' c y) (q_fv g)) (n := W - 0) (i := 0) (a := g) hI ?_
    · unfold m_X6_stands_L39 ap
      dsimp only
      rw [show k * W + (0 + (W - 0)) = (k + 1) * W by rw [Nat.zero_add, Nat.sub_zero, Nat.add_mul, Nat.one_mul]] at key2
      exact key2
    · intro j g' _ hj hJ
      have hjW : j < W := by omega
      have hs := q_s49 (ns := ns) (nc := nc) (B := B) (σ := σ) hW8 hS hkS hjW hr h37 h38 h39 h41 hbe (by unfold q_be; simp) (by unfold q_al; simp) (fun u hu => by obtain ⟨k', c', a1, a2, a3, rfl⟩ := hu; omega) hJ
      refine ⟨hs.lo, hs.up, hs.di, hs.far, fun y => (hs.so y).trans ?_, fun u hu => hs.dn u ?_⟩
      · constructor
        · rintro ⟨⟨q1, q2⟩, q3⟩
          refine ⟨q1, fun k' c a1 a2 a3 => ?_⟩
          by_cases e : k' * W + c < k * W + j
          · exact q2 k' c a1 a2 e
          · have := q_inj (n := W) a2 hjW (show k' * W + c = k * W + j by omega)
            rw [this.1, this.2]
            exact q3
        · rintro ⟨q1, q2⟩
          exact ⟨⟨q1, fun k' c a1 a2 a3 => q2 k' c a1 a2 (by omega)⟩, q2 k j hkS hjW (by omega)⟩
      · obtain ⟨k', c', a1, a2, a3, rfl⟩ := hu
        by_cases e : k' * W + c' < k * W + j
        · exact Or.inl ⟨k', c', a1, a2, e, rfl⟩
        · have := q_inj (n := W) a2 hjW (show k' * W + c' = k * W + j by omega)
          exact Or.inr (by rw [this.1, this.2])
theorem q_lp_add {α : Type} {f : Nat → α → α} : ∀ (n m i : Nat) (a : α), lp f (n + m) i a = lp f m (i + n) (lp f n i a)
  | 0, m, i, a => by rw [Nat.zero_add]; rfl
  | n + 1, m, i, a => by
    rw [show n + 1 + m = (n + m) + 1 by omega]
    show lp f (n + m) (i + 1) (f i a) = _
    rw [q_lp_add n m (i + 1) (f i a)]
    show _ = lp f m (i + (n + 1)) (lp f n (i + 1) (f i a))
    rw [show i + 1 + n = i + (n + 1) by omega]
theorem q_J_cg {W S k : Nat} {be al : Nat → Int} {M0 M M' : Nat → Nat → Int} (hW : 0 < W) (hW8 : W ≤ 8) (hS : S ≤ 4) (hk : k ≤ 33) (h : q_J W S k be al M0 M) (e : ∀ a b, a < 33 → b < 33 → M' a b = M a b) : q_J W S k be al M0 M' := by
  refine ⟨fun a b ha hb => by rw [e a b ha hb]; exact h.lo a b ha hb, fun a b ha hb => by rw [e a b ha hb]; exact h.hi a b ha hb, fun a b ha hb => by rw [e a b ha hb]; exact h.up a b ha hb, fun a ha => by rw [e a a (by omega) (by omega)]; exact h.di a ha, fun a b j ha hb hj => ?_, fun u v hu hv hc => by rw [e u v hu hv]; exact h.far u v hu hv hc, fun y => ?_⟩
  · rw [e a b ha hb, e a j ha (by omega), e j b (by omega) hb]
    exact h.T a b j ha hb hj
  · rw [← h.so y]
    exact q_So_cg (fun a b ha hb => e _ _ (q_nd_lt hW hW8 hS ha).1 (q_nd_lt hW hW8 hS hb).1) y
theorem q_dec1 {W S ns nc : Nat} {B : Nat → Option Nat} {σ : Nat → Nat → Int32} {f : Nat → Int32} {k : Nat} (t : Nat) : m_X6_stands_L192 W S ns nc B σ k f t ≤ f t := by
  have hb : ∀ (g : Nat → Int32) (i j v : Int32), m_X6_bounds W S ns nc B (sA σ 47 g) i j v t ≤ g t := fun g i j v => by
    unfold m_X6_bounds ap upd
    rw [sA_at]
    split
    · exact Int32.le_refl _
    · next h =>
      dsimp only
      split
      · next e =>
        rw [e]
        rw [q_lei] at h ⊢
        omega
      · exact Int32.le_refl _
  unfold m_X6_stands_L192 ap
  dsimp only
  refine q_lp (f := m_X6_stands_L200 W S ns nc B σ k) (fun _ g => g t ≤ f t) (n := 33 - 0) (i := 0) (a := f) (Int32.le_refl _) (fun j g _ _ hg => ?_)
  unfold m_X6_stands_L200 ap
  split
  · dsimp only
    refine q_lp (f := m_X6_stands_L228 W S ns nc B σ k j) (fun _ g => g t ≤ f t) (n := 33 - 0) (i := 0) (a := g) hg (fun i g2 _ _ hg2 => ?_)
    unfold m_X6_stands_L228 ap
    split
    · exact hg2
    · exact Int32.le_trans (hb _ _ _ _) hg2
  · exact hg
theorem q_fw {W S ns nc : Nat} {B : Nat → Option Nat} {σ : Nat → Nat → Int32} {f : Nat → Int32} {be al : Nat → Int} {P : (Nat → Int) → Prop} {dn : Nat → Prop} (hW : 0 < W) (hW8 : W ≤ 8) (hS : S ≤ 4) (hab : ∀ a, a < 32 → be a = al a) (hbe : ∀ a, a < 33 → -210 ≤ be a ∧ al a ≤ 390) (hdn : ∀ u, u < 32 → q_us W S u → dn u) (h : q_K W S be al dn P (q_fv f)) {z : Nat → Int32} (hz : lp (m_X6_stands_L192 W S ns nc B σ) (33 - 0) 0 f = z) :
    ((∀ u, u < 33 → 0 ≤ q_fv z u u) → q_RI W S P z) ∧ ((∃ u, u < 33 ∧ q_fv z u u < 0) → ¬ ∃ y, P y) := by
  have k32 := q_lp (f := m_X6_stands_L192 W S ns nc B σ) (fun k g => q_J W S k be al (q_fv f) (q_fv g)) (n := 32) (i := 0) (a := f) ⟨h.lo, fun a b _ _ => Int.le_refl _, h.up, fun a ha => h.di a (by omega), fun a b j _ _ hj => absurd hj (by omega), h.far, fun y => Iff.rfl⟩ ?_
  · have e33 := q_lp_add (f := m_X6_stands_L192 W S ns nc B σ) 32 1 0 f
    rw [show 33 - 0 = 32 + 1 by omega, e33] at hz
    rw [Nat.zero_add] at k32 hz
    generalize lp (m_X6_stands_L192 W S ns nc B σ) 32 0 f = g at k32 hz
    have hz' : m_X6_stands_L192 W S ns nc B σ 32 g = z := hz
    have hm : ∀ a b, a < 33 → b < 33 → -600 ≤ q_fv g a b ∧ q_fv g a b ≤ 100000 := fun a b ha hb => by
      have h1 := k32.lo a b ha hb
      have h2 := hbe a ha
      have h3 := hbe b hb
      have h4 := k32.up a b ha hb
      omega
    have hd0 : q_fv g 32 32 ≤ 0 := by
      have h1 := k32.hi 32 32 (by omega) (by omega)
      have h2 := h.di 32 (by omega)
      omega
    by_cases c0 : q_fv g 32 32 = 0
    · have he := q_fw_end hW hW8 hS hbe k32 c0 (fun a ha hu => by
        by_cases e : a = 32
        · subst e; have := h.di 32 (by omega); omega
        · exact (h.dn a (hdn a (by omega) hu)).1) (fun b hb hu => by
        by_cases e : b = 32
        · subst e; have := h.di 32 (by omega); omega
        · exact (h.dn b (hdn b (by omega) hu)).2)
      have hst := q_fstep (W := W) (S := S) (ns := ns) (nc := nc) (B := B) (σ := σ) (k := 32) (f := g) (by omega) (fun a b ha hb => by have := hm a b ha hb; omega) (by omega)
      rw [hz'] at hst
      obtain ⟨h1, h2, h3⟩ := he
      refine ⟨fun hp => ⟨?_, fun u v hu hv hc => by rw [hst u v hu hv]; exact h1 u v hu hv hc⟩, ?_⟩
      · have := h2 (fun u hu => by rw [← hst u u hu hu]; exact hp u hu)
        exact q_cg (q_Is_cg (fun a b ha hb => (hst _ _ (q_nd_lt hW hW8 hS ha).1 (q_nd_lt hW hW8 hS hb).1).symm) this) h.so
      · rintro ⟨u, hu, hneg⟩ ⟨y, hy⟩
        exact h3 u hu (by rw [← hst u u hu hu]; exact hneg) ⟨y, (h.so y).mpr hy⟩
    · have hno : ¬ ∃ y, P y := by
        rintro ⟨y, hy⟩
        have := (k32.so y).mpr ((h.so y).mpr hy) 0 0 (by omega) (by omega)
        simp only [q_nd_0] at this
        omega
      refine ⟨fun hp => ?_, fun _ => hno⟩
      have h1 := hp 32 (by omega)
      have h2 := q_dec1 (W := W) (S := S) (ns := ns) (nc := nc) (B := B) (σ := σ) (f := g) (k := 32) (33 * 32 + 32)
      rw [hz', q_lei] at h2
      have h3 : q_fv z 32 32 ≤ q_fv g 32 32 := h2
      omega
  · intro k g _ hk hJ
    have hk32 : k < 32 := by omega
    refine q_J_cg hW hW8 hS (by omega) (q_J_s hW hW8 hS hk32 hab hbe hJ) (fun a b ha hb => ?_)
    refine q_fstep (by omega) (fun a b ha hb => ?_) (by rw [hJ.di k hk32]; omega) a b ha hb
    have h1 := hJ.lo a b ha hb
    have h2 := hbe a ha
    have h3 := hbe b hb
    have h4 := hJ.up a b ha hb
    omega
theorem q_P_RK {W S : Nat} {tf tt st th : Nat → Int} (hW : 0 < W) (hW8 : W ≤ 8) (hS : S ≤ 4) (y : Nat → Int) : (q_P0 W S y ∧ ∀ k c, k < S → c < W → k * W + c < W * S → q_A W S tf tt st th k c y) ↔ q_RK W S tf tt st th (W * S) y := by
  constructor
  · rintro ⟨h0, h⟩
    refine ⟨fun a ha => ?_, fun k c hk hc hm => (h k c hk hc hm).2⟩
    by_cases e : a = 0
    · subst e; omega
    · obtain ⟨k, c, hk, hc, rfl⟩ := q_at_p hW ha e
      have := (h k c hk hc (by omega)).1
      omega
  · rintro ⟨h0, h⟩
    refine ⟨fun a b ha hb => ?_, fun k c hk hc hm => ⟨h0 _ (q_pl hk hc), h k c hk hc hm⟩⟩
    have h1 := h0 a ha
    have h2 := h0 b hb
    dsimp only
    by_cases e : q_nd W a = q_nd W b
    · have := q_nd_inj hW hW8 hS ha hb e
      subst this
      rw [if_pos rfl]; omega
    · rw [if_neg e]; omega
theorem q_apx {α β : Type} {x : α} {k : α → β} {z : β} (h : ap x k = z) : ∃ y, x = y ∧ k y = z := ⟨x, rfl, h⟩
theorem q_stands {W S ns nc : Nat} {B : Nat → Option Nat} {σ : Nat → Nat → Int32} {tf tt st th : Nat → Int} (hW : 0 < W) (hW8 : W ≤ 8) (hS : S ≤ 4) (hr : q_rg W S tf tt st th) (h37 : ∀ k, k < S → (σ 37 k).toInt = tf k) (h38 : ∀ k, k < S → (σ 38 k).toInt = tt k) (h39 : ∀ k, k < S → (σ 39 k).toInt = st k) (h41 : ∀ c, c < W → (if σ 40 c = 0 then nI 0 else σ 41 c).toInt = th c) {z : Int32 × (Nat → Int32) × (Nat → Int32)} (hz : m_X6_stands W S ns nc B σ = z) :
    (z.1 = nI 1 ∧ q_RI W S (q_RK W S tf tt st th (W * S)) z.2.2) ∨ (z.1 = nI 0 ∧ ¬ ∃ x, q_RK W S tf tt st th (W * S) x) := by
  unfold m_X6_stands at hz
  obtain ⟨f0, e0, hz⟩ := q_apx hz
  have hf := q_fill (W := W) (S := S) (ns := ns) (nc := nc) (B := B) (σ := σ) (f := σ 47)
  rw [e0] at hf
  obtain ⟨f1, e1, hz⟩ := q_apx hz
  have hM := q_M0 (ns := ns) (nc := nc) (B := B) (σ := σ) hW hW8 hS hr h37 h38 h39 h41 hf
  rw [e1] at hM
  obtain ⟨f2, e2, hz⟩ := q_apx hz
  have hbl : ∀ a, a < 32 → q_be W S th tf a = q_al W S th tf a := fun a ha => by
    have e : ¬ a = 32 := by omega
    simp only [q_be, q_al, e, if_false]
  have hF := q_fw (ns := ns) (nc := nc) (B := B) (σ := σ) hW hW8 hS hbl (fun a _ => ⟨(q_be_b hW8 hS hr a).1, (q_be_b hW8 hS hr a).2.2.1⟩) (fun u hu hus => by
    rcases hus with e | ⟨h1, h2⟩
    · omega
    · exact ⟨u / 8, u % 8, h1, h2, by have := q_pl h1 h2; omega, by omega⟩) hM e2
  obtain ⟨f3, e3, hz⟩ := q_apx hz
  have hc := q_lp (f := m_X6_stands_L303 W S ns nc B σ f2) (fun i c => ∀ t, t < i → c t = f2 t) (n := 1089 - 0) (i := 0) (a := σ 48) (fun t ht => absurd ht (by omega)) ?_
  · rw [e3] at hc
    obtain ⟨f4, e4, hz⟩ := q_apx hz
    have hd := q_lpe (f := m_X6_stands_L330 W S ns nc B σ f2 f3) (fun i _ => ∀ u, u < i → 0 ≤ q_fv f2 u u) (fun r => r.1 = nI 0 ∧ ∃ u, u < 33 ∧ q_fv f2 u u < 0) (n := 33 - 0) (i := 0) (a := ()) (fun u hu => absurd hu (by omega)) ?_
    · rw [e4] at hd
      cases f4 with
      | inl r =>
        subst hz
        refine Or.inr ⟨hd.1, ?_⟩
        rintro ⟨x, hx⟩
        exact hF.2 hd.2 ⟨x, (q_P_RK hW hW8 hS x).mpr hx⟩
      | inr r =>
        subst hz
        have hd' : ∀ u, u < 0 + (33 - 0) → 0 ≤ q_fv f2 u u := hd
        have h1 := hF.1 (fun u hu => hd' u (by omega))
        refine Or.inl ⟨rfl, ?_⟩
        have h2 := q_RI_cg hW hW8 hS h1 (f' := f3) (fun u v hu hv => by unfold q_fv; rw [hc _ (by omega)])
        exact ⟨q_cg h2.1 (fun x => q_P_RK hW hW8 hS x), h2.2⟩
    · intro j c _ hj hI
      unfold m_X6_stands_L330
      rw [q_jx (by omega) (by omega)]
      have e0 : (f2 (33 * j + j)).toInt = q_fv f2 j j := rfl
      have ez : (0 : Int32).toInt = 0 := rfl
      by_cases c0 : 0 ≤ f2 (33 * j + j)
      · rw [if_pos c0]
        rw [q_lei, e0, ez] at c0
        intro u hu
        by_cases e : u = j
        · rw [e]; exact c0
        · exact hI u (by omega)
      · rw [if_neg c0]
        rw [q_lei, e0, ez] at c0
        exact ⟨rfl, j, by omega, by omega⟩
  · intro j c _ hj hJ t ht
    unfold m_X6_stands_L303 ap upd
    rw [nI_clamp (by omega)]
    dsimp only
    by_cases e : t = j
    · rw [if_pos e, e]
    · rw [if_neg e]; exact hJ t (by omega)
theorem q_found {W S ns nc : Nat} {B : Nat → Option Nat} {σ : Nat → Nat → Int32} {tf tt st th : Nat → Int} (hW : 0 < W) (hW8 : W ≤ 8) (hS : S ≤ 4) (hns : ns ≤ 10) (hr : q_rg W S tf tt st th) (h37 : ∀ k, k < S → (σ 37 k).toInt = tf k) (h38 : ∀ k, k < S → (σ 38 k).toInt = tt k) (h39 : ∀ k, k < S → (σ 39 k).toInt = st k) (h41 : ∀ c, c < W → (if σ 40 c = 0 then nI 0 else σ 41 c).toInt = th c) (hv : ∀ i, i < ns → q_sv W S (σ 43) (σ 44) (σ 45) i) {z : Int32 × (Nat → Int32) × (Nat → Int32) × (Nat → Int32) × (Nat → Int32)} (hz : m_X6_found W S ns nc B σ = z) {a : Nat} (ha : a < 1024) (hat : ∀ k, a.testBit k = (decide (k < ns) && !decide (σ 46 k = 0))) :
    (z.1 = nI 1 ∧ (∃ x, q_RK W S tf tt st th (W * S) x) ∧ ∃ F, F < 1024 ∧ z.2.1 = upd (σ 36) 18 (nI F) ∧ q_least (q_RK W S tf tt st th (W * S)) (q_sg W (σ 43) (σ 44) (σ 45)) a F ∧ q_RI W S (q_Ag (q_RK W S tf tt st th (W * S)) (q_sg W (σ 43) (σ 44) (σ 45)) (a &&& (1023 ^^^ F))) z.2.2.1) ∨ (z.1 = nI 0 ∧ z.2.1 = σ 36 ∧ ¬ ∃ x, q_RK W S tf tt st th (W * S) x) := by
  unfold m_X6_found at hz
  obtain ⟨z4, e4, hz⟩ := q_apx hz
  obtain ⟨a', ha', e4', hat'⟩ := q_all (W := W) (S := S) (ns := ns) (nc := nc) (B := B) (σ := σ) (n := ns - 0) (by omega)
  have haa : a' = a := by
    apply Nat.eq_of_testBit_eq
    intro k
    rw [hat', hat, Nat.sub_zero]
  rw [e4', haa] at e4
  subst e4
  obtain ⟨y38, e38, hz⟩ := q_apx hz
  have hD : q_Dp (W * S + 1) (q_RK W S tf tt st th (W * S)) := fun x hx => hx.1
  rcases q_stands hW hW8 hS hr h37 h38 h39 h41 e38 with ⟨a1, a2⟩ | ⟨a1, a2⟩
  · rw [if_neg (by rw [a1]; decide)] at hz
    obtain ⟨y48, e48, hz⟩ := q_apx hz
    have hbad := q_pairs (σ := sA (sA σ 47 y38.2.1) 48 y38.2.2) hW hW8 hS hns hD (by rw [sA_ne (a := 43) (by omega), sA_ne (a := 43) (by omega), sA_ne (a := 44) (by omega), sA_ne (a := 44) (by omega), sA_ne (a := 45) (by omega), sA_ne (a := 45) (by omega)]; exact hv) (by rw [sA_at]; exact a2) ha e48
    rw [sA_ne (a := 43) (by omega), sA_ne (a := 43) (by omega), sA_ne (a := 44) (by omega), sA_ne (a := 44) (by omega), sA_ne (a := 45) (by omega), sA_ne (a := 45) (by omega)] at hbad
    obtain ⟨z53, e53, hz⟩ := q_apx hz
    have hl := q_found_l (ns := ns) (nc := nc) (B := B) (σ := σ) hW hW8 hS hns hD hv ha (fun i hi => by
      rw [hat i, Bool.and_eq_true] at hi
      simpa using hi.1) a2 hbad (f0 := y48.1)
    rw [e53] at hl
    cases z53 with
    | inl r =>
      subst hz
      obtain ⟨b1, b2, F, b3, b4, b5, b6⟩ := hl
      exact Or.inl ⟨b1, q_ex a2.1, F, b3, b4, b5, b6⟩
    | inr r => exact absurd hl id
  · rw [if_pos (by rw [a1]; rfl)] at hz
    subst hz
    exact Or.inr ⟨rfl, rfl, a2⟩

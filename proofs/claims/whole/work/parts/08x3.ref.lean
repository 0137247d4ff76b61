def q_fv (f : Nat → Int32) : Nat → Nat → Int := fun a b => (f (33 * a + b)).toInt
theorem q_jx {a b : Nat} (ha : a ≤ 33) (hb : b ≤ 33) : ((nI 33 * nI a) + nI b).toNatClampNeg = 33 * a + b := by
  rw [nI_mul, nI_add]
  exact nI_clamp (by omega)
theorem q_fupd {f : Nat → Int32} {a b c d : Nat} {v : Int32} (hb : b < 33) (hd : d < 33) : q_fv (upd f (33 * c + d) v) a b = if a = c ∧ b = d then v.toInt else q_fv f a b := by
  unfold q_fv upd
  by_cases h : a = c ∧ b = d
  · rw [if_pos h, if_pos (by rw [h.1, h.2])]
  · rw [if_neg h, if_neg (fun e => h (by omega))]
theorem q_bounds {W S ns nc : Nat} {B : Nat → Option Nat} {σ : Nat → Nat → Int32} {f : Nat → Int32} {s j : Nat} {v : Int32} (hs : s < 33) (hj : j < 33) (a b : Nat) (hb : b < 33) : q_fv (m_X6_bounds W S ns nc B (sA σ 47 f) (nI s) (nI j) v) a b = if a = s ∧ b = j ∧ v.toInt < q_fv f s j then v.toInt else q_fv f a b := by
  unfold m_X6_bounds ap
  rw [q_jx (by omega) (by omega), sA_at]
  have e : (f (33 * s + j)).toInt = q_fv f s j := rfl
  by_cases h : f (33 * s + j) ≤ v
  · rw [if_pos h]
    rw [q_lei, e] at h
    rw [if_neg (by omega)]
  · rw [if_neg h, q_fupd hb hj]
    rw [q_lei, e] at h
    by_cases h2 : a = s ∧ b = j
    · rw [if_pos h2, if_pos ⟨h2.1, h2.2, by omega⟩]
    · rw [if_neg h2, if_neg (by omega)]
def q_thr (M : Nat → Nat → Int) (i j : Nat) (v : Int) : Nat → Nat → Int := fun a b => if M a i < 50000 ∧ M j b < 50000 ∧ M a i + v + M j b < M a b then M a i + v + M j b else M a b
theorem q_arow {W S ns nc : Nat} {B : Nat → Option Nat} {σ : Nat → Nat → Int32} {f : Nat → Int32} {t s : Nat} {v x : Int32} (ht : t < 33) (hs : s < 33) (hb : ∀ a b, a < 33 → b < 33 → -3000 ≤ q_fv f a b ∧ q_fv f a b ≤ 100000) (hx : -3000 ≤ x.toInt ∧ x.toInt < 50000) (hv : -200 ≤ v.toInt ∧ v.toInt ≤ 200) :
    ∀ a b, a < 33 → b < 33 → q_fv (lp (m_X6_adds_L72 W S ns nc B σ (nI t) v s x) (33 - 0) 0 f) a b = if a = s ∧ q_fv f t b < 50000 ∧ x.toInt + v.toInt + q_fv f t b < q_fv f s b then x.toInt + v.toInt + q_fv f t b else q_fv f a b := by
  have k2 := q_lp (f := m_X6_adds_L72 W S ns nc B σ (nI t) v s x) (fun j c => ∀ a b, a < 33 → b < 33 → q_fv c a b = if (a = s ∧ b < j) ∧ q_fv f t b < 50000 ∧ x.toInt + v.toInt + q_fv f t b < q_fv f s b then x.toInt + v.toInt + q_fv f t b else q_fv f a b) (n := 33 - 0) (i := 0) (a := f) (fun a b _ _ => by rw [if_neg (by omega)]) ?_
  · intro a b ha hb
    rw [k2 a b ha hb]
    by_cases h : a = s ∧ q_fv f t b < 50000 ∧ x.toInt + v.toInt + q_fv f t b < q_fv f s b
    · rw [if_pos h, if_pos ⟨⟨h.1, by omega⟩, h.2⟩]
    · rw [if_neg h, if_neg (fun e => h ⟨e.1.1, e.2⟩)]
  · intro j c _ hj hJ a b ha hbn
    have hjn : j < 33 := by omega
    have h1 := hJ t j ht hjn
    rw [if_neg (by omega)] at h1
    have h2 := hJ s j hs hjn
    rw [if_neg (by omega)] at h2
    have b1 := hb t j ht hjn
    have b2 := hb s j hs hjn
    have h1' : (c (33 * t + j)).toInt = q_fv f t j := h1
    have e5 : (nI 50000).toInt = 50000 := rfl
    unfold m_X6_adds_L72 ap
    rw [q_jx (by omega) (by omega)]
    by_cases hc : nI 50000 ≤ c (33 * t + j)
    · rw [if_pos hc, hJ a b ha hbn]
      rw [q_lei, h1', e5] at hc
      by_cases e : a = s ∧ b < j
      · by_cases e2 : q_fv f t b < 50000 ∧ x.toInt + v.toInt + q_fv f t b < q_fv f s b
        · rw [if_pos ⟨e, e2⟩, if_pos ⟨⟨e.1, by omega⟩, e2⟩]
        · rw [if_neg (fun q => e2 q.2), if_neg (fun q => e2 q.2)]
      · rw [if_neg (fun q => e q.1), if_neg]
        rintro ⟨⟨q1, q2⟩, q3, q4⟩
        have : b = j := by omega
        subst this
        omega
    · rw [if_neg hc, q_bounds hs hjn a b hbn]
      rw [q_lei, h1', e5] at hc
      have t1 : (x + v).toInt = x.toInt + v.toInt := q_tadd (by omega) (by omega)
      have t2 : (x + v + c (33 * t + j)).toInt = x.toInt + v.toInt + q_fv f t j := by rw [q_tadd (by omega) (by omega), t1, h1']
      rw [t2, h2]
      by_cases e : a = s ∧ b = j
      · obtain ⟨rfl, rfl⟩ := e
        rw [hJ a b ha hbn, if_neg (c := (a = a ∧ b < b) ∧ _) (by omega)]
        by_cases e2 : x.toInt + v.toInt + q_fv f t b < q_fv f a b
        · rw [if_pos ⟨rfl, rfl, e2⟩, if_pos ⟨⟨rfl, by omega⟩, by omega, e2⟩]
        · rw [if_neg (fun q => e2 q.2.2), if_neg (fun q => e2 q.2.2)]
      · rw [if_neg (fun q => e ⟨q.1, q.2.1⟩), hJ a b ha hbn]
        by_cases e1 : (a = s ∧ b < j) ∧ q_fv f t b < 50000 ∧ x.toInt + v.toInt + q_fv f t b < q_fv f s b
        · rw [if_pos e1, if_pos ⟨⟨e1.1.1, by omega⟩, e1.2⟩]
        · rw [if_neg e1, if_neg (fun q => e1 ⟨⟨q.1.1, by omega⟩, q.2⟩)]
theorem q_adds {W S ns nc : Nat} {B : Nat → Option Nat} {σ : Nat → Nat → Int32} {i t : Nat} {v : Int32} (hi : i < 33) (ht : t < 33) (hb : ∀ a b, a < 33 → b < 33 → -1000 ≤ q_fv (σ 47) a b ∧ q_fv (σ 47) a b ≤ 100000) (hv : -200 ≤ v.toInt ∧ v.toInt ≤ 200) (hf : 0 ≤ q_fv (σ 47) t i + v.toInt) :
    ∀ a b, a < 33 → b < 33 → q_fv (lp (m_X6_adds_L38 W S ns nc B σ (nI i) (nI t) v) (33 - 0) 0 (σ 47)) a b = q_thr (q_fv (σ 47)) i t v.toInt a b := by
  generalize σ 47 = f at hb hf ⊢
  have hnr := fun c s x => @q_arow W S ns nc B σ c t s v x ht
  have hle : ∀ a b, a < 33 → b < 33 → -3000 ≤ q_thr (q_fv f) i t v.toInt a b ∧ q_thr (q_fv f) i t v.toInt a b ≤ q_fv f a b := fun a b ha hb' => by
    have h1 := hb a b ha hb'
    have h2 := hb a i ha hi
    have h3 := hb t b ht hb'
    unfold q_thr
    split <;> omega
  have hrow : ∀ b, b < 33 → q_thr (q_fv f) i t v.toInt t b = q_fv f t b := fun b hb' => by
    unfold q_thr
    rw [if_neg (by omega)]
  have k2 := q_lp (f := m_X6_adds_L38 W S ns nc B σ (nI i) (nI t) v) (fun s c => ∀ a b, a < 33 → b < 33 → q_fv c a b = if a < s then q_thr (q_fv f) i t v.toInt a b else q_fv f a b) (n := 33 - 0) (i := 0) (a := f) (fun a b _ _ => by rw [if_neg (by omega)]) ?_
  · intro a b ha hb
    rw [k2 a b ha hb, if_pos (by omega)]
  · intro s c _ hs hI a b ha hbn
    have hsn : s < 33 := by omega
    have hct : ∀ b, b < 33 → q_fv c t b = q_fv f t b := fun b hb' => by
      rw [hI t b ht hb']
      split
      · exact hrow b hb'
      · rfl
    have hcs : ∀ b, b < 33 → q_fv c s b = q_fv f s b := fun b hb' => by
      rw [hI s b hsn hb', if_neg (by omega)]
    have e1 : (c (33 * s + i)).toInt = q_fv f s i := hcs i hi
    have e5 : (nI 50000).toInt = 50000 := rfl
    have b1 := hb s i hsn hi
    unfold m_X6_adds_L38 ap
    dsimp only
    rw [q_jx (by omega) (by omega)]
    by_cases hc : c (33 * s + i) < nI 50000
    · rw [if_pos hc]
      rw [q_lt, e1, e5] at hc
      rw [hnr c s _ hsn (fun a b ha hb' => by
        rw [hI a b ha hb']
        have h1 := hle a b ha hb'
        have h2 := hb a b ha hb'
        split <;> omega) (by rw [e1]; omega) hv a b ha hbn, e1, hct b hbn, hcs b hbn]
      by_cases has : a = s
      · subst has
        rw [hcs b hbn, if_pos (c := a < a + 1) (by omega)]
        unfold q_thr
        by_cases z : q_fv f t b < 50000 ∧ q_fv f a i + v.toInt + q_fv f t b < q_fv f a b
        · rw [if_pos ⟨rfl, z⟩, if_pos ⟨hc, z⟩]
        · rw [if_neg (fun q => z q.2), if_neg (fun q => z q.2)]
      · rw [if_neg (fun q => has q.1), hI a b ha hbn]
        by_cases h6 : a < s
        · rw [if_pos h6, if_pos (c := a < s + 1) (by omega)]
        · rw [if_neg h6, if_neg (c := a < s + 1) (by omega)]
    · rw [if_neg hc, hI a b ha hbn]
      rw [q_lt, e1, e5] at hc
      by_cases has : a = s
      · subst has
        rw [if_neg (by omega), if_pos (by omega)]
        unfold q_thr
        rw [if_neg (fun q => hc q.1)]
      · by_cases h6 : a < s
        · rw [if_pos h6, if_pos (c := a < s + 1) (by omega)]
        · rw [if_neg h6, if_neg (c := a < s + 1) (by omega)]
def q_nd (W a : Nat) : Nat := if a = 0 then 32 else 8 * ((a - 1) / W) + (a - 1) % W
def q_us (W S u : Nat) : Prop := u = 32 ∨ (u / 8 < S ∧ u % 8 < W)
theorem q_nd_p {W k c : Nat} (hc : c < W) : q_nd W (1 + k * W + c) = 8 * k + c := by
  unfold q_nd
  rw [if_neg (by omega), show 1 + k * W + c - 1 = c + k * W by omega, Nat.add_mul_div_right _ _ (by omega), Nat.add_mul_mod_self_right, Nat.div_eq_of_lt hc, Nat.mod_eq_of_lt hc]
  omega
theorem q_nd_0 {W : Nat} : q_nd W 0 = 32 := rfl
theorem q_at_p {W S a : Nat} (hW : 0 < W) (ha : a < W * S + 1) (h0 : a ≠ 0) : ∃ k c, k < S ∧ c < W ∧ a = 1 + k * W + c := by
  refine ⟨(a - 1) / W, (a - 1) % W, (Nat.div_lt_iff_lt_mul hW).mpr (by rw [Nat.mul_comm]; omega), Nat.mod_lt _ hW, ?_⟩
  have := Nat.div_add_mod (a - 1) W
  rw [Nat.mul_comm] at this
  omega
theorem q_nd_lt {W S a : Nat} (hW : 0 < W) (hW8 : W ≤ 8) (hS : S ≤ 4) (ha : a < W * S + 1) : q_nd W a < 33 ∧ q_us W S (q_nd W a) := by
  by_cases h : a = 0
  · subst h; exact ⟨by rw [q_nd_0]; omega, Or.inl rfl⟩
  · obtain ⟨k, c, hk, hc, rfl⟩ := q_at_p hW ha h
    rw [q_nd_p hc]
    exact ⟨by omega, Or.inr ⟨by omega, by omega⟩⟩
theorem q_nd_inj {W S a b : Nat} (hW : 0 < W) (hW8 : W ≤ 8) (hS : S ≤ 4) (ha : a < W * S + 1) (hb : b < W * S + 1) (h : q_nd W a = q_nd W b) : a = b := by
  by_cases h1 : a = 0 <;> by_cases h2 : b = 0
  · omega
  · obtain ⟨k, c, hk, hc, rfl⟩ := q_at_p hW hb h2
    rw [h1, q_nd_p hc, q_nd_0] at h
    omega
  · obtain ⟨k, c, hk, hc, rfl⟩ := q_at_p hW ha h1
    rw [h2, q_nd_p hc, q_nd_0] at h
    omega
  · obtain ⟨k, c, hk, hc, rfl⟩ := q_at_p hW ha h1
    obtain ⟨k', c', hk', hc', rfl⟩ := q_at_p hW hb h2
    rw [q_nd_p hc, q_nd_p hc'] at h
    have e1 : k = k' := by omega
    have e2 : c = c' := by omega
    rw [e1, e2]
theorem q_us_nd {W S u : Nat} (hW8 : W ≤ 8) (hS : S ≤ 4) (hu : u < 33) (h : q_us W S u) : ∃ a, a < W * S + 1 ∧ q_nd W a = u := by
  rcases h with rfl | ⟨h1, h2⟩
  · exact ⟨0, by omega, rfl⟩
  · exact ⟨1 + u / 8 * W + u % 8, q_pl h1 h2, by rw [q_nd_p h2]; omega⟩
def q_far (W S : Nat) (M : Nat → Nat → Int) : Prop := ∀ u v, u < 33 → v < 33 → ¬ (q_us W S u ∧ q_us W S v) → M u v = if u = v then 0 else 100000
def q_rv (W : Nat) (f : Nat → Int32) : Nat → Nat → Int := fun a b => q_fv f (q_nd W a) (q_nd W b)
def q_RI (W S : Nat) (P : (Nat → Int) → Prop) (f : Nat → Int32) : Prop := q_Is (W * S + 1) P (q_rv W f) ∧ q_far W S (q_fv f)
theorem q_RI_b {W S : Nat} {P : (Nat → Int) → Prop} {f : Nat → Int32} (hW : 0 < W) (hW8 : W ≤ 8) (hS : S ≤ 4) (h : q_RI W S P f) (hP : q_Dp (W * S + 1) P) {u v : Nat} (hu : u < 33) (hv : v < 33) : -60 ≤ q_fv f u v ∧ q_fv f u v ≤ 100000 ∧ (q_us W S u → q_us W S v → q_fv f u v ≤ 60) := by
  by_cases c : q_us W S u ∧ q_us W S v
  · obtain ⟨a, ha, rfl⟩ := q_us_nd hW8 hS hu c.1
    obtain ⟨b, hb, rfl⟩ := q_us_nd hW8 hS hv c.2
    have h1 := q_bnd h.1 hP ha hb
    unfold q_rv at h1
    exact ⟨h1.1, by omega, fun _ _ => h1.2⟩
  · have h1 := h.2 u v hu hv c
    refine ⟨?_, ?_, fun x y => absurd ⟨x, y⟩ c⟩ <;> rw [h1] <;> split <;> omega
theorem q_thrI {W S : Nat} {P : (Nat → Int) → Prop} {f f' : Nat → Int32} {v : Int} {i j : Nat} (hW : 0 < W) (hW8 : W ≤ 8) (hS : S ≤ 4) (hi : i < W * S + 1) (hj : j < W * S + 1) (h : q_RI W S P f) (hP : q_Dp (W * S + 1) P) (hf : ∀ a b, a < 33 → b < 33 → q_fv f' a b = q_thr (q_fv f) (q_nd W i) (q_nd W j) v a b) (hv : 0 ≤ q_rv W f j i + v) : q_RI W S (fun x => P x ∧ x j - x i ≤ v) f' := by
  have ni := q_nd_lt hW hW8 hS hi
  have nj := q_nd_lt hW hW8 hS hj
  have hfar : ∀ u w, u < 33 → w < 33 → ¬ (q_us W S u ∧ q_us W S w) → q_fv f' u w = q_fv f u w := fun u w hu hw hc => by
    rw [hf u w hu hw]
    unfold q_thr
    rw [if_neg]
    rintro ⟨q1, q2, q3⟩
    have uu : q_us W S u := by
      by_cases e : q_us W S u
      · exact e
      · have := h.2 u (q_nd W i) hu ni.1 (fun q => e q.1)
        rw [if_neg (fun (e2 : u = q_nd W i) => e (by rw [e2]; exact ni.2))] at this
        omega
    have uw : q_us W S w := by
      by_cases e : q_us W S w
      · exact e
      · have := h.2 (q_nd W j) w nj.1 hw (fun q => e q.2)
        rw [if_neg (fun (e2 : q_nd W j = w) => e (by rw [← e2]; exact nj.2))] at this
        omega
    exact hc ⟨uu, uw⟩
  refine ⟨q_Is_cg (fun a b ha hb => ?_) (q_add_is h.1 hi hj hv), fun u w hu hw hc => by rw [hfar u w hu hw hc]; exact h.2 u w hu hw hc⟩
  have na := q_nd_lt hW hW8 hS ha
  have nb := q_nd_lt hW hW8 hS hb
  have b1 := (q_RI_b hW hW8 hS h hP na.1 ni.1).2.2 na.2 ni.2
  have b2 := (q_RI_b hW hW8 hS h hP nj.1 nb.1).2.2 nj.2 nb.2
  show q_add (q_rv W f) i j v a b = q_fv f' (q_nd W a) (q_nd W b)
  rw [hf _ _ na.1 nb.1]
  unfold q_add q_thr q_rv
  by_cases c : q_fv f (q_nd W a) (q_nd W i) + v + q_fv f (q_nd W j) (q_nd W b) < q_fv f (q_nd W a) (q_nd W b)
  · rw [if_pos c, if_pos ⟨by omega, by omega, c⟩]
  · rw [if_neg c, if_neg (fun q => c q.2.2)]
theorem q_addsI {W S ns nc : Nat} {B : Nat → Option Nat} {σ : Nat → Nat → Int32} {P : (Nat → Int) → Prop} {i j : Nat} {v : Int32} (hW : 0 < W) (hW8 : W ≤ 8) (hS : S ≤ 4) (hi : i < W * S + 1) (hj : j < W * S + 1) (h : q_RI W S P (σ 47)) (hP : q_Dp (W * S + 1) P) (hv : -200 ≤ v.toInt ∧ v.toInt ≤ 200) {one other : Int32} (h1 : one = nI (q_nd W i)) (h2 : other = nI (q_nd W j)) {z : Int32 × (Nat → Int32)} (hz : m_X6_adds W S ns nc B σ one other v = z) :
    (z.1 = nI 1 ∧ q_RI W S (fun x => P x ∧ x j - x i ≤ v.toInt) z.2) ∨ (z.1 = nI 0 ∧ ¬ ∃ x, P x ∧ x j - x i ≤ v.toInt) := by
  subst h1 h2
  have ni := q_nd_lt hW hW8 hS hi
  have nj := q_nd_lt hW hW8 hS hj
  have hbb := fun u w (hu : u < 33) (hw : w < 33) => q_RI_b hW hW8 hS h hP hu hw
  unfold m_X6_adds at hz
  rw [q_jx (by omega) (by omega), q_jx (by omega) (by omega)] at hz
  have e1 : (σ 47 (33 * q_nd W i + q_nd W j)).toInt = q_rv W (σ 47) i j := rfl
  have e2 : (σ 47 (33 * q_nd W j + q_nd W i)).toInt = q_rv W (σ 47) j i := rfl
  have b2 := q_bnd h.1 hP hj hi
  have ez : (0 : Int32).toInt = 0 := rfl
  by_cases c1 : v < σ 47 (33 * q_nd W i + q_nd W j)
  · rw [if_pos c1] at hz
    by_cases c2 : 0 ≤ σ 47 (33 * q_nd W j + q_nd W i) + v
    · rw [if_pos c2] at hz
      rw [q_lei, q_tadd (by omega) (by omega), e2, ez] at c2
      have hA := q_adds (W := W) (S := S) (ns := ns) (nc := nc) (B := B) (σ := σ) ni.1 nj.1 (fun a b ha hb => by have := hbb a b ha hb; omega) hv c2
      generalize lp (m_X6_adds_L38 W S ns nc B σ (nI (q_nd W i)) (nI (q_nd W j)) v) (33 - 0) 0 (σ 47) = y at hz hA
      rw [← hz]
      exact Or.inl ⟨rfl, q_thrI hW hW8 hS hi hj h hP hA c2⟩
    · rw [if_neg c2] at hz
      rw [q_lei, q_tadd (by omega) (by omega), e2, ez] at c2
      rw [← hz]
      exact Or.inr ⟨rfl, q_add_no h.1 hi hj (by omega)⟩
  · rw [if_neg c1] at hz
    rw [q_lt, e1] at c1
    rw [← hz]
    refine Or.inl ⟨rfl, q_cg h.1 (fun x => ⟨fun q => ⟨q, ?_⟩, fun q => q.1⟩), h.2⟩
    have := (h.1.2 x).mpr q i j hi hj
    omega
theorem q_addsW {W S ns nc : Nat} {B : Nat → Option Nat} {σ : Nat → Nat → Int32} {P : (Nat → Int) → Prop} {i j : Nat} {v w : Int32} (hW : 0 < W) (hW8 : W ≤ 8) (hS : S ≤ 4) (hi : i < W * S + 1) (hj : j < W * S + 1) (h : q_RI W S P (σ 47)) (hP : q_Dp (W * S + 1) P) (hv : -100 ≤ v.toInt ∧ v.toInt ≤ 100) (hw : -100 ≤ w.toInt ∧ w.toInt ≤ 100) {one other : Int32} (h1 : one = nI (q_nd W i)) (h2 : other = nI (q_nd W j)) {z : Int32 × (Nat → Int32)} (hz : m_X6_addsWithin W S ns nc B σ one other v w = z) :
    (z.1 = nI 1 ∧ q_RI W S (fun x => P x ∧ v.toInt - w.toInt ≤ x j - x i ∧ x j - x i ≤ v.toInt + w.toInt) z.2) ∨ (z.1 = nI 0 ∧ ¬ ∃ x, P x ∧ v.toInt - w.toInt ≤ x j - x i ∧ x j - x i ≤ v.toInt + w.toInt) := by
  have t1 : (v + w).toInt = v.toInt + w.toInt := q_tadd (by omega) (by omega)
  have t2 : (w - v).toInt = w.toInt - v.toInt := q_tsub (by omega) (by omega)
  unfold m_X6_addsWithin ap at hz
  rcases q_addsI (ns := ns) (nc := nc) (B := B) (v := v + w) hW hW8 hS hi hj h hP (by omega) h1 h2 rfl with ⟨a1, a2⟩ | ⟨a1, a2⟩
  · simp only [a1, q_one, if_false] at hz
    generalize (m_X6_adds W S ns nc B σ one other (v + w)).2 = y at a2 hz
    have hP2 : q_Dp (W * S + 1) (fun x => P x ∧ x j - x i ≤ (v + w).toInt) := fun x hx => hP x hx.1
    rcases q_addsI (ns := ns) (nc := nc) (B := B) (σ := sA σ 47 y) (v := w - v) hW hW8 hS hj hi (by rw [sA_at]; exact a2) hP2 (by omega) h2 h1 rfl with ⟨b1, b2⟩ | ⟨b1, b2⟩
    · simp only [b1, q_one, if_false] at hz
      rw [← hz]
      refine Or.inl ⟨rfl, q_cg b2.1 (fun x => ?_), b2.2⟩
      rw [t1, t2]
      constructor
      · rintro ⟨⟨q1, q2⟩, q3⟩; exact ⟨q1, by omega, q2⟩
      · rintro ⟨q1, q2, q3⟩; exact ⟨⟨q1, q3⟩, by omega⟩
    · simp only [b1, q_zer, if_true] at hz
      rw [← hz]
      refine Or.inr ⟨rfl, ?_⟩
      rintro ⟨x, q1, q2, q3⟩
      exact b2 ⟨x, ⟨q1, by omega⟩, by omega⟩
  · simp only [a1, q_zer, if_true] at hz
    rw [← hz]
    refine Or.inr ⟨rfl, ?_⟩
    rintro ⟨x, q1, q2, q3⟩
    exact a2 ⟨x, q1, by omega⟩
theorem q_div {a b : Nat} (ha : a < 2147483648) (hb : b < 2147483648) : nI a / nI b = nI (a / b) := by
  apply Int32.toInt_inj.mp
  have h : a / b ≤ a := Nat.div_le_self a b
  rw [Int32.toInt_div, q_nt ha, q_nt hb, q_nt (by omega)]
  have e : (a : Int).tdiv (b : Int) = ((a / b : Nat) : Int) := by simp [Int.natCast_ediv, Int.tdiv_eq_ediv_of_nonneg]
  rw [e]
  generalize a / b = q at h
  exact Int.bmod_eq_of_le (by omega) (by omega)
theorem q_sub {a b : Nat} (h : b ≤ a) : nI a - nI b = nI (a - b) := by
  conv => lhs; rw [show a = (a - b) + b by omega, ← nI_add]
  simp
theorem q_dec {k c d : Nat} (hk : k < 10) (hc : c < 10) (hd : d < 10) : nI (100 * k + 10 * c + d) / nI 100 = nI k ∧ nI (100 * k + 10 * c + d) / nI 10 - nI (100 * k + 10 * c + d) / nI 10 / nI 10 * nI 10 = nI c ∧ nI (100 * k + 10 * c + d) - nI (100 * k + 10 * c + d) / nI 10 * nI 10 = nI d := by
  refine ⟨?_, ?_, ?_⟩
  · rw [q_div (by omega) (by omega)]
    congr 1; omega
  · rw [q_div (by omega) (by omega), q_div (by omega) (by omega), nI_mul, q_sub (by omega)]
    congr 1; omega
  · rw [q_div (by omega) (by omega), nI_mul, q_sub (by omega)]
    congr 1; omega
theorem q_sees {W S ns nc : Nat} {B : Nat → Option Nat} {σ : Nat → Nat → Int32} {P : (Nat → Int) → Prop} (hW8 : W ≤ 8) (hS : S ≤ 4) {i k c d : Nat} {z m : Int} (hi : i < 10) (hv : q_seeV W S k c d z m) (h0 : σ 43 i = nI (100 * k + 10 * c + d)) (h3 : (σ 44 i).toInt = z) (h4 : (σ 45 i).toInt = m) (h : q_RI W S P (σ 47)) (hP : q_Dp (W * S + 1) P) {y : Int32 × (Nat → Int32)} (hy : m_X6_sees W S ns nc B σ (nI i) = y) :
    (y.1 = nI 1 ∧ q_RI W S (fun x => P x ∧ q_see W k c d z m x) y.2) ∨ (y.1 = nI 0 ∧ ¬ ∃ x, P x ∧ q_see W k c d z m x) := by
  obtain ⟨v1, v2, v3, v4, v5, v6, v7, v8⟩ := hv
  have hW : 0 < W := by omega
  obtain ⟨d1, d2, d3⟩ := q_dec (k := k) (c := c) (d := d) (by omega) (by omega) (by omega)
  have hp := q_pl v1 v2
  have ht0 : 0 < W * S + 1 := by omega
  have en : nI (8 * k + c) = nI (q_nd W (1 + k * W + c)) := by rw [q_nd_p v2]
  have e32 : nI 32 = nI (q_nd W 0) := rfl
  unfold m_X6_sees ap at hy
  rw [nI_clamp (by omega)] at hy
  rw [h0, d1, d2, d3] at hy
  unfold m_X6_node at hy
  rw [nI_mul, nI_add] at hy
  have e0 : (nI d = nI 0) = (d = 0) := propext (nI_eq (by omega) (by omega))
  have e1 : (nI d = nI 1) = (d = 1) := propext (nI_eq (by omega) (by omega))
  have e2 : (nI d = nI 2) = (d = 2) := propext (nI_eq (by omega) (by omega))
  simp only [e0, e1, e2] at hy
  rw [← hy]
  by_cases d0 : d = 0
  · simp only [d0, if_true]
    rcases q_addsW hW hW8 hS ht0 hp h hP (v := σ 44 i) (w := σ 45 i) (by omega) (by omega) (ns := ns) (nc := nc) (B := B) e32 en rfl with ⟨a1, a2⟩ | ⟨a1, a2⟩
    · exact Or.inl ⟨a1, q_cg a2.1 (fun x => by rw [h3, h4]; exact Iff.rfl), a2.2⟩
    · refine Or.inr ⟨a1, ?_⟩
      rintro ⟨x, q1, q2⟩
      exact a2 ⟨x, q1, by rw [h3, h4]; exact q2⟩
  · simp only [d0, if_false]
    by_cases d1 : d = 1
    · simp only [d1, if_true]
      have tn : (-σ 44 i).toInt = -z := by rw [q_tneg (by omega) (by omega), h3]
      rcases q_addsI hW hW8 hS hp ht0 h hP (v := -σ 44 i) (by omega) (ns := ns) (nc := nc) (B := B) en e32 rfl with ⟨a1, a2⟩ | ⟨a1, a2⟩
      · refine Or.inl ⟨a1, q_cg a2.1 (fun x => ?_), a2.2⟩
        rw [tn]
        show _ ↔ P x ∧ z ≤ x (1 + k * W + c) - x 0
        exact ⟨fun q => ⟨q.1, by have := q.2; omega⟩, fun q => ⟨q.1, by have := q.2; omega⟩⟩
      · refine Or.inr ⟨a1, ?_⟩
        rintro ⟨x, q1, q2⟩
        have q2' : z ≤ x (1 + k * W + c) - x 0 := q2
        exact a2 ⟨x, q1, by rw [tn]; omega⟩
    · simp only [d1, if_false]
      by_cases d2 : d = 2
      · simp only [d2, if_true]
        rcases q_addsI hW hW8 hS ht0 hp h hP (v := σ 44 i) (by omega) (ns := ns) (nc := nc) (B := B) e32 en rfl with ⟨a1, a2⟩ | ⟨a1, a2⟩
        · refine Or.inl ⟨a1, q_cg a2.1 (fun x => ?_), a2.2⟩
          rw [h3]
          exact Iff.rfl
        · refine Or.inr ⟨a1, ?_⟩
          rintro ⟨x, q1, q2⟩
          exact a2 ⟨x, q1, by rw [h3]; exact q2⟩
      · have d3 : d = 3 := by omega
        have hp2 := q_pl v1 (v4 d3)
        have en2 : nI (8 * k + c) + nI 1 = nI (q_nd W (1 + k * W + (c + 1))) := by rw [q_nd_p (v4 d3), nI_add]; congr 1
        simp only [d2, if_false]
        rcases q_addsW hW hW8 hS hp hp2 h hP (v := σ 44 i) (w := σ 45 i) (by omega) (by omega) (ns := ns) (nc := nc) (B := B) en en2 rfl with ⟨a1, a2⟩ | ⟨a1, a2⟩
        · refine Or.inl ⟨a1, q_cg a2.1 (fun x => ?_), a2.2⟩
          rw [h3, h4]
          unfold q_see
          rw [if_neg d0, if_neg d1, if_neg d2]
        · refine Or.inr ⟨a1, ?_⟩
          rintro ⟨x, q1, q2⟩
          unfold q_see at q2
          rw [if_neg d0, if_neg d1, if_neg d2] at q2
          exact a2 ⟨x, q1, by rw [h3, h4]; exact q2⟩
theorem q_RI_cg {W S : Nat} {P : (Nat → Int) → Prop} {f f' : Nat → Int32} (hW : 0 < W) (hW8 : W ≤ 8) (hS : S ≤ 4) (h : q_RI W S P f) (e : ∀ u v, u < 33 → v < 33 → q_fv f u v = q_fv f' u v) : q_RI W S P f' :=
  ⟨q_Is_cg (fun a b ha hb => e _ _ (q_nd_lt hW hW8 hS ha).1 (q_nd_lt hW hW8 hS hb).1) h.1, fun u v hu hv hc => by rw [← e u v hu hv]; exact h.2 u v hu hv hc⟩
def q_sg (W : Nat) (f g m : Nat → Int32) (i : Nat) : (Nat → Int) → Prop := q_see W ((f i).toNatClampNeg / 100) ((f i).toNatClampNeg / 10 % 10) ((f i).toNatClampNeg % 10) (g i).toInt (m i).toInt
def q_sv (W S : Nat) (f g m : Nat → Int32) (i : Nat) : Prop := f i = nI (f i).toNatClampNeg ∧ q_seeV W S ((f i).toNatClampNeg / 100) ((f i).toNatClampNeg / 10 % 10) ((f i).toNatClampNeg % 10) (g i).toInt (m i).toInt
def q_Ag (R : (Nat → Int) → Prop) (s : Nat → (Nat → Int) → Prop) (h : Nat) (x : Nat → Int) : Prop := R x ∧ ∀ i, h.testBit i = true → s i x
def q_bad (R : (Nat → Int) → Prop) (s : Nat → (Nat → Int) → Prop) (f : Nat → Int32) : Prop := ∀ i, i < 10 → ∃ b : Nat, b < 1024 ∧ f i = nI b ∧ ∀ j, b.testBit j = true → ¬ ∃ x, R x ∧ s i x ∧ s j x
theorem q_nz {a : Nat} (ha : a < 1024) : (nI a = 0) = (a = 0) := by rw [← nI_0]; exact propext (nI_eq (by omega) (by omega))
theorem q_and_lt {a b : Nat} (ha : a < 1024) : a &&& b < 1024 := Nat.lt_of_le_of_lt Nat.and_le_left ha
theorem q_agrees {W S ns nc : Nat} {B : Nat → Option Nat} {σ : Nat → Nat → Int32} {R : (Nat → Int) → Prop} (hW : 0 < W) (hW8 : W ≤ 8) (hS : S ≤ 4) (hns : ns ≤ 10) (hR : q_Dp (W * S + 1) R) (hv : ∀ i, i < ns → q_sv W S (σ 43) (σ 44) (σ 45) i) (hb : q_RI W S R (σ 48)) (hbad : q_bad R (q_sg W (σ 43) (σ 44) (σ 45)) (σ 49)) {h : Nat} (hh : h < 1024) (hhn : ∀ i, h.testBit i = true → i < ns) {z : Int32 × (Nat → Int32)} (hz : m_X6_agrees W S ns nc B σ (nI h) = z) :
    (z.1 = nI 1 ∧ q_RI W S (q_Ag R (q_sg W (σ 43) (σ 44) (σ 45)) h) z.2) ∨ (z.1 = nI 0 ∧ ¬ ∃ x, q_Ag R (q_sg W (σ 43) (σ 44) (σ 45)) h x) := by
  generalize hs : q_sg W (σ 43) (σ 44) (σ 45) = s at hbad ⊢
  have hbit : ∀ i, i < 10 → (((nI h >>> (nI i &&& 31)) &&& nI 1 = nI 1) = (h.testBit i = true)) := fun i hi => by
    rw [q_shr i hi h hh]
    cases h.testBit i <;> simp <;> decide
  have k1 := q_lpe (f := m_X6_agrees_L2 W S ns nc B σ (nI h)) (fun _ _ => True) (fun r => r.1 = nI 0 ∧ ¬ ∃ x, q_Ag R s h x) (n := ns - 0) (i := 0) (a := ()) trivial ?_
  · unfold m_X6_agrees ap at hz
    cases e : lpe (m_X6_agrees_L2 W S ns nc B σ (nI h)) (ns - 0) 0 () with
    | inl r =>
      rw [e] at hz k1
      subst hz
      exact Or.inr k1
    | inr r =>
      rw [e] at hz
      simp only [Sum.elim_inr] at hz
      have k2 := q_lp (f := m_X6_agrees_L40 W S ns nc B σ) (fun i c => ∀ t, t < i → c t = σ 48 t) (n := 1089 - 0) (i := 0) (a := σ 47) (fun t ht => absurd ht (by omega)) ?_
      · generalize lp (m_X6_agrees_L40 W S ns nc B σ) (1089 - 0) 0 (σ 47) = y at k2 hz
        have hy : q_RI W S R y := q_RI_cg hW hW8 hS hb (fun u v hu hv => by unfold q_fv; rw [k2 _ (by omega)])
        have k3 := q_lpe (f := m_X6_agrees_L67 W S ns nc B σ (nI h)) (fun i c => q_RI W S (fun x => R x ∧ ∀ j, j < i → h.testBit j = true → s j x) c) (fun r => r.1 = nI 0 ∧ ¬ ∃ x, q_Ag R s h x) (n := ns - 0) (i := 0) (a := y) ⟨q_cg hy.1 (fun x => ⟨fun q => ⟨q, fun j hj => absurd hj (by omega)⟩, fun q => q.1⟩), hy.2⟩ ?_
        · cases e2 : lpe (m_X6_agrees_L67 W S ns nc B σ (nI h)) (ns - 0) 0 y with
          | inl r2 =>
            rw [e2] at hz k3
            subst hz
            exact Or.inr k3
          | inr r2 =>
            rw [e2] at hz k3
            subst hz
            have k3' : q_RI W S (fun x => R x ∧ ∀ j, j < 0 + (ns - 0) → h.testBit j = true → s j x) r2 := k3
            exact Or.inl ⟨rfl, q_cg k3'.1 (fun x => ⟨fun q => ⟨q.1, fun j hj => q.2 j (by have := hhn j hj; omega) hj⟩, fun q => ⟨q.1, fun j _ hj => q.2 j hj⟩⟩), k3'.2⟩
        · intro j c _ hj hJ
          have hjn : j < ns := by omega
          unfold m_X6_agrees_L67 ap
          simp only [hbit j (by omega)]
          by_cases hc : h.testBit j = true
          · simp only [hc, if_true]
            have vj := hv j hjn
            have hcode : σ 43 j = nI (100 * ((σ 43 j).toNatClampNeg / 100) + 10 * ((σ 43 j).toNatClampNeg / 10 % 10) + (σ 43 j).toNatClampNeg % 10) := by
              conv => lhs; rw [vj.1]
              congr 1
              omega
            have hD : q_Dp (W * S + 1) (fun x => R x ∧ ∀ i, i < j → h.testBit i = true → s i x) := fun x hx => hR x hx.1
            have hst : q_see W ((σ 43 j).toNatClampNeg / 100) ((σ 43 j).toNatClampNeg / 10 % 10) ((σ 43 j).toNatClampNeg % 10) (σ 44 j).toInt (σ 45 j).toInt = s j := by rw [← hs]; rfl
            rcases q_sees (ns := ns) (nc := nc) (B := B) (σ := sA σ 47 c) (i := j) hW8 hS (by omega) vj.2 hcode rfl rfl (by rw [sA_at]; exact hJ) hD rfl with ⟨a1, a2⟩ | ⟨a1, a2⟩
            · simp only [a1, q_one, if_false]
              refine ⟨q_cg a2.1 (fun x => ?_), a2.2⟩
              rw [hst]
              constructor
              · rintro ⟨⟨q1, q2⟩, q3⟩
                refine ⟨q1, fun i hi hb => ?_⟩
                by_cases e : i = j
                · rw [e]; exact q3
                · exact q2 i (by omega) hb
              · rintro ⟨q1, q2⟩
                exact ⟨⟨q1, fun i hi hb => q2 i (by omega) hb⟩, q2 j (by omega) hc⟩
            · simp only [a1, q_zer, if_true]
              refine ⟨rfl, ?_⟩
              rintro ⟨x, q1, q2⟩
              exact a2 ⟨x, ⟨q1, fun i _ hb => q2 i hb⟩, by rw [hst]; exact q2 j hc⟩
          · simp only [hc, if_false]
            refine ⟨q_cg hJ.1 (fun x => ⟨fun q => ⟨q.1, fun i hi hb => ?_⟩, fun q => ⟨q.1, fun i hi hb => q.2 i (by omega) hb⟩⟩), hJ.2⟩
            by_cases e : i = j
            · rw [e] at hb; exact absurd hb hc
            · exact q.2 i (by omega) hb
      · intro j c _ hj hJ t ht
        unfold m_X6_agrees_L40 ap upd
        rw [nI_clamp (by omega)]
        dsimp only
        by_cases e : t = j
        · rw [if_pos e, e]
        · rw [if_neg e]; exact hJ t (by omega)
  · intro j c _ hj _
    unfold m_X6_agrees_L2
    rw [nI_clamp (by omega)]
    simp only [hbit j (by omega)]
    by_cases hc : h.testBit j = true
    · simp only [hc, if_true]
      obtain ⟨b, b1, b2, b3⟩ := hbad j (by omega)
      rw [b2, q_and]
      simp only [q_nz (q_and_lt b1)]
      by_cases e : b &&& h = 0
      · simp only [e, if_true]; exact trivial
      · simp only [e, if_false]
        refine ⟨rfl, ?_⟩
        rintro ⟨x, q1, q2⟩
        obtain ⟨t, ht⟩ := Nat.exists_testBit_of_ne_zero e
        rw [Nat.testBit_and, Bool.and_eq_true] at ht
        exact b3 t ht.1 ⟨x, q1, q2 j hc, q2 t ht.2⟩
    · simp only [hc, if_false]; exact trivial
theorem q_bad_u {R : (Nat → Int) → Prop} {s : Nat → (Nat → Int) → Prop} {f : Nat → Int32} (h : q_bad R s f) {i j : Nat} (hi : i < 10) (hj : j < 10) (hn : ¬ ∃ x, R x ∧ s i x ∧ s j x) : q_bad R s (upd f i (f i ||| (nI 1 <<< (nI j &&& 31)))) := by
  intro k hk
  unfold upd
  by_cases e : k = i
  · subst e
    obtain ⟨b, b1, b2, b3⟩ := h k hk
    refine ⟨b ||| 2 ^ j, q_or_lt b1 (q_two hj), by rw [if_pos rfl, b2, q_shl j hj, q_or], fun t ht => ?_⟩
    rw [Nat.testBit_or, Nat.testBit_two_pow, Bool.or_eq_true] at ht
    rcases ht with ht | ht
    · exact b3 t ht
    · have : j = t := by simpa using ht
      subst this
      exact hn
  · rw [if_neg e]
    exact h k hk
theorem q_two_or {k i t : Nat} : (2 ^ k ||| 2 ^ i).testBit t = true ↔ t = k ∨ t = i := by
  rw [Nat.testBit_or, Nat.testBit_two_pow, Nat.testBit_two_pow, Bool.or_eq_true]
  simp only [decide_eq_true_eq]
  constructor
  · rintro (h | h)
    · exact Or.inl h.symm
    · exact Or.inr h.symm
  · rintro (h | h)
    · exact Or.inl h.symm
    · exact Or.inr h.symm
theorem q_pairs {W S ns nc : Nat} {B : Nat → Option Nat} {σ : Nat → Nat → Int32} {R : (Nat → Int) → Prop} (hW : 0 < W) (hW8 : W ≤ 8) (hS : S ≤ 4) (hns : ns ≤ 10) (hR : q_Dp (W * S + 1) R) (hv : ∀ i, i < ns → q_sv W S (σ 43) (σ 44) (σ 45) i) (hb : q_RI W S R (σ 48)) {a : Nat} (ha : a < 1024) {z : (Nat → Int32) × (Nat → Int32)} (hz : m_X6_pairs W S ns nc B σ (nI a) = z) :
    q_bad R (q_sg W (σ 43) (σ 44) (σ 45)) z.2 := by
  generalize hs : q_sg W (σ 43) (σ 44) (σ 45) = s
  have k0 := q_lp (f := m_X6_pairs_L2 W S ns nc B σ) (fun i c => ∀ t, t < i → c t = nI 0) (n := 10 - 0) (i := 0) (a := σ 49) (fun t ht => absurd ht (by omega)) ?_
  · unfold m_X6_pairs ap at hz
    generalize lp (m_X6_pairs_L2 W S ns nc B σ) (10 - 0) 0 (σ 49) = y at k0 hz
    have hy : q_bad R s y := fun i hi => ⟨0, by omega, k0 i (by omega), fun j hj => by simp at hj⟩
    have k1 := q_lp (f := m_X6_pairs_L23 W S ns nc B σ (nI a)) (fun _ c => q_bad R s c.2) (n := ns - 0) (i := 0) (a := (σ 47, y)) hy ?_
    · subst hz
      exact k1
    · intro k c _ hk hc
      have hkn : k < ns := by omega
      unfold m_X6_pairs_L23 ap
      refine q_lp (f := m_X6_pairs_L33 W S ns nc B σ (nI a) k) (fun _ c => q_bad R s c.2) (n := ns - k) (i := k) (a := (c.1, c.2)) hc ?_
      intro i d hki hi hd
      have hin : i < ns := by omega
      unfold m_X6_pairs_L33 ap
      rw [q_shl k (by omega), q_shl i (by omega), q_or]
      dsimp only
      by_cases c1 : nI a &&& nI (2 ^ k ||| 2 ^ i) = nI (2 ^ k ||| 2 ^ i)
      · rw [if_pos c1]
        have hlt := q_or_lt (q_two (show k < 10 by omega)) (q_two (show i < 10 by omega))
        have hag := q_agrees (ns := ns) (nc := nc) (B := B) (σ := sA (sA σ 49 d.2) 47 d.1) (R := R) hW hW8 hS hns hR (by rw [sA_ne (by omega), sA_ne (by omega), sA_ne (by omega), sA_ne (by omega), sA_ne (by omega), sA_ne (by omega)]; exact hv) (by rw [sA_ne (by omega), sA_ne (by omega)]; exact hb) (by
          rw [sA_ne (a := 43) (by omega), sA_ne (a := 43) (by omega), sA_ne (a := 44) (by omega), sA_ne (a := 44) (by omega), sA_ne (a := 45) (by omega), sA_ne (a := 45) (by omega), sA_ne (a := 49) (by omega), sA_at, hs]; exact hd) hlt (fun t ht => by rcases q_two_or.mp ht with e | e <;> omega) rfl
        rw [sA_ne (a := 43) (by omega), sA_ne (a := 43) (by omega), sA_ne (a := 44) (by omega), sA_ne (a := 44) (by omega), sA_ne (a := 45) (by omega), sA_ne (a := 45) (by omega), hs] at hag
        rcases hag with ⟨a1, a2⟩ | ⟨a1, a2⟩
        · simp only [a1, q_one, if_false]
          exact hd
        · simp only [a1, q_zer, if_true]
          rw [nI_clamp (by omega), nI_clamp (by omega)]
          have hno : ¬ ∃ x, R x ∧ s k x ∧ s i x := by
            rintro ⟨x, q1, q2, q3⟩
            refine a2 ⟨x, q1, fun t ht => ?_⟩
            rcases q_two_or.mp ht with e | e
            · rw [e]; exact q2
            · rw [e]; exact q3
          rw [← q_shl k (by omega), ← q_shl i (by omega)]
          exact q_bad_u (q_bad_u hd (by omega) (by omega) hno) (by omega) (by omega) (fun ⟨x, q1, q2, q3⟩ => hno ⟨x, q1, q3, q2⟩)
      · rw [if_neg c1]
        exact hd
  · intro j c _ hj hJ t ht
    unfold m_X6_pairs_L2 upd
    rw [nI_clamp (by omega)]
    by_cases e : t = j
    · rw [if_pos e]
    · rw [if_neg e]; exact hJ t (by omega)
def q_cand (R : (Nat → Int) → Prop) (s : Nat → (Nat → Int) → Prop) (a h : Nat) : Prop := (∀ k, h.testBit k = true → a.testBit k = true) ∧ ∃ x, q_Ag R s (a &&& (1023 ^^^ h)) x
def q_least (R : (Nat → Int) → Prop) (s : Nat → (Nat → Int) → Prop) (a F : Nat) : Prop := q_cand R s a F ∧ ∀ c, q_cand R s a c → q_pc 10 F < q_pc 10 c ∨ (q_pc 10 F = q_pc 10 c ∧ F ≤ c)
theorem q_sub_le {a h : Nat} (hs : ∀ k, h.testBit k = true → a.testBit k = true) : h &&& a = h := by
  apply Nat.eq_of_testBit_eq
  intro k
  rw [Nat.testBit_and]
  have := hs k
  cases hc : h.testBit k
  · rfl
  · rw [this hc]; rfl
theorem q_sub_of {a h : Nat} (e : h &&& a = h) : ∀ k, h.testBit k = true → a.testBit k = true := by
  intro k hk
  rw [← e, Nat.testBit_and, Bool.and_eq_true] at hk
  exact hk.2
theorem q_le_of {a h : Nat} (hs : ∀ k, h.testBit k = true → a.testBit k = true) : h ≤ a := by
  rw [← q_sub_le hs]
  exact Nat.and_le_right
theorem q_keep {a h t : Nat} (ha : a < 1024) : (a &&& (1023 ^^^ h)).testBit t = (a.testBit t && !h.testBit t) := by
  rw [Nat.testBit_and, Nat.testBit_xor]
  by_cases c : t < 10
  · have : ∀ i, i < 10 → Nat.testBit 1023 i = true := by decide
    rw [this t c]
    cases h.testBit t <;> rfl
  · rw [q_tb ha (by omega)]; rfl
theorem q_cand_a {R : (Nat → Int) → Prop} {s : Nat → (Nat → Int) → Prop} {a : Nat} (ha : a < 1024) (hR : ∃ x, R x) : q_cand R s a a := by
  obtain ⟨x, hx⟩ := hR
  refine ⟨fun _ h => h, x, hx, fun i hi => ?_⟩
  rw [q_keep ha] at hi
  cases h : a.testBit i <;> rw [h] at hi <;> simp at hi
theorem q_least_u {R : (Nat → Int) → Prop} {s : Nat → (Nat → Int) → Prop} {a F G : Nat} (h : q_least R s a F) (g : q_least R s a G) : F = G := by
  have h1 := h.2 G g.1
  have h2 := g.2 F h.1
  omega
theorem q_found_l {W S ns nc : Nat} {B : Nat → Option Nat} {σ : Nat → Nat → Int32} {R : (Nat → Int) → Prop} (hW : 0 < W) (hW8 : W ≤ 8) (hS : S ≤ 4) (hns : ns ≤ 10) (hR : q_Dp (W * S + 1) R) (hv : ∀ i, i < ns → q_sv W S (σ 43) (σ 44) (σ 45) i) {a : Nat} (ha : a < 1024) (han : ∀ i, a.testBit i = true → i < ns) {y38 : Int32 × (Nat → Int32) × (Nat → Int32)} {y48 : (Nat → Int32) × (Nat → Int32)} (hb : q_RI W S R y38.2.2) (hbad : q_bad R (q_sg W (σ 43) (σ 44) (σ 45)) y48.2) {f0 : Nat → Int32} :
    (lpe (m_X6_found_L53 W S ns nc B σ (nI a) y38 y48) (10 + 1 - 0) 0 f0).elim (fun z => z.1 = nI 1 ∧ z.2.2.2.1 = y38.2.2 ∧ ∃ F, F < 1024 ∧ z.2.1 = upd (σ 36) 18 (nI F) ∧ q_least R (q_sg W (σ 43) (σ 44) (σ 45)) a F ∧ q_RI W S (q_Ag R (q_sg W (σ 43) (σ 44) (σ 45)) (a &&& (1023 ^^^ F))) z.2.2.1) (fun _ => False) := by
  generalize hs : q_sg W (σ 43) (σ 44) (σ 45) = s at hbad ⊢
  have key := q_lpe (f := m_X6_found_L53 W S ns nc B σ (nI a) y38 y48) (fun n _ => ∀ c, q_cand R s a c → n ≤ q_pc 10 c) (fun z => z.1 = nI 1 ∧ z.2.2.2.1 = y38.2.2 ∧ ∃ F, F < 1024 ∧ z.2.1 = upd (σ 36) 18 (nI F) ∧ q_least R s a F ∧ q_RI W S (q_Ag R s (a &&& (1023 ^^^ F))) z.2.2.1) (n := 10 + 1 - 0) (i := 0) (a := f0) (fun c _ => Nat.zero_le _) ?_
  · cases e : lpe (m_X6_found_L53 W S ns nc B σ (nI a) y38 y48) (10 + 1 - 0) 0 f0 with
    | inl r => rw [e] at key; exact key
    | inr r =>
      rw [e] at key
      have k2 : ∀ c, q_cand R s a c → 0 + (10 + 1 - 0) ≤ q_pc 10 c := key
      have h1 := k2 a (q_cand_a ha (q_ex hb.1))
      have h2 := q_pc_le 10 a
      omega
  · intro n f _ hn hI
    have key2 := q_lpe (f := m_X6_found_L61 W S ns nc B σ (nI a) y38 y48 n) (fun m _ => ∀ c, q_cand R s a c → q_pc 10 c = n → m ≤ c) (fun z => z.1 = nI 1 ∧ z.2.2.2.1 = y38.2.2 ∧ ∃ F, F < 1024 ∧ z.2.1 = upd (σ 36) 18 (nI F) ∧ q_least R s a F ∧ q_RI W S (q_Ag R s (a &&& (1023 ^^^ F))) z.2.2.1) (n := (nI a).toNatClampNeg + 1 - 0) (i := 0) (a := f) (fun c _ _ => Nat.zero_le _) ?_
    · unfold m_X6_found_L53 ap
      cases e : lpe (m_X6_found_L61 W S ns nc B σ (nI a) y38 y48 n) ((nI a).toNatClampNeg + 1 - 0) 0 f with
      | inl r => rw [e] at key2; exact key2
      | inr r =>
        rw [e] at key2
        have k2 : ∀ c, q_cand R s a c → q_pc 10 c = n → 0 + ((nI a).toNatClampNeg + 1 - 0) ≤ c := key2
        intro c hc
        have h1 := hI c hc
        have h2 := k2 c hc
        have h3 := q_le_of hc.1
        rw [nI_clamp (by omega)] at h2
        by_cases e : q_pc 10 c = n
        · have := h2 e; omega
        · omega
    · intro m g _ hm hJ
      rw [nI_clamp (by omega)] at hm
      have hm1 : m < 1024 := by omega
      have nb : ∀ x y, x < 1024 → y < 1024 → ((nI x = nI y) = (x = y)) := fun x y hx hy => propext (nI_eq (by omega) (by omega))
      have hstep : ¬ (q_cand R s a m ∧ q_pc 10 m = n) → ∀ c, q_cand R s a c → q_pc 10 c = n → m + 1 ≤ c := fun hno c hc hp => by
        have h1 := hJ c hc hp
        by_cases e : c = m
        · subst e; exact absurd ⟨hc, hp⟩ hno
        · omega
      unfold m_X6_found_L61 ap
      rw [q_and]
      simp only [nb _ _ (q_and_lt hm1) hm1]
      by_cases c1 : m &&& a = m
      · simp only [c1, if_true]
        rw [q_bits hm1]
        have hpl := q_pc_le 10 m
        simp only [nb _ _ (show q_pc 10 m < 1024 by omega) (show n < 1024 by omega)]
        by_cases c2 : q_pc 10 m = n
        · simp only [c2, if_true]
          rw [q_not ha hm1]
          have hag := q_agrees (ns := ns) (nc := nc) (B := B) (σ := sA (sA (sA σ 47 g) 48 y38.2.2) 49 y48.2) (R := R) hW hW8 hS hns hR (by rw [sA_ne (a := 43) (by omega), sA_ne (a := 43) (by omega), sA_ne (a := 43) (by omega), sA_ne (a := 44) (by omega), sA_ne (a := 44) (by omega), sA_ne (a := 44) (by omega), sA_ne (a := 45) (by omega), sA_ne (a := 45) (by omega), sA_ne (a := 45) (by omega)]; exact hv) (by rw [sA_ne (a := 48) (by omega), sA_at]; exact hb) (by
            rw [sA_ne (a := 43) (by omega), sA_ne (a := 43) (by omega), sA_ne (a := 43) (by omega), sA_ne (a := 44) (by omega), sA_ne (a := 44) (by omega), sA_ne (a := 44) (by omega), sA_ne (a := 45) (by omega), sA_ne (a := 45) (by omega), sA_ne (a := 45) (by omega), sA_at, hs]; exact hbad) (h := a &&& (1023 ^^^ m)) (q_and_lt ha) (fun t ht => by
              rw [q_keep ha, Bool.and_eq_true] at ht
              exact han t ht.1) rfl
          rw [sA_ne (a := 43) (by omega), sA_ne (a := 43) (by omega), sA_ne (a := 43) (by omega), sA_ne (a := 44) (by omega), sA_ne (a := 44) (by omega), sA_ne (a := 44) (by omega), sA_ne (a := 45) (by omega), sA_ne (a := 45) (by omega), sA_ne (a := 45) (by omega), hs] at hag
          rcases hag with ⟨a1, a2⟩ | ⟨a1, a2⟩
          · simp only [a1, q_one, if_false]
            refine ⟨rfl, rfl, m, hm1, rfl, ⟨⟨q_sub_of c1, q_ex a2.1⟩, fun c hc => ?_⟩, a2⟩
            have h1 := hI c hc
            have h2 := hJ c hc
            by_cases e : q_pc 10 c = n
            · exact Or.inr ⟨by omega, h2 e⟩
            · exact Or.inl (by omega)
          · simp only [a1, q_zer, if_true]
            exact hstep (fun q => a2 q.1.2)
        · simp only [c2, if_false]
          exact hstep (fun q => c2 q.2)
      · simp only [c1, if_false]
        exact hstep (fun q => c1 (q_sub_le q.1.1))

def q_Cl (n : Nat) (M : Nat → Nat → Int) : Prop := (∀ a, a < n → M a a = 0) ∧ ∀ a b c, a < n → b < n → c < n → M a c ≤ M a b + M b c
def q_So (n : Nat) (M : Nat → Nat → Int) (x : Nat → Int) : Prop := ∀ a b, a < n → b < n → x b - x a ≤ M a b
def q_Is (n : Nat) (P : (Nat → Int) → Prop) (M : Nat → Nat → Int) : Prop := q_Cl n M ∧ ∀ x, q_So n M x ↔ P x
theorem q_at {n : Nat} {M : Nat → Nat → Int} (h : q_Cl n M) {a b : Nat} (ha : a < n) : q_So n M (fun c => M a c) := by
  intro c d hc hd
  have := h.2 a c d ha hc hd
  show M a d - M a c ≤ M c d
  omega
theorem q_le {n : Nat} {M M' : Nat → Nat → Int} (h : q_Cl n M) (hs : ∀ x, q_So n M x → q_So n M' x) {a b : Nat} (ha : a < n) (hb : b < n) : M a b ≤ M' a b := by
  have h1 := hs _ (q_at (b := b) h ha) a b ha hb
  have h2 := h.1 a ha
  omega
theorem q_uniq {n : Nat} {P Q : (Nat → Int) → Prop} {M M' : Nat → Nat → Int} (h : q_Is n P M) (h' : q_Is n Q M') (hPQ : ∀ x, P x ↔ Q x) {a b : Nat} (ha : a < n) (hb : b < n) : M a b = M' a b := by
  have h1 := q_le h.1 (M' := M') (fun x hx => (h'.2 x).mpr ((hPQ x).mp ((h.2 x).mp hx))) ha hb
  have h2 := q_le h'.1 (M' := M) (fun x hx => (h.2 x).mpr ((hPQ x).mpr ((h'.2 x).mp hx))) ha hb
  omega
theorem q_ex {n : Nat} {P : (Nat → Int) → Prop} {M : Nat → Nat → Int} (h : q_Is n P M) : ∃ x, P x := by
  by_cases hn : 0 < n
  · exact ⟨_, (h.2 _).mp (q_at (b := 0) h.1 hn)⟩
  · exact ⟨fun _ => 0, (h.2 _).mp (fun a b ha => absurd ha (by omega))⟩
theorem q_cg {n : Nat} {P Q : (Nat → Int) → Prop} {M : Nat → Nat → Int} (h : q_Is n P M) (hPQ : ∀ x, P x ↔ Q x) : q_Is n Q M := ⟨h.1, fun x => (h.2 x).trans (hPQ x)⟩
theorem q_So_cg {n : Nat} {M M' : Nat → Nat → Int} (e : ∀ a b, a < n → b < n → M a b = M' a b) (x : Nat → Int) : q_So n M x ↔ q_So n M' x :=
  ⟨fun h a b ha hb => e a b ha hb ▸ h a b ha hb, fun h a b ha hb => e a b ha hb ▸ h a b ha hb⟩
theorem q_Cl_cg {n : Nat} {M M' : Nat → Nat → Int} (e : ∀ a b, a < n → b < n → M a b = M' a b) (h : q_Cl n M) : q_Cl n M' := by
  refine ⟨fun a ha => e a a ha ha ▸ h.1 a ha, fun a b c ha hb hc => ?_⟩
  rw [← e a c ha hc, ← e a b ha hb, ← e b c hb hc]
  exact h.2 a b c ha hb hc
theorem q_Is_cg {n : Nat} {P : (Nat → Int) → Prop} {M M' : Nat → Nat → Int} (e : ∀ a b, a < n → b < n → M a b = M' a b) (h : q_Is n P M) : q_Is n P M' :=
  ⟨q_Cl_cg e h.1, fun x => (q_So_cg e x).symm.trans (h.2 x)⟩
def q_add (M : Nat → Nat → Int) (i j : Nat) (v : Int) : Nat → Nat → Int := fun a b => if M a i + v + M j b < M a b then M a i + v + M j b else M a b
theorem q_add_le {M : Nat → Nat → Int} {i j : Nat} {v : Int} (a b : Nat) : q_add M i j v a b ≤ M a b ∧ q_add M i j v a b ≤ M a i + v + M j b ∧ (q_add M i j v a b = M a b ∨ q_add M i j v a b = M a i + v + M j b) := by
  unfold q_add
  split
  · exact ⟨by omega, by omega, Or.inr rfl⟩
  · exact ⟨by omega, by omega, Or.inl rfl⟩
theorem q_add_is {n : Nat} {P : (Nat → Int) → Prop} {M : Nat → Nat → Int} (h : q_Is n P M) {i j : Nat} (hi : i < n) (hj : j < n) {v : Int} (hv : 0 ≤ M j i + v) : q_Is n (fun x => P x ∧ x j - x i ≤ v) (q_add M i j v) := by
  have h0 := h.1.1
  have ht := h.1.2
  have hle := fun a b => @q_add_le M i j v a b
  refine ⟨⟨fun a ha => ?_, fun a b c ha hb hc => ?_⟩, fun x => ⟨fun hx => ⟨(h.2 x).mp (fun a b ha hb => ?_), ?_⟩, fun hx a b ha hb => ?_⟩⟩
  · have h1 := ht j a i hj ha hi
    have h2 := h0 a ha
    rcases (hle a a) with ⟨k1, k2, k3 | k3⟩ <;> omega
  · have e1 := ht a b c ha hb hc
    have e2 := ht a b i ha hb hi
    have e3 := ht j b c hj hb hc
    have e4 := ht j b i hj hb hi
    rcases hle a b with ⟨-, -, k3 | k3⟩ <;> rcases hle b c with ⟨-, -, m3 | m3⟩ <;> rcases hle a c with ⟨c1, c2, -⟩ <;> omega
  · have := hx a b ha hb
    have := (hle a b).1
    omega
  · have h1 := hx i j hi hj
    have h2 := (hle i j).2.1
    have h3 := h0 i hi
    have h4 := h0 j hj
    omega
  · have h1 := (h.2 x).mpr hx.1
    have h2 := h1 a b ha hb
    have h3 := h1 a i ha hi
    have h4 := h1 j b hj hb
    have h5 := hx.2
    rcases hle a b with ⟨-, -, k3 | k3⟩ <;> omega
theorem q_add_no {n : Nat} {P : (Nat → Int) → Prop} {M : Nat → Nat → Int} (h : q_Is n P M) {i j : Nat} (hi : i < n) (hj : j < n) {v : Int} (hv : M j i + v < 0) : ¬ ∃ x, P x ∧ x j - x i ≤ v := by
  rintro ⟨x, hP, hx⟩
  have := (h.2 x).mpr hP j i hj hi
  omega
theorem q_add_id {n : Nat} {M : Nat → Nat → Int} (h : q_Cl n M) {i j : Nat} (hi : i < n) (hj : j < n) {v : Int} (hv : M i j ≤ v) {a b : Nat} (ha : a < n) (hb : b < n) : q_add M i j v a b = M a b := by
  have h1 := h.2 a i b ha hi hb
  have h2 := h.2 i j b hi hj hb
  unfold q_add
  rw [if_neg (by omega)]
theorem q_bnd {n : Nat} {P : (Nat → Int) → Prop} {M : Nat → Nat → Int} (h : q_Is n P M) (hP : ∀ x, P x → ∀ a, a < n → 0 ≤ x a - x 0 ∧ x a - x 0 ≤ 60) {a b : Nat} (ha : a < n) (hb : b < n) : -60 ≤ M a b ∧ M a b ≤ 60 := by
  have h1 := (h.2 _).mp (q_at (b := b) h.1 ha)
  have h2 := (h.2 _).mp (q_at (b := b) h.1 hb)
  have k1 := hP _ h1 a ha
  have k2 := hP _ h1 b hb
  have k3 := hP _ h2 a ha
  have k4 := hP _ h2 b hb
  have e1 := h.1.1 a ha
  have e2 := h.1.1 b hb
  have e3 := h.1.2 a b a ha hb ha
  omega
theorem nI_mul (a b : Nat) : nI a * nI b = nI (a * b) := (Int32.ofNat_mul a b).symm
theorem q_tadd {a b : Int32} (h1 : -2147483648 ≤ a.toInt + b.toInt) (h2 : a.toInt + b.toInt < 2147483648) : (a + b).toInt = a.toInt + b.toInt := by
  rw [Int32.toInt_add]
  exact Int.bmod_eq_of_le (by omega) (by omega)
theorem q_tsub {a b : Int32} (h1 : -2147483648 ≤ a.toInt - b.toInt) (h2 : a.toInt - b.toInt < 2147483648) : (a - b).toInt = a.toInt - b.toInt := by
  rw [Int32.toInt_sub]
  exact Int.bmod_eq_of_le (by omega) (by omega)
theorem q_tneg {a : Int32} (h1 : -2147483648 < a.toInt) (h2 : a.toInt < 2147483648) : (-a).toInt = -a.toInt := by
  rw [Int32.toInt_neg]
  exact Int.bmod_eq_of_le (by omega) (by omega)
theorem q_lt {a b : Int32} : a < b ↔ a.toInt < b.toInt := Int32.lt_iff_toInt_lt
theorem q_lei {a b : Int32} : a ≤ b ↔ a.toInt ≤ b.toInt := Int32.le_iff_toInt_le
theorem q_eqi {a b : Int32} : a = b ↔ a.toInt = b.toInt := Int32.toInt_inj.symm
theorem q_nt {n : Nat} (h : n < 2147483648) : (nI n).toInt = n := nI_toInt (by omega)
theorem q_ite {P : Prop} [Decidable P] {a b : Int32} : (if P then a else b).toInt = if P then a.toInt else b.toInt := by split <;> rfl
theorem q_ix {a b n : Nat} (hn : n ≤ 33) (ha : a ≤ 33) (hb : b ≤ 33) : ((nI a * nI n) + nI b).toNatClampNeg = a * n + b := by
  rw [nI_mul, nI_add]
  have : a * n ≤ 33 * 33 := Nat.mul_le_mul ha hn
  exact nI_clamp (by omega)
theorem q_inj {n a b c d : Nat} (hb : b < n) (hd : d < n) (h : a * n + b = c * n + d) : a = c ∧ b = d := by
  have h1 : (a * n + b) / n = a := by rw [Nat.mul_comm, Nat.mul_add_div (by omega), Nat.div_eq_of_lt hb]; omega
  have h2 : (c * n + d) / n = c := by rw [Nat.mul_comm, Nat.mul_add_div (by omega), Nat.div_eq_of_lt hd]; omega
  have h3 : a = c := by rw [← h1, ← h2, h]
  subst h3
  exact ⟨rfl, by omega⟩
theorem q_lpe {ρ α : Type} {f : Nat → α → ρ ⊕ α} (I : Nat → α → Prop) (E : ρ → Prop) : ∀ {n i : Nat} {a : α}, I i a → (∀ j c, i ≤ j → j < i + n → I j c → (f j c).elim E (I (j + 1))) → (lpe f n i a).elim E (I (i + n))
  | 0, i, a, h0, _ => h0
  | n + 1, i, a, h0, hs => by
    have h1 := hs i a (Nat.le_refl _) (by omega) h0
    show ((f i a).elim Sum.inl (fun b => lpe f n (i + 1) b)).elim E (I (i + (n + 1)))
    cases e : f i a with
    | inl r => rw [e] at h1; exact h1
    | inr b =>
      rw [e] at h1
      rw [show i + (n + 1) = i + 1 + n by omega]
      exact q_lpe I E (n := n) (i := i + 1) (a := b) h1 (fun j c h1 h2 h3 => hs j c (by omega) (by omega) h3)
def q_cv (n : Nat) (f : Nat → Int32) : Nat → Nat → Int := fun a b => (f (a * n + b)).toInt
theorem q_upd {n : Nat} {f : Nat → Int32} {a b c d : Nat} {v : Int32} (hb : b < n) (hd : d < n) : q_cv n (upd f (c * n + d) v) a b = if a = c ∧ b = d then v.toInt else q_cv n f a b := by
  unfold q_cv upd
  by_cases h : a = c ∧ b = d
  · rw [if_pos h, if_pos (by rw [h.1, h.2])]
  · rw [if_neg h, if_neg (fun e => h (q_inj hb hd e))]
theorem q_clear {W S ns nc : Nat} {B : Nat → Option Nat} {σ : Nat → Nat → Int32} {g : Nat} (hn : W * S + 1 ≤ 33) : ∀ a b, a < W * S + 1 → b < W * S + 1 → q_cv (W * S + 1) (m_X1_clear W S ns nc B σ g) a b = if a = b ∨ b = 0 then 0 else 60 := by
  unfold m_X1_clear ap
  generalize hN : W * S + 1 = n at hn ⊢
  have key := q_lp (f := m_X1_clear_L2 W S ns nc B σ) (fun i c => ∀ a b, a < i → b < n → q_cv n c a b = if a = b ∨ b = 0 then 0 else 60) (n := n - 0) (i := 0) (a := σ (12 + 2 * g)) (fun a b h => absurd h (by omega)) ?_
  · intro a b ha hb
    exact key a b (by omega) hb
  · intro i c _ hi hI
    unfold m_X1_clear_L2 ap
    rw [hN]
    have k2 := q_lp (f := m_X1_clear_L12 W S ns nc B σ i) (fun j c' => ∀ a b, a < n → b < n → q_cv n c' a b = if a = i ∧ b < j then (if a = b ∨ b = 0 then 0 else 60) else q_cv n c a b) (n := n - 0) (i := 0) (a := c) (fun a b _ _ => by rw [if_neg (by omega)]) ?_
    · intro a b ha hb
      rw [k2 a b (by omega) hb]
      by_cases h : a = i
      · rw [if_pos ⟨h, by omega⟩]
      · rw [if_neg (by omega)]; exact hI a b (by omega) hb
    · intro j c' _ hj hJ a b ha hb
      have e1 : (nI 1 = (0 : Int32)) = False := by decide
      have e2 : (nI 0 = (0 : Int32)) = True := by decide
      have e3 : (nI i = nI j) = (i = j) := propext (nI_eq (by omega) (by omega))
      have e4 : (nI j = 0) = (j = 0) := by rw [← nI_0]; exact propext (nI_eq (by omega) (by omega))
      have e5 : (nI 0).toInt = 0 := rfl
      have e6 : (nI 60).toInt = 60 := rfl
      simp only [m_X1_clear_L12, ap, hN, e1, e2, e3, e4, if_false, if_true, ite_true, ite_false]
      rw [q_ix hn (by omega) (by omega)]
      by_cases h3 : i = j
      · rw [if_pos h3, q_upd hb (by omega), hJ a b ha hb, e5]
        by_cases h : a = i ∧ b = j
        · rw [if_pos h, if_pos (by omega), if_pos (by omega)]
        · rw [if_neg h]
          by_cases h6 : a = i ∧ b < j
          · rw [if_pos h6, if_pos (c := a = i ∧ b < j + 1) (by omega)]
          · rw [if_neg h6, if_neg (c := a = i ∧ b < j + 1) (by omega)]
      · rw [if_neg h3]
        by_cases h4 : j = 0
        · rw [if_pos h4, q_upd hb (by omega), hJ a b ha hb, e5]
          by_cases h : a = i ∧ b = j
          · rw [if_pos h, if_pos (by omega), if_pos (by omega)]
          · rw [if_neg h]
            by_cases h6 : a = i ∧ b < j
            · rw [if_pos h6, if_pos (c := a = i ∧ b < j + 1) (by omega)]
            · rw [if_neg h6, if_neg (c := a = i ∧ b < j + 1) (by omega)]
        · rw [if_neg h4, q_upd hb (by omega), hJ a b ha hb, e6]
          by_cases h : a = i ∧ b = j
          · rw [if_pos h, if_pos (by omega), if_neg (by omega)]
          · rw [if_neg h]
            by_cases h6 : a = i ∧ b < j
            · rw [if_pos h6, if_pos (c := a = i ∧ b < j + 1) (by omega)]
            · rw [if_neg h6, if_neg (c := a = i ∧ b < j + 1) (by omega)]
theorem q_upd2 {n : Nat} {f : Nat → Int32} {a b c d : Nat} {v : Int32} {r : Int} (hb : b < n) (hd : d < n) (h1 : a = c → b = d → v.toInt = r) (h2 : ¬ (a = c ∧ b = d) → q_cv n f a b = r) : q_cv n (upd f (c * n + d) v) a b = r := by
  rw [q_upd hb hd]
  by_cases h : a = c ∧ b = d
  · rw [if_pos h]; exact h1 h.1 h.2
  · rw [if_neg h]; exact h2 h
theorem q_nrow {W S ns nc : Nat} {B : Nat → Option Nat} {σ : Nat → Nat → Int32} (hn : W * S + 1 ≤ 33) {f : Nat → Int32} {t s : Nat} {x : Int32} (ht : t < W * S + 1) (hs : s < W * S + 1) (hts : s ≠ t) (hb : ∀ a b, a < W * S + 1 → b < W * S + 1 → -1000 ≤ q_cv (W * S + 1) f a b ∧ q_cv (W * S + 1) f a b ≤ 1000) (hx : -1000 ≤ x.toInt ∧ x.toInt ≤ 1000) :
    ∀ a b, a < W * S + 1 → b < W * S + 1 → q_cv (W * S + 1) (lp (m_X1_narrow_L73 W S ns nc B σ (nI t) s x) ((W * S + 1) - 0) 0 f) a b = if a = s then (if x.toInt + q_cv (W * S + 1) f t b < q_cv (W * S + 1) f s b then x.toInt + q_cv (W * S + 1) f t b else q_cv (W * S + 1) f s b) else q_cv (W * S + 1) f a b := by
  generalize hN : W * S + 1 = n at hn ht hs hb ⊢
  have k2 := q_lp (f := m_X1_narrow_L73 W S ns nc B σ (nI t) s x) (fun j c => ∀ a b, a < n → b < n → q_cv n c a b = if a = s ∧ b < j then (if x.toInt + q_cv n f t b < q_cv n f s b then x.toInt + q_cv n f t b else q_cv n f s b) else q_cv n f a b) (n := n - 0) (i := 0) (a := f) (fun a b _ _ => by rw [if_neg (by omega)]) ?_
  · intro a b ha hb
    rw [k2 a b ha hb]
    by_cases h : a = s
    · rw [if_pos h, if_pos ⟨h, by omega⟩]
    · rw [if_neg h, if_neg (by omega)]
  · intro j c _ hj hJ a b ha hbn
    have hjn : j < n := by omega
    have h1 := hJ t j ht hjn
    rw [if_neg (by omega)] at h1
    have h2 := hJ s j hs hjn
    rw [if_neg (by omega)] at h2
    have b1 := hb t j ht hjn
    have b2 := hb s j hs hjn
    have h1' : (c (t * n + j)).toInt = q_cv n f t j := h1
    have h2' : (c (s * n + j)).toInt = q_cv n f s j := h2
    have e0 : (x + c (t * n + j)).toInt = x.toInt + q_cv n f t j := by rw [q_tadd (by omega) (by omega), h1']
    simp only [m_X1_narrow_L73, ap, hN]
    rw [q_ix hn (by omega) (by omega), q_ix hn (by omega) (by omega)]
    refine q_upd2 hbn hjn (fun q1 q2 => ?_) (fun q => ?_)
    · subst q1 q2
      rw [if_pos (c := a = a ∧ b < b + 1) ⟨rfl, by omega⟩, q_ite, e0, h2']
      simp only [q_lt, e0, h2']
    · rw [hJ a b ha hbn]
      by_cases h6 : a = s ∧ b < j
      · rw [if_pos h6, if_pos (c := a = s ∧ b < j + 1) (by omega)]
      · rw [if_neg h6, if_neg (c := a = s ∧ b < j + 1) (by omega)]
theorem q_narrow {W S ns nc : Nat} {B : Nat → Option Nat} {σ : Nat → Nat → Int32} {g : Nat} {P : (Nat → Int) → Prop} (hn : W * S + 1 ≤ 33) {i j : Nat} {w : Int32} (hi : i < W * S + 1) (hj : j < W * S + 1) (h : q_Is (W * S + 1) P (q_cv (W * S + 1) (σ (12 + 2 * g)))) (hb : ∀ a b, a < W * S + 1 → b < W * S + 1 → -200 ≤ q_cv (W * S + 1) (σ (12 + 2 * g)) a b ∧ q_cv (W * S + 1) (σ (12 + 2 * g)) a b ≤ 200) (hw : -200 ≤ w.toInt ∧ w.toInt ≤ 200) (hf : 0 ≤ q_cv (W * S + 1) (σ (12 + 2 * g)) j i + w.toInt) :
    ∀ a b, a < W * S + 1 → b < W * S + 1 → q_cv (W * S + 1) (m_X1_narrow W S ns nc B σ g (nI i) (nI j) w) a b = q_add (q_cv (W * S + 1) (σ (12 + 2 * g))) i j w.toInt a b := by
  generalize hF : σ (12 + 2 * g) = f at h hb hf ⊢
  have hnr := fun c s x => @q_nrow W S ns nc B σ hn c j s x hj
  unfold m_X1_narrow
  rw [hF]
  generalize hN : W * S + 1 = n at hn hi hj h hb hf hnr ⊢
  rw [q_ix hn (by omega) (by omega)]
  by_cases hc : w < f (i * n + j)
  · rw [if_pos hc]
    unfold ap
    have k2 := q_lp (f := m_X1_narrow_L21 W S ns nc B σ (nI i) (nI j) w) (fun s c => ∀ a b, a < n → b < n → q_cv n c a b = if a < s then q_add (q_cv n f) i j w.toInt a b else q_cv n f a b) (n := n - 0) (i := 0) (a := f) (fun a b _ _ => by rw [if_neg (by omega)]) ?_
    · intro a b ha hb
      rw [k2 a b ha hb, if_pos (by omega)]
    · intro s c _ hs hI a b ha hbn
      have hsn : s < n := by omega
      have hqa := fun a b (ha : a < n) (hb' : b < n) => show -600 ≤ q_add (q_cv n f) i j w.toInt a b ∧ q_add (q_cv n f) i j w.toInt a b ≤ 600 by
        have := @q_add_le (q_cv n f) i j w.toInt a b
        have h1 := hb a b ha hb'
        have h2 := hb a i ha hi
        have h3 := hb j b hj hb'
        omega
      have hrow : ∀ b, b < n → q_add (q_cv n f) i j w.toInt j b = q_cv n f j b := fun b hb' => by
        unfold q_add
        have := h.1.1 j hj
        rw [if_neg (by omega)]
      have hcj : ∀ b, b < n → q_cv n c j b = q_cv n f j b := fun b hb' => by
        rw [hI j b hj hb']
        split
        · exact hrow b hb'
        · rfl
      have hcs : ∀ b, b < n → q_cv n c s b = q_cv n f s b := fun b hb' => by
        rw [hI s b hsn hb', if_neg (by omega)]
      have e1 : (c (s * n + i)).toInt = q_cv n f s i := hcs i hi
      have e2 : (c (s * n + j)).toInt = q_cv n f s j := hcs j hj
      have b1 := hb s i hsn hi
      have b2 := hb s j hsn hj
      have ex : (c (s * n + i) + w).toInt = q_cv n f s i + w.toInt := by rw [q_tadd (by omega) (by omega), e1]
      simp only [m_X1_narrow_L21, ap, hN]
      rw [q_ix hn (by omega) (by omega), q_ix hn (by omega) (by omega)]
      by_cases hcc : c (s * n + i) + w < c (s * n + j)
      · rw [if_pos hcc]
        rw [q_lt, ex, e2] at hcc
        have hsj : s ≠ j := by
          intro e
          subst e
          have := h.1.1 s hj
          omega
        rw [hnr c s _ hsn hsj (fun a b ha hb' => by
          rw [hI a b ha hb']
          have h1 := hqa a b ha hb'
          have h2 := hb a b ha hb'
          split <;> omega) (by rw [ex]; omega) a b ha hbn, ex]
        by_cases has : a = s
        · subst has
          rw [if_pos rfl, hcj b hbn, hcs b hbn, if_pos (c := a < a + 1) (by omega)]
          unfold q_add
          by_cases hz : q_cv n f a i + w.toInt + q_cv n f j b < q_cv n f a b
          · rw [if_pos hz]
          · rw [if_neg hz]
        · rw [if_neg has, hI a b ha hbn]
          by_cases h6 : a < s
          · rw [if_pos h6, if_pos (c := a < s + 1) (by omega)]
          · rw [if_neg h6, if_neg (c := a < s + 1) (by omega)]
      · rw [if_neg hcc, hI a b ha hbn]
        rw [q_lt, ex, e2] at hcc
        by_cases has : a = s
        · subst has
          rw [if_neg (by omega), if_pos (by omega)]
          unfold q_add
          have := h.1.2 a j b ha hj hbn
          rw [if_neg (by omega)]
        · by_cases h6 : a < s
          · rw [if_pos h6, if_pos (c := a < s + 1) (by omega)]
          · rw [if_neg h6, if_neg (c := a < s + 1) (by omega)]
  · rw [if_neg hc]
    intro a b ha hb'
    refine (q_add_id h.1 hi hj ?_ ha hb').symm
    rw [q_lt] at hc
    show (f (i * n + j)).toInt ≤ _
    omega
def q_Dp (n : Nat) (P : (Nat → Int) → Prop) : Prop := ∀ x, P x → ∀ a, a < n → 0 ≤ x a - x 0 ∧ x a - x 0 ≤ 60
theorem q_place {W S ns nc : Nat} {B : Nat → Option Nat} {σ : Nat → Nat → Int32} {g i : Nat} (hn : W * S + 1 ≤ 33) (hi : i < W * S + 1) : m_X1_isPlace W S ns nc B σ g (nI i) = nI 1 := by
  unfold m_X1_isPlace
  rw [if_neg (nI_pos (by omega)), if_neg (fun h => by have := (nI_leI (by omega) (by omega)).mp h; omega)]
theorem q_hold {W S ns nc : Nat} {B : Nat → Option Nat} {σ : Nat → Nat → Int32} {g : Nat} {P : (Nat → Int) → Prop} (hn : W * S + 1 ≤ 33) {i j : Nat} {lo hi : Int32} (hin : i < W * S + 1) (hjn : j < W * S + 1) (h : q_Is (W * S + 1) P (q_cv (W * S + 1) (σ (12 + 2 * g)))) (hP : q_Dp (W * S + 1) P) (hlo : -200 ≤ lo.toInt ∧ lo.toInt ≤ 200) (hhi : -200 ≤ hi.toInt ∧ hi.toInt ≤ 200) {z : Int32 × (Nat → Int32)} (hz : m_X1_hold W S ns nc B σ g (nI i) (nI j) lo hi = z) :
    (z.1 = nI 1 ∧ q_Is (W * S + 1) (fun x => P x ∧ lo.toInt ≤ x j - x i ∧ x j - x i ≤ hi.toInt) (q_cv (W * S + 1) z.2)) ∨ (z.1 = nI 0 ∧ ¬ ∃ x, P x ∧ lo.toInt ≤ x j - x i ∧ x j - x i ≤ hi.toInt) := by
  have hb := fun a b ha hb => q_bnd h hP (a := a) (b := b) ha hb
  unfold m_X1_hold ap at hz
  rw [q_place hn hin] at hz
  simp only [q_place hn hjn, show (nI 1 = (0 : Int32)) = False by decide, if_false] at hz
  rw [q_ix hn (by omega) (by omega), q_ix hn (by omega) (by omega)] at hz
  have hji : (σ (12 + 2 * g) (j * (W * S + 1) + i)).toInt = q_cv (W * S + 1) (σ (12 + 2 * g)) j i := rfl
  have hij : (σ (12 + 2 * g) (i * (W * S + 1) + j)).toInt = q_cv (W * S + 1) (σ (12 + 2 * g)) i j := rfl
  have b1 := hb j i hjn hin
  have b2 := hb i j hin hjn
  by_cases c1 : lo ≤ hi
  · rw [if_pos c1] at hz
    by_cases c2 : hi < -σ (12 + 2 * g) (j * (W * S + 1) + i)
    · rw [if_pos c2] at hz
      subst hz
      refine Or.inr ⟨rfl, ?_⟩
      rw [q_lt, q_tneg (by omega) (by omega), hji] at c2
      rintro ⟨x, hx, h1, h2⟩
      exact q_add_no h hin hjn (v := hi.toInt) (by omega) ⟨x, hx, h2⟩
    · rw [if_neg c2] at hz
      rw [q_lt, q_tneg (by omega) (by omega), hji] at c2
      by_cases c3 : lo ≤ σ (12 + 2 * g) (i * (W * S + 1) + j)
      · rw [if_pos c3] at hz
        rw [q_lei, hij] at c3
        rw [q_lei] at c1
        subst hz
        refine Or.inl ⟨rfl, ?_⟩
        have n1 := q_narrow (ns := ns) (nc := nc) (B := B) (σ := σ) (g := g) (w := hi) hn hin hjn h (fun a b ha hb' => by have := hb a b ha hb'; omega) hhi (by omega)
        have i1 := q_add_is h hin hjn (v := hi.toInt) (by omega)
        have i2 := q_Is_cg (fun a b ha hb => (n1 a b ha hb).symm) i1
        generalize m_X1_narrow W S ns nc B σ g (nI i) (nI j) hi = y at n1 i2 ⊢
        have hlo' : (-lo).toInt = -lo.toInt := q_tneg (by omega) (by omega)
        have hP2 : q_Dp (W * S + 1) (fun x => P x ∧ x j - x i ≤ hi.toInt) := fun x hx => hP x hx.1
        have hf : 0 ≤ q_cv (W * S + 1) y i j + (-lo).toInt := by
          rw [n1 i j hin hjn, hlo']
          have z1 := h.1.1 i hin
          have z2 := h.1.1 j hjn
          rcases (@q_add_le (q_cv (W * S + 1) (σ (12 + 2 * g))) i j hi.toInt i j) with ⟨-, -, k3 | k3⟩ <;> omega
        have n2 := q_narrow (ns := ns) (nc := nc) (B := B) (σ := sA σ (12 + 2 * g) y) (g := g) (w := -lo) (P := fun x => P x ∧ x j - x i ≤ hi.toInt) hn hjn hin (by rw [sA_at]; exact i2) (fun a b ha hb' => by rw [sA_at]; have := q_bnd i2 hP2 (a := a) (b := b) ha hb'; omega) (by rw [hlo']; omega) (by rw [sA_at]; exact hf)
        simp only [sA_at] at n2
        have i3 := q_add_is i2 hjn hin (v := (-lo).toInt) (by omega)
        refine q_cg (q_Is_cg (fun a b ha hb => (n2 a b ha hb).symm) i3) (fun x => ?_)
        rw [hlo']
        constructor
        · rintro ⟨⟨h1, h2⟩, h3⟩
          exact ⟨h1, by omega, h2⟩
        · rintro ⟨h1, h2, h3⟩
          exact ⟨⟨h1, h3⟩, by omega⟩
      · rw [if_neg c3] at hz
        rw [q_lei, hij] at c3
        subst hz
        refine Or.inr ⟨rfl, ?_⟩
        rintro ⟨x, hx, h1, h2⟩
        have := (h.2 x).mpr hx i j hin hjn
        omega
  · rw [if_neg c1] at hz
    subst hz
    rw [q_lei] at c1
    exact Or.inr ⟨rfl, by rintro ⟨x, hx, h1, h2⟩; omega⟩
theorem q_one : (nI 1 = (0 : Int32)) = False := by decide
theorem q_zer : (nI 0 = (0 : Int32)) = True := by decide
def q_tC (W S : Nat) (tf tt : Nat → Int) (k c : Nat) (x : Nat → Int) : Prop := k + 1 < S → tf k ≤ x (1 + (k + 1) * W + c) - x (1 + k * W + c) ∧ x (1 + (k + 1) * W + c) - x (1 + k * W + c) ≤ tt k
def q_sC (W S : Nat) (st th : Nat → Int) (k c : Nat) (x : Nat → Int) : Prop := c + 1 < W → th c - st k ≤ x (1 + k * W + (c + 1)) - x (1 + k * W + c) ∧ x (1 + k * W + (c + 1)) - x (1 + k * W + c) ≤ th c + st k
def q_RK (W S : Nat) (tf tt st th : Nat → Int) (m : Nat) (x : Nat → Int) : Prop := (∀ a, a < W * S + 1 → 0 ≤ x a - x 0 ∧ x a - x 0 ≤ 60) ∧ ∀ k c, k < S → c < W → k * W + c < m → q_tC W S tf tt k c x ∧ q_sC W S st th k c x
def q_rg (W S : Nat) (tf tt st th : Nat → Int) : Prop := (∀ k, k < S → 0 ≤ tf k ∧ tf k ≤ tt k ∧ tt k ≤ 60 ∧ 0 ≤ st k ∧ st k ≤ 60) ∧ ∀ c, c < W → -30 ≤ th c ∧ th c ≤ 30
theorem q_pl {W S k c : Nat} (hk : k < S) (hc : c < W) : 1 + k * W + c < W * S + 1 := by
  have : (k + 1) * W ≤ S * W := Nat.mul_le_mul_right W hk
  rw [Nat.add_mul, Nat.one_mul, Nat.mul_comm S W] at this
  omega
theorem q_hasS {W S ns nc : Nat} {B : Nat → Option Nat} {σ : Nat → Nat → Int32} {k : Nat} (hS : S ≤ 4) (hk : k ≤ 40) : m_X2_hasSurface W S ns nc B σ (nI k) = if k < S then nI 1 else nI 0 := by
  unfold m_X2_hasSurface
  rw [if_neg (nI_pos (by omega))]
  by_cases h : k < S
  · rw [if_neg (fun e => by have := (nI_leI (by omega) (by omega)).mp e; omega), if_pos h]
  · rw [if_pos ((nI_leI (by omega) (by omega)).mpr (by omega)), if_neg h]
theorem q_hasC {W S ns nc : Nat} {B : Nat → Option Nat} {σ : Nat → Nat → Int32} {k : Nat} (hS : W ≤ 8) (hk : k ≤ 40) : m_X2_hasColumn W S ns nc B σ (nI k) = if k < W then nI 1 else nI 0 := by
  unfold m_X2_hasColumn
  rw [if_neg (nI_pos (by omega))]
  by_cases h : k < W
  · rw [if_neg (fun e => by have := (nI_leI (by omega) (by omega)).mp e; omega), if_pos h]
  · rw [if_pos ((nI_leI (by omega) (by omega)).mpr (by omega)), if_neg h]
theorem q_hasN {W S ns nc : Nat} {B : Nat → Option Nat} {σ : Nat → Nat → Int32} {k : Nat} (hW : 1 ≤ W) (hS : W ≤ 8) (hk : k ≤ 40) : m_X2_hasNextColumn W S ns nc B σ (nI k) = if k + 1 < W then nI 1 else nI 0 := by
  unfold m_X2_hasNextColumn
  have e : nI W - nI 1 = nI (W - 1) := by
    rw [show W = (W - 1) + 1 by omega, ← nI_add]
    simp
  rw [if_neg (nI_pos (by omega)), e]
  by_cases h : k + 1 < W
  · rw [if_neg (fun e => by have := (nI_leI (by omega) (by omega)).mp e; omega), if_pos h]
  · rw [if_pos ((nI_leI (by omega) (by omega)).mpr (by omega)), if_neg h]
theorem q_hasP {W S ns nc : Nat} {B : Nat → Option Nat} {σ : Nat → Nat → Int32} {k c : Nat} (hW : W ≤ 8) (hS : S ≤ 4) (hk : k ≤ 40) (hc : c ≤ 40) : m_X2_hasPlace W S ns nc B σ (nI k) (nI c) = if k < S ∧ c < W then nI 1 else nI 0 := by
  unfold m_X2_hasPlace ap
  rw [q_hasS hS hk, q_hasC hW hc]
  by_cases h : k < S <;> by_cases h2 : c < W <;> simp [h, h2, q_one, q_zer]
theorem q_plO {W S ns nc : Nat} {B : Nat → Option Nat} {σ : Nat → Nat → Int32} {k c : Nat} : m_X2_placeOf W S ns nc B σ (nI k) (nI c) = nI (1 + k * W + c) := by
  unfold m_X2_placeOf
  rw [nI_mul, nI_add, nI_add]
theorem q_bThick {W S ns nc : Nat} {B : Nat → Option Nat} {σ : Nat → Nat → Int32} {g : Nat} {P : (Nat → Int) → Prop} (hn : W * S + 1 ≤ 33) (hW : W ≤ 8) (hS : S ≤ 4) {k c : Nat} (hk : k < S) (hc : c < W) {tf tt st th : Nat → Int} (hr : q_rg W S tf tt st th) (h2 : ∀ k, k < S → (σ 2 k).toInt = tf k) (h3 : ∀ k, k < S → (σ 3 k).toInt = tt k) (h : q_Is (W * S + 1) P (q_cv (W * S + 1) (σ (12 + 2 * g)))) (hP : q_Dp (W * S + 1) P) {z : Int32 × (Nat → Int32)} (hz : m_X2_bindThick W S ns nc B σ g (nI k) (nI c) = z) :
    (z.1 = nI 1 ∧ q_Is (W * S + 1) (fun x => P x ∧ q_tC W S tf tt k c x) (q_cv (W * S + 1) z.2)) ∨ (z.1 = nI 0 ∧ ¬ ∃ x, P x ∧ q_tC W S tf tt k c x) := by
  unfold m_X2_bindThick ap at hz
  rw [q_hasP hW hS (by omega) (by omega), if_pos ⟨hk, hc⟩, nI_add, q_hasS hS (by omega)] at hz
  simp only [q_one, if_false] at hz
  by_cases h1 : k + 1 < S
  · simp only [h1, if_true, q_one, if_false, q_plO] at hz
    rw [nI_clamp (by omega)] at hz
    have r := hr.1 k hk
    have e2 := h2 k hk
    have e3 := h3 k hk
    have hh := q_hold hn (q_pl hk hc) (q_pl h1 hc) h hP (lo := σ 2 k) (hi := σ 3 k) (by omega) (by omega) (ns := ns) (nc := nc) (B := B) rfl
    rw [← hz]
    rcases hh with ⟨a1, a2⟩ | ⟨a1, a2⟩
    · refine Or.inl ⟨a1, q_cg a2 (fun x => ?_)⟩
      rw [e2, e3]
      exact ⟨fun q => ⟨q.1, fun _ => q.2⟩, fun q => ⟨q.1, q.2 h1⟩⟩
    · refine Or.inr ⟨a1, ?_⟩
      rintro ⟨x, q1, q2⟩
      exact a2 ⟨x, q1, by rw [e2, e3]; exact q2 h1⟩
  · simp only [h1, if_false, q_zer, if_true] at hz
    subst hz
    exact Or.inl ⟨rfl, q_cg h (fun x => ⟨fun q => ⟨q, fun q2 => absurd q2 h1⟩, fun q => q.1⟩)⟩
theorem q_bStep {W S ns nc : Nat} {B : Nat → Option Nat} {σ : Nat → Nat → Int32} {g : Nat} {P : (Nat → Int) → Prop} (hn : W * S + 1 ≤ 33) (hW : W ≤ 8) (hS : S ≤ 4) {k c : Nat} (hk : k < S) (hc : c < W) {tf tt st th : Nat → Int} (hr : q_rg W S tf tt st th) (h4 : ∀ k, k < S → (σ 4 k).toInt = st k) (h5 : ∀ k, k < W → (σ 5 k).toInt = th k) (h : q_Is (W * S + 1) P (q_cv (W * S + 1) (σ (12 + 2 * g)))) (hP : q_Dp (W * S + 1) P) {z : Int32 × (Nat → Int32)} (hz : m_X2_bindStep W S ns nc B σ g (nI k) (nI c) = z) :
    (z.1 = nI 1 ∧ q_Is (W * S + 1) (fun x => P x ∧ q_sC W S st th k c x) (q_cv (W * S + 1) z.2)) ∨ (z.1 = nI 0 ∧ ¬ ∃ x, P x ∧ q_sC W S st th k c x) := by
  unfold m_X2_bindStep ap at hz
  rw [q_hasS hS (by omega), if_pos hk, q_hasN (by omega) hW (by omega)] at hz
  simp only [q_one, if_false] at hz
  by_cases h1 : c + 1 < W
  · simp only [h1, if_true, q_one, if_false, q_plO, nI_add] at hz
    rw [nI_clamp (by omega), nI_clamp (by omega)] at hz
    have r := hr.1 k hk
    have r2 := hr.2 c hc
    have e4 := h4 k hk
    have e5 := h5 c hc
    have t1 : (σ 5 c - σ 4 k).toInt = th c - st k := by rw [q_tsub (by omega) (by omega)]; omega
    have t2 : (σ 5 c + σ 4 k).toInt = th c + st k := by rw [q_tadd (by omega) (by omega)]; omega
    have hh := q_hold hn (q_pl hk hc) (q_pl hk h1) h hP (lo := σ 5 c - σ 4 k) (hi := σ 5 c + σ 4 k) (by omega) (by omega) (ns := ns) (nc := nc) (B := B) rfl
    rw [← hz]
    rcases hh with ⟨a1, a2⟩ | ⟨a1, a2⟩
    · refine Or.inl ⟨a1, q_cg a2 (fun x => ?_)⟩
      rw [t1, t2]
      exact ⟨fun q => ⟨q.1, fun _ => q.2⟩, fun q => ⟨q.1, q.2 h1⟩⟩
    · refine Or.inr ⟨a1, ?_⟩
      rintro ⟨x, q1, q2⟩
      exact a2 ⟨x, q1, by rw [t1, t2]; exact q2 h1⟩
  · simp only [h1, if_false, q_zer, if_true] at hz
    subst hz
    exact Or.inl ⟨rfl, q_cg h (fun x => ⟨fun q => ⟨q, fun q2 => absurd q2 h1⟩, fun q => q.1⟩)⟩
theorem q_RK_s {W S : Nat} {tf tt st th : Nat → Int} {k c : Nat} (hk : k < S) (hc : c < W) (x : Nat → Int) : ((q_RK W S tf tt st th (k * W + c) x ∧ q_tC W S tf tt k c x) ∧ q_sC W S st th k c x) ↔ q_RK W S tf tt st th (k * W + c + 1) x := by
  constructor
  · rintro ⟨⟨⟨h1, h2⟩, h3⟩, h4⟩
    refine ⟨h1, fun k' c' a b e => ?_⟩
    by_cases q : k' * W + c' < k * W + c
    · exact h2 k' c' a b q
    · have := q_inj (n := W) b hc (show k' * W + c' = k * W + c by omega)
      rw [this.1, this.2]
      exact ⟨h3, h4⟩
  · rintro ⟨h1, h2⟩
    exact ⟨⟨⟨h1, fun k' c' a b e => h2 k' c' a b (by omega)⟩, (h2 k c hk hc (by omega)).1⟩, (h2 k c hk hc (by omega)).2⟩
theorem q_RK_mono {W S : Nat} {tf tt st th : Nat → Int} {m m' : Nat} (h : m ≤ m') {x : Nat → Int} (hx : q_RK W S tf tt st th m' x) : q_RK W S tf tt st th m x := ⟨hx.1, fun k c a b e => hx.2 k c a b (by omega)⟩
theorem q_bind {W S ns nc : Nat} {B : Nat → Option Nat} {σ : Nat → Nat → Int32} {g : Nat} (hn : W * S + 1 ≤ 33) (hW : W ≤ 8) (hS : S ≤ 4) {tf tt st th : Nat → Int} (hr : q_rg W S tf tt st th) (h2 : ∀ k, k < S → (σ 2 k).toInt = tf k) (h3 : ∀ k, k < S → (σ 3 k).toInt = tt k) (h4 : ∀ k, k < S → (σ 4 k).toInt = st k) (h5 : ∀ k, k < W → (σ 5 k).toInt = th k) (h : q_Is (W * S + 1) (q_RK W S tf tt st th 0) (q_cv (W * S + 1) (σ (12 + 2 * g)))) {z : Int32 × (Nat → Int32)} (hz : m_X2_bind W S ns nc B σ g = z) :
    (z.1 = nI 1 ∧ q_Is (W * S + 1) (q_RK W S tf tt st th (W * S)) (q_cv (W * S + 1) z.2)) ∨ (z.1 = nI 0 ∧ ¬ ∃ x, q_RK W S tf tt st th (W * S) x) := by
  have hne : ∀ r, r < 6 → r ≠ 12 + 2 * g := fun r hr => by omega
  have key := q_lpe (f := m_X2_bind_L2 W S ns nc B σ g) (fun k c => q_Is (W * S + 1) (q_RK W S tf tt st th (k * W)) (q_cv (W * S + 1) c)) (fun r => r.1 = nI 0 ∧ ¬ ∃ x, q_RK W S tf tt st th (W * S) x) (n := S - 0) (i := 0) (a := σ (12 + 2 * g)) (by rw [Nat.zero_mul]; exact h) ?_
  · unfold m_X2_bind ap at hz
    cases e : lpe (m_X2_bind_L2 W S ns nc B σ g) (S - 0) 0 (σ (12 + 2 * g)) with
    | inl r =>
      rw [e] at hz key
      subst hz
      exact Or.inr key
    | inr r =>
      rw [e] at hz key
      subst hz
      refine Or.inl ⟨rfl, ?_⟩
      have : q_Is (W * S + 1) (q_RK W S tf tt st th ((0 + (S - 0)) * W)) (q_cv (W * S + 1) r) := key
      rwa [show (0 + (S - 0)) * W = W * S by rw [Nat.zero_add, Nat.sub_zero, Nat.mul_comm]] at this
  · intro k c _ hk hI
    have hkS : k < S := by omega
    have key2 := q_lpe (f := m_X2_bind_L12 W S ns nc B σ g k) (fun j c => q_Is (W * S + 1) (q_RK W S tf tt st th (k * W + j)) (q_cv (W * S + 1) c)) (fun r => r.1 = nI 0 ∧ ¬ ∃ x, q_RK W S tf tt st th (W * S) x) (n := W - 0) (i := 0) (a := c) hI ?_
    · unfold m_X2_bind_L2 ap
      cases e : lpe (m_X2_bind_L12 W S ns nc B σ g k) (W - 0) 0 c with
      | inl r => rw [e] at key2; exact key2
      | inr r =>
        rw [e] at key2
        have : q_Is (W * S + 1) (q_RK W S tf tt st th (k * W + (0 + (W - 0)))) (q_cv (W * S + 1) r) := key2
        rw [show k * W + (0 + (W - 0)) = (k + 1) * W by rw [Nat.zero_add, Nat.sub_zero, Nat.add_mul, Nat.one_mul]] at this
        exact this
    · intro j c' _ hj hJ
      have hjW : j < W := by omega
      have hpl := q_pl hkS hjW
      have d1 : q_Dp (W * S + 1) (q_RK W S tf tt st th (k * W + j)) := fun x hx => hx.1
      unfold m_X2_bind_L12 ap
      have t1 := q_bThick (ns := ns) (nc := nc) (B := B) (σ := sA σ (12 + 2 * g) c') (g := g) hn hW hS hkS hjW hr (by rw [sA_ne (hne 2 (by omega))]; exact h2) (by rw [sA_ne (hne 3 (by omega))]; exact h3) (by rw [sA_at]; exact hJ) d1 rfl
      rcases t1 with ⟨a1, a2⟩ | ⟨a1, a2⟩
      · simp only [a1, q_one, if_false]
        generalize (m_X2_bindThick W S ns nc B (sA σ (12 + 2 * g) c') g (nI k) (nI j)).2 = y at a2 ⊢
        have d2 : q_Dp (W * S + 1) (fun x => q_RK W S tf tt st th (k * W + j) x ∧ q_tC W S tf tt k j x) := fun x hx => hx.1.1
        have t2 := q_bStep (ns := ns) (nc := nc) (B := B) (σ := sA σ (12 + 2 * g) y) (g := g) hn hW hS hkS hjW hr (by rw [sA_ne (hne 4 (by omega))]; exact h4) (by rw [sA_ne (hne 5 (by omega))]; exact h5) (by rw [sA_at]; exact a2) d2 rfl
        rcases t2 with ⟨b1, b2⟩ | ⟨b1, b2⟩
        · simp only [b1, q_one, if_false]
          exact q_cg b2 (fun x => q_RK_s hkS hjW x)
        · simp only [b1, q_zer, if_true]
          exact ⟨rfl, fun ⟨x, hx⟩ => b2 ⟨x, (q_RK_s hkS hjW x).mpr (q_RK_mono (by omega) hx)⟩⟩
      · simp only [a1, q_zer, if_true]
        exact ⟨rfl, fun ⟨x, hx⟩ => a2 ⟨x, ((q_RK_s hkS hjW x).mpr (q_RK_mono (by omega) hx)).1⟩⟩
theorem q_clearIs {W S ns nc : Nat} {B : Nat → Option Nat} {σ : Nat → Nat → Int32} {g : Nat} (hn : W * S + 1 ≤ 33) {tf tt st th : Nat → Int} : q_Is (W * S + 1) (q_RK W S tf tt st th 0) (q_cv (W * S + 1) (m_X1_clear W S ns nc B σ g)) := by
  have hc := @q_clear W S ns nc B σ g hn
  refine ⟨⟨fun a ha => by rw [hc a a ha ha, if_pos (Or.inl rfl)], fun a b c ha hb hcc => ?_⟩, fun x => ⟨fun hx => ⟨fun a ha => ?_, fun k c _ _ h => absurd h (by omega)⟩, fun hx a b ha hb => ?_⟩⟩
  · rw [hc a c ha hcc, hc a b ha hb, hc b c hb hcc]
    by_cases e1 : a = c <;> by_cases e2 : c = 0 <;> by_cases e3 : a = b <;> by_cases e4 : b = 0 <;> by_cases e5 : b = c <;> simp [e1, e2, e3, e4, e5] <;> omega
  · have h1 := hx a 0 ha (by omega)
    have h2 := hx 0 a (by omega) ha
    rw [hc a 0 ha (by omega), if_pos (Or.inr rfl)] at h1
    rw [hc 0 a (by omega) ha] at h2
    by_cases e : a = 0
    · subst e; omega
    · rw [if_neg (by omega)] at h2
      omega
  · have h1 := hx.1 a ha
    have h2 := hx.1 b hb
    rw [hc a b ha hb]
    by_cases e : a = b
    · subst e; rw [if_pos (Or.inl rfl)]; omega
    · by_cases e0 : b = 0
      · subst e0; rw [if_pos (Or.inr rfl)]; omega
      · rw [if_neg (by omega)]; omega
def q_see (W k c d : Nat) (z m : Int) (x : Nat → Int) : Prop :=
  if d = 0 then z - m ≤ x (1 + k * W + c) - x 0 ∧ x (1 + k * W + c) - x 0 ≤ z + m
  else if d = 1 then z ≤ x (1 + k * W + c) - x 0
  else if d = 2 then x (1 + k * W + c) - x 0 ≤ z
  else z - m ≤ x (1 + k * W + (c + 1)) - x (1 + k * W + c) ∧ x (1 + k * W + (c + 1)) - x (1 + k * W + c) ≤ z + m
def q_seeV (W S k c d : Nat) (z m : Int) : Prop := k < S ∧ c < W ∧ d ≤ 3 ∧ (d = 3 → c + 1 < W) ∧ -60 ≤ z ∧ z ≤ 60 ∧ 0 ≤ m ∧ m ≤ 60
theorem q_seeX {W S ns nc : Nat} {B : Nat → Option Nat} {σ : Nat → Nat → Int32} {g q : Nat} {P : (Nat → Int) → Prop} (hn : W * S + 1 ≤ 33) (hW : W ≤ 8) (hS : S ≤ 4) {k c d : Nat} {z m : Int} (hv : q_seeV W S k c d z m) (h0 : σ q 0 = nI k) (h1 : σ q 1 = nI c) (h2 : σ q 2 = nI d) (h3 : (σ q 3).toInt = z) (h4 : (σ q 4).toInt = m) (h : q_Is (W * S + 1) P (q_cv (W * S + 1) (σ (12 + 2 * g)))) (hP : q_Dp (W * S + 1) P) {y : Int32 × (Nat → Int32)} (hy : m_X3_bind W S ns nc B σ q g = y) :
    (y.1 = nI 1 ∧ q_Is (W * S + 1) (fun x => P x ∧ q_see W k c d z m x) (q_cv (W * S + 1) y.2)) ∨ (y.1 = nI 0 ∧ ¬ ∃ x, P x ∧ q_see W k c d z m x) := by
  obtain ⟨v1, v2, v3, v4, v5, v6, v7, v8⟩ := hv
  have t1 : (σ q 3 - σ q 4).toInt = z - m := by rw [q_tsub (by omega) (by omega)]; omega
  have t2 : (σ q 3 + σ q 4).toInt = z + m := by rw [q_tadd (by omega) (by omega)]; omega
  have hp := q_pl v1 v2
  have ht0 : 0 < W * S + 1 := by omega
  unfold m_X3_bind ap at hy
  simp only [h0, h1, h2, q_plO, nI_add] at hy
  have e0 : (nI d = nI 0) = (d = 0) := propext (nI_eq (by omega) (by omega))
  have e1 : (nI d = nI 1) = (d = 1) := propext (nI_eq (by omega) (by omega))
  have e2 : (nI d = nI 2) = (d = 2) := propext (nI_eq (by omega) (by omega))
  simp only [e0, e1, e2] at hy
  rw [← hy]
  by_cases d0 : d = 0
  · simp only [d0, if_true]
    rcases q_hold hn ht0 hp h hP (lo := σ q 3 - σ q 4) (hi := σ q 3 + σ q 4) (by omega) (by omega) (ns := ns) (nc := nc) (B := B) rfl with ⟨a1, a2⟩ | ⟨a1, a2⟩
    · exact Or.inl ⟨a1, q_cg a2 (fun x => by rw [t1, t2]; exact Iff.rfl)⟩
    · refine Or.inr ⟨a1, ?_⟩
      rintro ⟨x, q1, q2⟩
      exact a2 ⟨x, q1, by rw [t1, t2]; exact q2⟩
  · simp only [d0, if_false]
    by_cases d1 : d = 1
    · simp only [d1, if_true]
      have e60 : (nI 60).toInt = 60 := rfl
      rcases q_hold hn ht0 hp h hP (lo := σ q 3) (hi := nI 60) (by omega) (by omega) (ns := ns) (nc := nc) (B := B) rfl with ⟨a1, a2⟩ | ⟨a1, a2⟩
      · refine Or.inl ⟨a1, q_cg a2 (fun x => ?_)⟩
        rw [h3, e60]
        exact ⟨fun q => ⟨q.1, q.2.1⟩, fun q => ⟨q.1, q.2, (hP x q.1 _ hp).2⟩⟩
      · refine Or.inr ⟨a1, ?_⟩
        rintro ⟨x, q1, q2⟩
        exact a2 ⟨x, q1, by rw [h3]; exact q2, by rw [e60]; exact (hP x q1 _ hp).2⟩
    · simp only [d1, if_false]
      by_cases d2 : d = 2
      · simp only [d2, if_true]
        have e60 : (nI 0).toInt = 0 := rfl
        rcases q_hold hn ht0 hp h hP (lo := nI 0) (hi := σ q 3) (by omega) (by omega) (ns := ns) (nc := nc) (B := B) rfl with ⟨a1, a2⟩ | ⟨a1, a2⟩
        · refine Or.inl ⟨a1, q_cg a2 (fun x => ?_)⟩
          rw [h3, e60]
          exact ⟨fun q => ⟨q.1, q.2.2⟩, fun q => ⟨q.1, (hP x q.1 _ hp).1, q.2⟩⟩
        · refine Or.inr ⟨a1, ?_⟩
          rintro ⟨x, q1, q2⟩
          exact a2 ⟨x, q1, by rw [e60]; exact (hP x q1 _ hp).1, by rw [h3]; exact q2⟩
      · have d3 : d = 3 := by omega
        have hp2 := q_pl v1 (v4 d3)
        simp only [d2, if_false]
        rcases q_hold hn hp hp2 h hP (lo := σ q 3 - σ q 4) (hi := σ q 3 + σ q 4) (by omega) (by omega) (ns := ns) (nc := nc) (B := B) rfl with ⟨a1, a2⟩ | ⟨a1, a2⟩
        · refine Or.inl ⟨a1, q_cg a2 (fun x => ?_)⟩
          rw [t1, t2]
          unfold q_see
          rw [if_neg d0, if_neg d1, if_neg d2]
        · refine Or.inr ⟨a1, ?_⟩
          rintro ⟨x, q1, q2⟩
          unfold q_see at q2
          rw [if_neg d0, if_neg d1, if_neg d2] at q2
          exact a2 ⟨x, q1, by rw [t1, t2]; exact q2⟩

def q_pc : Nat → Nat → Nat
  | 0, _ => 0
  | n + 1, h => q_pc n h + (if h.testBit n then 1 else 0)
theorem q_and (a b : Nat) : nI a &&& nI b = nI (a &&& b) := by
  unfold nI
  apply Int32.toBitVec_inj.mp
  simp [Int32.toBitVec_and, Int32.toBitVec_ofNat']
theorem q_shr : ∀ k : Nat, k < 10 → ∀ h : Nat, h < 1024 → (nI h >>> (nI k &&& 31)) &&& nI 1 = nI (if h.testBit k then 1 else 0) := by decide +kernel
theorem q_bc {W S ns nc : Nat} {B : Nat → Option Nat} {σ : Nat → Nat → Int32} {h : Nat} (hh : h < 1024) : m_J6_bitCount_0f7a4 W S ns nc B σ (nI h) = nI (q_pc 10 h) := by
  have : ∀ h : Nat, h < 1024 → m_J6_bitCount_0f7a4 0 0 0 0 (fun _ => none) (fun _ _ => 0) (nI h) = nI (q_pc 10 h) := by decide +kernel
  exact this h hh
theorem q_not {a h : Nat} (ha : a < 1024) (hh : h < 1024) : nI a &&& (nI h ^^^ (-1)) = nI (a &&& (1023 ^^^ h)) := by
  unfold nI
  apply Int32.toBitVec_inj.mp
  apply BitVec.eq_of_getLsbD_eq
  intro i hi
  have e : (Int32.toBitVec (-1)) = BitVec.allOnes 32 := by decide
  rw [Int32.toBitVec_and, Int32.toBitVec_xor, e]
  simp only [Int32.toBitVec_ofNat', BitVec.getLsbD_and, BitVec.getLsbD_xor, BitVec.getLsbD_allOnes, BitVec.getLsbD_ofNat, hi, decide_true, Bool.true_and, Nat.testBit_and, Nat.testBit_xor]
  by_cases c : i < 10
  · have : Nat.testBit 1023 i = true := by
      have : ∀ i, i < 10 → Nat.testBit 1023 i = true := by decide
      exact this i c
    rw [this]
    cases h.testBit i <;> simp
  · have : a.testBit i = false := Nat.testBit_lt_two_pow (Nat.lt_of_lt_of_le (show a < 2 ^ 10 from ha) (Nat.pow_le_pow_right (n := 2) (by omega) (show 10 ≤ i by omega)))
    rw [this]; simp
theorem q_hp {W S ns nc : Nat} {B : Nat → Option Nat} {σ : Nat → Nat → Int32} (hn : nc ≤ 10) : ∃ aN : Nat, aN < 1024 ∧ m_X4_heap W S ns nc B σ = nI aN ∧ ∀ k, aN.testBit k = (decide (k < nc) && (B k).isSome) := by
  have e : ∀ i a : Nat, i < nc → m_X4_heap_L4 W S ns nc B σ i (nI a) = if (B i).isSome then nI (a ||| 2 ^ i) else nI a := fun i a hi => by
    unfold m_X4_heap_L4 ap m_X4_at
    rw [if_neg (nI_pos (by omega)), if_neg (fun h => by have := (nI_leI (by omega) (by omega)).mp h; omega), nI_clamp (by omega)]
    cases B i with
    | none => rfl
    | some q => show nI a ||| (nI 1 <<< (nI i &&& 31)) = _; rw [q_shl i (by omega), q_or]; rfl
  have := q_lp (f := m_X4_heap_L4 W S ns nc B σ) (fun i c => ∃ aN : Nat, aN < 1024 ∧ c = nI aN ∧ ∀ k, aN.testBit k = (decide (k < i) && (B k).isSome)) (n := nc - 0) (i := 0) (a := nI 0) ⟨0, by omega, rfl, fun k => by simp⟩ ?_
  · rw [Nat.zero_add, Nat.sub_zero] at this
    exact this
  · rintro j c _ hj ⟨a, ha, rfl, hb⟩
    rw [e j a (by omega)]
    cases hp : (B j).isSome with
    | false =>
      refine ⟨a, ha, by simp, fun k => ?_⟩
      rw [hb k]
      by_cases e : k = j
      · subst e; simp [hp]
      · have : (k < j) ↔ (k < j + 1) := by omega
        simp [this]
    | true =>
      refine ⟨a ||| 2 ^ j, q_or_lt ha (q_two (by omega)), by simp, fun k => ?_⟩
      rw [Nat.testBit_or, hb k, Nat.testBit_two_pow]
      by_cases e : k = j
      · subst e; simp [hp]
      · have : (k < j) ↔ (k < j + 1) := by omega
        simp [this, Ne.symm e]
theorem q_bits {W S ns nc : Nat} {B : Nat → Option Nat} {σ : Nat → Nat → Int32} {h : Nat} (hh : h < 1024) : m_X6_bits W S ns nc B σ (nI h) = nI (q_pc 10 h) := by
  unfold m_X6_bits ap
  have := q_lp (f := m_X6_bits_L4 W S ns nc B σ (nI h)) (fun i c => c = nI (q_pc i h)) (n := 10 - 0) (i := 0) (a := nI 0) rfl ?_
  · exact this
  · rintro j c _ hj rfl
    unfold m_X6_bits_L4 ap
    rw [q_shr j (by omega) h hh, nI_add]
    rfl
theorem q_pc_sub {a c : Nat} (hs : ∀ k, c.testBit k = true → a.testBit k = true) : ∀ n, q_pc n c ≤ q_pc n a ∧ (q_pc n c = q_pc n a → ∀ k, k < n → c.testBit k = a.testBit k)
  | 0 => ⟨Nat.le_refl _, fun _ k hk => absurd hk (by omega)⟩
  | n + 1 => by
    have ⟨h1, h2⟩ := q_pc_sub hs n
    have h3 := hs n
    unfold q_pc
    cases hc : c.testBit n <;> cases ha : a.testBit n
    · refine ⟨by simpa using h1, fun e k hk => ?_⟩
      simp at e
      by_cases q : k = n
      · subst q; rw [hc, ha]
      · exact h2 e k (by omega)
    · refine ⟨by simp; omega, fun e => by simp at e; omega⟩
    · rw [hc, ha] at h3; simp at h3
    · refine ⟨by simpa using h1, fun e k hk => ?_⟩
      simp at e
      by_cases q : k = n
      · subst q; rw [hc, ha]
      · exact h2 e k (by omega)
theorem q_pc_eq {a c : Nat} (ha : a < 1024) (hc : c < 1024) (hs : ∀ k, c.testBit k = true → a.testBit k = true) (h : q_pc 10 c = q_pc 10 a) : c = a := by
  apply Nat.eq_of_testBit_eq
  intro k
  by_cases q : k < 10
  · exact (q_pc_sub hs 10).2 h k q
  · rw [q_tb ha (by omega), q_tb hc (by omega)]
theorem q_pc_le (n h : Nat) : q_pc n h ≤ n := by
  induction n with
  | zero => exact Nat.le_refl _
  | succ n ih => unfold q_pc; split <;> omega
theorem q_pc_or {a i : Nat} (hi : a.testBit i = false) : ∀ n, q_pc n (a ||| 2 ^ i) = q_pc n a + (if i < n then 1 else 0)
  | 0 => by simp [q_pc]
  | n + 1 => by
    unfold q_pc
    rw [q_pc_or hi n, Nat.testBit_or, Nat.testBit_two_pow]
    by_cases e : i = n
    · subst e; simp [hi]
    · have : (i < n) ↔ (i < n + 1) := by omega
      simp [e, this]; omega

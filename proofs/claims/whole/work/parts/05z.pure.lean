theorem q_lp {α : Type} {f : Nat → α → α} (I : Nat → α → Prop) : ∀ {n i : Nat} {a : α}, I i a → (∀ j c, i ≤ j → j < i + n → I j c → I (j + 1) (f j c)) → I (i + n) (lp f n i a)
  | 0, i, a, h0, _ => h0
  | n + 1, i, a, h0, hs => by
    have := q_lp I (n := n) (i := i + 1) (a := f i a) (hs i a (Nat.le_refl _) (by omega) h0) (fun j c h1 h2 h3 => hs j c (by omega) (by omega) h3)
    rw [show i + (n + 1) = i + 1 + n by omega]
    exact this
theorem q_or (a b : Nat) : nI a ||| nI b = nI (a ||| b) := by
  unfold nI
  apply Int32.toBitVec_inj.mp
  simp [Int32.toBitVec_or, Int32.toBitVec_ofNat']
theorem q_shl : ∀ k : Nat, k < 10 → nI 1 <<< (nI k &&& 31) = nI (2 ^ k) := by decide +kernel
theorem q_tb {h k : Nat} (hh : h < 1024) (hk : 10 ≤ k) : h.testBit k = false := Nat.testBit_lt_two_pow (Nat.lt_of_lt_of_le (show h < 2 ^ 10 from hh) (Nat.pow_le_pow_right (n := 2) (by omega) hk))
theorem q_or_lt {a b : Nat} (ha : a < 1024) (hb : b < 1024) : a ||| b < 1024 := Nat.or_lt_two_pow (n := 10) ha hb
theorem q_two {k : Nat} (hk : k < 10) : 2 ^ k < 1024 := Nat.pow_lt_pow_right (a := 2) (by omega) (show k < 10 from hk)
theorem q_heap {f : Nat → Int32 → Int32} {p : Nat → Bool} (hf : ∀ i a, i < 10 → a < 1024 → f i (nI a) = if p i then nI (a ||| 2 ^ i) else nI a) {n : Nat} (hn : n ≤ 10) : ∃ aN : Nat, aN < 1024 ∧ lp f n 0 (nI 0) = nI aN ∧ ∀ k, aN.testBit k = (decide (k < n) && p k) := by
  have := q_lp (f := f) (fun i c => ∃ aN : Nat, aN < 1024 ∧ c = nI aN ∧ ∀ k, aN.testBit k = (decide (k < i) && p k)) (n := n) (i := 0) (a := nI 0) ⟨0, by omega, rfl, fun k => by simp⟩ ?_
  · rw [Nat.zero_add] at this
    exact this
  · rintro j c _ hj ⟨a, ha, rfl, hb⟩
    rw [hf j a (by omega) ha]
    cases hp : p j with
    | false =>
      refine ⟨a, ha, by simp, fun k => ?_⟩
      rw [hb k]
      by_cases e : k = j
      · subst e; simp [hp]
      · have : (k < j) ↔ (k < j + 1) := by omega
        simp [this]
    | true =>
      refine ⟨a ||| 2 ^ j, q_or_lt ha (q_two (by omega)), by simp, fun k => ?_⟩
      rw [Nat.testBit_or, hb k, Nat.testBit_two_pow]
      by_cases e : k = j
      · subst e; simp [hp]
      · have : (k < j) ↔ (k < j + 1) := by omega
        simp [this, Ne.symm e]

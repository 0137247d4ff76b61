def Rel (W S n N : Nat) (B : Nat → Option Nat) (σ : Nat → Nat → Int32) : Prop := q_rel W S n N B σ
def MP (W S n : Nat) (B : Nat → Option Nat) (σ : Nat → Nat → Int32) : Prop := SeeOK (σ 43) n ∧ bl (σ 36 17) ∧ RkOK W S n n B σ
def XP (W S n N : Nat) (B : Nat → Option Nat) (σ : Nat → Nat → Int32) : Prop := BOK B N ∧ bl (σ 9 7) ∧ AsOK W S n n B σ
theorem Rel_G {W S n N : Nat} {B : Nat → Option Nat} {σ : Nat → Nat → Int32} (h : Rel W S n N B σ) : GH W S n n N ∧ XP W S n N B σ := by
  have x := q_XP h
  exact ⟨x.1, x.2.1, x.2.2.1, x.2.2.2⟩
theorem q_M {W S n N : Nat} {B : Nat → Option Nat} {σ : Nat → Nat → Int32} (h : q_rel W S n N B σ) : MP W S n B σ := q_MP h.h6
theorem q_refuse {W S n N : Nat} {B : Nat → Option Nat} {σ : Nat → Nat → Int32} {v : Int32} (h : q_rel W S n N B σ) {zm : Int32 × (Nat → Int32) × (Nat → Int32) × (Nat → Int32) × (Nat → Int32)} (e : (v, σ 36, σ 47, σ 48, σ 49) = zm) : v = zm.1 ∧ Rel W S n N B (sA (sA (sA (sA σ 36 zm.2.1) 47 zm.2.2.1) 48 zm.2.2.2.1) 49 zm.2.2.2.2) := by
  subst e
  refine ⟨rfl, ?_⟩
  simp only [sA_id]
  exact h
theorem q_answer {W S n N : Nat} {B : Nat → Option Nat} {σ : Nat → Nat → Int32} {v v' : Int32} {z : Int32 × (Nat → Int32) × (Nat → Int32) × (Nat → Int32) × (Nat → Int32)} (h : q_rel W S n N B (RkS σ z)) (hv : v = v') {zm : Int32 × (Nat → Int32) × (Nat → Int32) × (Nat → Int32) × (Nat → Int32)} (e : (v', z.2.1, z.2.2.1, z.2.2.2.1, z.2.2.2.2) = zm) : v = zm.1 ∧ Rel W S n N B (sA (sA (sA (sA σ 36 zm.2.1) 47 zm.2.2.1) 48 zm.2.2.2.1) 49 zm.2.2.2.2) := by
  subst e
  exact ⟨hv, h⟩
theorem P_quarrel {W S n N : Nat} {B : Nat → Option Nat} {σ : Nat → Nat → Int32} (h : Rel W S n N B σ) {zx : Int32 × (Nat → Nat → Int32)} (ex : m_X5_quarrel W S n n B σ = zx) : MP W S n B zx.2 ∧ ∀ {zm : Int32 × (Nat → Int32) × (Nat → Int32) × (Nat → Int32) × (Nat → Int32)}, m_X6_quarrel W S n n B zx.2 = zm → zx.1 = zm.1 ∧ Rel W S n N B (sA (sA (sA (sA zx.2 36 zm.2.1) 47 zm.2.2.1) 48 zm.2.2.2.1) 49 zm.2.2.2.2) := by
  unfold m_X5_quarrel at ex
  obtain ⟨y, ey, ex⟩ := q_apx ex
  obtain ⟨h1, h2⟩ := q_ask h ey
  by_cases c : y.1 = 0
  · rw [if_pos c] at ex
    subst ex
    refine ⟨q_M h1, fun {zm} em => ?_⟩
    unfold m_X6_quarrel at em
    obtain ⟨z, ez, em⟩ := q_apx em
    rcases h2 ez with ⟨h3, ⟨a1, -⟩ | ⟨a1, a2⟩⟩
    · exact absurd c (by rw [a1]; decide)
    · rw [if_pos (by rw [a2]; rfl)] at em
      exact q_answer h3 rfl em
  · rw [if_neg c] at ex
    obtain ⟨y14, e14, ex⟩ := q_apx ex
    subst ex
    refine ⟨q_M h1, fun {zm} em => ?_⟩
    unfold m_X6_quarrel at em
    obtain ⟨z, ez, em⟩ := q_apx em
    rcases h2 ez with ⟨h3, ⟨a1, a2, a3, F, a4, a5, a6⟩ | ⟨a1, a2⟩⟩
    · rw [if_neg (by rw [a2]; decide)] at em
      refine q_answer h3 ?_ em
      rw [a6, ← e14]
      exact a5
    · exact absurd (by rw [a1]; rfl) c
theorem P_span {W S n N : Nat} {B : Nat → Option Nat} {σ : Nat → Nat → Int32} (h : Rel W S n N B σ) {a1 a2 a3 : Int32} {zx : Int32 × (Nat → Nat → Int32)} (ex : m_X5_span W S n n B σ a1 a2 a3 = zx) : MP W S n B zx.2 ∧ ∀ {zm : Int32 × (Nat → Int32) × (Nat → Int32) × (Nat → Int32) × (Nat → Int32)}, m_X6_span W S n n B zx.2 a1 a2 a3 = zm → zx.1 = zm.1 ∧ Rel W S n N B (sA (sA (sA (sA zx.2 36 zm.2.1) 47 zm.2.2.1) 48 zm.2.2.2.1) 49 zm.2.2.2.2) := by
  have s2 := h.h6.s2
  have s4 := h.h6.s4
  unfold m_X5_span at ex
  rw [q_hP (by omega) (by omega)] at ex
  obtain ⟨y6, e6, ex⟩ := q_apx ex
  by_cases c : (0 ≤ a1.toInt ∧ a1.toInt < S) ∧ (0 ≤ a2.toInt ∧ a2.toInt < W)
  · rw [if_pos c] at e6
    subst e6
    rw [if_neg (by decide)] at ex
    obtain ⟨k, rfl, hk⟩ := q_nIo c.1.1
    obtain ⟨x, rfl, hx⟩ := q_nIo c.2.1
    have hk' : k < S := by omega
    have hx' : x < W := by omega
    rw [q_end] at ex
    obtain ⟨y13, e13, ex⟩ := q_apx ex
    by_cases d : 0 ≤ a3.toInt ∧ a3.toInt ≤ 1
    · rw [if_pos d] at e13
      subst e13
      rw [if_neg (by decide)] at ex
      obtain ⟨y, ey, ex⟩ := q_apx ex
      obtain ⟨h1, h2⟩ := q_ask h ey
      have he : ∀ {zm : Int32 × (Nat → Int32) × (Nat → Int32) × (Nat → Int32) × (Nat → Int32)}, m_X6_span W S n n B y.2 (nI k) (nI x) a3 = zm → ap (m_X6_reckons W S n n B y.2) (fun (y19 : Int32 × (Nat → Int32) × (Nat → Int32) × (Nat → Int32) × (Nat → Int32)) => (if y19.1 = 0 then ((-1), y19.2.1, y19.2.2.1, y19.2.2.2.1, y19.2.2.2.2) else (m_X6_depth W S n n B (RkS y.2 y19) (nI k) (nI x) a3, y19.2.1, y19.2.2.1, y19.2.2.2.1, y19.2.2.2.2))) = zm := by
        intro zm em
        unfold m_X6_span at em
        rw [q_6P (by omega) (by omega), if_pos c, q_6in, q_n0, q_n1, if_pos d] at em
        obtain ⟨y3, e3, em⟩ := q_apx em
        subst e3
        rw [if_neg (by decide)] at em
        obtain ⟨y12, e12, em⟩ := q_apx em
        subst e12
        rw [if_neg (by decide)] at em
        rw [← em]
        unfold ap m_X6_depth ap RkS
        dsimp only
        split
        · rfl
        · split <;> rfl
      by_cases c0 : y.1 = 0
      · rw [if_pos c0] at ex
        subst ex
        refine ⟨q_M h1, fun {zm} em => ?_⟩
        obtain ⟨z, ez, em⟩ := q_apx (he em)
        rcases h2 ez with ⟨h3, ⟨a1, -⟩ | ⟨a1, a2⟩⟩
        · exact absurd c0 (by rw [a1]; decide)
        · rw [if_pos (by rw [a2]; rfl)] at em
          exact q_answer h3 rfl em
      · rw [if_neg c0] at ex
        obtain ⟨y38, e38, ex⟩ := q_apx ex
        obtain ⟨y42, e42, ex⟩ := q_apx ex
        subst ex
        rw [q_plO] at e38
        subst e38
        refine ⟨q_M h1, fun {zm} em => ?_⟩
        obtain ⟨z, ez, em⟩ := q_apx (he em)
        rcases h2 ez with ⟨h3, ⟨b1, b2, b3, b4⟩ | ⟨b1, b2⟩⟩
        · rw [if_neg (by rw [b2]; decide)] at em
          refine q_answer h3 ?_ em
          rw [← e42]
          exact q_depE h.h6.s1 s2 s4 (τ := RkS y.2 z) b3 hk' hx'
        · exact absurd (by rw [b1]; rfl) c0
    · rw [if_neg d] at e13
      subst e13
      rw [if_pos (by decide)] at ex
      subst ex
      refine ⟨q_M h, fun {zm} em => ?_⟩
      unfold m_X6_span at em
      rw [q_6P (by omega) (by omega), if_pos c, q_6in, q_n0, q_n1, if_neg d] at em
      exact q_refuse h em
  · rw [if_neg c] at e6
    subst e6
    rw [if_pos (by decide)] at ex
    subst ex
    refine ⟨q_M h, fun {zm} em => ?_⟩
    unfold m_X6_span at em
    rw [q_6P (by omega) (by omega), if_neg c] at em
    exact q_refuse h em
theorem P_open {W S n N : Nat} {B : Nat → Option Nat} {σ : Nat → Nat → Int32} (h : Rel W S n N B σ) {zx : Int32 × (Nat → Nat → Int32)} (ex : m_X5_open W S n n B σ = zx) : MP W S n B zx.2 ∧ ∀ {zm : Int32 × (Nat → Int32) × (Nat → Int32) × (Nat → Int32) × (Nat → Int32)}, m_X6_open W S n n B zx.2 = zm → zx.1 = zm.1 ∧ Rel W S n N B (sA (sA (sA (sA zx.2 36 zm.2.1) 47 zm.2.2.1) 48 zm.2.2.2.1) 49 zm.2.2.2.2) := by
  have s1 := h.h6.s1
  have s2 := h.h6.s2
  have s3 := h.h6.s3
  have s4 := h.h6.s4
  have s5 := h.h6.s5
  unfold m_X5_open at ex
  obtain ⟨y, ey, ex⟩ := q_apx ex
  obtain ⟨h1, h2⟩ := q_ask h ey
  by_cases c0 : y.1 = 0
  · rw [if_pos c0] at ex
    subst ex
    refine ⟨q_M h1, fun {zm} em => ?_⟩
    unfold m_X6_open at em
    obtain ⟨z, ez, em⟩ := q_apx em
    rcases h2 ez with ⟨h3, ⟨b1, -⟩ | ⟨b1, b2⟩⟩
    · exact absurd c0 (by rw [b1]; decide)
    · rw [if_pos (by rw [b2]; rfl)] at em
      exact q_answer h3 rfl em
  · rw [if_neg c0] at ex
    obtain ⟨y14, e14, ex⟩ := q_apx ex
    obtain ⟨y17, e17, ex⟩ := q_apx ex
    subst ex
    refine ⟨q_M h1, fun {zm} em => ?_⟩
    unfold m_X6_open at em
    obtain ⟨z, ez, em⟩ := q_apx em
    rcases h2 ez with ⟨h3, ⟨b1, b2, b3, b4⟩ | ⟨b1, b2⟩⟩
    · rw [if_neg (by rw [b2]; decide)] at em
      obtain ⟨y8, e8, em⟩ := q_apx em
      refine q_answer h3 ?_ em
      rw [← e17, ← e8]
      exact q_openE s1 s2 s4 (τ := RkS y.2 z) b3
    · exact absurd (by rw [b1]; rfl) c0
theorem P_next {W S n N : Nat} {B : Nat → Option Nat} {σ : Nat → Nat → Int32} (h : Rel W S n N B σ) {zx : Int32 × (Nat → Nat → Int32)} (ex : m_X5_next W S n n B σ = zx) : MP W S n B zx.2 ∧ ∀ {zm : Int32 × (Nat → Int32) × (Nat → Int32) × (Nat → Int32) × (Nat → Int32)}, m_X6_next W S n n B zx.2 = zm → zx.1 = zm.1 ∧ Rel W S n N B (sA (sA (sA (sA zx.2 36 zm.2.1) 47 zm.2.2.1) 48 zm.2.2.2.1) 49 zm.2.2.2.2) := by
  have s1 := h.h6.s1
  have s2 := h.h6.s2
  have s3 := h.h6.s3
  have s4 := h.h6.s4
  have s5 := h.h6.s5
  unfold m_X5_next at ex
  obtain ⟨y, ey, ex⟩ := q_apx ex
  obtain ⟨h1, h2⟩ := q_ask h ey
  by_cases c0 : y.1 = 0
  · rw [if_pos c0] at ex
    subst ex
    refine ⟨q_M h1, fun {zm} em => ?_⟩
    unfold m_X6_next at em
    obtain ⟨z, ez, em⟩ := q_apx em
    rcases h2 ez with ⟨h3, ⟨b1, -⟩ | ⟨b1, b2⟩⟩
    · exact absurd c0 (by rw [b1]; decide)
    · rw [if_pos (by rw [b2]; rfl)] at em
      exact q_answer h3 rfl em
  · rw [if_neg c0] at ex
    obtain ⟨z18, e18, ex⟩ := q_apx ex
    subst ex
    refine ⟨q_M h1, fun {zm} em => ?_⟩
    unfold m_X6_next at em
    obtain ⟨z, ez, em⟩ := q_apx em
    rcases h2 ez with ⟨h3, ⟨b1, b2, b3, b4⟩ | ⟨b1, b2⟩⟩
    · rw [if_neg (by rw [b2]; decide)] at em
      obtain ⟨z15, e15, em⟩ := q_apx em
      refine q_answer h3 ?_ em
      rw [← e18, ← e15]
      exact q_nextE s1 s2 s3 s4 b3
    · exact absurd (by rw [b1]; rfl) c0
theorem P_bend {W S n N : Nat} {B : Nat → Option Nat} {σ : Nat → Nat → Int32} (h : Rel W S n N B σ) {a1 : Int32} {zx : Int32 × (Nat → Nat → Int32)} (ex : m_X5_bend W S n n B σ a1 = zx) : MP W S n B zx.2 ∧ ∀ {zm : Int32 × (Nat → Int32) × (Nat → Int32) × (Nat → Int32) × (Nat → Int32)}, m_X6_bend W S n n B zx.2 a1 = zm → zx.1 = zm.1 ∧ Rel W S n N B (sA (sA (sA (sA zx.2 36 zm.2.1) 47 zm.2.2.1) 48 zm.2.2.2.1) 49 zm.2.2.2.2) := by
  have s1 := h.h6.s1
  have s2 := h.h6.s2
  have s3 := h.h6.s3
  have s4 := h.h6.s4
  have s5 := h.h6.s5
  unfold m_X5_bend at ex
  rw [q_end] at ex
  obtain ⟨y1, e1, ex⟩ := q_apx ex
  by_cases c : 0 ≤ a1.toInt ∧ a1.toInt ≤ 1
  · rw [if_pos c] at e1
    subst e1
    rw [if_neg (by decide)] at ex
    obtain ⟨y, ey, ex⟩ := q_apx ex
    obtain ⟨h1, h2⟩ := q_ask h ey
    by_cases c0 : y.1 = 0
    · rw [if_pos c0] at ex
      subst ex
      refine ⟨q_M h1, fun {zm} em => ?_⟩
      unfold m_X6_bend at em
      rw [q_6in, q_n0, q_n1, if_pos c] at em
      obtain ⟨y3, e3, em⟩ := q_apx em
      subst e3
      rw [if_neg (by decide)] at em
      obtain ⟨z, ez, em⟩ := q_apx em
      rcases h2 ez with ⟨h3, ⟨b1, -⟩ | ⟨b1, b2⟩⟩
      · exact absurd c0 (by rw [b1]; decide)
      · rw [if_pos (by rw [b2]; rfl)] at em
        exact q_answer h3 rfl em
    · rw [if_neg c0] at ex
      obtain ⟨z23, e23, ex⟩ := q_apx ex
      subst ex
      refine ⟨q_M h1, fun {zm} em => ?_⟩
      unfold m_X6_bend at em
      rw [q_6in, q_n0, q_n1, if_pos c] at em
      obtain ⟨y3, e3, em⟩ := q_apx em
      subst e3
      rw [if_neg (by decide)] at em
      obtain ⟨z, ez, em⟩ := q_apx em
      rcases h2 ez with ⟨h3, ⟨b1, b2, b3, b4⟩ | ⟨b1, b2⟩⟩
      · rw [if_neg (by rw [b2]; decide)] at em
        obtain ⟨z22, e22, em⟩ := q_apx em
        refine q_answer h3 ?_ em
        rw [← e23, ← e22]
        exact q_bendE s1 s2 s4 b3
      · exact absurd (by rw [b1]; rfl) c0
  · rw [if_neg c] at e1
    subst e1
    rw [if_pos (by decide)] at ex
    subst ex
    refine ⟨q_M h, fun {zm} em => ?_⟩
    unfold m_X6_bend at em
    rw [q_6in, q_n0, q_n1, if_neg c] at em
    exact q_refuse h em
theorem P_tells {W S n N : Nat} {B : Nat → Option Nat} {σ : Nat → Nat → Int32} (h : Rel W S n N B σ) {a1 a2 : Int32} {zx : Int32 × (Nat → Nat → Int32)} (ex : m_X5_tells W S n n B σ a1 a2 = zx) : MP W S n B zx.2 ∧ ∀ {zm : Int32 × (Nat → Int32) × (Nat → Int32) × (Nat → Int32) × (Nat → Int32)}, m_X6_tells W S n n B zx.2 a1 a2 = zm → zx.1 = zm.1 ∧ Rel W S n N B (sA (sA (sA (sA zx.2 36 zm.2.1) 47 zm.2.2.1) 48 zm.2.2.2.1) 49 zm.2.2.2.2) := by
  have s1 := h.h6.s1
  have s2 := h.h6.s2
  have s3 := h.h6.s3
  have s4 := h.h6.s4
  have s5 := h.h6.s5
  unfold m_X5_tells at ex
  rw [q_hP (by omega) (by omega)] at ex
  obtain ⟨y6, e6, ex⟩ := q_apx ex
  by_cases c : (0 ≤ a1.toInt ∧ a1.toInt < S) ∧ (0 ≤ a2.toInt ∧ a2.toInt < W)
  · rw [if_pos c] at e6
    subst e6
    rw [if_neg (by decide)] at ex
    obtain ⟨k, rfl, hk⟩ := q_nIo c.1.1
    obtain ⟨x, rfl, hx⟩ := q_nIo c.2.1
    have hk' : k < S := by omega
    have hx' : x < W := by omega
    have hp := q_pl hk' hx'
    obtain ⟨y, ey, ex⟩ := q_apx ex
    obtain ⟨h1, h2⟩ := q_ask h ey
    by_cases c0 : y.1 = 0
    · rw [if_pos c0] at ex
      subst ex
      refine ⟨q_M h1, fun {zm} em => ?_⟩
      unfold m_X6_tells at em
      rw [q_6P (by omega) (by omega), if_pos c] at em
      obtain ⟨y3, e3, em⟩ := q_apx em
      subst e3
      rw [if_neg (by decide)] at em
      obtain ⟨z, ez, em⟩ := q_apx em
      rcases h2 ez with ⟨h3, ⟨b1, -⟩ | ⟨b1, b2⟩⟩
      · exact absurd c0 (by rw [b1]; decide)
      · rw [if_pos (by rw [b2]; rfl)] at em
        exact q_answer h3 rfl em
    · rw [if_neg c0] at ex
      obtain ⟨y31, e31, ex⟩ := q_apx ex
      obtain ⟨y34, e34, ex⟩ := q_apx ex
      subst ex
      rw [q_plO] at e31
      subst e31
      refine ⟨q_M h1, fun {zm} em => ?_⟩
      unfold m_X6_tells at em
      rw [q_6P (by omega) (by omega), if_pos c] at em
      obtain ⟨y3, e3, em⟩ := q_apx em
      subst e3
      rw [if_neg (by decide)] at em
      obtain ⟨z, ez, em⟩ := q_apx em
      rcases h2 ez with ⟨h3, ⟨b1, b2, b3, b4⟩ | ⟨b1, b2⟩⟩
      · rw [if_neg (by rw [b2]; decide)] at em
        obtain ⟨y19, e19, em⟩ := q_apx em
        obtain ⟨y22, e22, em⟩ := q_apx em
        refine q_answer h3 ?_ em
        rw [← e34, ← e22, ← e19, q_nodP hx']
        exact q_gainE s1 s2 s4 (τ := RkS y.2 z) b3 hp
      · exact absurd (by rw [b1]; rfl) c0
  · rw [if_neg c] at e6
    subst e6
    rw [if_pos (by decide)] at ex
    subst ex
    refine ⟨q_M h, fun {zm} em => ?_⟩
    unfold m_X6_tells at em
    rw [q_6P (by omega) (by omega), if_neg c] at em
    exact q_refuse h em
theorem P_worn {W S n N : Nat} {B : Nat → Option Nat} {σ : Nat → Nat → Int32} (h : Rel W S n N B σ) {a1 a2 : Int32} {zx : Int32 × (Nat → Nat → Int32)} (ex : m_X5_worn W S n n B σ a1 a2 = zx) : MP W S n B zx.2 ∧ ∀ {zm : Int32 × (Nat → Int32) × (Nat → Int32) × (Nat → Int32) × (Nat → Int32)}, m_X6_worn W S n n B zx.2 a1 a2 = zm → zx.1 = zm.1 ∧ Rel W S n N B (sA (sA (sA (sA zx.2 36 zm.2.1) 47 zm.2.2.1) 48 zm.2.2.2.1) 49 zm.2.2.2.2) := by
  have s1 := h.h6.s1
  have s2 := h.h6.s2
  have s3 := h.h6.s3
  have s4 := h.h6.s4
  have s5 := h.h6.s5
  unfold m_X5_worn at ex
  rw [q_hP (by omega) (by omega)] at ex
  obtain ⟨y6, e6, ex⟩ := q_apx ex
  by_cases c : (0 ≤ a1.toInt ∧ a1.toInt < S) ∧ (0 ≤ a2.toInt ∧ a2.toInt < W)
  · rw [if_pos c] at e6
    subst e6
    rw [if_neg (by decide)] at ex
    obtain ⟨k, rfl, hk⟩ := q_nIo c.1.1
    obtain ⟨x, rfl, hx⟩ := q_nIo c.2.1
    have hk' : k < S := by omega
    have hx' : x < W := by omega
    have hp := q_pl hk' hx'
    obtain ⟨y, ey, ex⟩ := q_apx ex
    obtain ⟨h1, h2⟩ := q_ask h ey
    by_cases c0 : y.1 = 0
    · rw [if_pos c0] at ex
      subst ex
      refine ⟨q_M h1, fun {zm} em => ?_⟩
      unfold m_X6_worn at em
      rw [q_6P (by omega) (by omega), if_pos c] at em
      obtain ⟨y3, e3, em⟩ := q_apx em
      subst e3
      rw [if_neg (by decide)] at em
      obtain ⟨z, ez, em⟩ := q_apx em
      rcases h2 ez with ⟨h3, ⟨b1, -⟩ | ⟨b1, b2⟩⟩
      · exact absurd c0 (by rw [b1]; decide)
      · rw [if_pos (by rw [b2]; rfl)] at em
        exact q_answer h3 rfl em
    · rw [if_neg c0] at ex
      rw [if_pos (by rw [q_lt, q_nt (show W < 2147483648 by omega)]; omega)] at ex
      obtain ⟨y39, e39, ex⟩ := q_apx ex
      obtain ⟨y46, e46, ex⟩ := q_apx ex
      have et : y.2 35 (nI x).toNatClampNeg = y.2 42 (nI x).toNatClampNeg := by
        rw [nI_clamp (by omega)]
        exact h1.tt.t35 x hx'
      by_cases t1 : y.2 35 (nI x).toNatClampNeg ≤ y46
      · rw [if_pos t1] at ex
        obtain ⟨y63, e63, ex⟩ := q_apx ex
        by_cases t2 : y.2 35 (nI x).toNatClampNeg ≤ y63
        · rw [if_pos t2] at ex
          subst ex
          rw [q_plO] at e39
          subst e39
          refine ⟨q_M h1, fun {zm} em => ?_⟩
          unfold m_X6_worn at em
          rw [q_6P (by omega) (by omega), if_pos c] at em
          obtain ⟨y3, e3, em⟩ := q_apx em
          subst e3
          rw [if_neg (by decide)] at em
          obtain ⟨z, ez, em⟩ := q_apx em
          rcases h2 ez with ⟨h3, ⟨b1, b2, b3, b4⟩ | ⟨b1, b2⟩⟩
          · rw [if_neg (by rw [b2]; decide)] at em
            obtain ⟨y20, e20, em⟩ := q_apx em
            obtain ⟨y26, e26, em⟩ := q_apx em
            rw [q_nodP hx'] at e20
            subst e20
            rw [q_vh (B := B) (σ := y.2) (τ := sA (sA (sA (sA y.2 36 z.2.1) 47 z.2.2.1) 48 z.2.2.2.1) 49 z.2.2.2.2) s1 s2 s4 b3 hp, ← q_end1.1] at e26
            have e2646 : y26 = y46 := by rw [← e26, ← e46]
            subst e2646
            rw [if_pos (by rw [← et]; exact t1)] at em
            obtain ⟨y44, e44, em⟩ := q_apx em
            rw [q_vl (B := B) (σ := y.2) (τ := sA (sA (sA (sA y.2 36 z.2.1) 47 z.2.2.1) 48 z.2.2.2.1) 49 z.2.2.2.2) s1 s2 s4 b3 hp, ← q_end1.2] at e44
            have e4463 : y44 = y63 := by rw [← e44, ← e63]
            subst e4463
            rw [if_pos (by rw [← et]; exact t2)] at em
            exact q_answer h3 rfl em
          · exact absurd (by rw [b1]; rfl) c0
        · rw [if_neg t2] at ex
          subst ex
          rw [q_plO] at e39
          subst e39
          refine ⟨q_M h1, fun {zm} em => ?_⟩
          unfold m_X6_worn at em
          rw [q_6P (by omega) (by omega), if_pos c] at em
          obtain ⟨y3, e3, em⟩ := q_apx em
          subst e3
          rw [if_neg (by decide)] at em
          obtain ⟨z, ez, em⟩ := q_apx em
          rcases h2 ez with ⟨h3, ⟨b1, b2, b3, b4⟩ | ⟨b1, b2⟩⟩
          · rw [if_neg (by rw [b2]; decide)] at em
            obtain ⟨y20, e20, em⟩ := q_apx em
            obtain ⟨y26, e26, em⟩ := q_apx em
            rw [q_nodP hx'] at e20
            subst e20
            rw [q_vh (B := B) (σ := y.2) (τ := sA (sA (sA (sA y.2 36 z.2.1) 47 z.2.2.1) 48 z.2.2.2.1) 49 z.2.2.2.2) s1 s2 s4 b3 hp, ← q_end1.1] at e26
            have e2646 : y26 = y46 := by rw [← e26, ← e46]
            subst e2646
            rw [if_pos (by rw [← et]; exact t1)] at em
            obtain ⟨y44, e44, em⟩ := q_apx em
            rw [q_vl (B := B) (σ := y.2) (τ := sA (sA (sA (sA y.2 36 z.2.1) 47 z.2.2.1) 48 z.2.2.2.1) 49 z.2.2.2.2) s1 s2 s4 b3 hp, ← q_end1.2] at e44
            have e4463 : y44 = y63 := by rw [← e44, ← e63]
            subst e4463
            rw [if_neg (by rw [← et]; exact t2)] at em
            exact q_answer h3 rfl em
          · exact absurd (by rw [b1]; rfl) c0
      · rw [if_neg t1] at ex
        subst ex
        rw [q_plO] at e39
        subst e39
        refine ⟨q_M h1, fun {zm} em => ?_⟩
        unfold m_X6_worn at em
        rw [q_6P (by omega) (by omega), if_pos c] at em
        obtain ⟨y3, e3, em⟩ := q_apx em
        subst e3
        rw [if_neg (by decide)] at em
        obtain ⟨z, ez, em⟩ := q_apx em
        rcases h2 ez with ⟨h3, ⟨b1, b2, b3, b4⟩ | ⟨b1, b2⟩⟩
        · rw [if_neg (by rw [b2]; decide)] at em
          obtain ⟨y20, e20, em⟩ := q_apx em
          obtain ⟨y26, e26, em⟩ := q_apx em
          rw [q_nodP hx'] at e20
          subst e20
          rw [q_vh (B := B) (σ := y.2) (τ := sA (sA (sA (sA y.2 36 z.2.1) 47 z.2.2.1) 48 z.2.2.2.1) 49 z.2.2.2.2) s1 s2 s4 b3 hp, ← q_end1.1] at e26
          have e2646 : y26 = y46 := by rw [← e26, ← e46]
          subst e2646
          rw [if_neg (by rw [← et]; exact t1)] at em
          exact q_answer h3 rfl em
        · exact absurd (by rw [b1]; rfl) c0
  · rw [if_neg c] at e6
    subst e6
    rw [if_pos (by decide)] at ex
    subst ex
    refine ⟨q_M h, fun {zm} em => ?_⟩
    unfold m_X6_worn at em
    rw [q_6P (by omega) (by omega), if_neg c] at em
    exact q_refuse h em
theorem P_layer {W S n N : Nat} {B : Nat → Option Nat} {σ : Nat → Nat → Int32} (h : Rel W S n N B σ) {a1 a2 : Int32} {zx : Int32 × (Nat → Nat → Int32)} (ex : m_X5_layer W S n n B σ a1 a2 = zx) : MP W S n B zx.2 ∧ ∀ {zm : Int32 × (Nat → Int32) × (Nat → Int32) × (Nat → Int32) × (Nat → Int32)}, m_X6_layer W S n n B zx.2 a1 a2 = zm → zx.1 = zm.1 ∧ Rel W S n N B (sA (sA (sA (sA zx.2 36 zm.2.1) 47 zm.2.2.1) 48 zm.2.2.2.1) 49 zm.2.2.2.2) := by
  have s1 := h.h6.s1
  have s2 := h.h6.s2
  have s3 := h.h6.s3
  have s4 := h.h6.s4
  have s5 := h.h6.s5
  unfold m_X5_layer at ex
  rw [q_hP (by omega) (by omega)] at ex
  obtain ⟨y6, e6, ex⟩ := q_apx ex
  by_cases c : (0 ≤ (nI 0).toInt ∧ (nI 0).toInt < S) ∧ (0 ≤ a1.toInt ∧ a1.toInt < W)
  · rw [if_pos c] at e6
    subst e6
    rw [if_neg (by decide)] at ex
    rw [q_dep] at ex
    obtain ⟨y13, e13, ex⟩ := q_apx ex
    by_cases d : 0 ≤ a2.toInt ∧ a2.toInt ≤ 60
    · rw [if_pos d] at e13
      subst e13
      rw [if_neg (by decide)] at ex
      obtain ⟨x, rfl, hx⟩ := q_nIo c.2.1
      have hx' : x < W := by omega
      obtain ⟨y, ey, ex⟩ := q_apx ex
      obtain ⟨h1, h2⟩ := q_ask h ey
      by_cases c0 : y.1 = 0
      · rw [if_pos c0] at ex
        subst ex
        refine ⟨q_M h1, fun {zm} em => ?_⟩
        unfold m_X6_layer at em
        rw [q_6in, q_sb (by omega) (by omega), q_n0, if_pos ⟨c.2.1, by omega⟩, q_6in, q_n0, q_n60, if_pos d] at em
        obtain ⟨y8, e8, em⟩ := q_apx em
        subst e8
        rw [if_neg (by decide)] at em
        obtain ⟨y18, e18, em⟩ := q_apx em
        subst e18
        rw [if_neg (by decide)] at em
        obtain ⟨z, ez, em⟩ := q_apx em
        rcases h2 ez with ⟨h3, ⟨b1, -⟩ | ⟨b1, b2⟩⟩
        · exact absurd c0 (by rw [b1]; decide)
        · rw [if_pos (by rw [b2]; rfl)] at em
          exact q_answer h3 rfl em
      · rw [if_neg c0] at ex
        obtain ⟨z39, e39, ex⟩ := q_apx ex
        by_cases t : z39.1 = z39.2
        · rw [if_pos t] at ex
          subst ex
          refine ⟨q_M h1, fun {zm} em => ?_⟩
          unfold m_X6_layer at em
          rw [q_6in, q_sb (by omega) (by omega), q_n0, if_pos ⟨c.2.1, by omega⟩, q_6in, q_n0, q_n60, if_pos d] at em
          obtain ⟨y8, e8, em⟩ := q_apx em
          subst e8
          rw [if_neg (by decide)] at em
          obtain ⟨y18, e18, em⟩ := q_apx em
          subst e18
          rw [if_neg (by decide)] at em
          obtain ⟨z, ez, em⟩ := q_apx em
          rcases h2 ez with ⟨h3, ⟨b1, b2, b3, b4⟩ | ⟨b1, b2⟩⟩
          · rw [if_neg (by rw [b2]; decide)] at em
            obtain ⟨z41, e41, em⟩ := q_apx em
            have e4139 : z41 = z39 := by
              rw [← e41, ← e39]
              exact (q_layE s1 s2 s4 b3 hx').symm
            rw [e4139] at em
            rw [if_pos t] at em
            exact q_answer h3 rfl em
          · exact absurd (by rw [b1]; rfl) c0
        · rw [if_neg t] at ex
          subst ex
          refine ⟨q_M h1, fun {zm} em => ?_⟩
          unfold m_X6_layer at em
          rw [q_6in, q_sb (by omega) (by omega), q_n0, if_pos ⟨c.2.1, by omega⟩, q_6in, q_n0, q_n60, if_pos d] at em
          obtain ⟨y8, e8, em⟩ := q_apx em
          subst e8
          rw [if_neg (by decide)] at em
          obtain ⟨y18, e18, em⟩ := q_apx em
          subst e18
          rw [if_neg (by decide)] at em
          obtain ⟨z, ez, em⟩ := q_apx em
          rcases h2 ez with ⟨h3, ⟨b1, b2, b3, b4⟩ | ⟨b1, b2⟩⟩
          · rw [if_neg (by rw [b2]; decide)] at em
            obtain ⟨z41, e41, em⟩ := q_apx em
            have e4139 : z41 = z39 := by
              rw [← e41, ← e39]
              exact (q_layE s1 s2 s4 b3 hx').symm
            rw [e4139] at em
            rw [if_neg t] at em
            exact q_answer h3 rfl em
          · exact absurd (by rw [b1]; rfl) c0
    · rw [if_neg d] at e13
      subst e13
      rw [if_pos (by decide)] at ex
      subst ex
      refine ⟨q_M h, fun {zm} em => ?_⟩
      unfold m_X6_layer at em
      rw [q_6in, q_sb (by omega) (by omega), q_n0, if_pos ⟨c.2.1, by omega⟩, q_6in, q_n0, q_n60, if_neg d] at em
      exact q_refuse h em
  · rw [if_neg c] at e6
    subst e6
    rw [if_pos (by decide)] at ex
    subst ex
    refine ⟨q_M h, fun {zm} em => ?_⟩
    unfold m_X6_layer at em
    rw [q_n0] at c
    rw [q_6in, q_sb (by omega) (by omega), q_n0, if_neg (by omega)] at em
    exact q_refuse h em
theorem q_pcd {W S ns nc : Nat} {B : Nat → Option Nat} {σ : Nat → Nat → Int32} {v : Int32} (h : W ≤ 100) (h' : S ≤ 100) : m_X5_isPlaceCode W S ns nc B σ v = if (¬ v < 0) ∧ (0 ≤ (v / nI 10).toInt ∧ (v / nI 10).toInt < S) ∧ (0 ≤ (v - v / nI 10 * nI 10).toInt ∧ (v - v / nI 10 * nI 10).toInt < W) then nI 1 else nI 0 := by
  unfold m_X5_isPlaceCode ap
  rw [q_hP h h']
  by_cases c : v < 0
  · rw [if_pos c, if_neg (fun q => q.1 c)]
  · rw [if_neg c]
    dsimp only
    by_cases d : (0 ≤ (v / nI 10).toInt ∧ (v / nI 10).toInt < S) ∧ (0 ≤ (v - v / nI 10 * nI 10).toInt ∧ (v - v / nI 10 * nI 10).toInt < W)
    · rw [if_pos d, if_neg (by decide), if_pos ⟨c, d⟩]
    · rw [if_neg d, if_pos (by decide), if_neg (fun q => d q.2)]
theorem P_between {W S n N : Nat} {B : Nat → Option Nat} {σ : Nat → Nat → Int32} (h : Rel W S n N B σ) {a1 a2 a3 : Int32} {zx : Int32 × (Nat → Nat → Int32)} (ex : m_X5_between W S n n B σ a1 a2 a3 = zx) : MP W S n B zx.2 ∧ ∀ {zm : Int32 × (Nat → Int32) × (Nat → Int32) × (Nat → Int32) × (Nat → Int32)}, m_X6_between W S n n B zx.2 a1 a2 a3 = zm → zx.1 = zm.1 ∧ Rel W S n N B (sA (sA (sA (sA zx.2 36 zm.2.1) 47 zm.2.2.1) 48 zm.2.2.2.1) 49 zm.2.2.2.2) := by
  have s1 := h.h6.s1
  have s2 := h.h6.s2
  have s3 := h.h6.s3
  have s4 := h.h6.s4
  have s5 := h.h6.s5
  unfold m_X5_between at ex
  rw [q_pcd (by omega) (by omega)] at ex
  obtain ⟨y2, e2, ex⟩ := q_apx ex
  by_cases c : (¬ a1 < 0) ∧ (0 ≤ (a1 / nI 10).toInt ∧ (a1 / nI 10).toInt < S) ∧ (0 ≤ (a1 - a1 / nI 10 * nI 10).toInt ∧ (a1 - a1 / nI 10 * nI 10).toInt < W)
  · rw [if_pos c] at e2
    subst e2
    rw [if_neg (by decide)] at ex
    rw [q_pcd (by omega) (by omega)] at ex
    obtain ⟨y10, e10, ex⟩ := q_apx ex
    by_cases d : (¬ a2 < 0) ∧ (0 ≤ (a2 / nI 10).toInt ∧ (a2 / nI 10).toInt < S) ∧ (0 ≤ (a2 - a2 / nI 10 * nI 10).toInt ∧ (a2 - a2 / nI 10 * nI 10).toInt < W)
    · rw [if_pos d] at e10
      subst e10
      rw [if_neg (by decide)] at ex
      rw [q_end] at ex
      obtain ⟨y17, e17, ex⟩ := q_apx ex
      by_cases t : 0 ≤ a3.toInt ∧ a3.toInt ≤ 1
      · rw [if_pos t] at e17
        subst e17
        rw [if_neg (by decide)] at ex
        obtain ⟨k, ek, hk⟩ := q_nIo c.2.1.1
        obtain ⟨l, el, hl⟩ := q_nIo c.2.2.1
        obtain ⟨k', ek', hk'⟩ := q_nIo d.2.1.1
        obtain ⟨l', el', hl'⟩ := q_nIo d.2.2.1
        have hp := q_pl (W := W) (S := S) (k := k) (c := l) (by omega) (by omega)
        have hp' := q_pl (W := W) (S := S) (k := k') (c := l') (by omega) (by omega)
        have l1 := q_ndl s1 s2 s4 hp
        have l2 := q_ndl s1 s2 s4 hp'
        obtain ⟨y, ey, ex⟩ := q_apx ex
        obtain ⟨h1, h2⟩ := q_ask h ey
        by_cases c0 : y.1 = 0
        · rw [if_pos c0] at ex
          subst ex
          refine ⟨q_M h1, fun {zm} em => ?_⟩
          unfold m_X6_between at em
          rw [if_neg c.1, if_neg d.1, q_6P (by omega) (by omega), if_pos c.2, q_6P (by omega) (by omega), if_pos d.2, q_6in, q_n0, q_n1, if_pos t] at em
          obtain ⟨y17, e17, em⟩ := q_apx em
          subst e17
          rw [if_neg (by decide)] at em
          obtain ⟨y32, e32, em⟩ := q_apx em
          subst e32
          rw [if_neg (by decide)] at em
          obtain ⟨y41, e41, em⟩ := q_apx em
          subst e41
          rw [if_neg (by decide)] at em
          obtain ⟨z, ez, em⟩ := q_apx em
          rcases h2 ez with ⟨h3, ⟨b1, -⟩ | ⟨b1, b2⟩⟩
          · exact absurd c0 (by rw [b1]; decide)
          · rw [if_pos (by rw [b2]; rfl)] at em
            exact q_answer h3 rfl em
        · rw [if_neg c0] at ex
          obtain ⟨y48, e48, ex⟩ := q_apx ex
          obtain ⟨y65, e65, ex⟩ := q_apx ex
          obtain ⟨y74, e74, ex⟩ := q_apx ex
          rw [el, ek, q_plO] at e48
          rw [el', ek', q_plO] at e65
          by_cases w : a3 = 0
          · rw [if_pos w] at ex
            obtain ⟨y89, e89, ex⟩ := q_apx ex
            rw [← e48, ← e65, q_mostH (q_ws s2 s4) hp' hp] at e89
            subst ex
            refine ⟨q_M h1, fun {zm} em => ?_⟩
            unfold m_X6_between at em
            rw [if_neg c.1, if_neg d.1, q_6P (by omega) (by omega), if_pos c.2, q_6P (by omega) (by omega), if_pos d.2, q_6in, q_n0, q_n1, if_pos t] at em
            obtain ⟨y17, e17, em⟩ := q_apx em
            subst e17
            rw [if_neg (by decide)] at em
            obtain ⟨y32, e32, em⟩ := q_apx em
            subst e32
            rw [if_neg (by decide)] at em
            obtain ⟨y41, e41, em⟩ := q_apx em
            subst e41
            rw [if_neg (by decide)] at em
            obtain ⟨z, ez, em⟩ := q_apx em
            rcases h2 ez with ⟨h3, ⟨b1, b2, b3, b4⟩ | ⟨b1, b2⟩⟩
            · rw [if_neg (by rw [b2]; decide)] at em
              obtain ⟨u65, f65, em⟩ := q_apx em
              obtain ⟨u78, f78, em⟩ := q_apx em
              rw [el, ek, q_nodP (by omega)] at f65
              rw [el', ek', q_nodP (by omega)] at f78
              rw [if_pos w, ← f65, ← f78, q_jx (by omega) (by omega), ← b3.1 _ _ hp' hp, e89] at em
              exact q_answer h3 rfl em
            · exact absurd (by rw [b1]; rfl) c0
          · rw [if_neg w] at ex
            obtain ⟨y102, e102, ex⟩ := q_apx ex
            rw [← e48, ← e65, q_mostH (q_ws s2 s4) hp hp'] at e102
            subst ex
            refine ⟨q_M h1, fun {zm} em => ?_⟩
            unfold m_X6_between at em
            rw [if_neg c.1, if_neg d.1, q_6P (by omega) (by omega), if_pos c.2, q_6P (by omega) (by omega), if_pos d.2, q_6in, q_n0, q_n1, if_pos t] at em
            obtain ⟨y17, e17, em⟩ := q_apx em
            subst e17
            rw [if_neg (by decide)] at em
            obtain ⟨y32, e32, em⟩ := q_apx em
            subst e32
            rw [if_neg (by decide)] at em
            obtain ⟨y41, e41, em⟩ := q_apx em
            subst e41
            rw [if_neg (by decide)] at em
            obtain ⟨z, ez, em⟩ := q_apx em
            rcases h2 ez with ⟨h3, ⟨b1, b2, b3, b4⟩ | ⟨b1, b2⟩⟩
            · rw [if_neg (by rw [b2]; decide)] at em
              obtain ⟨u65, f65, em⟩ := q_apx em
              obtain ⟨u78, f78, em⟩ := q_apx em
              rw [el, ek, q_nodP (by omega)] at f65
              rw [el', ek', q_nodP (by omega)] at f78
              rw [if_neg w, ← f65, ← f78, q_jx (by omega) (by omega), ← b3.1 _ _ hp hp', e102] at em
              exact q_answer h3 rfl em
            · exact absurd (by rw [b1]; rfl) c0
      · rw [if_neg t] at e17
        subst e17
        rw [if_pos (by decide)] at ex
        subst ex
        refine ⟨q_M h, fun {zm} em => ?_⟩
        unfold m_X6_between at em
        rw [if_neg c.1, if_neg d.1, q_6P (by omega) (by omega), if_pos c.2, q_6P (by omega) (by omega), if_pos d.2, q_6in, q_n0, q_n1, if_neg t] at em
        exact q_refuse h em
    · rw [if_neg d] at e10
      subst e10
      rw [if_pos (by decide)] at ex
      subst ex
      refine ⟨q_M h, fun {zm} em => ?_⟩
      unfold m_X6_between at em
      rw [if_neg c.1, q_6P (by omega) (by omega), if_pos c.2, q_6P (by omega) (by omega)] at em
      by_cases r : a2 < 0
      · rw [if_pos r] at em
        exact q_refuse h em
      · rw [if_neg r, if_neg (fun q => d ⟨r, q⟩)] at em
        exact q_refuse h em
  · rw [if_neg c] at e2
    subst e2
    rw [if_pos (by decide)] at ex
    subst ex
    refine ⟨q_M h, fun {zm} em => ?_⟩
    unfold m_X6_between at em
    by_cases r : a1 < 0
    · rw [if_pos r] at em
      exact q_refuse h em
    · rw [if_neg r] at em
      by_cases r' : a2 < 0
      · rw [if_pos r'] at em
        exact q_refuse h em
      · rw [if_neg r', q_6P (by omega) (by omega), if_neg (fun q => c ⟨r, q⟩)] at em
        exact q_refuse h em
theorem q_atC {W S n : Nat} {B B' : Nat → Option Nat} {σ τ : Nat → Nat → Int32} {v : Int32} (hn : n ≤ 10) (hz : ∀ i, n ≤ i → B i = none) : (∃ k, k < n ∧ v = nI k ∧ m_X4_at W S n n B σ v = B k ∧ m_X6_isSight W S n n B' τ v = if τ 46 k = 0 then nI 0 else nI 1) ∨ (m_X4_at W S n n B σ v = none ∧ m_X6_isSight W S n n B' τ v = nI 0) := by
  unfold m_X4_at m_X6_isSight
  rw [q_6in, q_sb (by omega) (by omega), q_n0]
  by_cases c : 0 ≤ v.toInt ∧ v.toInt < n
  · obtain ⟨k, rfl, hk⟩ := q_nIo c.1
    have hk' : k < n := by omega
    refine Or.inl ⟨k, hk', rfl, ?_, ?_⟩
    · rw [if_neg (nI_pos (by omega)), if_neg (fun q => by have := (nI_leI (by omega) (by omega)).mp q; omega), nI_clamp (by omega)]
    · rw [if_pos (by omega)]
      unfold ap
      dsimp only
      rw [if_neg (by decide), nI_clamp (by omega)]
  · refine Or.inr ⟨?_, ?_⟩
    · by_cases d : v < 0
      · rw [if_pos d]
      · rw [if_neg d]
        rw [q_lt, show ((0 : Int32)).toInt = 0 from rfl] at d
        obtain ⟨k, rfl, hk⟩ := q_nIo (show 0 ≤ v.toInt by omega)
        by_cases f : nI 10 ≤ nI k
        · rw [if_pos f]
        · rw [if_neg f]
          rw [q_lei, q_nt (by omega)] at f
          rw [nI_clamp (by omega)]
          exact hz k (by omega)
    · rw [if_neg (by omega)]
      unfold ap
      dsimp only
      rw [if_pos (by decide)]
theorem q_sames {W S n N : Nat} {B : Nat → Option Nat} {σ : Nat → Nat → Int32} {v v' : Int32} (h : q_rel W S n N B σ) (hv : v = v') {zx : Int32 × (Nat → Nat → Int32)} (ex : (v, σ) = zx) {zm : Int32 × (Nat → Int32) × (Nat → Int32) × (Nat → Int32) × (Nat → Int32)} (e : (v', zx.2 36, zx.2 47, zx.2 48, zx.2 49) = zm) : zx.1 = zm.1 ∧ Rel W S n N B (sA (sA (sA (sA zx.2 36 zm.2.1) 47 zm.2.2.1) 48 zm.2.2.2.1) 49 zm.2.2.2.2) := by
  subst ex
  subst hv
  exact q_refuse h e
theorem P_told {W S n N : Nat} {B : Nat → Option Nat} {σ : Nat → Nat → Int32} (h : Rel W S n N B σ) {a1 a2 : Int32} {zx : Int32 × (Nat → Nat → Int32)} (ex : m_X5_told W S n n B σ a1 a2 = zx) : MP W S n B zx.2 ∧ ∀ {zm : Int32 × (Nat → Int32) × (Nat → Int32) × (Nat → Int32) × (Nat → Int32)}, m_X6_told W S n n B zx.2 a1 a2 = zm → zx.1 = zm.1 ∧ Rel W S n N B (sA (sA (sA (sA zx.2 36 zm.2.1) 47 zm.2.2.1) 48 zm.2.2.2.1) 49 zm.2.2.2.2) := by
  have s1 := h.h6.s1
  have s2 := h.h6.s2
  have s3 := h.h6.s3
  have s4 := h.h6.s4
  have s5 := h.h6.s5
  unfold m_X5_told at ex
  obtain ⟨y5, e5, ex⟩ := q_apx ex
  rcases q_atC (W := W) (S := S) (B := B) (B' := B) (σ := σ) (τ := σ) (v := a1) s5 h.tt.bz with ⟨k, hk, rfl, e, im⟩ | ⟨e, im⟩
  · rw [e] at e5
    cases hB : B k with
    | none =>
      rw [hB] at e5
      subst e5
      rw [Option.elim_none] at ex
      rw [if_pos ((h.tt.sn k hk).mp hB)] at im
      subst ex
      refine ⟨q_M h, fun {zm} em => ?_⟩
      unfold m_X6_told at em
      rw [im] at em
      exact q_refuse h em
    | some q =>
      rw [hB] at e5
      subst e5
      rw [Option.elim_some] at ex
      rw [if_neg (fun r => by have := (h.tt.sn k hk).mpr r; rw [hB] at this; cases this)] at im
      have hs := h.tt.ss k hk q hB
      by_cases w0 : a2 = nI 0
      · rw [if_pos w0] at ex
        obtain ⟨u, eu, ex⟩ := q_apx ex
        have hr : zx.2 = σ := by rw [← ex]
        refine ⟨by rw [hr]; exact q_M h, fun {zm} em => ?_⟩
        refine q_sames h (v' := σ 43 k / nI 100) ?_ ex ?_
        · rw [← eu]
          unfold m_X3_surface
          rw [hs]
          rfl
        · rw [hr] at em ⊢
          unfold m_X6_told at em
          rw [im] at em
          obtain ⟨y2, e2, em⟩ := q_apx em
          subst e2
          rw [if_neg (by decide), if_pos w0, nI_clamp (by omega)] at em
          exact em
      by_cases w1 : a2 = nI 1
      · rw [if_neg w0, if_pos w1] at ex
        obtain ⟨u, eu, ex⟩ := q_apx ex
        have hr : zx.2 = σ := by rw [← ex]
        refine ⟨by rw [hr]; exact q_M h, fun {zm} em => ?_⟩
        refine q_sames h (v' := σ 43 k / nI 10 - σ 43 k / nI 10 / nI 10 * nI 10) ?_ ex ?_
        · rw [← eu]
          unfold m_X3_column
          rw [hs]
          rfl
        · rw [hr] at em ⊢
          unfold m_X6_told at em
          rw [im] at em
          obtain ⟨y2, e2, em⟩ := q_apx em
          subst e2
          rw [if_neg (by decide), if_neg w0, if_pos w1, nI_clamp (by omega)] at em
          exact em
      by_cases w2 : a2 = nI 2
      · rw [if_neg w0, if_neg w1, if_pos w2] at ex
        obtain ⟨u, eu, ex⟩ := q_apx ex
        have hr : zx.2 = σ := by rw [← ex]
        refine ⟨by rw [hr]; exact q_M h, fun {zm} em => ?_⟩
        refine q_sames h (v' := σ 43 k - σ 43 k / nI 10 * nI 10) ?_ ex ?_
        · rw [← eu]
          unfold m_X3_kind
          rw [hs]
          rfl
        · rw [hr] at em ⊢
          unfold m_X6_told at em
          rw [im] at em
          obtain ⟨y2, e2, em⟩ := q_apx em
          subst e2
          rw [if_neg (by decide), if_neg w0, if_neg w1, if_pos w2, nI_clamp (by omega)] at em
          exact em
      by_cases w3 : a2 = nI 3
      · rw [if_neg w0, if_neg w1, if_neg w2, if_pos w3] at ex
        obtain ⟨u, eu, ex⟩ := q_apx ex
        have hr : zx.2 = σ := by rw [← ex]
        refine ⟨by rw [hr]; exact q_M h, fun {zm} em => ?_⟩
        refine q_sames h (v' := σ 44 k) ?_ ex ?_
        · rw [← eu]
          unfold m_X3_z
          rw [hs]
          rfl
        · rw [hr] at em ⊢
          unfold m_X6_told at em
          rw [im] at em
          obtain ⟨y2, e2, em⟩ := q_apx em
          subst e2
          rw [if_neg (by decide), if_neg w0, if_neg w1, if_neg w2, if_pos w3, nI_clamp (by omega)] at em
          exact em
      by_cases w4 : a2 = nI 4
      · rw [if_neg w0, if_neg w1, if_neg w2, if_neg w3, if_pos w4] at ex
        obtain ⟨u, eu, ex⟩ := q_apx ex
        have hr : zx.2 = σ := by rw [← ex]
        refine ⟨by rw [hr]; exact q_M h, fun {zm} em => ?_⟩
        refine q_sames h (v' := σ 45 k) ?_ ex ?_
        · rw [← eu]
          unfold m_X3_miss
          rw [hs]
          rfl
        · rw [hr] at em ⊢
          unfold m_X6_told at em
          rw [im] at em
          obtain ⟨y2, e2, em⟩ := q_apx em
          subst e2
          rw [if_neg (by decide), if_neg w0, if_neg w1, if_neg w2, if_neg w3, if_pos w4, nI_clamp (by omega)] at em
          exact em
      by_cases w5 : a2 = nI 5
      · rw [if_neg w0, if_neg w1, if_neg w2, if_neg w3, if_neg w4, if_pos w5] at ex
        obtain ⟨y, ey, ex⟩ := q_apx ex
        obtain ⟨h1, h2⟩ := q_ask h ey
        by_cases c0 : y.1 = 0
        · rw [if_pos c0] at ex
          subst ex
          refine ⟨q_M h1, fun {zm} em => ?_⟩
          have im' : m_X6_isSight W S n n B y.2 (nI k) = nI 1 := by
            rcases q_atC (W := W) (S := S) (B := B) (B' := B) (σ := y.2) (τ := y.2) (v := nI k) s5 h.tt.bz with ⟨k', hk', ek', ee, im'⟩ | ⟨ee, im'⟩
            · have : k = k' := (nI_eq (by omega) (by omega)).mp ek'
              subst this
              rw [im', if_neg (fun r => by have := (h1.tt.sn k hk).mpr r; rw [hB] at this; cases this)]
            · rw [← e] at hB
              exfalso
              have e' : m_X4_at W S n n B y.2 (nI k) = m_X4_at W S n n B σ (nI k) := rfl
              rw [e', hB] at ee
              cases ee
          unfold m_X6_told at em
          rw [im'] at em
          obtain ⟨y2, e2, em⟩ := q_apx em
          subst e2
          rw [if_neg (by decide), if_neg w0, if_neg w1, if_neg w2, if_neg w3, if_neg w4, if_pos w5] at em
          obtain ⟨z, ez, em⟩ := q_apx em
          rcases h2 ez with ⟨h3, ⟨b1, -⟩ | ⟨b1, b2⟩⟩
          · exact absurd c0 (by rw [b1]; decide)
          · rw [if_pos (by rw [b2]; rfl)] at em
            exact q_answer h3 rfl em
        · rw [if_neg c0] at ex
          obtain ⟨y95, e95, ex⟩ := q_apx ex
          subst ex
          refine ⟨q_M h1, fun {zm} em => ?_⟩
          have im' : m_X6_isSight W S n n B y.2 (nI k) = nI 1 := by
            rcases q_atC (W := W) (S := S) (B := B) (B' := B) (σ := y.2) (τ := y.2) (v := nI k) s5 h.tt.bz with ⟨k', hk', ek', ee, im'⟩ | ⟨ee, im'⟩
            · have : k = k' := (nI_eq (by omega) (by omega)).mp ek'
              subst this
              rw [im', if_neg (fun r => by have := (h1.tt.sn k hk).mpr r; rw [hB] at this; cases this)]
            · rw [← e] at hB
              exfalso
              have e' : m_X4_at W S n n B y.2 (nI k) = m_X4_at W S n n B σ (nI k) := rfl
              rw [e', hB] at ee
              cases ee
          unfold m_X6_told at em
          rw [im'] at em
          obtain ⟨y2, e2, em⟩ := q_apx em
          subst e2
          rw [if_neg (by decide), if_neg w0, if_neg w1, if_neg w2, if_neg w3, if_neg w4, if_pos w5] at em
          obtain ⟨z, ez, em⟩ := q_apx em
          rcases h2 ez with ⟨h3, ⟨b1, b2, b3, b4⟩ | ⟨b1, b2⟩⟩
          · rw [if_neg (by rw [b2]; decide)] at em
            refine q_answer h3 ?_ em
            obtain ⟨F, f1, f2, f3⟩ := b4
            rw [← e95, f3]
            unfold m_X0_leftOut
            rw [f2]
          · exact absurd (by rw [b1]; rfl) c0
      · rw [if_neg w0, if_neg w1, if_neg w2, if_neg w3, if_neg w4, if_neg w5] at ex
        subst ex
        refine ⟨q_M h, fun {zm} em => ?_⟩
        unfold m_X6_told at em
        rw [im] at em
        obtain ⟨y2, e2, em⟩ := q_apx em
        subst e2
        rw [if_neg (by decide), if_neg w0, if_neg w1, if_neg w2, if_neg w3, if_neg w4, if_neg w5] at em
        exact q_refuse h em
  · rw [e] at e5
    subst e5
    rw [Option.elim_none] at ex
    subst ex
    refine ⟨q_M h, fun {zm} em => ?_⟩
    unfold m_X6_told at em
    rw [im] at em
    exact q_refuse h em
theorem q_cc0 {W S n : Nat} {R R' : (Nat → Int) → Prop} {s s' : Nat → (Nat → Int) → Prop} {f46 f46' f9 f32 f34 : Nat → Int32} (h : q_cc W S n R s f46 f9 f32 f34) : q_cc W S n R' s' f46' (upd (upd f9 5 (nI 0)) 6 (nI 0)) f32 f34 := ⟨h.1, Or.inl ⟨rfl, rfl⟩⟩
theorem q_cc6 {W S n m : Nat} {R : (Nat → Int) → Prop} {s s' : Nat → (Nat → Int) → Prop} {f46 f46' f9 f32 f34 : Nat → Int32} (h : q_cc W S n R s f46 f9 f32 f34) : q_cc W S m R s' f46' (upd f9 6 (nI 0)) f32 f34 := by
  refine ⟨h.1, ?_⟩
  rcases h.2 with ⟨h1, h2⟩ | ⟨h1, ⟨h2, h3, h4⟩ | ⟨h2, h3⟩⟩
  · exact Or.inl ⟨h1, rfl⟩
  · exact Or.inr ⟨h1, Or.inl ⟨h2, h3, Or.inl rfl⟩⟩
  · exact Or.inr ⟨h1, Or.inr ⟨h2, h3⟩⟩
theorem q_rc0 {W S n m : Nat} {R R' : (Nat → Int) → Prop} {s s' : Nat → (Nat → Int) → Prop} {f46 f46' f36 f47 f47' : Nat → Int32} (h : q_rc W S n R s f46 f36 f47) : q_rc W S m R' s' f46' (upd f36 16 (nI 0)) f47' := ⟨h.1, Or.inl rfl⟩
theorem q_up {f : Nat → Int32} {k j : Nat} {v : Int32} : upd f k v j = if j = k then v else f j := rfl
theorem nI_1' {k : Nat} : nI k + nI 1 = nI (k + 1) := nI_add k 1
theorem P_thick {W S n N : Nat} {B : Nat → Option Nat} {σ : Nat → Nat → Int32} (h : Rel W S n N B σ) {a1 a2 a3 : Int32} {zx : Int32 × (Nat → Int32) × (Nat → Int32) × (Nat → Int32)} (ex : m_X5_thick W S n n B σ a1 a2 a3 = zx) : MP W S n B (sA (sA (sA σ 2 zx.2.1) 3 zx.2.2.1) 9 zx.2.2.2) ∧ ∀ {zm : Int32 × (Nat → Int32) × (Nat → Int32) × (Nat → Int32)}, m_X6_thick W S n n B (sA (sA (sA σ 2 zx.2.1) 3 zx.2.2.1) 9 zx.2.2.2) a1 a2 a3 = zm → zx.1 = zm.1 ∧ Rel W S n N B (sA (sA (sA (sA (sA (sA σ 2 zx.2.1) 3 zx.2.2.1) 9 zx.2.2.2) 36 zm.2.1) 37 zm.2.2.1) 38 zm.2.2.2) := by
  have s1 := h.h6.s1
  have s2 := h.h6.s2
  have s3 := h.h6.s3
  have s4 := h.h6.s4
  have s5 := h.h6.s5
  have hno : ∀ {zm : Int32 × (Nat → Int32) × (Nat → Int32) × (Nat → Int32)}, (nI 0, σ 2, σ 3, σ 9) = zx → (m_X6_thick W S n n B σ a1 a2 a3 = (nI 0, σ 36, σ 37, σ 38)) → MP W S n B (sA (sA (sA σ 2 zx.2.1) 3 zx.2.2.1) 9 zx.2.2.2) ∧ ∀ {zm : Int32 × (Nat → Int32) × (Nat → Int32) × (Nat → Int32)}, m_X6_thick W S n n B (sA (sA (sA σ 2 zx.2.1) 3 zx.2.2.1) 9 zx.2.2.2) a1 a2 a3 = zm → zx.1 = zm.1 ∧ Rel W S n N B (sA (sA (sA (sA (sA (sA σ 2 zx.2.1) 3 zx.2.2.1) 9 zx.2.2.2) 36 zm.2.1) 37 zm.2.2.1) 38 zm.2.2.2) := by
    intro _ e1 e2
    subst e1
    simp only [sA_id]
    refine ⟨q_M h, fun {zm} em => ?_⟩
    rw [e2] at em
    subst em
    refine ⟨rfl, ?_⟩
    simp only [sA_id]
    exact h
  unfold m_X5_thick at ex
  rw [q_hS (by omega)] at ex
  obtain ⟨y5, e5, ex⟩ := q_apx ex
  by_cases c : 0 ≤ a1.toInt ∧ a1.toInt < S
  · rw [if_pos c] at e5
    subst e5
    rw [if_neg (by decide)] at ex
    obtain ⟨k, rfl, hk⟩ := q_nIo c.1
    rw [nI_1', q_hS (by omega), q_nt (by omega)] at ex
    obtain ⟨y18, e18, ex⟩ := q_apx ex
    by_cases d : 0 ≤ ((k + 1 : Nat) : Int) ∧ ((k + 1 : Nat) : Int) < S
    · rw [if_pos d] at e18
      subst e18
      rw [if_neg (by decide), q_dep] at ex
      obtain ⟨y27, e27, ex⟩ := q_apx ex
      by_cases f : 0 ≤ a2.toInt ∧ a2.toInt ≤ 60
      · rw [if_pos f] at e27
        subst e27
        rw [if_neg (by decide), q_dep] at ex
        obtain ⟨y34, e34, ex⟩ := q_apx ex
        by_cases g : 0 ≤ a3.toInt ∧ a3.toInt ≤ 60
        · rw [if_pos g] at e34
          subst e34
          rw [if_neg (by decide)] at ex
          by_cases w : a2 ≤ a3
          · rw [if_pos w] at ex
            obtain ⟨y54, e54, ex⟩ := q_apx ex
            obtain ⟨y61, e61, ex⟩ := q_apx ex
            unfold m_X2_setThick at e54
            rw [q_hS (by omega), if_pos c] at e54
            obtain ⟨u, eu, e54⟩ := q_apx e54
            subst eu
            rw [if_neg (by decide), nI_clamp (by omega)] at e54
            subst ex
            subst e54
            unfold m_X0_forgetRock at e61
            subst e61
            rw [q_lei] at w
            refine ⟨q_MP (⟨h.h6.s1, h.h6.s2, h.h6.s3, h.h6.s4, h.h6.s5, h.h6.tr, h.h6.sv, h.h6.rc⟩ : q_H6 W S n (sA (sA (sA σ 2 _) 3 _) 9 _)), fun {zm} em => ?_⟩
            unfold m_X6_thick at em
            rw [q_6in, q_6in, q_6in, q_sb (by omega) (by omega), q_n0, q_n60, if_pos ⟨c.1, by omega⟩, if_pos f, if_pos ⟨w, g.2⟩, nI_clamp (by omega)] at em
            obtain ⟨v8, w8, em⟩ := q_apx em
            subst w8
            rw [if_neg (by decide)] at em
            obtain ⟨v18, w18, em⟩ := q_apx em
            subst w18
            rw [if_neg (by decide)] at em
            obtain ⟨v28, w28, em⟩ := q_apx em
            subst w28
            rw [if_neg (by decide)] at em
            subst em
            refine ⟨rfl, ⟨h.h6.s1, h.h6.s2, h.h6.s3, h.h6.s4, h.h6.s5, ?_, h.h6.sv, q_rc0 h.h6.rc⟩, ⟨h.tt.n50, h.tt.bok, h.tt.bz, ?_, ?_, h.tt.t4, h.tt.t6, h.tt.t5, h.tt.t35, h.tt.sn, ?_⟩, q_cc0 h.cc⟩
            · refine ⟨fun i hi => ?_, h.h6.tr.2⟩
              have r := h.h6.tr.1 i hi
              show 0 ≤ (upd (σ 37) k a2 i).toInt ∧ (upd (σ 37) k a2 i).toInt ≤ (upd (σ 38) k a3 i).toInt ∧ (upd (σ 38) k a3 i).toInt ≤ 60 ∧ 0 ≤ (σ 39 i).toInt ∧ (σ 39 i).toInt ≤ 60
              rw [q_up, q_up]
              by_cases e : i = k
              · rw [if_pos e, if_pos e]
                exact ⟨f.1, w, g.2, r.2.2.2⟩
              · rw [if_neg e, if_neg e]
                exact r
            · intro i hi
              show upd (σ 2) k a2 i = upd (σ 37) k a2 i
              rw [q_up, q_up, h.tt.t2 i hi]
            · intro i hi
              show upd (σ 3) k a3 i = upd (σ 38) k a3 i
              rw [q_up, q_up, h.tt.t3 i hi]
            · intro i hi q hq
              have h50 := (h.tt.bok i q hq).1
              refine Eq.trans ?_ (h.tt.ss i hi q hq)
              rw [sA_ne (by omega), sA_ne (by omega), sA_ne (by omega), sA_ne (by omega), sA_ne (by omega), sA_ne (by omega)]
          · rw [if_neg w] at ex
            rw [q_lei] at w
            refine hno (zm := (0, σ 0, σ 0, σ 0)) ex ?_
            unfold m_X6_thick
            rw [q_6in, q_6in, q_6in, q_sb (by omega) (by omega), q_n0, q_n60, if_pos ⟨c.1, by omega⟩, if_pos f, if_neg (fun q => w q.1)]
            rfl
        · rw [if_neg g] at e34
          subst e34
          rw [if_pos (by decide)] at ex
          refine hno (zm := (0, σ 0, σ 0, σ 0)) ex ?_
          unfold m_X6_thick
          rw [q_6in, q_6in, q_6in, q_sb (by omega) (by omega), q_n0, q_n60, if_pos ⟨c.1, by omega⟩, if_pos f, if_neg (by omega)]
          rfl
      · rw [if_neg f] at e27
        subst e27
        rw [if_pos (by decide)] at ex
        refine hno (zm := (0, σ 0, σ 0, σ 0)) ex ?_
        unfold m_X6_thick
        rw [q_6in, q_6in, q_6in, q_sb (by omega) (by omega), q_n0, q_n60, if_pos ⟨c.1, by omega⟩, if_neg f]
        rfl
    · rw [if_neg d] at e18
      subst e18
      rw [if_pos (by decide)] at ex
      refine hno (zm := (0, σ 0, σ 0, σ 0)) ex ?_
      unfold m_X6_thick
      rw [q_6in, q_sb (by omega) (by omega), q_n0, if_neg (by omega)]
      rfl
  · rw [if_neg c] at e5
    subst e5
    rw [if_pos (by decide)] at ex
    refine hno (zm := (0, σ 0, σ 0, σ 0)) ex ?_
    unfold m_X6_thick
    rw [q_6in, q_sb (by omega) (by omega), q_n0, if_neg (by omega)]
    rfl
theorem P_steep {W S n N : Nat} {B : Nat → Option Nat} {σ : Nat → Nat → Int32} (h : Rel W S n N B σ) {a1 a2 : Int32} {zx : Int32 × (Nat → Int32) × (Nat → Int32)} (ex : m_X5_steep W S n n B σ a1 a2 = zx) : MP W S n B (sA (sA σ 4 zx.2.1) 9 zx.2.2) ∧ ∀ {zm : Int32 × (Nat → Int32) × (Nat → Int32)}, m_X6_steep W S n n B (sA (sA σ 4 zx.2.1) 9 zx.2.2) a1 a2 = zm → zx.1 = zm.1 ∧ Rel W S n N B (sA (sA (sA (sA σ 4 zx.2.1) 9 zx.2.2) 36 zm.2.1) 39 zm.2.2) := by
  have s1 := h.h6.s1
  have s2 := h.h6.s2
  have s3 := h.h6.s3
  have s4 := h.h6.s4
  have s5 := h.h6.s5
  have hno : (nI 0, σ 4, σ 9) = zx → (m_X6_steep W S n n B σ a1 a2 = (nI 0, σ 36, σ 39)) → (MP W S n B (sA (sA σ 4 zx.2.1) 9 zx.2.2) ∧ ∀ {zm : Int32 × (Nat → Int32) × (Nat → Int32)}, m_X6_steep W S n n B (sA (sA σ 4 zx.2.1) 9 zx.2.2) a1 a2 = zm → zx.1 = zm.1 ∧ Rel W S n N B (sA (sA (sA (sA σ 4 zx.2.1) 9 zx.2.2) 36 zm.2.1) 39 zm.2.2)) := by
    intro e1 e2
    subst e1
    simp only [sA_id]
    refine ⟨q_M h, fun {zm} em => ?_⟩
    rw [e2] at em
    subst em
    refine ⟨rfl, ?_⟩
    simp only [sA_id]
    exact h
  unfold m_X5_steep at ex
  rw [q_hS (by omega)] at ex
  obtain ⟨y5, e5, ex⟩ := q_apx ex
  by_cases c : 0 ≤ a1.toInt ∧ a1.toInt < S
  · rw [if_pos c] at e5
    subst e5
    rw [if_neg (by decide)] at ex
    obtain ⟨k, rfl, hk⟩ := q_nIo c.1
    rw [q_dep] at ex
    obtain ⟨y12, e12, ex⟩ := q_apx ex
    by_cases f : 0 ≤ a2.toInt ∧ a2.toInt ≤ 60
    · rw [if_pos f] at e12
      subst e12
      rw [if_neg (by decide)] at ex
      obtain ⟨y26, e26, ex⟩ := q_apx ex
      obtain ⟨y33, e33, ex⟩ := q_apx ex
      unfold m_X2_setSteep at e26
      rw [q_hS (by omega), if_pos c] at e26
      obtain ⟨u, eu, e26⟩ := q_apx e26
      subst eu
      rw [if_neg (by decide), nI_clamp (by omega)] at e26
      subst ex
      subst e26
      unfold m_X0_forgetRock at e33
      subst e33
      refine ⟨q_MP (⟨h.h6.s1, h.h6.s2, h.h6.s3, h.h6.s4, h.h6.s5, h.h6.tr, h.h6.sv, h.h6.rc⟩ : q_H6 W S n (sA (sA σ 4 _) 9 _)), fun {zm} em => ?_⟩
      unfold m_X6_steep at em
      rw [q_6in, q_6in, q_sb (by omega) (by omega), q_n0, q_n60, if_pos ⟨c.1, by omega⟩, if_pos f, nI_clamp (by omega)] at em
      obtain ⟨v8, w8, em⟩ := q_apx em
      subst w8
      rw [if_neg (by decide)] at em
      obtain ⟨v9, w9, em⟩ := q_apx em
      subst w9
      rw [if_neg (by decide)] at em
      subst em
      refine ⟨rfl, ⟨h.h6.s1, h.h6.s2, h.h6.s3, h.h6.s4, h.h6.s5, ?_, h.h6.sv, q_rc0 h.h6.rc⟩, ⟨h.tt.n50, h.tt.bok, h.tt.bz, h.tt.t2, h.tt.t3, ?_, h.tt.t6, h.tt.t5, h.tt.t35, h.tt.sn, ?_⟩, q_cc0 h.cc⟩
      · refine ⟨fun i hi => ?_, h.h6.tr.2⟩
        have r := h.h6.tr.1 i hi
        show 0 ≤ (σ 37 i).toInt ∧ (σ 37 i).toInt ≤ (σ 38 i).toInt ∧ (σ 38 i).toInt ≤ 60 ∧ 0 ≤ (upd (σ 39) k a2 i).toInt ∧ (upd (σ 39) k a2 i).toInt ≤ 60
        rw [q_up]
        by_cases e : i = k
        · rw [if_pos e]
          exact ⟨r.1, r.2.1, r.2.2.1, f.1, f.2⟩
        · rw [if_neg e]
          exact r
      · intro i hi
        show upd (σ 4) k a2 i = upd (σ 39) k a2 i
        rw [q_up, q_up, h.tt.t4 i hi]
      · intro i hi q hq
        have h50 := (h.tt.bok i q hq).1
        refine Eq.trans ?_ (h.tt.ss i hi q hq)
        rw [sA_ne (by omega), sA_ne (by omega), sA_ne (by omega), sA_ne (by omega)]
    · rw [if_neg f] at e12
      subst e12
      rw [if_pos (by decide)] at ex
      refine hno ex ?_
      unfold m_X6_steep
      rw [q_6in, q_6in, q_sb (by omega) (by omega), q_n0, q_n60, if_pos ⟨c.1, by omega⟩, if_neg f]
      rfl
  · rw [if_neg c] at e5
    subst e5
    rw [if_pos (by decide)] at ex
    refine hno ex ?_
    unfold m_X6_steep
    rw [q_6in, q_sb (by omega) (by omega), q_n0, if_neg (by omega)]
    rfl
theorem P_fault {W S n N : Nat} {B : Nat → Option Nat} {σ : Nat → Nat → Int32} (h : Rel W S n N B σ) {a1 a2 : Int32} {zx : Int32 × (Nat → Int32) × (Nat → Int32) × (Nat → Int32)} (ex : m_X5_fault W S n n B σ a1 a2 = zx) : MP W S n B (sA (sA (sA σ 5 zx.2.1) 6 zx.2.2.1) 9 zx.2.2.2) ∧ ∀ {zm : Int32 × (Nat → Int32) × (Nat → Int32) × (Nat → Int32)}, m_X6_fault W S n n B (sA (sA (sA σ 5 zx.2.1) 6 zx.2.2.1) 9 zx.2.2.2) a1 a2 = zm → zx.1 = zm.1 ∧ Rel W S n N B (sA (sA (sA (sA (sA (sA σ 5 zx.2.1) 6 zx.2.2.1) 9 zx.2.2.2) 36 zm.2.1) 40 zm.2.2.1) 41 zm.2.2.2) := by
  have s1 := h.h6.s1
  have s2 := h.h6.s2
  have s3 := h.h6.s3
  have s4 := h.h6.s4
  have s5 := h.h6.s5
  have hno : (nI 0, σ 5, σ 6, σ 9) = zx → (m_X6_fault W S n n B σ a1 a2 = (nI 0, σ 36, σ 40, σ 41)) → (MP W S n B (sA (sA (sA σ 5 zx.2.1) 6 zx.2.2.1) 9 zx.2.2.2) ∧ ∀ {zm : Int32 × (Nat → Int32) × (Nat → Int32) × (Nat → Int32)}, m_X6_fault W S n n B (sA (sA (sA σ 5 zx.2.1) 6 zx.2.2.1) 9 zx.2.2.2) a1 a2 = zm → zx.1 = zm.1 ∧ Rel W S n N B (sA (sA (sA (sA (sA (sA σ 5 zx.2.1) 6 zx.2.2.1) 9 zx.2.2.2) 36 zm.2.1) 40 zm.2.2.1) 41 zm.2.2.2)) := by
    intro e1 e2
    subst e1
    simp only [sA_id]
    refine ⟨q_M h, fun {zm} em => ?_⟩
    rw [e2] at em
    subst em
    refine ⟨rfl, ?_⟩
    simp only [sA_id]
    exact h
  have em30 : ((-30 : Int32)).toInt = -30 := by decide
  unfold m_X5_fault at ex
  rw [q_hN (by omega)] at ex
  obtain ⟨y5, e5, ex⟩ := q_apx ex
  by_cases c : 0 ≤ a1.toInt ∧ a1.toInt + 1 < W
  · rw [if_pos c] at e5
    subst e5
    rw [if_neg (by decide)] at ex
    obtain ⟨k, rfl, hk⟩ := q_nIo c.1
    rw [q_wit (by omega)] at ex
    obtain ⟨y12, e12, ex⟩ := q_apx ex
    by_cases f : -((30 : Nat) : Int) ≤ a2.toInt ∧ a2.toInt ≤ ((30 : Nat) : Int)
    · rw [if_pos f] at e12
      subst e12
      rw [if_neg (by decide)] at ex
      obtain ⟨y26, e26, ex⟩ := q_apx ex
      obtain ⟨y33, e33, ex⟩ := q_apx ex
      unfold m_X2_breakAt at e26
      rw [q_hN (by omega), if_pos c] at e26
      obtain ⟨u, eu, e26⟩ := q_apx e26
      subst eu
      rw [if_neg (by decide), nI_clamp (by omega)] at e26
      subst ex
      subst e26
      unfold m_X0_forgetRock at e33
      subst e33
      refine ⟨q_MP (⟨h.h6.s1, h.h6.s2, h.h6.s3, h.h6.s4, h.h6.s5, h.h6.tr, h.h6.sv, h.h6.rc⟩ : q_H6 W S n (sA (sA (sA σ 5 _) 6 _) 9 _)), fun {zm} em => ?_⟩
      unfold m_X6_fault at em
      rw [q_6in, q_6in, q_sb (by omega) (by omega), q_n0, em30, q_n30, if_pos ⟨c.1, by omega⟩, if_pos ⟨f.1, f.2⟩, nI_clamp (by omega)] at em
      obtain ⟨v8, w8, em⟩ := q_apx em
      subst w8
      rw [if_neg (by decide)] at em
      obtain ⟨v9, w9, em⟩ := q_apx em
      subst w9
      rw [if_neg (by decide)] at em
      subst em
      refine ⟨rfl, ⟨h.h6.s1, h.h6.s2, h.h6.s3, h.h6.s4, h.h6.s5, ?_, h.h6.sv, q_rc0 h.h6.rc⟩, ⟨h.tt.n50, h.tt.bok, h.tt.bz, h.tt.t2, h.tt.t3, h.tt.t4, ?_, ?_, h.tt.t35, h.tt.sn, ?_⟩, q_cc0 h.cc⟩
      · refine ⟨h.h6.tr.1, fun i hi => ?_⟩
        have r := h.h6.tr.2 i hi
        show -30 ≤ (if upd (σ 40) k (nI 1) i = 0 then nI 0 else upd (σ 41) k a2 i).toInt ∧ (if upd (σ 40) k (nI 1) i = 0 then nI 0 else upd (σ 41) k a2 i).toInt ≤ 30
        rw [q_up, q_up]
        by_cases e : i = k
        · rw [if_pos e, if_pos e, if_neg (by decide)]
          exact ⟨by omega, by omega⟩
        · rw [if_neg e, if_neg e]
          exact r
      · intro i hi
        have r := h.tt.t6 i hi
        show upd (σ 6) k (nI 1) i = upd (σ 40) k (nI 1) i ∧ bl (upd (σ 40) k (nI 1) i) ∧ (W ≤ i + 1 → upd (σ 40) k (nI 1) i = nI 0)
        rw [q_up, q_up]
        by_cases e : i = k
        · rw [if_pos e, if_pos e]
          exact ⟨rfl, Or.inr rfl, fun q => by omega⟩
        · rw [if_neg e, if_neg e]
          exact r
      · intro i hi
        have r := h.tt.t5 i hi
        show upd (σ 5) k a2 i = if upd (σ 40) k (nI 1) i = 0 then nI 0 else upd (σ 41) k a2 i
        rw [q_up, q_up, q_up]
        by_cases e : i = k
        · rw [if_pos e, if_pos e, if_pos e, if_neg (by decide)]
        · rw [if_neg e, if_neg e, if_neg e]
          exact r
      · intro i hi q hq
        have h50 := (h.tt.bok i q hq).1
        refine Eq.trans ?_ (h.tt.ss i hi q hq)
        rw [sA_ne (by omega), sA_ne (by omega), sA_ne (by omega), sA_ne (by omega), sA_ne (by omega), sA_ne (by omega)]
    · rw [if_neg f] at e12
      subst e12
      rw [if_pos (by decide)] at ex
      refine hno ex ?_
      unfold m_X6_fault
      rw [q_6in, q_6in, q_sb (by omega) (by omega), q_n0, em30, q_n30, if_pos ⟨c.1, by omega⟩, if_neg (fun q => f ⟨q.1, q.2⟩)]
      rfl
  · rw [if_neg c] at e5
    subst e5
    rw [if_pos (by decide)] at ex
    refine hno ex ?_
    unfold m_X6_fault
    rw [q_6in, q_sb (by omega) (by omega), q_n0, if_neg (by omega)]
    rfl
theorem q_brk {W S n N : Nat} {B : Nat → Option Nat} {σ : Nat → Nat → Int32} (h : q_rel W S n N B σ) {k : Nat} (hk : k < W) : m_X2_isBroken W S n n B σ (nI k) = if σ 40 k = 0 then nI 0 else nI 1 := by
  have s1 := h.h6.s1
  have s2 := h.h6.s2
  have r := h.tt.t6 k hk
  unfold m_X2_isBroken
  rw [q_hN (by omega), q_nt (by omega), nI_clamp (by omega), r.1]
  unfold ap
  dsimp only
  by_cases c : 0 ≤ ((k : Nat) : Int) ∧ ((k : Nat) : Int) + 1 < W
  · rw [if_pos c, if_neg (by decide)]
  · rw [if_neg c, if_pos (by decide), r.2.2 (by omega), if_pos (by decide)]
theorem P_heal {W S n N : Nat} {B : Nat → Option Nat} {σ : Nat → Nat → Int32} (h : Rel W S n N B σ) {a1 : Int32} {zx : Int32 × (Nat → Int32) × (Nat → Int32) × (Nat → Int32)} (ex : m_X5_heal W S n n B σ a1 = zx) : MP W S n B (sA (sA (sA σ 5 zx.2.1) 6 zx.2.2.1) 9 zx.2.2.2) ∧ ∀ {zm : Int32 × (Nat → Int32) × (Nat → Int32)}, m_X6_heal W S n n B (sA (sA (sA σ 5 zx.2.1) 6 zx.2.2.1) 9 zx.2.2.2) a1 = zm → zx.1 = zm.1 ∧ Rel W S n N B (sA (sA (sA (sA (sA σ 5 zx.2.1) 6 zx.2.2.1) 9 zx.2.2.2) 36 zm.2.1) 40 zm.2.2) := by
  have s1 := h.h6.s1
  have s2 := h.h6.s2
  have s3 := h.h6.s3
  have s4 := h.h6.s4
  have s5 := h.h6.s5
  have hno : (nI 0, σ 5, σ 6, σ 9) = zx → (m_X6_heal W S n n B σ a1 = (nI 0, σ 36, σ 40)) → (MP W S n B (sA (sA (sA σ 5 zx.2.1) 6 zx.2.2.1) 9 zx.2.2.2) ∧ ∀ {zm : Int32 × (Nat → Int32) × (Nat → Int32)}, m_X6_heal W S n n B (sA (sA (sA σ 5 zx.2.1) 6 zx.2.2.1) 9 zx.2.2.2) a1 = zm → zx.1 = zm.1 ∧ Rel W S n N B (sA (sA (sA (sA (sA σ 5 zx.2.1) 6 zx.2.2.1) 9 zx.2.2.2) 36 zm.2.1) 40 zm.2.2)) := by
    intro e1 e2
    subst e1
    simp only [sA_id]
    refine ⟨q_M h, fun {zm} em => ?_⟩
    rw [e2] at em
    subst em
    refine ⟨rfl, ?_⟩
    simp only [sA_id]
    exact h
  unfold m_X5_heal at ex
  obtain ⟨y5, e5, ex⟩ := q_apx ex
  by_cases c : 0 ≤ a1.toInt ∧ a1.toInt + 1 < W
  · obtain ⟨k, rfl, hk⟩ := q_nIo c.1
    rw [q_brk h (by omega)] at e5
    by_cases f : σ 40 k = 0
    · rw [if_pos f] at e5
      subst e5
      rw [if_pos (by decide)] at ex
      refine hno ex ?_
      unfold m_X6_heal
      rw [q_6in, q_sb (by omega) (by omega), q_n0, if_pos ⟨c.1, by omega⟩, nI_clamp (by omega), if_pos f]
      rfl
    · rw [if_neg f] at e5
      subst e5
      rw [if_neg (by decide)] at ex
      obtain ⟨y26, e26, ex⟩ := q_apx ex
      obtain ⟨y33, e33, ex⟩ := q_apx ex
      unfold m_X2_mendAt at e26
      rw [q_hN (by omega), if_pos c] at e26
      obtain ⟨u, eu, e26⟩ := q_apx e26
      subst eu
      rw [if_neg (by decide), nI_clamp (by omega)] at e26
      subst ex
      subst e26
      unfold m_X0_forgetRock at e33
      subst e33
      refine ⟨q_MP (⟨h.h6.s1, h.h6.s2, h.h6.s3, h.h6.s4, h.h6.s5, h.h6.tr, h.h6.sv, h.h6.rc⟩ : q_H6 W S n (sA (sA (sA σ 5 _) 6 _) 9 _)), fun {zm} em => ?_⟩
      unfold m_X6_heal at em
      rw [q_6in, q_sb (by omega) (by omega), q_n0, if_pos ⟨c.1, by omega⟩, nI_clamp (by omega)] at em
      obtain ⟨v8, w8, em⟩ := q_apx em
      subst w8
      rw [if_neg (by decide)] at em
      rw [if_neg (by exact f)] at em
      subst em
      refine ⟨rfl, ⟨h.h6.s1, h.h6.s2, h.h6.s3, h.h6.s4, h.h6.s5, ?_, h.h6.sv, q_rc0 h.h6.rc⟩, ⟨h.tt.n50, h.tt.bok, h.tt.bz, h.tt.t2, h.tt.t3, h.tt.t4, ?_, ?_, h.tt.t35, h.tt.sn, ?_⟩, q_cc0 h.cc⟩
      · refine ⟨h.h6.tr.1, fun i hi => ?_⟩
        have r := h.h6.tr.2 i hi
        show -30 ≤ (if upd (σ 40) k (nI 0) i = 0 then nI 0 else (σ 41) i).toInt ∧ (if upd (σ 40) k (nI 0) i = 0 then nI 0 else (σ 41) i).toInt ≤ 30
        rw [q_up]
        by_cases e : i = k
        · rw [if_pos e, if_pos (by decide)]
          decide
        · rw [if_neg e]
          exact r
      · intro i hi
        have r := h.tt.t6 i hi
        show upd (σ 6) k (nI 0) i = upd (σ 40) k (nI 0) i ∧ bl (upd (σ 40) k (nI 0) i) ∧ (W ≤ i + 1 → upd (σ 40) k (nI 0) i = nI 0)
        rw [q_up, q_up]
        by_cases e : i = k
        · rw [if_pos e, if_pos e]
          exact ⟨rfl, Or.inl rfl, fun q => rfl⟩
        · rw [if_neg e, if_neg e]
          exact r
      · intro i hi
        have r := h.tt.t5 i hi
        show upd (σ 5) k (nI 0) i = if upd (σ 40) k (nI 0) i = 0 then nI 0 else (σ 41) i
        rw [q_up, q_up]
        by_cases e : i = k
        · rw [if_pos e, if_pos e, if_pos (by decide)]
        · rw [if_neg e, if_neg e]
          exact r
      · intro i hi q hq
        have h50 := (h.tt.bok i q hq).1
        refine Eq.trans ?_ (h.tt.ss i hi q hq)
        rw [sA_ne (by omega), sA_ne (by omega), sA_ne (by omega), sA_ne (by omega), sA_ne (by omega)]
  · have e0 : m_X2_isBroken W S n n B σ a1 = nI 0 := by
      unfold m_X2_isBroken
      rw [q_hN (by omega), if_neg c]
      rfl
    rw [e0] at e5
    subst e5
    rw [if_pos (by decide)] at ex
    refine hno ex ?_
    unfold m_X6_heal
    rw [q_6in, q_sb (by omega) (by omega), q_n0, if_neg (by omega)]
    rfl
theorem P_ground {W S n N : Nat} {B : Nat → Option Nat} {σ : Nat → Nat → Int32} (h : Rel W S n N B σ) {a1 a2 : Int32} {zx : Int32 × (Nat → Int32)} (ex : m_X5_ground W S n n B σ a1 a2 = zx) : MP W S n B (sA σ 35 zx.2) ∧ ∀ {zm : Int32 × (Nat → Int32)}, m_X6_ground W S n n B (sA σ 35 zx.2) a1 a2 = zm → zx.1 = zm.1 ∧ Rel W S n N B (sA (sA σ 35 zx.2) 42 zm.2) := by
  have s1 := h.h6.s1
  have s2 := h.h6.s2
  have s3 := h.h6.s3
  have s4 := h.h6.s4
  have s5 := h.h6.s5
  have hno : (nI 0, σ 35) = zx → (m_X6_ground W S n n B σ a1 a2 = (nI 0, σ 42)) → (MP W S n B (sA σ 35 zx.2) ∧ ∀ {zm : Int32 × (Nat → Int32)}, m_X6_ground W S n n B (sA σ 35 zx.2) a1 a2 = zm → zx.1 = zm.1 ∧ Rel W S n N B (sA (sA σ 35 zx.2) 42 zm.2)) := by
    intro e1 e2
    subst e1
    simp only [sA_id]
    refine ⟨q_M h, fun {zm} em => ?_⟩
    rw [e2] at em
    subst em
    refine ⟨rfl, ?_⟩
    simp only [sA_id]
    exact h
  unfold m_X5_ground at ex
  by_cases c : 0 ≤ a1.toInt ∧ a1.toInt < W
  · rw [if_neg (by rw [q_lt, show ((0 : Int32)).toInt = 0 from rfl]; omega), if_neg (by rw [q_lei, q_nt (by omega)]; omega), q_dep] at ex
    obtain ⟨k, rfl, hk⟩ := q_nIo c.1
    obtain ⟨y12, e12, ex⟩ := q_apx ex
    by_cases f : 0 ≤ a2.toInt ∧ a2.toInt ≤ 60
    · rw [if_pos f] at e12
      subst e12
      rw [if_neg (by decide), nI_clamp (by omega)] at ex
      subst ex
      refine ⟨q_MP (⟨h.h6.s1, h.h6.s2, h.h6.s3, h.h6.s4, h.h6.s5, h.h6.tr, h.h6.sv, h.h6.rc⟩ : q_H6 W S n (sA σ 35 _)), fun {zm} em => ?_⟩
      unfold m_X6_ground at em
      rw [q_6in, q_6in, q_sb (by omega) (by omega), q_n0, q_n60, if_pos ⟨c.1, by omega⟩, if_pos f, nI_clamp (by omega)] at em
      obtain ⟨v8, w8, em⟩ := q_apx em
      subst w8
      rw [if_neg (by decide)] at em
      obtain ⟨v9, w9, em⟩ := q_apx em
      subst w9
      rw [if_neg (by decide)] at em
      subst em
      refine ⟨rfl, ⟨h.h6.s1, h.h6.s2, h.h6.s3, h.h6.s4, h.h6.s5, h.h6.tr, h.h6.sv, h.h6.rc⟩, ⟨h.tt.n50, h.tt.bok, h.tt.bz, h.tt.t2, h.tt.t3, h.tt.t4, h.tt.t6, h.tt.t5, ?_, h.tt.sn, ?_⟩, h.cc⟩
      · intro i hi
        have r := h.tt.t35 i hi
        show upd (σ 35) k a2 i = upd (σ 42) k a2 i
        rw [q_up, q_up, r]
      · intro i hi q hq
        have h50 := (h.tt.bok i q hq).1
        refine Eq.trans ?_ (h.tt.ss i hi q hq)
        rw [sA_ne (by omega), sA_ne (by omega)]
    · rw [if_neg f] at e12
      subst e12
      rw [if_pos (by decide)] at ex
      refine hno ex ?_
      unfold m_X6_ground
      rw [q_6in, q_6in, q_sb (by omega) (by omega), q_n0, q_n60, if_pos ⟨c.1, by omega⟩, if_neg f]
      rfl
  · have er : m_X6_ground W S n n B σ a1 a2 = (nI 0, σ 42) := by
      unfold m_X6_ground
      rw [q_6in, q_sb (by omega) (by omega), q_n0, if_neg (by omega)]
      rfl
    by_cases d : a1 < 0
    · rw [if_pos d] at ex
      exact hno ex er
    · rw [if_neg d, if_pos (by rw [q_lei, q_nt (by omega)]; rw [q_lt, show ((0 : Int32)).toInt = 0 from rfl] at d; omega)] at ex
      exact hno ex er
theorem q_vup {f : Nat → Option Nat} {k j : Nat} {v : Option Nat} : va_up f k v j = if j = k then v else f j := rfl
theorem P_take {W S n N : Nat} {B : Nat → Option Nat} {σ : Nat → Nat → Int32} (h : Rel W S n N B σ) {a1 : Int32} {zx : Int32 × (Nat → Option Nat) × (Nat → Int32)} (ex : m_X5_take W S n n B σ a1 = zx) : MP W S n zx.2.1 (sA σ 9 zx.2.2) ∧ ∀ {zm : Int32 × (Nat → Int32) × (Nat → Int32)}, m_X6_take W S n n zx.2.1 (sA σ 9 zx.2.2) a1 = zm → zx.1 = zm.1 ∧ Rel W S n N zx.2.1 (sA (sA (sA σ 9 zx.2.2) 36 zm.2.1) 46 zm.2.2) := by
  have s1 := h.h6.s1
  have s2 := h.h6.s2
  have s3 := h.h6.s3
  have s4 := h.h6.s4
  have s5 := h.h6.s5
  unfold m_X5_take at ex
  obtain ⟨y5, e5, ex⟩ := q_apx ex
  unfold m_X4_remove at e5
  obtain ⟨y2, e2, e5⟩ := q_apx e5
  have hno : (nI 0, B, σ 9) = zx → m_X6_take W S n n B σ a1 = (nI 0, σ 36, σ 46) → (MP W S n zx.2.1 (sA σ 9 zx.2.2) ∧ ∀ {zm : Int32 × (Nat → Int32) × (Nat → Int32)}, m_X6_take W S n n zx.2.1 (sA σ 9 zx.2.2) a1 = zm → zx.1 = zm.1 ∧ Rel W S n N zx.2.1 (sA (sA (sA σ 9 zx.2.2) 36 zm.2.1) 46 zm.2.2)) := by
    intro e1 e2
    subst e1
    simp only [sA_id]
    refine ⟨q_M h, fun {zm} em => ?_⟩
    rw [e2] at em
    subst em
    refine ⟨rfl, ?_⟩
    simp only [sA_id]
    exact h
  rcases q_atC (W := W) (S := S) (B := B) (B' := B) (σ := σ) (τ := σ) (v := a1) s5 h.tt.bz with ⟨k, hk, rfl, e, im⟩ | ⟨e, im⟩
  · rw [e] at e2
    cases hB : B k with
    | none =>
      rw [hB] at e2
      subst e2
      rw [Option.elim_none] at e5
      rw [if_pos ((h.tt.sn k hk).mp hB)] at im
      subst e5
      rw [if_pos (show nI 0 = (0 : Int32) from by decide)] at ex
      refine hno ex ?_
      unfold m_X6_take
      rw [im]
      rfl
    | some q =>
      rw [hB] at e2
      subst e2
      rw [Option.elim_some, nI_clamp (by omega)] at e5
      subst e5
      rw [if_neg (show ¬ nI 1 = (0 : Int32) from by decide)] at ex
      obtain ⟨y17, e17, ex⟩ := q_apx ex
      unfold m_X0_forgetQuarrel at e17
      subst ex
      subst e17
      refine ⟨q_MP (⟨h.h6.s1, h.h6.s2, h.h6.s3, h.h6.s4, h.h6.s5, h.h6.tr, h.h6.sv, h.h6.rc⟩ : q_H6 W S n (sA σ 9 _)), fun {zm} em => ?_⟩
      have im' : m_X6_isSight W S n n (va_up B k none) (sA σ 9 (upd (σ 9) 6 (nI 0))) (nI k) = nI 1 := by
        have e0 : m_X6_isSight W S n n (va_up B k none) (sA σ 9 (upd (σ 9) 6 (nI 0))) (nI k) = m_X6_isSight W S n n B σ (nI k) := rfl
        rw [e0, im, if_neg (fun r => by have := (h.tt.sn k hk).mpr r; rw [hB] at this; cases this)]
      unfold m_X6_take at em
      rw [im', nI_clamp (by omega)] at em
      obtain ⟨v8, w8, em⟩ := q_apx em
      subst w8
      rw [if_neg (by decide)] at em
      subst em
      refine ⟨rfl, ⟨h.h6.s1, h.h6.s2, h.h6.s3, h.h6.s4, h.h6.s5, h.h6.tr, h.h6.sv, q_rc0 h.h6.rc⟩, ⟨h.tt.n50, ?_, ?_, h.tt.t2, h.tt.t3, h.tt.t4, h.tt.t6, h.tt.t5, h.tt.t35, ?_, ?_⟩, q_cc6 h.cc⟩
      · intro i q' hq'
        dsimp only at hq'
        rw [q_vup] at hq'
        by_cases e : i = k
        · rw [if_pos e] at hq'; cases hq'
        · rw [if_neg e] at hq'
          exact h.tt.bok i q' hq'
      · intro i hi
        show va_up B k none i = none
        rw [q_vup, if_neg (by omega)]
        exact h.tt.bz i hi
      · intro i hi
        show va_up B k none i = none ↔ upd (σ 46) k (nI 0) i = 0
        rw [q_vup, q_up]
        by_cases e : i = k
        · rw [if_pos e, if_pos e]
          exact ⟨fun _ => rfl, fun _ => rfl⟩
        · rw [if_neg e, if_neg e]
          exact h.tt.sn i hi
      · intro i hi q' hq'
        dsimp only at hq'
        rw [q_vup] at hq'
        by_cases e : i = k
        · rw [if_pos e] at hq'; cases hq'
        · rw [if_neg e] at hq'
          have h50 := (h.tt.bok i q' hq').1
          refine Eq.trans ?_ (h.tt.ss i hi q' hq')
          rw [sA_ne (by omega), sA_ne (by omega), sA_ne (by omega)]
  · rw [e] at e2
    subst e2
    rw [Option.elim_none] at e5
    subst e5
    rw [if_pos (show nI 0 = (0 : Int32) from by decide)] at ex
    refine hno ex ?_
    unfold m_X6_take
    rw [im]
    rfl
theorem q_pc_hi {a n : Nat} (hn : n ≤ 10) (h : ∀ k, n ≤ k → a.testBit k = false) : ∀ m, n + m ≤ 10 → q_pc (n + m) a = q_pc n a
  | 0, _ => rfl
  | m + 1, hm => by
    show q_pc (n + m) a + (if a.testBit (n + m) then 1 else 0) = q_pc n a
    rw [h (n + m) (by omega), q_pc_hi hn h m (by omega)]
    rfl
theorem P_count {W S n N : Nat} {B : Nat → Option Nat} {σ : Nat → Nat → Int32} (h : Rel W S n N B σ) {a1 : Int32} {zx : Int32} (ex : m_X5_count W S n n B σ a1 = zx) : MP W S n B σ ∧ ∀ {zm : Int32}, m_X6_count W S n n B σ a1 = zm → zx = zm ∧ Rel W S n N B σ := by
  have s1 := h.h6.s1
  have s2 := h.h6.s2
  have s3 := h.h6.s3
  have s4 := h.h6.s4
  have s5 := h.h6.s5
  refine ⟨q_M h, fun {zm} em => ⟨?_, h⟩⟩
  rw [← ex, ← em]
  unfold m_X5_count m_X6_count
  by_cases w0 : a1 = nI 0
  · rw [if_pos w0, if_pos w0]; rfl
  · rw [if_neg w0, if_neg w0]
    by_cases w1 : a1 = nI 1
    · rw [if_pos w1, if_pos w1]; rfl
    · rw [if_neg w1, if_neg w1]
      by_cases w2 : a1 = nI 2
      · rw [if_pos w2, if_pos w2]
        unfold ap
        dsimp only
        obtain ⟨a, ha, ea, hat⟩ := q_hp (W := W) (S := S) (ns := n) (B := B) (σ := σ) s5
        rw [ea, q_bc ha]
        have hc := q_lp (f := m_X6_count_L44 W S n n B σ) (fun i c => c = nI (q_pc i a)) (n := n - 0) (i := 0) (a := nI 0) rfl (fun j c _ hj hcc => by
          have hj' : j < n := by omega
          have hs := h.tt.sn j hj'
          unfold m_X6_count_L44
          rw [nI_clamp (by omega), hcc]
          have hq : q_pc (j + 1) a = q_pc j a + (if a.testBit j then 1 else 0) := rfl
          rw [hq, hat]
          cases hB : B j with
          | none =>
            rw [if_pos (hs.mp hB), nI_add]
            simp
          | some q =>
            rw [if_neg (fun r => by have := hs.mpr r; rw [hB] at this; cases this), nI_add]
            simp [hj'])
        rw [hc, Nat.zero_add, Nat.sub_zero]
        have := q_pc_hi (a := a) s5 (fun k hk => by rw [hat]; simp; omega) (10 - n) (by omega)
        rw [show n + (10 - n) = 10 by omega] at this
        rw [this]
      · rw [if_neg w2, if_neg w2]
        by_cases w3 : a1 = nI 3
        · rw [if_pos w3, if_pos w3]
          unfold m_X2_faults ap
          dsimp only
          refine q_lpc (fun j c _ hj => ?_)
          unfold m_X2_faults_L4 m_X6_count_L79 ap
          dsimp only
          rw [q_brk h (by omega), nI_clamp (by omega)]
          by_cases f : σ 40 j = 0
          · rw [if_pos f, if_pos (by decide), if_pos f, q_ad0]
          · rw [if_neg f, if_neg (by decide), if_neg f]
        · rw [if_neg w3, if_neg w3]
def q_ok (W S : Nat) (a1 a2 a3 : Int32) : Prop := 0 ≤ a1.toInt ∧ ((0 ≤ (a1 / nI 100).toInt ∧ (a1 / nI 100).toInt < S) ∧ (0 ≤ (a1 / nI 10 - a1 / nI 10 / nI 10 * nI 10).toInt ∧ (a1 / nI 10 - a1 / nI 10 / nI 10 * nI 10).toInt < W)) ∧ (a1 - a1 / nI 10 * nI 10).toInt ≤ 3 ∧ ((a1 - a1 / nI 10 * nI 10).toInt = 3 → (a1 / nI 10 - a1 / nI 10 / nI 10 * nI 10).toInt + 1 < W) ∧ (-60 ≤ a2.toInt ∧ a2.toInt ≤ 60) ∧ (0 ≤ a3.toInt ∧ a3.toInt ≤ 60)
theorem q_s5 {W S ns nc : Nat} {B : Nat → Option Nat} {σ : Nat → Nat → Int32} {a1 a2 a3 : Int32} (hW : W ≤ 8) (hS : S ≤ 4) : (m_X5_sight W S ns nc B σ a1 a2 a3 = nI 1 ∧ q_ok W S a1 a2 a3) ∨ (m_X5_sight W S ns nc B σ a1 a2 a3 = nI 0 ∧ ¬ q_ok W S a1 a2 a3) := by
  unfold m_X5_sight q_ok ap
  dsimp only
  rw [show nI 60 = nI 60 from rfl, q_wit (m := 60) (by omega), q_dep, q_hP (by omega) (by omega), q_hN (by omega)]
  have n3 : (nI 3).toInt = 3 := rfl
  have z0 : ((0 : Int32)).toInt = 0 := rfl
  have e10 : (nI 1 = 0) = False := by decide
  have e00 : (nI 0 = 0) = True := by decide
  simp only [q_lt, q_lei, q_eqi, n3, z0]
  generalize (a1 / nI 100).toInt = k
  generalize (a1 / nI 10 - a1 / nI 10 / nI 10 * nI 10).toInt = c
  generalize (a1 - a1 / nI 10 * nI 10).toInt = d
  by_cases p1 : a1.toInt < 0
  · rw [if_pos p1]; exact Or.inr ⟨rfl, fun q => by omega⟩
  · rw [if_neg p1]
    by_cases p2 : -((60 : Nat) : Int) ≤ a2.toInt ∧ a2.toInt ≤ ((60 : Nat) : Int)
    · rw [if_pos p2, if_neg (by decide)]
      by_cases p3 : 0 ≤ a3.toInt ∧ a3.toInt ≤ 60
      · rw [if_pos p3, if_neg (by decide)]
        by_cases p4 : (0 ≤ k ∧ k < S) ∧ (0 ≤ c ∧ c < W)
        · rw [if_pos p4, if_neg (by decide)]
          by_cases p5 : d ≤ 3
          · rw [if_pos p5]
            by_cases p6 : d = 3
            · rw [if_pos p6]
              by_cases p7 : 0 ≤ c ∧ c + 1 < W
              · rw [if_pos p7, if_neg (by decide)]
                exact Or.inl ⟨rfl, by omega, p4, p5, fun _ => p7.2, by omega, p3⟩
              · rw [if_neg p7, if_pos (by decide)]
                exact Or.inr ⟨rfl, fun q => p7 ⟨p4.2.1, q.2.2.2.1 p6⟩⟩
            · rw [if_neg p6]
              exact Or.inl ⟨rfl, by omega, p4, p5, fun q => absurd q p6, by omega, p3⟩
          · rw [if_neg p5]
            exact Or.inr ⟨rfl, fun q => p5 q.2.2.1⟩
        · rw [if_neg p4, if_pos (by decide)]
          exact Or.inr ⟨rfl, fun q => p4 q.2.1⟩
      · rw [if_neg p3, if_pos (by decide)]
        exact Or.inr ⟨rfl, fun q => p3 q.2.2.2.2.2⟩
    · rw [if_neg p2, if_pos (by decide)]
      exact Or.inr ⟨rfl, fun q => by omega⟩
theorem q_s6 {W S ns nc : Nat} {B : Nat → Option Nat} {σ : Nat → Nat → Int32} {a1 a2 a3 : Int32} (hW1 : 1 ≤ W) (hW : W ≤ 8) (hS : S ≤ 4) (hns : ns ≤ 10) : m_X6_sight W S ns nc B σ a1 a2 a3 = ((nI (ns + 1)) - (nI 1), (ns + 1), (upd (σ 36) 16 (nI 0)), (upd (σ 43) (nI ns).toNatClampNeg a1), (upd (σ 44) (nI ns).toNatClampNeg a2), (upd (σ 45) (nI ns).toNatClampNeg a3), (upd (σ 46) (nI ns).toNatClampNeg (nI 1))) ∧ q_ok W S a1 a2 a3 ∧ ns < 10 ∨ (m_X6_sight W S ns nc B σ a1 a2 a3 = ((-1), ns, (σ 36), (σ 43), (σ 44), (σ 45), (σ 46)) ∧ ¬ (q_ok W S a1 a2 a3 ∧ ns < 10)) := by
  have em60 : ((-60 : Int32)).toInt = -60 := by decide
  have n3 : (nI 3).toInt = 3 := rfl
  have z0 : ((0 : Int32)).toInt = 0 := rfl
  unfold m_X6_sight q_ok ap
  dsimp only
  rw [q_6P (by omega) (by omega), q_6in, q_6in, q_n0, q_n60, em60]
  simp only [q_lt, q_eqi, n3, z0, q_sb (show W ≤ 100 by omega) (show 1 ≤ 100 by omega), q_nt (show ns < 2147483648 by omega), q_nt (show 10 < 2147483648 by omega), q_n1, q_n0]
  generalize (a1 / nI 100).toInt = k
  generalize (a1 / nI 10 - a1 / nI 10 / nI 10 * nI 10).toInt = c
  generalize (a1 - a1 / nI 10 * nI 10).toInt = d
  by_cases p1 : a1.toInt < 0
  · rw [if_pos p1]; exact Or.inr ⟨rfl, fun q => by have := q.1.1; omega⟩
  · rw [if_neg p1]
    by_cases p4 : (0 ≤ k ∧ k < S) ∧ (0 ≤ c ∧ c < W)
    · rw [if_pos p4, if_neg (by decide)]
      by_cases p5 : 3 < d
      · rw [if_pos p5]; exact Or.inr ⟨rfl, fun q => by have := q.1.2.2.1; omega⟩
      · rw [if_neg p5]
        by_cases p6 : d = 3
        · rw [if_pos p6]
          by_cases p7 : c = (W : Int) - ((1 : Nat) : Int)
          · rw [if_pos p7]; exact Or.inr ⟨rfl, fun q => by have := q.1.2.2.2.1 p6; omega⟩
          · rw [if_neg p7]
            by_cases p2 : -60 ≤ a2.toInt ∧ a2.toInt ≤ 60
            · rw [if_pos p2, if_neg (by decide)]
              by_cases p3 : 0 ≤ a3.toInt ∧ a3.toInt ≤ 60
              · rw [if_pos p3, if_neg (by decide)]
                by_cases p8 : (ns : Int) = ((10 : Nat) : Int)
                · rw [if_pos p8]
                  exact Or.inr ⟨rfl, fun q => by omega⟩
                · rw [if_neg p8]
                  exact Or.inl ⟨rfl, ⟨by omega, p4, by omega, fun _ => by omega, p2, p3⟩, by omega⟩
              · rw [if_neg p3, if_pos (by decide)]
                exact Or.inr ⟨rfl, fun q => p3 q.1.2.2.2.2.2⟩
            · rw [if_neg p2, if_pos (by decide)]
              exact Or.inr ⟨rfl, fun q => p2 q.1.2.2.2.2.1⟩
        · rw [if_neg p6]
          by_cases p2 : -60 ≤ a2.toInt ∧ a2.toInt ≤ 60
          · rw [if_pos p2, if_neg (by decide)]
            by_cases p3 : 0 ≤ a3.toInt ∧ a3.toInt ≤ 60
            · rw [if_pos p3, if_neg (by decide)]
              by_cases p8 : (ns : Int) = ((10 : Nat) : Int)
              · rw [if_pos p8]
                exact Or.inr ⟨rfl, fun q => by omega⟩
              · rw [if_neg p8]
                exact Or.inl ⟨rfl, ⟨by omega, p4, by omega, fun q => absurd q p6, p2, p3⟩, by omega⟩
            · rw [if_neg p3, if_pos (by decide)]
              exact Or.inr ⟨rfl, fun q => p3 q.1.2.2.2.2.2⟩
          · rw [if_neg p2, if_pos (by decide)]
            exact Or.inr ⟨rfl, fun q => p2 q.1.2.2.2.2.1⟩
    · rw [if_neg p4, if_pos (by decide)]
      exact Or.inr ⟨rfl, fun q => p4 q.1.2.1⟩
theorem q_relN {W S n N : Nat} {B : Nat → Option Nat} {σ : Nat → Nat → Int32} {f : Nat → Int32} (h : q_rel W S n N B σ) : q_rel W S n (N + 1) B (sA σ N f) := by
  obtain ⟨⟨s1, s2, s3, s4, s5, tr, sv, rc⟩, ⟨n50, bok, bz, t2, t3, t4, t6, t5, t35, sn, ss⟩, cc⟩ := h
  have e : ∀ r, r < 50 → (sA σ N f) r = σ r := fun r hr => sA_ne (by omega)
  have e2 := e 2 (by omega)
  have e3 := e 3 (by omega)
  have e4 := e 4 (by omega)
  have e5 := e 5 (by omega)
  have e6 := e 6 (by omega)
  have e9 := e 9 (by omega)
  have e32 := e 32 (by omega)
  have e34 := e 34 (by omega)
  have e35 := e 35 (by omega)
  have e36 := e 36 (by omega)
  have e37 := e 37 (by omega)
  have e38 := e 38 (by omega)
  have e39 := e 39 (by omega)
  have e40 := e 40 (by omega)
  have e41 := e 41 (by omega)
  have e42 := e 42 (by omega)
  have e43 := e 43 (by omega)
  have e44 := e 44 (by omega)
  have e45 := e 45 (by omega)
  have e46 := e 46 (by omega)
  have e47 := e 47 (by omega)
  refine ⟨⟨s1, s2, s3, s4, s5, ?_, ?_, ?_⟩, ⟨by omega, ?_, bz, ?_, ?_, ?_, ?_, ?_, ?_, ?_, ?_⟩, ?_⟩
  · rw [e37, e38, e39, e40, e41]; exact tr
  · rw [e43, e44, e45]; exact sv
  · rw [e36, e37, e38, e39, e40, e41, e43, e44, e45, e46, e47]; exact rc
  · intro i q hq
    have := bok i q hq
    omega
  · rw [e2, e37]; exact t2
  · rw [e3, e38]; exact t3
  · rw [e4, e39]; exact t4
  · rw [e6, e40]; exact t6
  · rw [e5, e40, e41]; exact t5
  · rw [e35, e42]; exact t35
  · rw [e46]; exact sn
  · rw [e43, e44, e45]
    intro i hi q hq
    rw [sA_ne (by have := (bok i q hq).2; omega)]
    exact ss i hi q hq
  · rw [e37, e38, e39, e40, e41, e43, e44, e45, e46, e9, e32, e34]; exact cc
theorem q_svc {W S : Nat} {f g m f' g' m' : Nat → Int32} {i : Nat} (h1 : f' i = f i) (h2 : g' i = g i) (h3 : m' i = m i) (h : q_sv W S f g m i) : q_sv W S f' g' m' i := by
  unfold q_sv at h ⊢
  rw [h1, h2, h3]
  exact h
theorem q_okv {W S : Nat} {a1 a2 a3 : Int32} {f g m : Nat → Int32} {i : Nat} (hW : W ≤ 8) (hS : S ≤ 4) (h : q_ok W S a1 a2 a3) (h1 : f i = a1) (h2 : g i = a2) (h3 : m i = a3) : q_sv W S f g m i := by
  obtain ⟨p0, ⟨p1, p2⟩, p3, p4, p5, p6⟩ := h
  obtain ⟨w, rfl, hw⟩ := q_nIo p0
  have hwb : w < 2147483648 := by have := Int32.toInt_lt (nI w); omega
  have e100 : nI w / nI 100 = nI (w / 100) := q_div hwb (by omega)
  have e10 : nI w / nI 10 = nI (w / 10) := q_div hwb (by omega)
  have e1010 : nI (w / 10) / nI 10 = nI (w / 10 / 10) := q_div (by omega) (by omega)
  have ec : nI w / nI 10 - nI w / nI 10 / nI 10 * nI 10 = nI (w / 10 % 10) := by
    rw [e10, e1010, nI_mul, q_sub (by omega), show w / 10 - w / 10 / 10 * 10 = w / 10 % 10 by omega]
  have ed : nI w - nI w / nI 10 * nI 10 = nI (w % 10) := by
    rw [e10, nI_mul, q_sub (by omega), show w - w / 10 * 10 = w % 10 by omega]
  rw [e100, q_nt (by omega)] at p1
  rw [ec, q_nt (by omega)] at p2
  rw [ed, q_nt (by omega)] at p3
  rw [ec, ed, q_nt (by omega), q_nt (by omega)] at p4
  unfold q_sv q_seeV
  rw [h1, h2, h3, nI_clamp (by omega)]
  exact ⟨rfl, by omega, by omega, by omega, fun q => by omega, p5.1, p5.2, p6.1, p6.2⟩
theorem P_sight0 {W S n N : Nat} {B : Nat → Option Nat} {σ : Nat → Nat → Int32} (h : Rel W S n N B σ) {a1 a2 a3 : Int32} (ez : m_X5_sight W S n n B σ a1 a2 a3 = nI 0) {zm : Int32 × Nat × (Nat → Int32) × (Nat → Int32) × (Nat → Int32) × (Nat → Int32) × (Nat → Int32)} (em : m_X6_sight W S n n B σ a1 a2 a3 = zm) : -1 = zm.1 ∧ zm.2.1 = n ∧ Rel W S n N B (sA (sA (sA (sA (sA σ 36 zm.2.2.1) 43 zm.2.2.2.1) 44 zm.2.2.2.2.1) 45 zm.2.2.2.2.2.1) 46 zm.2.2.2.2.2.2) := by
  have s1 := h.h6.s1
  have s2 := h.h6.s2
  have s4 := h.h6.s4
  have s5 := h.h6.s5
  have hno : ¬ q_ok W S a1 a2 a3 := by
    rcases q_s5 (ns := n) (nc := n) (B := B) (σ := σ) (a1 := a1) (a2 := a2) (a3 := a3) s2 s4 with ⟨e, -⟩ | ⟨-, e⟩
    · rw [ez] at e
      exact absurd e (by decide)
    · exact e
  rcases q_s6 (ns := n) (nc := n) (B := B) (σ := σ) (a1 := a1) (a2 := a2) (a3 := a3) (by omega) s2 s4 s5 with ⟨-, e, -⟩ | ⟨e, -⟩
  · exact absurd e hno
  · rw [e] at em
    subst em
    refine ⟨rfl, rfl, ?_⟩
    simp only [sA_id]
    exact h
theorem P_sight2 {W S n N : Nat} {B : Nat → Option Nat} {σ : Nat → Nat → Int32} (h : Rel W S n N B σ) {a1 a2 a3 : Int32} (ez : m_X5_sight W S n n B σ a1 a2 a3 = nI 1) (h10 : n = 10) {zm : Int32 × Nat × (Nat → Int32) × (Nat → Int32) × (Nat → Int32) × (Nat → Int32) × (Nat → Int32)} (em : m_X6_sight W S n n B (sA σ N (sgtW a1 a2 a3)) a1 a2 a3 = zm) : -1 = zm.1 ∧ zm.2.1 = n ∧ Rel W S n (N + 1) B (sA (sA (sA (sA (sA (sA σ N (sgtW a1 a2 a3)) 36 zm.2.2.1) 43 zm.2.2.2.1) 44 zm.2.2.2.2.1) 45 zm.2.2.2.2.2.1) 46 zm.2.2.2.2.2.2) := by
  have s1 := h.h6.s1
  have s2 := h.h6.s2
  have s4 := h.h6.s4
  have s5 := h.h6.s5
  have hr : q_rel W S n (N + 1) B (sA σ N (sgtW a1 a2 a3)) := q_relN h
  rcases q_s6 (ns := n) (nc := n) (B := B) (σ := sA σ N (sgtW a1 a2 a3)) (a1 := a1) (a2 := a2) (a3 := a3) (by omega) s2 s4 s5 with ⟨-, -, e⟩ | ⟨e, -⟩
  · omega
  · rw [e] at em
    subst em
    refine ⟨rfl, rfl, ?_⟩
    simp only [sA_id]
    exact hr
theorem P_sight1 {W S n N : Nat} {B : Nat → Option Nat} {σ : Nat → Nat → Int32} (h : Rel W S n N B σ) {a1 a2 a3 : Int32} (ez : m_X5_sight W S n n B σ a1 a2 a3 = nI 1) (h10 : n < 10) {zm : Int32 × Nat × (Nat → Int32) × (Nat → Int32) × (Nat → Int32) × (Nat → Int32) × (Nat → Int32)} (em : m_X6_sight W S n (n + 1) (va_up B n (some N)) (sA (sA σ N (sgtW a1 a2 a3)) 9 (m_X0_forgetQuarrel W S n (n + 1) (va_up B n (some N)) (sA σ N (sgtW a1 a2 a3)))) a1 a2 a3 = zm) : nI n = zm.1 ∧ zm.2.1 = (n + 1) ∧ Rel W S (n + 1) (N + 1) (va_up B n (some N)) (sA (sA (sA (sA (sA (sA (sA σ N (sgtW a1 a2 a3)) 9 (m_X0_forgetQuarrel W S n (n + 1) (va_up B n (some N)) (sA σ N (sgtW a1 a2 a3)))) 36 zm.2.2.1) 43 zm.2.2.2.1) 44 zm.2.2.2.2.1) 45 zm.2.2.2.2.2.1) 46 zm.2.2.2.2.2.2) := by
  have s1 := h.h6.s1
  have s2 := h.h6.s2
  have s4 := h.h6.s4
  have s5 := h.h6.s5
  have n50 := h.tt.n50
  have hok : q_ok W S a1 a2 a3 := by
    rcases q_s5 (ns := n) (nc := n) (B := B) (σ := σ) (a1 := a1) (a2 := a2) (a3 := a3) s2 s4 with ⟨-, e⟩ | ⟨e, -⟩
    · exact e
    · rw [ez] at e
      exact absurd e (by decide)
  have hr : q_rel W S n (N + 1) B (sA σ N (sgtW a1 a2 a3)) := q_relN h
  have hN : (sA σ N (sgtW a1 a2 a3)) N = sgtW a1 a2 a3 := sA_at
  have hq : ∀ q, 50 ≤ q → q < N → (sA σ N (sgtW a1 a2 a3)) q = σ q := fun q _ hq => sA_ne (by omega)
  unfold m_X0_forgetQuarrel at em ⊢
  generalize sA σ N (sgtW a1 a2 a3) = τ at hr hN hq em ⊢
  rcases q_s6 (ns := n) (nc := n + 1) (B := va_up B n (some N)) (σ := sA τ 9 (upd (τ 9) 6 (nI 0))) (a1 := a1) (a2 := a2) (a3 := a3) (by omega) s2 s4 s5 with ⟨e, -, -⟩ | ⟨-, e⟩
  · rw [e, nI_clamp (by omega)] at em
    subst em
    have e1 : nI (n + 1) - nI 1 = nI n := by
      rw [← nI_add]
      simp
    refine ⟨e1.symm, rfl, ⟨hr.h6.s1, hr.h6.s2, hr.h6.s3, hr.h6.s4, by omega, hr.h6.tr, ?_, q_rc0 hr.h6.rc⟩, ⟨hr.tt.n50, ?_, ?_, hr.tt.t2, hr.tt.t3, hr.tt.t4, hr.tt.t6, hr.tt.t5, hr.tt.t35, ?_, ?_⟩, q_cc6 hr.cc⟩
    · intro i hi
      show q_sv W S (upd (τ 43) n a1) (upd (τ 44) n a2) (upd (τ 45) n a3) i
      by_cases e : i = n
      · exact q_okv s2 s4 hok (by rw [q_up, if_pos e]) (by rw [q_up, if_pos e]) (by rw [q_up, if_pos e])
      · exact q_svc (by rw [q_up, if_neg e]) (by rw [q_up, if_neg e]) (by rw [q_up, if_neg e]) (hr.h6.sv i (by omega))
    · intro i q hq'
      rw [q_vup] at hq'
      by_cases e : i = n
      · rw [if_pos e] at hq'
        injection hq' with hq'
        omega
      · rw [if_neg e] at hq'
        exact hr.tt.bok i q hq'
    · intro i hi
      show va_up B n (some N) i = none
      rw [q_vup, if_neg (by omega)]
      exact hr.tt.bz i (by omega)
    · intro i hi
      show va_up B n (some N) i = none ↔ upd (τ 46) n (nI 1) i = 0
      rw [q_vup, q_up]
      by_cases e : i = n
      · rw [if_pos e, if_pos e]
        exact ⟨fun q => (by cases q), fun q => absurd q (by decide)⟩
      · rw [if_neg e, if_neg e]
        exact hr.tt.sn i (by omega)
    · intro i hi q hq'
      rw [q_vup] at hq'
      have hs : ∀ q, 50 ≤ q → (sA (sA (sA (sA (sA (sA τ 9 (upd (τ 9) 6 (nI 0))) 36 (upd (τ 36) 16 (nI 0))) 43 (upd (τ 43) n a1)) 44 (upd (τ 44) n a2)) 45 (upd (τ 45) n a3)) 46 (upd (τ 46) n (nI 1))) q = τ q := fun q hq => by
        rw [sA_ne (by omega), sA_ne (by omega), sA_ne (by omega), sA_ne (by omega), sA_ne (by omega), sA_ne (by omega)]
      show (sA (sA (sA (sA (sA (sA τ 9 (upd (τ 9) 6 (nI 0))) 36 (upd (τ 36) 16 (nI 0))) 43 (upd (τ 43) n a1)) 44 (upd (τ 44) n a2)) 45 (upd (τ 45) n a3)) 46 (upd (τ 46) n (nI 1))) q = sgtW (upd (τ 43) n a1 i) (upd (τ 44) n a2 i) (upd (τ 45) n a3 i)
      rw [q_up, q_up, q_up]
      by_cases e : i = n
      · rw [if_pos e] at hq'
        injection hq' with hq'
        subst hq'
        rw [if_pos e, if_pos e, if_pos e, hs N n50, hN]
      · rw [if_neg e] at hq'
        rw [if_neg e, if_neg e, if_neg e, hs q (hr.tt.bok i q hq').1]
        exact hr.tt.ss i (by omega) q hq'
  · exact absurd ⟨hok, h10⟩ e
theorem Rel_0 {W S : Nat} {B : Nat → Option Nat} {σ : Nat → Nat → Int32} (hW : 2 ≤ W) (hW8 : W ≤ 8) (hS : 1 ≤ S) (hS4 : S ≤ 4) (hB : ∀ i, B i = none) (h1 : ∀ j, j < S → σ 2 j = nI 1 ∧ σ 3 j = nI 60 ∧ σ 4 j = nI 5) (h2 : ∀ j, σ 5 j = 0 ∧ σ 6 j = 0 ∧ σ 35 j = 0) (h3 : ∀ r j, 9 ≤ r → r < 35 → σ r j = 0) (h4 : ∀ j, j < 4 → σ 37 j = nI 1 ∧ σ 38 j = nI 60 ∧ σ 39 j = nI 5) (h5 : ∀ r j, 36 ≤ r → r < 50 → r ≠ 37 → r ≠ 38 → r ≠ 39 → σ r j = 0) : Rel W S 0 50 B σ := by
  have e37 : ∀ k, k < S → (σ 37 k).toInt = 1 := fun k hk => by rw [(h4 k (by omega)).1]; rfl
  have e38 : ∀ k, k < S → (σ 38 k).toInt = 60 := fun k hk => by rw [(h4 k (by omega)).2.1]; rfl
  have e39 : ∀ k, k < S → (σ 39 k).toInt = 5 := fun k hk => by rw [(h4 k (by omega)).2.2]; rfl
  have e40 : ∀ k, σ 40 k = 0 := fun k => h5 40 k (by omega) (by omega) (by omega) (by omega) (by omega)
  have e42 : ∀ k, σ 42 k = 0 := fun k => h5 42 k (by omega) (by omega) (by omega) (by omega) (by omega)
  refine ⟨⟨hW, hW8, hS, hS4, by omega, ⟨fun k hk => ?_, fun c hc => ?_⟩, fun i hi => absurd hi (by omega), ?_, Or.inl ?_⟩, ⟨by omega, fun i q hq => ?_, fun i _ => hB i, fun k hk => ?_, fun k hk => ?_, fun k hk => ?_, fun c hc => ⟨?_, ?_, fun _ => ?_⟩, fun c hc => ?_, fun c hc => ?_, fun i hi => absurd hi (by omega), fun i hi => absurd hi (by omega)⟩, ?_, Or.inl ⟨?_, ?_⟩⟩
  · show 0 ≤ (σ 37 k).toInt ∧ (σ 37 k).toInt ≤ (σ 38 k).toInt ∧ (σ 38 k).toInt ≤ 60 ∧ 0 ≤ (σ 39 k).toInt ∧ (σ 39 k).toInt ≤ 60
    rw [e37 k hk, e38 k hk, e39 k hk]
    decide
  · show -30 ≤ (if σ 40 c = 0 then nI 0 else σ 41 c).toInt ∧ (if σ 40 c = 0 then nI 0 else σ 41 c).toInt ≤ 30
    rw [if_pos (e40 c)]
    decide
  · rw [h5 36 17 (by omega) (by omega) (by omega) (by omega) (by omega)]
    exact Or.inl rfl
  · exact h5 36 16 (by omega) (by omega) (by omega) (by omega) (by omega)
  · rw [hB i] at hq; cases hq
  · rw [(h1 k hk).1, (h4 k (by omega)).1]
  · rw [(h1 k hk).2.1, (h4 k (by omega)).2.1]
  · rw [(h1 k hk).2.2, (h4 k (by omega)).2.2]
  · rw [(h2 c).2.1, e40 c]
  · rw [e40 c]
    exact Or.inl rfl
  · rw [e40 c]
    rfl
  · rw [(h2 c).1, if_pos (e40 c)]
    rfl
  · rw [(h2 c).2.2, e42 c]
  · rw [h3 9 7 (by omega) (by omega)]
    exact Or.inl rfl
  · exact h3 9 5 (by omega) (by omega)
  · exact h3 9 6 (by omega) (by omega)

/-! the world of the law by roles: 0 the class's object, 1 to 6 its rock, 7 and 8 its sights, 9 its bodies, 10 their steps, 11 + 2 g and 12 + 2 g (g < 12) a Gaps and its row, 35 its grounds; 36 to 49 the reference and its rows; from 50 on sights -/
def TY (K : Nat → ClassId) : List (ClassId × FieldType) := [(K 0, .int), (K 1, .boolean), (K 2, .object RX1), (K 3, .object RX3)]
def CE (K : Nat → ClassId) (W S ns nc : Nat) (ad : Nat → Nat) (B : Nat → Option Nat) (r : Nat) (f : Nat → Int32) : va_E :=
  if r < 11 then
    (match r with
    | 0 => .inr (5, [.ref (ad 1), .ref (ad 7), .ref (ad 9), .ref (ad 35)])
    | 1 => .inr (2, [.int (nI W), .int (nI S), .ref (ad 2), .ref (ad 3), .ref (ad 4), .ref (ad 5), .ref (ad 6)])
    | 2 => .inl (K 0, S, .inl f)
    | 3 => .inl (K 0, S, .inl f)
    | 4 => .inl (K 0, S, .inl f)
    | 5 => .inl (K 0, W, .inl f)
    | 6 => .inl (K 1, W, .inl f)
    | 7 => .inr (4, [.ref (ad 8), .int (nI nc)])
    | 8 => .inl (K 3, 10, .inr (.inr (.inr (.inr (fun i => (B i).map ad)))))
    | 9 => .inr (0, [.ref (ad 1), .ref (ad 7), .ref (ad 10), .ref (ad 31), .ref (ad 33), .int (f 5), .int (f 6), .int (f 7), .int (f 8)])
    | _ => .inl (K 2, 10, .inr (.inr (.inr (.inr (fun i => if i < 10 then some (ad (11 + 2 * i)) else none))))))
  else if r < 35 then
    (if r % 2 = 1 then .inr (1, [.int (nI (W * S + 1)), .ref (ad (r + 1))]) else .inl (K 0, (W * S + 1) * (W * S + 1), .inl f))
  else if r < 50 then
    (match r - 35 with
    | 0 => .inl (K 0, W, .inl f)
    | 1 => .inr (6, [.int (nI W), .int (nI S), .ref (ad 37), .ref (ad 38), .ref (ad 39), .ref (ad 40), .ref (ad 41), .ref (ad 42), .int (nI ns), .ref (ad 43), .ref (ad 44), .ref (ad 45), .ref (ad 46), .ref (ad 47), .ref (ad 48), .ref (ad 49), .int (f 16), .int (f 17), .int (f 18)])
    | 2 => .inl (K 0, 4, .inl f)
    | 3 => .inl (K 0, 4, .inl f)
    | 4 => .inl (K 0, 4, .inl f)
    | 5 => .inl (K 1, 8, .inl f)
    | 6 => .inl (K 0, 8, .inl f)
    | 7 => .inl (K 0, 8, .inl f)
    | 8 => .inl (K 0, 10, .inl f)
    | 9 => .inl (K 0, 10, .inl f)
    | 10 => .inl (K 0, 10, .inl f)
    | 11 => .inl (K 1, 10, .inl f)
    | 12 => .inl (K 0, 1089, .inl f)
    | 13 => .inl (K 0, 1089, .inl f)
    | _ => .inl (K 0, 10, .inl f))
  else .inr (3, [.int (f 0), .int (f 1), .int (f 2), .int (f 3), .int (f 4)])
def CT (K : Nat → ClassId) (W S ns nc : Nat) (ad : Nat → Nat) (B : Nat → Option Nat) (σ : Nat → Nat → Int32) : Nat → va_E := fun r => CE K W S ns nc ad B r (σ r)
/-- row r becomes f -/
def sA (σ : Nat → Nat → Int32) (r : Nat) (f : Nat → Int32) : Nat → Nat → Int32 := fun a => if a = r then f else σ a
theorem sA_at {σ : Nat → Nat → Int32} {r : Nat} {f : Nat → Int32} : sA σ r f r = f := by simp [sA]
theorem sA_ne {σ : Nat → Nat → Int32} {r a : Nat} {f : Nat → Int32} (h : a ≠ r) : sA σ r f a = σ a := by simp [sA, h]
theorem sA_top {σ : Nat → Nat → Int32} {r : Nat} {f g : Nat → Int32} : sA (sA σ r f) r g = sA σ r g := by
  funext a; by_cases h : a = r <;> simp [sA, h]
theorem sA_sw {σ : Nat → Nat → Int32} {r q : Nat} {f g : Nat → Int32} (h : r ≠ q) : sA (sA σ r f) q g = sA (sA σ q g) r f := by
  funext a
  by_cases h1 : a = r
  · subst h1; simp [sA, h]
  · simp [sA, h1]
theorem sA_2 {σ : Nat → Nat → Int32} {r q : Nat} {f g h : Nat → Int32} (n : r ≠ q) : sA (sA (sA σ r f) q h) r g = sA (sA σ r g) q h := by
  rw [sA_sw (Ne.symm n), sA_top]
theorem sA_3 {σ : Nat → Nat → Int32} {r q u : Nat} {f g h i : Nat → Int32} (n : r ≠ q) (n2 : r ≠ u) : sA (sA (sA (sA σ r f) q h) u i) r g = sA (sA (sA σ r g) q h) u i := by
  rw [sA_sw (Ne.symm n2), sA_2 n]
theorem sA_4 {σ : Nat → Nat → Int32} {r q u v : Nat} {f g h i j : Nat → Int32} (n : r ≠ q) (n2 : r ≠ u) (n3 : r ≠ v) : sA (sA (sA (sA (sA σ r f) q h) u i) v j) r g = sA (sA (sA (sA σ r g) q h) u i) v j := by
  rw [sA_sw (Ne.symm n3), sA_3 n n2]
theorem sA_id {σ : Nat → Nat → Int32} {r : Nat} : sA σ r (σ r) = σ := by
  funext a; by_cases h : a = r <;> simp [sA, h]
theorem sA_idr {σ : Nat → Nat → Int32} {r : Nat} {f : Nat → Int32} (h : σ r = f) : σ = sA σ r f := by
  subst h; exact sA_id.symm
theorem CT_up {K : Nat → ClassId} {W S ns nc : Nat} {ad : Nat → Nat} {B : Nat → Option Nat} {σ : Nat → Nat → Int32} {r : Nat} {f : Nat → Int32} {x : va_E} (h : CE K W S ns nc ad B r f = x) : va_up (CT K W S ns nc ad B σ) r x = CT K W S ns nc ad B (sA σ r f) := by
  subst h
  funext a
  by_cases h1 : a = r
  · subst h1; simp [va_up, CT, sA]
  · simp [va_up, CT, sA, h1]
theorem CE_go {K : Nat → ClassId} {W S ns nc : Nat} {ad : Nat → Nat} {B : Nat → Option Nat} {g : Nat} (h : g < 12) (f : Nat → Int32) : CE K W S ns nc ad B (11 + 2 * g) f = .inr (1, [.int (nI (W * S + 1)), .ref (ad (12 + 2 * g))]) := by
  unfold CE
  rw [if_neg (by omega), if_pos (by omega), if_pos (by omega)]
  rw [show 11 + 2 * g + 1 = 12 + 2 * g by omega]
theorem CE_ga {K : Nat → ClassId} {W S ns nc : Nat} {ad : Nat → Nat} {B : Nat → Option Nat} {g : Nat} (h : g < 12) (f : Nat → Int32) : CE K W S ns nc ad B (12 + 2 * g) f = .inl (K 0, (W * S + 1) * (W * S + 1), .inl f) := by
  unfold CE
  rw [if_neg (by omega), if_pos (by omega), if_neg (by omega)]
theorem CE_q {K : Nat → ClassId} {W S ns nc : Nat} {ad : Nat → Nat} {B : Nat → Option Nat} {q : Nat} (h : 50 ≤ q) (f : Nat → Int32) : CE K W S ns nc ad B q f = .inr (3, [.int (f 0), .int (f 1), .int (f 2), .int (f 3), .int (f 4)]) := by
  unfold CE
  rw [if_neg (by omega), if_neg (by omega), if_neg (by omega)]
/-- what holds of the numbers -/
def GH (W S ns nc N : Nat) : Prop := 2 ≤ W ∧ W ≤ 8 ∧ 1 ≤ S ∧ S ≤ 4 ∧ ns ≤ 10 ∧ nc ≤ 10 ∧ 50 ≤ N
theorem GH_ws {W S ns nc N : Nat} (h : GH W S ns nc N) : W * S ≤ 32 := Nat.le_trans (Nat.mul_le_mul h.2.1 h.2.2.2.1) (by omega)
theorem ixlt {a b z : Nat} (ha : a < z) (hb : b < z) : a * z + b < z * z := by
  have h1 : (a + 1) * z ≤ z * z := Nat.mul_le_mul_right z ha
  rw [Nat.add_mul, Nat.one_mul] at h1
  omega
theorem zz31 {z : Nat} (h : z ≤ 33) : z * z < 2 ^ 31 := Nat.lt_of_le_of_lt (Nat.mul_le_mul h h) (by decide)
/-- a value that is led on -/
def ap {α β : Type} (x : α) (k : α → β) : β := k x
theorem ap_x {α β : Type} {x : α} {k : α → β} {z : β} (h : ap x k = z) : ∃ y, x = y ∧ k y = z := ⟨x, rfl, h⟩
/-- a counted loop -/
def lp {α : Type} (f : Nat → α → α) : Nat → Nat → α → α
  | 0, _, a => a
  | n + 1, i, a => lp f n (i + 1) (f i a)
theorem lp_s {α : Type} {f : Nat → α → α} {n i : Nat} {a z : α} (h : lp f (n + 1) i a = z) : ∃ b, f i a = b ∧ lp f n (i + 1) b = z := ⟨_, rfl, h⟩
/-- a counted loop that may leave early -/
def lpe {ρ α : Type} (f : Nat → α → ρ ⊕ α) : Nat → Nat → α → ρ ⊕ α
  | 0, _, a => .inr a
  | n + 1, i, a => (f i a).elim Sum.inl (fun b => lpe f n (i + 1) b)
theorem lpe_s {ρ α : Type} {f : Nat → α → ρ ⊕ α} {n i : Nat} {a : α} {z : ρ ⊕ α} (h : lpe f (n + 1) i a = z) : ∃ b, f i a = b ∧ b.elim Sum.inl (fun b => lpe f n (i + 1) b) = z := ⟨_, rfl, h⟩
theorem nat_lt {x y : Int32} {a b : Nat} (hx : x = nI a) (hy : y = nI b) (ha : a < 2 ^ 31) (hb : b < 2 ^ 31) (h : x < y) : a < b := by
  subst hx; subst hy; exact (nI_ltI ha hb).mp h
theorem nat_nlt {x y : Int32} {a b : Nat} (hx : x = nI a) (hy : y = nI b) (ha : a < 2 ^ 31) (hb : b < 2 ^ 31) (h : ¬ x < y) : b ≤ a := by
  subst hx; subst hy; exact Nat.not_lt.mp (fun q => h ((nI_ltI ha hb).mpr q))
theorem nat_le {x y : Int32} {a b : Nat} (hx : x = nI a) (hy : y = nI b) (ha : a < 2 ^ 31) (hb : b < 2 ^ 31) (h : x ≤ y) : a ≤ b := by
  subst hx; subst hy; exact (nI_leI ha hb).mp h
theorem nat_nle {x y : Int32} {a b : Nat} (hx : x = nI a) (hy : y = nI b) (ha : a < 2 ^ 31) (hb : b < 2 ^ 31) (h : ¬ x ≤ y) : b < a := by
  subst hx; subst hy; exact Nat.not_le.mp (fun q => h ((nI_leI ha hb).mpr q))
theorem nat_eq {x y : Int32} {a b : Nat} (hx : x = nI a) (hy : y = nI b) (ha : a < 2 ^ 31) (hb : b < 2 ^ 31) (h : x = y) : a = b := by
  subst hx; subst hy; exact (nI_eq ha hb).mp h
theorem nat_ne {x y : Int32} {a b : Nat} (hx : x = nI a) (hy : y = nI b) (ha : a < 2 ^ 31) (hb : b < 2 ^ 31) (h : ¬ x = y) : a ≠ b := by
  subst hx; subst hy; exact fun q => h ((nI_eq ha hb).mpr q)
def bl (x : Int32) : Prop := x = nI 0 ∨ x = nI 1
theorem bl_0 : bl (nI 0) := Or.inl rfl
theorem bl_1 : bl (nI 1) := Or.inr rfl
theorem bl_nar {x : Int32} (h : bl x) : narrow .boolean (.int x) = .int x := by rcases h with rfl | rfl <;> rfl
theorem bl_fit {x : Int32} (h : bl x) : fits .boolean (.int x) = true := by rcases h with rfl | rfl <;> rfl
theorem bl_vp {x : Int32} (h : bl x) : vp_nar .boolean x = x := by rcases h with rfl | rfl <;> rfl
section KR
variable {p : Program} {l : Launch} {e : Env} {R : Room} {s : State} {m : MethodId} {args : Array Value} {below : List Frame} {meth : Method} {c : Code} {Q : State → Prop} {D : va_G} {A : Nat → Prop} {H0 : Heap} {nL k n N : Nat} {ad : Nat → Nat} {pc : Nat} {lv : List (Nat × Value)} {st : List Value} {cc : ByteArray} {own : String} {K : Nat → ClassId} {W S ns nc : Nat} {B : Nat → Option Nat} {σ : Nat → Nat → Int32}
theorem k_get (pc' : Nat) (C : Cx p s m args meth c cc own nL D (TY K) A H0) {index ci i : Nat} {Cn : String} {T : u_T} {NN : Nat} (F : FL own index ci i Cn T NN) (hd : decode cc pc = .ok (.getfield index, 3)) (hp : pc + 3 = pc') (r : Nat) (hr : r < N) (f : Nat → Int32) (hf : σ r = f) {fs : List Value} (he : CE K W S ns nc ad B r f = .inr (ci, fs)) (v : Value) (hv : fs[i]? = some v) (kk : J p l e R s m args below meth c Q D A H0 nL k n N ad (CT K W S ns nc ad B σ) pc' lv (v :: st)) : J p l e R s m args below meth c Q D A H0 nL k n N ad (CT K W S ns nc ad B σ) pc lv (.ref (ad r) :: st) := j_get pc' C F hd hp r hr rfl (by show CE K W S ns nc ad B r (σ r) = _; rw [hf]; exact he) hv kk
theorem k_put (pc' : Nat) (C : Cx p s m args meth c cc own nL D (TY K) A H0) {index ci i : Nat} {Cn : String} {T : u_T} {NN : Nat} {ty : Nat → FieldType} (F : FL own index ci i Cn T NN) (P : FP Cn T NN ty) (hfin : (T i).2.2.2 = false) (hd : decode cc pc = .ok (.putfield index, 3)) (hp : pc + 3 = pc') (r : Nat) (hr : r < N) (f : Nat → Int32) (hf : σ r = f) {fs : List Value} (he : CE K W S ns nc ad B r f = .inr (ci, fs)) {x : Int32} (hn : narrow (ty i) (.int x) = .int x) (hfit : fits (ty i) (.int x) = true) (hl0 : i < fs.length) (he2 : CE K W S ns nc ad B r (upd f i x) = .inr (ci, fs.set i (.int x))) (σ' : Nat → Nat → Int32) (hσ : sA σ r (upd f i x) = σ') (kk : J p l e R s m args below meth c Q D A H0 nL k n N ad (CT K W S ns nc ad B σ') pc' lv st) : J p l e R s m args below meth c Q D A H0 nL k n N ad (CT K W S ns nc ad B σ) pc lv (.int x :: .ref (ad r) :: st) := j_put pc' C F P hfin hd hp r hr rfl (by show CE K W S ns nc ad B r (σ r) = _; rw [hf]; exact he) hn hfit hl0 (by rw [CT_up he2, hσ]; exact kk)
theorem k_iald (pc' : Nat) (C : Cx p s m args meth c cc own nL D (TY K) A H0) (hd : decode cc pc = .ok (.iaload, 1)) (hp : pc + 1 = pc') (r : Nat) (hr : r < N) (f : Nat → Int32) (hf : σ r = f) {z : Nat} (he : ∀ g, CE K W S ns nc ad B r g = .inl (K 0, z, .inl g)) {i : Int32} (hin : vp_in i z) (kk : J p l e R s m args below meth c Q D A H0 nL k n N ad (CT K W S ns nc ad B σ) pc' lv (.int (f i.toNatClampNeg) :: st)) : J p l e R s m args below meth c Q D A H0 nL k n N ad (CT K W S ns nc ad B σ) pc lv (.int i :: .ref (ad r) :: st) := j_iald pc' C hd hp r hr rfl (he _) 0 rfl hin rfl (by rw [hf]; exact kk)
theorem k_zald (pc' : Nat) (C : Cx p s m args meth c cc own nL D (TY K) A H0) (hd : decode cc pc = .ok (.baload, 1)) (hp : pc + 1 = pc') (r : Nat) (hr : r < N) (f : Nat → Int32) (hf : σ r = f) {z : Nat} (he : ∀ g, CE K W S ns nc ad B r g = .inl (K 1, z, .inl g)) {i : Int32} (hin : vp_in i z) (kk : J p l e R s m args below meth c Q D A H0 nL k n N ad (CT K W S ns nc ad B σ) pc' lv (.int (f i.toNatClampNeg) :: st)) : J p l e R s m args below meth c Q D A H0 nL k n N ad (CT K W S ns nc ad B σ) pc lv (.int i :: .ref (ad r) :: st) := j_zald pc' C hd hp r hr rfl (he _) 1 rfl hin rfl (by rw [hf]; exact kk)
theorem k_iast (pc' : Nat) (C : Cx p s m args meth c cc own nL D (TY K) A H0) (hd : decode cc pc = .ok (.iastore, 1)) (hp : pc + 1 = pc') (r : Nat) (hr : r < N) (f : Nat → Int32) (hf : σ r = f) {z : Nat} (he : ∀ g, CE K W S ns nc ad B r g = .inl (K 0, z, .inl g)) {i x : Int32} (hin : vp_in i z) (σ' : Nat → Nat → Int32) (hσ : sA σ r (upd f i.toNatClampNeg x) = σ') (kk : J p l e R s m args below meth c Q D A H0 nL k n N ad (CT K W S ns nc ad B σ') pc' lv st) : J p l e R s m args below meth c Q D A H0 nL k n N ad (CT K W S ns nc ad B σ) pc lv (.int x :: .int i :: .ref (ad r) :: st) := j_iast pc' C hd hp r hr rfl (he _) 0 rfl hin rfl (by rw [CT_up (he _), hf, hσ]; exact kk)
theorem k_zast (pc' : Nat) (C : Cx p s m args meth c cc own nL D (TY K) A H0) (hd : decode cc pc = .ok (.bastore, 1)) (hp : pc + 1 = pc') (r : Nat) (hr : r < N) (f : Nat → Int32) (hf : σ r = f) {z : Nat} (he : ∀ g, CE K W S ns nc ad B r g = .inl (K 1, z, .inl g)) {i x : Int32} (hin : vp_in i z) (hb : bl x) (σ' : Nat → Nat → Int32) (hσ : sA σ r (upd f i.toNatClampNeg x) = σ') (kk : J p l e R s m args below meth c Q D A H0 nL k n N ad (CT K W S ns nc ad B σ') pc' lv st) : J p l e R s m args below meth c Q D A H0 nL k n N ad (CT K W S ns nc ad B σ) pc lv (.int x :: .int i :: .ref (ad r) :: st) := j_zast pc' C hd hp r hr rfl (he _) 1 rfl hin rfl (bl_vp hb) (by rw [CT_up (he _), hf, hσ]; exact kk)
theorem k_alen (pc' : Nat) (C : Cx p s m args meth c cc own nL D (TY K) A H0) (hd : decode cc pc = .ok (.arraylength, 1)) (hp : pc + 1 = pc') (r : Nat) (hr : r < N) (t0 : Nat) {ty : FieldType} {cA : ClassId} {z : Nat} {x : (Nat → Int32) ⊕ (Nat → Int64) ⊕ (Nat → UInt32) ⊕ (Nat → UInt64) ⊕ (Nat → Option Nat)} (he : CE K W S ns nc ad B r (σ r) = .inl (cA, z, x)) (ht : (TY K)[t0]? = some (cA, ty)) (kk : J p l e R s m args below meth c Q D A H0 nL k n N ad (CT K W S ns nc ad B σ) pc' lv (.int (nI z) :: st)) : J p l e R s m args below meth c Q D A H0 nL k n N ad (CT K W S ns nc ad B σ) pc lv (.ref (ad r) :: st) := j_alen pc' C hd hp r hr rfl he t0 ht kk
theorem k_copyi (pc' : Nat) (C : Cx p s m args meth c cc own nL D (TY K) A H0) {index : Nat} (hw : Cond.methodLink own index arraycopyName ∈ TG) (hd : decode cc pc = .ok (.invokestatic index, 3)) (hp : pc + 3 = pc') (r r2 : Nat) (hr : r < N) (hr2 : r2 < N) (f g : Nat → Int32) (hf : σ r = f) (hg : σ r2 = g) {z z2 : Nat} (he : ∀ g, CE K W S ns nc ad B r g = .inl (K 0, z, .inl g)) (he2 : ∀ g, CE K W S ns nc ad B r2 g = .inl (K 0, z2, .inl g)) {w : Nat} (hw31 : w < 2 ^ 31) (h4 : w ≤ z) (h5 : w ≤ z2) (hR : 1 ≤ R.frames) (hR2 : (st.map fun v => v.category).sum + (nativeFrameWords "java/lang/System" "arraycopy" 5 + 11) ≤ R.locals) (σ' : Nat → Nat → Int32) (hσ : sA σ r2 (va_cpy f g 0 0 w) = σ') (kk : J p l e R s m args below meth c Q D A H0 nL k n N ad (CT K W S ns nc ad B σ') pc' lv st) : J p l e R s m args below meth c Q D A H0 nL k n N ad (CT K W S ns nc ad B σ) pc lv (.int (nI w) :: .int (nI 0) :: .ref (ad r2) :: .int (nI 0) :: .ref (ad r) :: st) := j_copyi pc' C hw hd hp r r2 hr hr2 rfl rfl (he _) (he2 _) 0 rfl hw31 h4 h5 hR hR2 (by rw [CT_up (he2 _), hf, hg, hσ]; exact kk)
/-- calls of methods with a simple end and no cell made -/
theorem s_V (pc' : Nat) (C : Cx p s m args meth c cc own nL D (TY K) A H0) {ct ct' : Nat → va_E} {index : Nat} {y : MethodName} {b : ByteArray} {nL2 na : Nat} {ret : Option FieldType} {rm : Room} {V : Option Value} {E : Prop} {As : List Value} {a : Nat} {st0 st' : List Value} (cv : CV own index y b nL2 ret na) (hM : MC l y b nL2 ret rm D (TY K) N ad ct (.ref a :: As) (BS V N ad ct' E)) (hd : decode cc pc = .ok (.invokevirtual index, 3)) (hp : pc + 3 = pc') (r ci : Nat) (hr : r < N) (ha : ad r = a) {fs : List Value} (he : ct r = .inr (ci, fs)) {rc : vw_C} (hc : vwCl[ci]? = some rc) (hy : rc.1 = y.cls) (hna : As.length = na) (hst : st0 = As.reverse ++ .ref a :: st) (h0 : rm.cells = 0) (h1 : rm.slots = 0) (hR : (rm.frames + 1 ≤ R.frames ∧ 8 + (nL2 + 11) + rm.locals ≤ R.locals) ∧ (k ≤ R.cells ∧ n ≤ R.slots)) (hcat : (st.map fun v => v.category).sum ≤ 8) (hst' : V.toList ++ st = st') (kk : E → J p l e R s m args below meth c Q D A H0 nL k n N ad ct' pc' lv st') : J p l e R s m args below meth c Q D A H0 nL k n N ad ct pc lv st0 := by
  refine j_callV pc' C cv hM hd hp r ci hr ha he hc hy hna hst ⟨hR.1, by rw [h0]; exact hR.2.1, by rw [h1]; exact hR.2.2⟩ hcat (fun v N' ad' ct2 hB => ?_)
  obtain ⟨rfl, rfl, rfl, rfl, hE⟩ := hB
  rw [h0, h1, hst']
  exact kk hE
theorem s_S (pc' : Nat) (C : Cx p s m args meth c cc own nL D (TY K) A H0) {ct ct' : Nat → va_E} {index : Nat} {y : MethodName} {b : ByteArray} {nL2 na : Nat} {ret : Option FieldType} {rm : Room} {V : Option Value} {E : Prop} {As : List Value} {st0 st' : List Value} (cv : CS own index y b nL2 ret na) (hM : MC l y b nL2 ret rm D (TY K) N ad ct As (BS V N ad ct' E)) (hd : decode cc pc = .ok (.invokestatic index, 3)) (hp : pc + 3 = pc') (hna : As.length = na) (hst : st0 = As.reverse ++ st) (h0 : rm.cells = 0) (h1 : rm.slots = 0) (hR : (rm.frames + 1 ≤ R.frames ∧ 8 + (nL2 + 11) + rm.locals ≤ R.locals) ∧ (k ≤ R.cells ∧ n ≤ R.slots)) (hcat : (st.map fun v => v.category).sum ≤ 8) (hst' : V.toList ++ st = st') (kk : E → J p l e R s m args below meth c Q D A H0 nL k n N ad ct' pc' lv st') : J p l e R s m args below meth c Q D A H0 nL k n N ad ct pc lv st0 := by
  refine j_callS pc' C cv hM hd hp hna hst ⟨hR.1, by rw [h0]; exact hR.2.1, by rw [h1]; exact hR.2.2⟩ hcat (fun v N' ad' ct2 hB => ?_)
  obtain ⟨rfl, rfl, rfl, rfl, hE⟩ := hB
  rw [h0, h1, hst']
  exact kk hE
end KR
theorem GH_r {W S ns nc N r : Nat} (h : GH W S ns nc N) (hr : r < 50) : r < N := Nat.lt_of_lt_of_le hr h.2.2.2.2.2.2
theorem CT_x {K : Nat → ClassId} {W S ns nc : Nat} {ad : Nat → Nat} {B : Nat → Option Nat} {σ σ' : Nat → Nat → Int32} (h : ∀ a, σ a = σ' a) : CT K W S ns nc ad B σ = CT K W S ns nc ad B σ' := by
  rw [show σ = σ' from funext h]
theorem sw_out3 {x : Int32} (h0 : ¬ x = nI 0) (h1 : ¬ x = nI 1) (h2 : ¬ x = nI 2) : x.toInt < 0 ∨ 2 < x.toInt := by
  rcases Int.lt_or_le x.toInt 0 with a | a
  · exact Or.inl a
  rcases Int.lt_or_le 2 x.toInt with b | b
  · exact Or.inr b
  exfalso
  have e : x.toInt = 0 ∨ x.toInt = 1 ∨ x.toInt = 2 := by omega
  rcases e with e | e | e
  · exact h0 (Int32.toInt_inj.mp (by rw [e]; rfl))
  · exact h1 (Int32.toInt_inj.mp (by rw [e]; rfl))
  · exact h2 (Int32.toInt_inj.mp (by rw [e]; rfl))
theorem sw_out4 {x : Int32} (h0 : ¬ x = nI 0) (h1 : ¬ x = nI 1) (h2 : ¬ x = nI 2) (h3 : ¬ x = nI 3) : x.toInt < 0 ∨ 3 < x.toInt := by
  rcases sw_out3 h0 h1 h2 with a | a
  · exact Or.inl a
  rcases Int.lt_or_le 3 x.toInt with b | b
  · exact Or.inr b
  exact absurd (Int32.toInt_inj.mp (by rw [show x.toInt = 3 by omega]; rfl)) h3
theorem sw_out6 {x : Int32} (h0 : ¬ x = nI 0) (h1 : ¬ x = nI 1) (h2 : ¬ x = nI 2) (h3 : ¬ x = nI 3) (h4 : ¬ x = nI 4) (h5 : ¬ x = nI 5) : x.toInt < 0 ∨ 5 < x.toInt := by
  rcases sw_out4 h0 h1 h2 h3 with a | a
  · exact Or.inl a
  rcases Int.lt_or_le 5 x.toInt with b | b
  · exact Or.inr b
  have e : x.toInt = 4 ∨ x.toInt = 5 := by omega
  rcases e with e | e
  · exact absurd (Int32.toInt_inj.mp (by rw [e]; rfl)) h4
  · exact absurd (Int32.toInt_inj.mp (by rw [e]; rfl)) h5
theorem vp_inE {x : Int32} {n N : Nat} (e : x = nI n) (h : n < N) (hN : N < 2 ^ 31) : vp_in x N := e ▸ vp_in_nI h hN
theorem el_r {ρ α τ : Type} {a : α} {f : ρ → τ} {k : α → τ} {z : τ} (h : (Sum.inr a : ρ ⊕ α).elim f k = z) : k a = z := h
theorem nat_le_of {v h : Int32} {M : Nat} (h0 : ¬ v < nI 0) (h1 : ¬ h < v) (hM : h.toInt < M) : ∃ k : Nat, k < M ∧ v = nI k := by
  rw [nI_0] at h0
  obtain ⟨j, hj, rfl⟩ := nI_of h0
  refine ⟨j, ?_, rfl⟩
  rw [Int32.lt_iff_toInt_lt, nI_toInt hj] at h1
  omega
theorem sub_toInt {a b : Nat} (ha : a ≤ 100) (hb : b ≤ 100) : (nI a - nI b).toInt = (a : Int) - b := pk_sub_toInt (by omega) (by omega)
def seeN (w : Int32) : Int32 := nI 8 * (w / nI 100) + (w / nI 10 - w / nI 10 / nI 10 * nI 10)
def SeeOK (f : Nat → Int32) (ns : Nat) : Prop := ∀ k : Nat, k < ns → ∃ aN : Nat, aN < 32 ∧ seeN (f (nI k).toNatClampNeg) = nI aN
theorem oe_n {α β : Type} {t : Option α} {A : β} {k : α → β} {z : β} (h : t = none) (hz : t.elim A k = z) : A = z := by rw [h] at hz; exact hz
theorem oe_s {α β : Type} {t : Option α} {A : β} {k : α → β} {z : β} {q : α} (h : t = some q) (hz : t.elim A k = z) : k q = z := by rw [h] at hz; exact hz
theorem om_n {f : Nat → Nat} {t : Option Nat} (h : t.map f = none) : t = none := by cases t with | none => rfl | some a => cases h
theorem om_s {f : Nat → Nat} {t : Option Nat} {a : Nat} (h : t.map f = some a) : ∃ q, t = some q := by cases t with | none => cases h | some b => exact ⟨b, rfl⟩
/-- the sights that are there are objects from 50 on -/
def BOK (B : Nat → Option Nat) (N : Nat) : Prop := ∀ i q : Nat, B i = some q → 50 ≤ q ∧ q < N
theorem min_nc {nc : Nat} (h : nc ≤ 10) : (if nI 10 < nI nc then nI 10 else nI nc) = nI nc := by
  rw [if_neg]
  intro q
  have := (nI_ltI (by omega) (by omega)).mp q
  omega
theorem rm_le {a b n : Nat} (h : a ≤ b) : a ≤ b + n := Nat.le_trans h (Nat.le_add_right b n)

theorem CE_2 {K : Nat → ClassId} {W S ns nc : Nat} {ad : Nat → Nat} {B : Nat → Option Nat} (g : Nat → Int32) : CE K W S ns nc ad B 2 g = .inl (K 0, S, .inl g) := rfl
theorem CE_3 {K : Nat → ClassId} {W S ns nc : Nat} {ad : Nat → Nat} {B : Nat → Option Nat} (g : Nat → Int32) : CE K W S ns nc ad B 3 g = .inl (K 0, S, .inl g) := rfl
theorem CE_4 {K : Nat → ClassId} {W S ns nc : Nat} {ad : Nat → Nat} {B : Nat → Option Nat} (g : Nat → Int32) : CE K W S ns nc ad B 4 g = .inl (K 0, S, .inl g) := rfl
theorem CE_5 {K : Nat → ClassId} {W S ns nc : Nat} {ad : Nat → Nat} {B : Nat → Option Nat} (g : Nat → Int32) : CE K W S ns nc ad B 5 g = .inl (K 0, W, .inl g) := rfl
theorem CE_6 {K : Nat → ClassId} {W S ns nc : Nat} {ad : Nat → Nat} {B : Nat → Option Nat} (g : Nat → Int32) : CE K W S ns nc ad B 6 g = .inl (K 1, W, .inl g) := rfl
theorem CE_35 {K : Nat → ClassId} {W S ns nc : Nat} {ad : Nat → Nat} {B : Nat → Option Nat} (g : Nat → Int32) : CE K W S ns nc ad B 35 g = .inl (K 0, W, .inl g) := rfl
theorem CE_37 {K : Nat → ClassId} {W S ns nc : Nat} {ad : Nat → Nat} {B : Nat → Option Nat} (g : Nat → Int32) : CE K W S ns nc ad B 37 g = .inl (K 0, 4, .inl g) := rfl
theorem CE_38 {K : Nat → ClassId} {W S ns nc : Nat} {ad : Nat → Nat} {B : Nat → Option Nat} (g : Nat → Int32) : CE K W S ns nc ad B 38 g = .inl (K 0, 4, .inl g) := rfl
theorem CE_39 {K : Nat → ClassId} {W S ns nc : Nat} {ad : Nat → Nat} {B : Nat → Option Nat} (g : Nat → Int32) : CE K W S ns nc ad B 39 g = .inl (K 0, 4, .inl g) := rfl
theorem CE_40 {K : Nat → ClassId} {W S ns nc : Nat} {ad : Nat → Nat} {B : Nat → Option Nat} (g : Nat → Int32) : CE K W S ns nc ad B 40 g = .inl (K 1, 8, .inl g) := rfl
theorem CE_41 {K : Nat → ClassId} {W S ns nc : Nat} {ad : Nat → Nat} {B : Nat → Option Nat} (g : Nat → Int32) : CE K W S ns nc ad B 41 g = .inl (K 0, 8, .inl g) := rfl
theorem CE_42 {K : Nat → ClassId} {W S ns nc : Nat} {ad : Nat → Nat} {B : Nat → Option Nat} (g : Nat → Int32) : CE K W S ns nc ad B 42 g = .inl (K 0, 8, .inl g) := rfl
theorem CE_43 {K : Nat → ClassId} {W S ns nc : Nat} {ad : Nat → Nat} {B : Nat → Option Nat} (g : Nat → Int32) : CE K W S ns nc ad B 43 g = .inl (K 0, 10, .inl g) := rfl
theorem CE_44 {K : Nat → ClassId} {W S ns nc : Nat} {ad : Nat → Nat} {B : Nat → Option Nat} (g : Nat → Int32) : CE K W S ns nc ad B 44 g = .inl (K 0, 10, .inl g) := rfl
theorem CE_45 {K : Nat → ClassId} {W S ns nc : Nat} {ad : Nat → Nat} {B : Nat → Option Nat} (g : Nat → Int32) : CE K W S ns nc ad B 45 g = .inl (K 0, 10, .inl g) := rfl
theorem CE_46 {K : Nat → ClassId} {W S ns nc : Nat} {ad : Nat → Nat} {B : Nat → Option Nat} (g : Nat → Int32) : CE K W S ns nc ad B 46 g = .inl (K 1, 10, .inl g) := rfl
theorem CE_47 {K : Nat → ClassId} {W S ns nc : Nat} {ad : Nat → Nat} {B : Nat → Option Nat} (g : Nat → Int32) : CE K W S ns nc ad B 47 g = .inl (K 0, 1089, .inl g) := rfl
theorem CE_48 {K : Nat → ClassId} {W S ns nc : Nat} {ad : Nat → Nat} {B : Nat → Option Nat} (g : Nat → Int32) : CE K W S ns nc ad B 48 g = .inl (K 0, 1089, .inl g) := rfl
theorem CE_49 {K : Nat → ClassId} {W S ns nc : Nat} {ad : Nat → Nat} {B : Nat → Option Nat} (g : Nat → Int32) : CE K W S ns nc ad B 49 g = .inl (K 0, 10, .inl g) := rfl
theorem CE_0 {K : Nat → ClassId} {W S ns nc : Nat} {ad : Nat → Nat} {B : Nat → Option Nat} (g : Nat → Int32) : CE K W S ns nc ad B 0 g = .inr (5, [.ref (ad 1), .ref (ad 7), .ref (ad 9), .ref (ad 35)]) := rfl
theorem CE_1 {K : Nat → ClassId} {W S ns nc : Nat} {ad : Nat → Nat} {B : Nat → Option Nat} (g : Nat → Int32) : CE K W S ns nc ad B 1 g = .inr (2, [.int (nI W), .int (nI S), .ref (ad 2), .ref (ad 3), .ref (ad 4), .ref (ad 5), .ref (ad 6)]) := rfl
theorem CE_7 {K : Nat → ClassId} {W S ns nc : Nat} {ad : Nat → Nat} {B : Nat → Option Nat} (g : Nat → Int32) : CE K W S ns nc ad B 7 g = .inr (4, [.ref (ad 8), .int (nI nc)]) := rfl
theorem CE_9 {K : Nat → ClassId} {W S ns nc : Nat} {ad : Nat → Nat} {B : Nat → Option Nat} (g : Nat → Int32) : CE K W S ns nc ad B 9 g = .inr (0, [.ref (ad 1), .ref (ad 7), .ref (ad 10), .ref (ad 31), .ref (ad 33), .int (g 5), .int (g 6), .int (g 7), .int (g 8)]) := rfl
theorem CE_36 {K : Nat → ClassId} {W S ns nc : Nat} {ad : Nat → Nat} {B : Nat → Option Nat} (g : Nat → Int32) : CE K W S ns nc ad B 36 g = .inr (6, [.int (nI W), .int (nI S), .ref (ad 37), .ref (ad 38), .ref (ad 39), .ref (ad 40), .ref (ad 41), .ref (ad 42), .int (nI ns), .ref (ad 43), .ref (ad 44), .ref (ad 45), .ref (ad 46), .ref (ad 47), .ref (ad 48), .ref (ad 49), .int (g 16), .int (g 17), .int (g 18)]) := rfl
theorem CE_10 {K : Nat → ClassId} {W S ns nc : Nat} {ad : Nat → Nat} {B : Nat → Option Nat} (g : Nat → Int32) : CE K W S ns nc ad B 10 g = .inl (K 2, 10, .inr (.inr (.inr (.inr (fun i => if i < 10 then some (ad (11 + 2 * i)) else none))))) := rfl
theorem CE_8 {K : Nat → ClassId} {W S ns nc : Nat} {ad : Nat → Nat} {B : Nat → Option Nat} (g : Nat → Int32) : CE K W S ns nc ad B 8 g = .inl (K 3, 10, .inr (.inr (.inr (.inr (fun i => (B i).map ad))))) := rfl
theorem fl_X2_15 : FL RX2 15 2 0 RX2 TX2 7 := ⟨rfl, in_X2, by decide, wf_X2_15⟩
theorem fl_X2_21 : FL RX2 21 2 1 RX2 TX2 7 := ⟨rfl, in_X2, by decide, wf_X2_21⟩
theorem fl_X2_24 : FL RX2 24 2 2 RX2 TX2 7 := ⟨rfl, in_X2, by decide, wf_X2_24⟩
theorem fl_X2_28 : FL RX2 28 2 3 RX2 TX2 7 := ⟨rfl, in_X2, by decide, wf_X2_28⟩
theorem fl_X2_31 : FL RX2 31 2 4 RX2 TX2 7 := ⟨rfl, in_X2, by decide, wf_X2_31⟩
theorem fl_X2_34 : FL RX2 34 2 5 RX2 TX2 7 := ⟨rfl, in_X2, by decide, wf_X2_34⟩
theorem fl_X2_37 : FL RX2 37 2 6 RX2 TX2 7 := ⟨rfl, in_X2, by decide, wf_X2_37⟩
theorem fl_X4_11 : FL RX4 11 4 0 RX4 TX4 2 := ⟨rfl, in_X4, by decide, wf_X4_11⟩
theorem fl_X4_17 : FL RX4 17 4 1 RX4 TX4 2 := ⟨rfl, in_X4, by decide, wf_X4_17⟩
theorem fl_X1_20 : FL RX1 20 1 0 RX1 TX1 2 := ⟨rfl, in_X1, by decide, wf_X1_20⟩
theorem fl_X1_24 : FL RX1 24 1 1 RX1 TX1 2 := ⟨rfl, in_X1, by decide, wf_X1_24⟩
theorem fl_X0_31 : FL RX0 31 0 0 RX0 TX0 9 := ⟨rfl, in_X0, by decide, wf_X0_31⟩
theorem fl_X0_35 : FL RX0 35 0 1 RX0 TX0 9 := ⟨rfl, in_X0, by decide, wf_X0_35⟩
theorem fl_X0_11 : FL RX0 11 0 2 RX0 TX0 9 := ⟨rfl, in_X0, by decide, wf_X0_11⟩
theorem fl_X0_48 : FL RX0 48 0 3 RX0 TX0 9 := ⟨rfl, in_X0, by decide, wf_X0_48⟩
theorem fl_X0_52 : FL RX0 52 0 4 RX0 TX0 9 := ⟨rfl, in_X0, by decide, wf_X0_52⟩
theorem fl_X0_17 : FL RX0 17 0 5 RX0 TX0 9 := ⟨rfl, in_X0, by decide, wf_X0_17⟩
theorem fl_X0_21 : FL RX0 21 0 6 RX0 TX0 9 := ⟨rfl, in_X0, by decide, wf_X0_21⟩
theorem fl_X0_24 : FL RX0 24 0 7 RX0 TX0 9 := ⟨rfl, in_X0, by decide, wf_X0_24⟩
theorem fl_X0_27 : FL RX0 27 0 8 RX0 TX0 9 := ⟨rfl, in_X0, by decide, wf_X0_27⟩
theorem fl_X5_21 : FL RX5 21 5 0 RX5 TX5 4 := ⟨rfl, in_X5, by decide, wf_X5_21⟩
theorem fl_X5_30 : FL RX5 30 5 1 RX5 TX5 4 := ⟨rfl, in_X5, by decide, wf_X5_30⟩
theorem fl_X5_39 : FL RX5 39 5 2 RX5 TX5 4 := ⟨rfl, in_X5, by decide, wf_X5_39⟩
theorem fl_X5_43 : FL RX5 43 5 3 RX5 TX5 4 := ⟨rfl, in_X5, by decide, wf_X5_43⟩
theorem fl_X3_9 : FL RX3 9 3 0 RX3 TX3 5 := ⟨rfl, in_X3, by decide, wf_X3_9⟩
theorem fl_X3_15 : FL RX3 15 3 1 RX3 TX3 5 := ⟨rfl, in_X3, by decide, wf_X3_15⟩
theorem fl_X3_18 : FL RX3 18 3 2 RX3 TX3 5 := ⟨rfl, in_X3, by decide, wf_X3_18⟩
theorem fl_X3_21 : FL RX3 21 3 3 RX3 TX3 5 := ⟨rfl, in_X3, by decide, wf_X3_21⟩
theorem fl_X3_24 : FL RX3 24 3 4 RX3 TX3 5 := ⟨rfl, in_X3, by decide, wf_X3_24⟩
theorem fl_X6_50 : FL RX6 50 6 0 RX6 TX6 19 := ⟨rfl, in_X6, by decide, wf_X6_50⟩
theorem fl_X6_54 : FL RX6 54 6 1 RX6 TX6 19 := ⟨rfl, in_X6, by decide, wf_X6_54⟩
theorem fl_X6_9 : FL RX6 9 6 2 RX6 TX6 19 := ⟨rfl, in_X6, by decide, wf_X6_9⟩
theorem fl_X6_13 : FL RX6 13 6 3 RX6 TX6 19 := ⟨rfl, in_X6, by decide, wf_X6_13⟩
theorem fl_X6_16 : FL RX6 16 6 4 RX6 TX6 19 := ⟨rfl, in_X6, by decide, wf_X6_16⟩
theorem fl_X6_19 : FL RX6 19 6 5 RX6 TX6 19 := ⟨rfl, in_X6, by decide, wf_X6_19⟩
theorem fl_X6_23 : FL RX6 23 6 6 RX6 TX6 19 := ⟨rfl, in_X6, by decide, wf_X6_23⟩
theorem fl_X6_26 : FL RX6 26 6 7 RX6 TX6 19 := ⟨rfl, in_X6, by decide, wf_X6_26⟩
theorem fl_X6_69 : FL RX6 69 6 8 RX6 TX6 19 := ⟨rfl, in_X6, by decide, wf_X6_69⟩
theorem fl_X6_29 : FL RX6 29 6 9 RX6 TX6 19 := ⟨rfl, in_X6, by decide, wf_X6_29⟩
theorem fl_X6_32 : FL RX6 32 6 10 RX6 TX6 19 := ⟨rfl, in_X6, by decide, wf_X6_32⟩
theorem fl_X6_35 : FL RX6 35 6 11 RX6 TX6 19 := ⟨rfl, in_X6, by decide, wf_X6_35⟩
theorem fl_X6_38 : FL RX6 38 6 12 RX6 TX6 19 := ⟨rfl, in_X6, by decide, wf_X6_38⟩
theorem fl_X6_41 : FL RX6 41 6 13 RX6 TX6 19 := ⟨rfl, in_X6, by decide, wf_X6_41⟩
theorem fl_X6_44 : FL RX6 44 6 14 RX6 TX6 19 := ⟨rfl, in_X6, by decide, wf_X6_44⟩
theorem fl_X6_47 : FL RX6 47 6 15 RX6 TX6 19 := ⟨rfl, in_X6, by decide, wf_X6_47⟩
theorem fl_X6_61 : FL RX6 61 6 16 RX6 TX6 19 := ⟨rfl, in_X6, by decide, wf_X6_61⟩
theorem fl_X6_107 : FL RX6 107 6 17 RX6 TX6 19 := ⟨rfl, in_X6, by decide, wf_X6_107⟩
theorem fl_X6_121 : FL RX6 121 6 18 RX6 TX6 19 := ⟨rfl, in_X6, by decide, wf_X6_121⟩
theorem fp_X0 : FP RX0 TX0 9 tyX0 := ⟨tyX0_ok, nmX0⟩
theorem fp_X1 : FP RX1 TX1 2 tyX1 := ⟨tyX1_ok, nmX1⟩
theorem fp_X2 : FP RX2 TX2 7 tyX2 := ⟨tyX2_ok, nmX2⟩
theorem fp_X3 : FP RX3 TX3 5 tyX3 := ⟨tyX3_ok, nmX3⟩
theorem fp_X4 : FP RX4 TX4 2 tyX4 := ⟨tyX4_ok, nmX4⟩
theorem fp_X5 : FP RX5 TX5 4 tyX5 := ⟨tyX5_ok, nmX5⟩
theorem fp_X6 : FP RX6 TX6 19 tyX6 := ⟨tyX6_ok, nmX6⟩
theorem ci_L_15 : CI RL 15 yX5_init cX5_init 5 2 := ⟨wl_L_15, wi_X5_init, wI_X5, wc_X5_init, rfl, by decide +kernel, by decide +kernel, by decide +kernel⟩
theorem ci_X5_18 : CI RX5 18 yX2_init cX2_init 4 2 := ⟨wl_X5_18, wi_X2_init, wI_X2, wc_X2_init, rfl, by decide +kernel, by decide +kernel, by decide +kernel⟩
theorem ci_X5_36 : CI RX5 36 yX0_init cX0_init 4 2 := ⟨wl_X5_36, wi_X0_init, wI_X0, wc_X0_init, rfl, by decide +kernel, by decide +kernel, by decide +kernel⟩
theorem cv_X0_39 : CV RX0 39 yX2_places cX2_places 1 (some .int) 0 := ⟨wl_X0_39, wi_X2_places, wse_X2_places, wI_X2, wc_X2_places, by decide +kernel, by decide +kernel, by decide +kernel⟩
theorem ci_X0_45 : CI RX0 45 yX1_init cX1_init 2 1 := ⟨wl_X0_45, wi_X1_init, wI_X1, wc_X1_init, rfl, by decide +kernel, by decide +kernel, by decide +kernel⟩
theorem cv_L_21 : CV RL 21 yX5_thick cX5_thick 4 (some .boolean) 3 := ⟨wl_L_21, wi_X5_thick, wse_X5_thick, wI_X5, wc_X5_thick, by decide +kernel, by decide +kernel, by decide +kernel⟩
theorem cv_X5_47 : CV RX5 47 yX2_hasSurface cX2_hasSurface 2 (some .boolean) 1 := ⟨wl_X5_47, wi_X2_hasSurface, wse_X2_hasSurface, wI_X2, wc_X2_hasSurface, by decide +kernel, by decide +kernel, by decide +kernel⟩
theorem cs_X5_51 : CS RX5 51 yX5_isDepth cX5_isDepth 1 (some .boolean) 1 := ⟨wl_X5_51, ws_X5_isDepth, wI_X5, wc_X5_isDepth, by decide +kernel, by decide +kernel, by decide +kernel⟩
theorem cv_X5_54 : CV RX5 54 yX2_setThick cX2_setThick 4 none 3 := ⟨wl_X5_54, wi_X2_setThick, wse_X2_setThick, wI_X2, wc_X2_setThick, by decide +kernel, by decide +kernel, by decide +kernel⟩
theorem cv_X2_41 : CV RX2 41 yX2_hasSurface cX2_hasSurface 2 (some .boolean) 1 := ⟨wl_X2_41, wi_X2_hasSurface, wse_X2_hasSurface, wI_X2, wc_X2_hasSurface, by decide +kernel, by decide +kernel, by decide +kernel⟩
theorem cv_X5_58 : CV RX5 58 yX0_forgetRock cX0_forgetRock 1 none 0 := ⟨wl_X5_58, wi_X0_forgetRock, wse_X0_forgetRock, wI_X0, wc_X0_forgetRock, by decide +kernel, by decide +kernel, by decide +kernel⟩
theorem cv_L_26 : CV RL 26 yX5_steep cX5_steep 3 (some .boolean) 2 := ⟨wl_L_26, wi_X5_steep, wse_X5_steep, wI_X5, wc_X5_steep, by decide +kernel, by decide +kernel, by decide +kernel⟩
theorem cv_X5_61 : CV RX5 61 yX2_setSteep cX2_setSteep 3 none 2 := ⟨wl_X5_61, wi_X2_setSteep, wse_X2_setSteep, wI_X2, wc_X2_setSteep, by decide +kernel, by decide +kernel, by decide +kernel⟩
theorem cv_L_31 : CV RL 31 yX5_fault cX5_fault 3 (some .boolean) 2 := ⟨wl_L_31, wi_X5_fault, wse_X5_fault, wI_X5, wc_X5_fault, by decide +kernel, by decide +kernel, by decide +kernel⟩
theorem cv_X5_64 : CV RX5 64 yX2_hasNextColumn cX2_hasNextColumn 2 (some .boolean) 1 := ⟨wl_X5_64, wi_X2_hasNextColumn, wse_X2_hasNextColumn, wI_X2, wc_X2_hasNextColumn, by decide +kernel, by decide +kernel, by decide +kernel⟩
theorem cs_X5_67 : CS RX5 67 yX5_isWithin cX5_isWithin 2 (some .boolean) 2 := ⟨wl_X5_67, ws_X5_isWithin, wI_X5, wc_X5_isWithin, by decide +kernel, by decide +kernel, by decide +kernel⟩
theorem cv_X5_71 : CV RX5 71 yX2_breakAt cX2_breakAt 3 none 2 := ⟨wl_X5_71, wi_X2_breakAt, wse_X2_breakAt, wI_X2, wc_X2_breakAt, by decide +kernel, by decide +kernel, by decide +kernel⟩
theorem cv_X2_50 : CV RX2 50 yX2_hasNextColumn cX2_hasNextColumn 2 (some .boolean) 1 := ⟨wl_X2_50, wi_X2_hasNextColumn, wse_X2_hasNextColumn, wI_X2, wc_X2_hasNextColumn, by decide +kernel, by decide +kernel, by decide +kernel⟩
theorem cv_L_35 : CV RL 35 yX5_heal cX5_heal 2 (some .boolean) 1 := ⟨wl_L_35, wi_X5_heal, wse_X5_heal, wI_X5, wc_X5_heal, by decide +kernel, by decide +kernel, by decide +kernel⟩
theorem cv_X5_74 : CV RX5 74 yX2_isBroken cX2_isBroken 2 (some .boolean) 1 := ⟨wl_X5_74, wi_X2_isBroken, wse_X2_isBroken, wI_X2, wc_X2_isBroken, by decide +kernel, by decide +kernel, by decide +kernel⟩
theorem cv_X5_77 : CV RX5 77 yX2_mendAt cX2_mendAt 2 none 1 := ⟨wl_X5_77, wi_X2_mendAt, wse_X2_mendAt, wI_X2, wc_X2_mendAt, by decide +kernel, by decide +kernel, by decide +kernel⟩
theorem cv_L_40 : CV RL 40 yX5_ground cX5_ground 3 (some .boolean) 2 := ⟨wl_L_40, wi_X5_ground, wse_X5_ground, wI_X5, wc_X5_ground, by decide +kernel, by decide +kernel, by decide +kernel⟩
theorem cv_L_44 : CV RL 44 yX5_sight cX5_sight 8 (some .int) 3 := ⟨wl_L_44, wi_X5_sight, wse_X5_sight, wI_X5, wc_X5_sight, by decide +kernel, by decide +kernel, by decide +kernel⟩
theorem cv_X5_81 : CV RX5 81 yX2_hasPlace cX2_hasPlace 3 (some .boolean) 2 := ⟨wl_X5_81, wi_X2_hasPlace, wse_X2_hasPlace, wI_X2, wc_X2_hasPlace, by decide +kernel, by decide +kernel, by decide +kernel⟩
theorem cv_X2_45 : CV RX2 45 yX2_hasColumn cX2_hasColumn 2 (some .boolean) 1 := ⟨wl_X2_45, wi_X2_hasColumn, wse_X2_hasColumn, wI_X2, wc_X2_hasColumn, by decide +kernel, by decide +kernel, by decide +kernel⟩
theorem ci_X5_86 : CI RX5 86 yX3_init cX3_init 6 5 := ⟨wl_X5_86, wi_X3_init, wI_X3, wc_X3_init, rfl, by decide +kernel, by decide +kernel, by decide +kernel⟩
theorem cv_X5_89 : CV RX5 89 yX4_add cX4_add 2 (some .int) 1 := ⟨wl_X5_89, wi_X4_add, wse_X4_add, wI_X4, wc_X4_add, by decide +kernel, by decide +kernel, by decide +kernel⟩
theorem cv_X5_93 : CV RX5 93 yX0_forgetQuarrel cX0_forgetQuarrel 1 none 0 := ⟨wl_X5_93, wi_X0_forgetQuarrel, wse_X0_forgetQuarrel, wI_X0, wc_X0_forgetQuarrel, by decide +kernel, by decide +kernel, by decide +kernel⟩
theorem cv_L_49 : CV RL 49 yX5_take cX5_take 2 (some .boolean) 1 := ⟨wl_L_49, wi_X5_take, wse_X5_take, wI_X5, wc_X5_take, by decide +kernel, by decide +kernel, by decide +kernel⟩
theorem cv_X5_96 : CV RX5 96 yX4_remove cX4_remove 2 (some .boolean) 1 := ⟨wl_X5_96, wi_X4_remove, wse_X4_remove, wI_X4, wc_X4_remove, by decide +kernel, by decide +kernel, by decide +kernel⟩
theorem cv_X4_21 : CV RX4 21 yX4_at cX4_at 2 (some (.object "HillLayers$Sight")) 1 := ⟨wl_X4_21, wi_X4_at, wse_X4_at, wI_X4, wc_X4_at, by decide +kernel, by decide +kernel, by decide +kernel⟩
theorem cv_L_53 : CV RL 53 yX5_quarrel cX5_quarrel 1 (some .int) 0 := ⟨wl_L_53, wi_X5_quarrel, wse_X5_quarrel, wI_X5, wc_X5_quarrel, by decide +kernel, by decide +kernel, by decide +kernel⟩
theorem cv_X5_99 : CV RX5 99 yX0_areSome cX0_areSome 1 (some .boolean) 0 := ⟨wl_X5_99, wi_X0_areSome, wse_X0_areSome, wI_X0, wc_X0_areSome, by decide +kernel, by decide +kernel, by decide +kernel⟩
theorem cv_X0_55 : CV RX0 55 yX1_clear cX1_clear 4 none 0 := ⟨wl_X0_55, wi_X1_clear, wse_X1_clear, wI_X1, wc_X1_clear, by decide +kernel, by decide +kernel, by decide +kernel⟩
theorem cv_X0_58 : CV RX0 58 yX2_bind cX2_bind 4 (some .boolean) 1 := ⟨wl_X0_58, wi_X2_bind, wse_X2_bind, wI_X2, wc_X2_bind, by decide +kernel, by decide +kernel, by decide +kernel⟩
theorem cv_X2_56 : CV RX2 56 yX2_bindThick cX2_bindThick 6 (some .boolean) 3 := ⟨wl_X2_56, wi_X2_bindThick, wse_X2_bindThick, wI_X2, wc_X2_bindThick, by decide +kernel, by decide +kernel, by decide +kernel⟩
theorem cv_X2_63 : CV RX2 63 yX2_hasPlace cX2_hasPlace 3 (some .boolean) 2 := ⟨wl_X2_63, wi_X2_hasPlace, wse_X2_hasPlace, wI_X2, wc_X2_hasPlace, by decide +kernel, by decide +kernel, by decide +kernel⟩
theorem cv_X2_67 : CV RX2 67 yX2_placeOf cX2_placeOf 3 (some .int) 2 := ⟨wl_X2_67, wi_X2_placeOf, wse_X2_placeOf, wI_X2, wc_X2_placeOf, by decide +kernel, by decide +kernel, by decide +kernel⟩
theorem cv_X2_70 : CV RX2 70 yX1_hold cX1_hold 5 (some .boolean) 4 := ⟨wl_X2_70, wi_X1_hold, wse_X1_hold, wI_X1, wc_X1_hold, by decide +kernel, by decide +kernel, by decide +kernel⟩
theorem cv_X1_34 : CV RX1 34 yX1_isPlace cX1_isPlace 2 (some .boolean) 1 := ⟨wl_X1_34, wi_X1_isPlace, wse_X1_isPlace, wI_X1, wc_X1_isPlace, by decide +kernel, by decide +kernel, by decide +kernel⟩
theorem cv_X1_41 : CV RX1 41 yX1_narrow cX1_narrow 8 none 3 := ⟨wl_X1_41, wi_X1_narrow, wse_X1_narrow, wI_X1, wc_X1_narrow, by decide +kernel, by decide +kernel, by decide +kernel⟩
theorem cv_X2_60 : CV RX2 60 yX2_bindStep cX2_bindStep 8 (some .boolean) 3 := ⟨wl_X2_60, wi_X2_bindStep, wse_X2_bindStep, wI_X2, wc_X2_bindStep, by decide +kernel, by decide +kernel, by decide +kernel⟩
theorem cv_X0_62 : CV RX0 62 yX0_findQuarrel cX0_findQuarrel 1 none 0 := ⟨wl_X0_62, wi_X0_findQuarrel, wse_X0_findQuarrel, wI_X0, wc_X0_findQuarrel, by decide +kernel, by decide +kernel, by decide +kernel⟩
theorem cv_X0_65 : CV RX0 65 yX4_heap cX4_heap 3 (some .int) 0 := ⟨wl_X0_65, wi_X4_heap, wse_X4_heap, wI_X4, wc_X4_heap, by decide +kernel, by decide +kernel, by decide +kernel⟩
theorem cv_X0_70 : CV RX0 70 yX1_copyFrom cX1_copyFrom 2 none 1 := ⟨wl_X0_70, wi_X1_copyFrom, wse_X1_copyFrom, wI_X1, wc_X1_copyFrom, by decide +kernel, by decide +kernel, by decide +kernel⟩
theorem cv_X0_74 : CV RX0 74 yX4_came cX4_came 1 (some .int) 0 := ⟨wl_X0_74, wi_X4_came, wse_X4_came, wI_X4, wc_X4_came, by decide +kernel, by decide +kernel, by decide +kernel⟩
theorem cs_X0_83 : CS RX0 83 yX0_decide cX0_decide 7 none 4 := ⟨wl_X0_83, ws_X0_decide, wI_X0, wc_X0_decide, by decide +kernel, by decide +kernel, by decide +kernel⟩
theorem cs_X0_87 : CS RX0 87 yJ6_bitCount_0f7a4 cJ6_bitCount_0f7a4 1 (some .int) 1 := ⟨wl_X0_87, ws_J6_bitCount_0f7a4, wI_J6, wc_J6_bitCount_0f7a4, by decide +kernel, by decide +kernel, by decide +kernel⟩
theorem cv_X0_93 : CV RX0 93 yX4_at cX4_at 2 (some (.object "HillLayers$Sight")) 1 := ⟨wl_X0_93, wi_X4_at, wse_X4_at, wI_X4, wc_X4_at, by decide +kernel, by decide +kernel, by decide +kernel⟩
theorem cv_X0_97 : CV RX0 97 yX3_bind cX3_bind 4 (some .boolean) 2 := ⟨wl_X0_97, wi_X3_bind, wse_X3_bind, wI_X3, wc_X3_bind, by decide +kernel, by decide +kernel, by decide +kernel⟩
theorem cv_X3_27 : CV RX3 27 yX2_placeOf cX2_placeOf 3 (some .int) 2 := ⟨wl_X3_27, wi_X2_placeOf, wse_X2_placeOf, wI_X2, wc_X2_placeOf, by decide +kernel, by decide +kernel, by decide +kernel⟩
theorem cv_X3_35 : CV RX3 35 yX1_hold cX1_hold 5 (some .boolean) 4 := ⟨wl_X3_35, wi_X1_hold, wse_X1_hold, wI_X1, wc_X1_hold, by decide +kernel, by decide +kernel, by decide +kernel⟩
theorem cv_X5_103 : CV RX5 103 yX0_leftOut cX0_leftOut 1 (some .int) 0 := ⟨wl_X5_103, wi_X0_leftOut, wse_X0_leftOut, wI_X0, wc_X0_leftOut, by decide +kernel, by decide +kernel, by decide +kernel⟩
theorem cv_L_58 : CV RL 58 yX5_span cX5_span 4 (some .int) 3 := ⟨wl_L_58, wi_X5_span, wse_X5_span, wI_X5, wc_X5_span, by decide +kernel, by decide +kernel, by decide +kernel⟩
theorem cs_X5_107 : CS RX5 107 yX5_isEnd cX5_isEnd 1 (some .boolean) 1 := ⟨wl_X5_107, ws_X5_isEnd, wI_X5, wc_X5_isEnd, by decide +kernel, by decide +kernel, by decide +kernel⟩
theorem cv_X5_110 : CV RX5 110 yX2_placeOf cX2_placeOf 3 (some .int) 2 := ⟨wl_X5_110, wi_X2_placeOf, wse_X2_placeOf, wI_X2, wc_X2_placeOf, by decide +kernel, by decide +kernel, by decide +kernel⟩
theorem cv_X5_113 : CV RX5 113 yX5_end cX5_end 4 (some .int) 2 := ⟨wl_X5_113, wi_X5_end, wse_X5_end, wI_X5, wc_X5_end, by decide +kernel, by decide +kernel, by decide +kernel⟩
theorem cv_X5_116 : CV RX5 116 yX0_agreed cX0_agreed 1 (some (.object "HillLayers$Gaps")) 0 := ⟨wl_X5_116, wi_X0_agreed, wse_X0_agreed, wI_X0, wc_X0_agreed, by decide +kernel, by decide +kernel, by decide +kernel⟩
theorem cv_X5_175 : CV RX5 175 yX1_least cX1_least 2 (some .int) 1 := ⟨wl_X5_175, wi_X1_least, wse_X1_least, wI_X1, wc_X1_least, by decide +kernel, by decide +kernel, by decide +kernel⟩
theorem cv_X1_38 : CV RX1 38 yX1_most cX1_most 3 (some .int) 2 := ⟨wl_X1_38, wi_X1_most, wse_X1_most, wI_X1, wc_X1_most, by decide +kernel, by decide +kernel, by decide +kernel⟩
theorem cv_X5_178 : CV RX5 178 yX1_greatest cX1_greatest 2 (some .int) 1 := ⟨wl_X5_178, wi_X1_greatest, wse_X1_greatest, wI_X1, wc_X1_greatest, by decide +kernel, by decide +kernel, by decide +kernel⟩
theorem cv_L_62 : CV RL 62 yX5_open cX5_open 1 (some .int) 0 := ⟨wl_L_62, wi_X5_open, wse_X5_open, wI_X5, wc_X5_open, by decide +kernel, by decide +kernel, by decide +kernel⟩
theorem cv_X5_120 : CV RX5 120 yX1_openSum cX1_openSum 3 (some .int) 0 := ⟨wl_X5_120, wi_X1_openSum, wse_X1_openSum, wI_X1, wc_X1_openSum, by decide +kernel, by decide +kernel, by decide +kernel⟩
theorem cv_X1_45 : CV RX1 45 yX1_greatest cX1_greatest 2 (some .int) 1 := ⟨wl_X1_45, wi_X1_greatest, wse_X1_greatest, wI_X1, wc_X1_greatest, by decide +kernel, by decide +kernel, by decide +kernel⟩
theorem cv_X1_49 : CV RX1 49 yX1_least cX1_least 2 (some .int) 1 := ⟨wl_X1_49, wi_X1_least, wse_X1_least, wI_X1, wc_X1_least, by decide +kernel, by decide +kernel, by decide +kernel⟩
theorem cv_L_66 : CV RL 66 yX5_layer cX5_layer 7 (some .int) 2 := ⟨wl_L_66, wi_X5_layer, wse_X5_layer, wI_X5, wc_X5_layer, by decide +kernel, by decide +kernel, by decide +kernel⟩
theorem cv_X5_125 : CV RX5 125 yX2_surfaces cX2_surfaces 1 (some .int) 0 := ⟨wl_X5_125, wi_X2_surfaces, wse_X2_surfaces, wI_X2, wc_X2_surfaces, by decide +kernel, by decide +kernel, by decide +kernel⟩
theorem cv_L_71 : CV RL 71 yX5_between cX5_between 7 (some .int) 3 := ⟨wl_L_71, wi_X5_between, wse_X5_between, wI_X5, wc_X5_between, by decide +kernel, by decide +kernel, by decide +kernel⟩
theorem cv_X5_128 : CV RX5 128 yX5_isPlaceCode cX5_isPlaceCode 2 (some .boolean) 1 := ⟨wl_X5_128, wi_X5_isPlaceCode, wse_X5_isPlaceCode, wI_X5, wc_X5_isPlaceCode, by decide +kernel, by decide +kernel, by decide +kernel⟩
theorem cv_X5_132 : CV RX5 132 yX1_most cX1_most 3 (some .int) 2 := ⟨wl_X5_132, wi_X1_most, wse_X1_most, wI_X1, wc_X1_most, by decide +kernel, by decide +kernel, by decide +kernel⟩
theorem cv_L_75 : CV RL 75 yX5_worn cX5_worn 4 (some .int) 2 := ⟨wl_L_75, wi_X5_worn, wse_X5_worn, wI_X5, wc_X5_worn, by decide +kernel, by decide +kernel, by decide +kernel⟩
theorem cv_L_79 : CV RL 79 yX5_tells cX5_tells 3 (some .int) 2 := ⟨wl_L_79, wi_X5_tells, wse_X5_tells, wI_X5, wc_X5_tells, by decide +kernel, by decide +kernel, by decide +kernel⟩
theorem cv_X5_135 : CV RX5 135 yX5_gain cX5_gain 6 (some .int) 1 := ⟨wl_X5_135, wi_X5_gain, wse_X5_gain, wI_X5, wc_X5_gain, by decide +kernel, by decide +kernel, by decide +kernel⟩
theorem cv_X5_181 : CV RX5 181 yX1_openSumAfterBore cX1_openSumAfterBore 7 (some .int) 2 := ⟨wl_X5_181, wi_X1_openSumAfterBore, wse_X1_openSumAfterBore, wI_X1, wc_X1_openSumAfterBore, by decide +kernel, by decide +kernel, by decide +kernel⟩
theorem cv_L_83 : CV RL 83 yX5_next cX5_next 6 (some .int) 0 := ⟨wl_L_83, wi_X5_next, wse_X5_next, wI_X5, wc_X5_next, by decide +kernel, by decide +kernel, by decide +kernel⟩
theorem cv_X5_139 : CV RX5 139 yX2_columns cX2_columns 1 (some .int) 0 := ⟨wl_X5_139, wi_X2_columns, wse_X2_columns, wI_X2, wc_X2_columns, by decide +kernel, by decide +kernel, by decide +kernel⟩
theorem cv_L_87 : CV RL 87 yX5_bend cX5_bend 8 (some .int) 1 := ⟨wl_L_87, wi_X5_bend, wse_X5_bend, wI_X5, wc_X5_bend, by decide +kernel, by decide +kernel, by decide +kernel⟩
theorem cv_L_92 : CV RL 92 yX5_told cX5_told 4 (some .int) 2 := ⟨wl_L_92, wi_X5_told, wse_X5_told, wI_X5, wc_X5_told, by decide +kernel, by decide +kernel, by decide +kernel⟩
theorem cv_X5_145 : CV RX5 145 yX4_at cX4_at 2 (some (.object "HillLayers$Sight")) 1 := ⟨wl_X5_145, wi_X4_at, wse_X4_at, wI_X4, wc_X4_at, by decide +kernel, by decide +kernel, by decide +kernel⟩
theorem cv_X5_149 : CV RX5 149 yX3_surface cX3_surface 1 (some .int) 0 := ⟨wl_X5_149, wi_X3_surface, wse_X3_surface, wI_X3, wc_X3_surface, by decide +kernel, by decide +kernel, by decide +kernel⟩
theorem cv_X5_152 : CV RX5 152 yX3_column cX3_column 1 (some .int) 0 := ⟨wl_X5_152, wi_X3_column, wse_X3_column, wI_X3, wc_X3_column, by decide +kernel, by decide +kernel, by decide +kernel⟩
theorem cv_X5_155 : CV RX5 155 yX3_kind cX3_kind 1 (some .int) 0 := ⟨wl_X5_155, wi_X3_kind, wse_X3_kind, wI_X3, wc_X3_kind, by decide +kernel, by decide +kernel, by decide +kernel⟩
theorem cv_X5_158 : CV RX5 158 yX3_z cX3_z 1 (some .int) 0 := ⟨wl_X5_158, wi_X3_z, wse_X3_z, wI_X3, wc_X3_z, by decide +kernel, by decide +kernel, by decide +kernel⟩
theorem cv_X5_161 : CV RX5 161 yX3_miss cX3_miss 1 (some .int) 0 := ⟨wl_X5_161, wi_X3_miss, wse_X3_miss, wI_X3, wc_X3_miss, by decide +kernel, by decide +kernel, by decide +kernel⟩
theorem cv_L_96 : CV RL 96 yX5_count cX5_count 2 (some .int) 1 := ⟨wl_L_96, wi_X5_count, wse_X5_count, wI_X5, wc_X5_count, by decide +kernel, by decide +kernel, by decide +kernel⟩
theorem cv_X5_164 : CV RX5 164 yX4_heap cX4_heap 3 (some .int) 0 := ⟨wl_X5_164, wi_X4_heap, wse_X4_heap, wI_X4, wc_X4_heap, by decide +kernel, by decide +kernel, by decide +kernel⟩
theorem cs_X5_167 : CS RX5 167 yJ6_bitCount_0f7a4 cJ6_bitCount_0f7a4 1 (some .int) 1 := ⟨wl_X5_167, ws_J6_bitCount_0f7a4, wI_J6, wc_J6_bitCount_0f7a4, by decide +kernel, by decide +kernel, by decide +kernel⟩
theorem cv_X5_172 : CV RX5 172 yX2_faults cX2_faults 3 (some .int) 0 := ⟨wl_X5_172, wi_X2_faults, wse_X2_faults, wI_X2, wc_X2_faults, by decide +kernel, by decide +kernel, by decide +kernel⟩
theorem cv_X2_53 : CV RX2 53 yX2_isBroken cX2_isBroken 2 (some .boolean) 1 := ⟨wl_X2_53, wi_X2_isBroken, wse_X2_isBroken, wI_X2, wc_X2_isBroken, by decide +kernel, by decide +kernel, by decide +kernel⟩
theorem cs_L_9 : CS RL 9 yL_cell cL_cell 2 (some .int) 2 := ⟨wl_L_9, ws_L_cell, wI_L, wc_L_cell, by decide +kernel, by decide +kernel, by decide +kernel⟩
theorem ci_L_20 : CI RL 20 yX6_init cX6_init 4 2 := ⟨wl_L_20, wi_X6_init, wI_X6, wc_X6_init, rfl, by decide +kernel, by decide +kernel, by decide +kernel⟩
theorem cv_L_25 : CV RL 25 yX6_thick cX6_thick 4 (some .boolean) 3 := ⟨wl_L_25, wi_X6_thick, wse_X6_thick, wI_X6, wc_X6_thick, by decide +kernel, by decide +kernel, by decide +kernel⟩
theorem cs_X6_57 : CS RX6 57 yX6_in cX6_in 3 (some .boolean) 3 := ⟨wl_X6_57, ws_X6_in, wI_X6, wc_X6_in, by decide +kernel, by decide +kernel, by decide +kernel⟩
theorem cv_L_30 : CV RL 30 yX6_steep cX6_steep 3 (some .boolean) 2 := ⟨wl_L_30, wi_X6_steep, wse_X6_steep, wI_X6, wc_X6_steep, by decide +kernel, by decide +kernel, by decide +kernel⟩
theorem cv_L_34 : CV RL 34 yX6_fault cX6_fault 3 (some .boolean) 2 := ⟨wl_L_34, wi_X6_fault, wse_X6_fault, wI_X6, wc_X6_fault, by decide +kernel, by decide +kernel, by decide +kernel⟩
theorem cv_L_39 : CV RL 39 yX6_heal cX6_heal 2 (some .boolean) 1 := ⟨wl_L_39, wi_X6_heal, wse_X6_heal, wI_X6, wc_X6_heal, by decide +kernel, by decide +kernel, by decide +kernel⟩
theorem cv_L_43 : CV RL 43 yX6_ground cX6_ground 3 (some .boolean) 2 := ⟨wl_L_43, wi_X6_ground, wse_X6_ground, wI_X6, wc_X6_ground, by decide +kernel, by decide +kernel, by decide +kernel⟩
theorem cv_L_48 : CV RL 48 yX6_sight cX6_sight 4 (some .int) 3 := ⟨wl_L_48, wi_X6_sight, wse_X6_sight, wI_X6, wc_X6_sight, by decide +kernel, by decide +kernel, by decide +kernel⟩
theorem cv_X6_65 : CV RX6 65 yX6_isPlace cX6_isPlace 3 (some .boolean) 2 := ⟨wl_X6_65, wi_X6_isPlace, wse_X6_isPlace, wI_X6, wc_X6_isPlace, by decide +kernel, by decide +kernel, by decide +kernel⟩
theorem cv_L_52 : CV RL 52 yX6_take cX6_take 2 (some .boolean) 1 := ⟨wl_L_52, wi_X6_take, wse_X6_take, wI_X6, wc_X6_take, by decide +kernel, by decide +kernel, by decide +kernel⟩
theorem cv_X6_72 : CV RX6 72 yX6_isSight cX6_isSight 2 (some .boolean) 1 := ⟨wl_X6_72, wi_X6_isSight, wse_X6_isSight, wI_X6, wc_X6_isSight, by decide +kernel, by decide +kernel, by decide +kernel⟩
theorem cv_L_57 : CV RL 57 yX6_quarrel cX6_quarrel 1 (some .int) 0 := ⟨wl_L_57, wi_X6_quarrel, wse_X6_quarrel, wI_X6, wc_X6_quarrel, by decide +kernel, by decide +kernel, by decide +kernel⟩
theorem cv_X6_124 : CV RX6 124 yX6_reckons cX6_reckons 1 (some .boolean) 0 := ⟨wl_X6_124, wi_X6_reckons, wse_X6_reckons, wI_X6, wc_X6_reckons, by decide +kernel, by decide +kernel, by decide +kernel⟩
theorem cv_X6_103 : CV RX6 103 yX6_found cX6_found 4 (some .boolean) 0 := ⟨wl_X6_103, wi_X6_found, wse_X6_found, wI_X6, wc_X6_found, by decide +kernel, by decide +kernel, by decide +kernel⟩
theorem cv_X6_110 : CV RX6 110 yX6_stands cX6_stands 5 (some .boolean) 0 := ⟨wl_X6_110, wi_X6_stands, wse_X6_stands, wI_X6, wc_X6_stands, by decide +kernel, by decide +kernel, by decide +kernel⟩
theorem cs_X6_81 : CS RX6 81 yX6_node cX6_node 2 (some .int) 2 := ⟨wl_X6_81, ws_X6_node, wI_X6, wc_X6_node, by decide +kernel, by decide +kernel, by decide +kernel⟩
theorem cv_X6_76 : CV RX6 76 yX6_bounds cX6_bounds 4 none 3 := ⟨wl_X6_76, wi_X6_bounds, wse_X6_bounds, wI_X6, wc_X6_bounds, by decide +kernel, by decide +kernel, by decide +kernel⟩
theorem cv_X6_85 : CV RX6 85 yX6_within cX6_within 5 none 4 := ⟨wl_X6_85, wi_X6_within, wse_X6_within, wI_X6, wc_X6_within, by decide +kernel, by decide +kernel, by decide +kernel⟩
theorem cv_X6_113 : CV RX6 113 yX6_pairs cX6_pairs 5 none 1 := ⟨wl_X6_113, wi_X6_pairs, wse_X6_pairs, wI_X6, wc_X6_pairs, by decide +kernel, by decide +kernel, by decide +kernel⟩
theorem cv_X6_100 : CV RX6 100 yX6_agrees cX6_agrees 3 (some .boolean) 1 := ⟨wl_X6_100, wi_X6_agrees, wse_X6_agrees, wI_X6, wc_X6_agrees, by decide +kernel, by decide +kernel, by decide +kernel⟩
theorem cv_X6_97 : CV RX6 97 yX6_sees cX6_sees 4 (some .boolean) 1 := ⟨wl_X6_97, wi_X6_sees, wse_X6_sees, wI_X6, wc_X6_sees, by decide +kernel, by decide +kernel, by decide +kernel⟩
theorem cv_X6_93 : CV RX6 93 yX6_addsWithin cX6_addsWithin 5 (some .boolean) 4 := ⟨wl_X6_93, wi_X6_addsWithin, wse_X6_addsWithin, wI_X6, wc_X6_addsWithin, by decide +kernel, by decide +kernel, by decide +kernel⟩
theorem cv_X6_90 : CV RX6 90 yX6_adds cX6_adds 7 (some .boolean) 3 := ⟨wl_X6_90, wi_X6_adds, wse_X6_adds, wI_X6, wc_X6_adds, by decide +kernel, by decide +kernel, by decide +kernel⟩
theorem cs_X6_117 : CS RX6 117 yX6_bits cX6_bits 3 (some .int) 1 := ⟨wl_X6_117, ws_X6_bits, wI_X6, wc_X6_bits, by decide +kernel, by decide +kernel, by decide +kernel⟩
theorem cv_L_61 : CV RL 61 yX6_span cX6_span 4 (some .int) 3 := ⟨wl_L_61, wi_X6_span, wse_X6_span, wI_X6, wc_X6_span, by decide +kernel, by decide +kernel, by decide +kernel⟩
theorem cv_X6_127 : CV RX6 127 yX6_low cX6_low 2 (some .int) 1 := ⟨wl_X6_127, wi_X6_low, wse_X6_low, wI_X6, wc_X6_low, by decide +kernel, by decide +kernel, by decide +kernel⟩
theorem cv_X6_130 : CV RX6 130 yX6_high cX6_high 2 (some .int) 1 := ⟨wl_X6_130, wi_X6_high, wse_X6_high, wI_X6, wc_X6_high, by decide +kernel, by decide +kernel, by decide +kernel⟩
theorem cv_L_65 : CV RL 65 yX6_open cX6_open 1 (some .int) 0 := ⟨wl_L_65, wi_X6_open, wse_X6_open, wI_X6, wc_X6_open, by decide +kernel, by decide +kernel, by decide +kernel⟩
theorem cv_X6_133 : CV RX6 133 yX6_opens cX6_opens 4 (some .int) 0 := ⟨wl_X6_133, wi_X6_opens, wse_X6_opens, wI_X6, wc_X6_opens, by decide +kernel, by decide +kernel, by decide +kernel⟩
theorem cv_L_70 : CV RL 70 yX6_layer cX6_layer 6 (some .int) 2 := ⟨wl_L_70, wi_X6_layer, wse_X6_layer, wI_X6, wc_X6_layer, by decide +kernel, by decide +kernel, by decide +kernel⟩
theorem cv_L_74 : CV RL 74 yX6_between cX6_between 6 (some .int) 3 := ⟨wl_L_74, wi_X6_between, wse_X6_between, wI_X6, wc_X6_between, by decide +kernel, by decide +kernel, by decide +kernel⟩
theorem cv_L_78 : CV RL 78 yX6_worn cX6_worn 4 (some .int) 2 := ⟨wl_L_78, wi_X6_worn, wse_X6_worn, wI_X6, wc_X6_worn, by decide +kernel, by decide +kernel, by decide +kernel⟩
theorem cv_L_82 : CV RL 82 yX6_tells cX6_tells 3 (some .int) 2 := ⟨wl_L_82, wi_X6_tells, wse_X6_tells, wI_X6, wc_X6_tells, by decide +kernel, by decide +kernel, by decide +kernel⟩
theorem cv_X6_141 : CV RX6 141 yX6_tellsAt cX6_tellsAt 4 (some .int) 1 := ⟨wl_X6_141, wi_X6_tellsAt, wse_X6_tellsAt, wI_X6, wc_X6_tellsAt, by decide +kernel, by decide +kernel, by decide +kernel⟩
theorem cv_X6_138 : CV RX6 138 yX6_opensBy cX6_opensBy 9 (some .int) 2 := ⟨wl_X6_138, wi_X6_opensBy, wse_X6_opensBy, wI_X6, wc_X6_opensBy, by decide +kernel, by decide +kernel, by decide +kernel⟩
theorem cv_L_86 : CV RL 86 yX6_next cX6_next 6 (some .int) 0 := ⟨wl_L_86, wi_X6_next, wse_X6_next, wI_X6, wc_X6_next, by decide +kernel, by decide +kernel, by decide +kernel⟩
theorem cv_L_91 : CV RL 91 yX6_bend cX6_bend 6 (some .int) 1 := ⟨wl_L_91, wi_X6_bend, wse_X6_bend, wI_X6, wc_X6_bend, by decide +kernel, by decide +kernel, by decide +kernel⟩
theorem cv_X6_144 : CV RX6 144 yX6_depth cX6_depth 4 (some .int) 3 := ⟨wl_X6_144, wi_X6_depth, wse_X6_depth, wI_X6, wc_X6_depth, by decide +kernel, by decide +kernel, by decide +kernel⟩
theorem cv_L_95 : CV RL 95 yX6_told cX6_told 3 (some .int) 2 := ⟨wl_L_95, wi_X6_told, wse_X6_told, wI_X6, wc_X6_told, by decide +kernel, by decide +kernel, by decide +kernel⟩
theorem cv_L_99 : CV RL 99 yX6_count cX6_count 4 (some .int) 1 := ⟨wl_L_99, wi_X6_count, wse_X6_count, wI_X6, wc_X6_count, by decide +kernel, by decide +kernel, by decide +kernel⟩
section KP
variable {p : Program} {l : Launch} {e : Env} {R : Room} {s : State} {m : MethodId} {args : Array Value} {below : List Frame} {meth : Method} {c : Code} {Q : State → Prop} {D : va_G} {A : Nat → Prop} {H0 : Heap} {nL k n N : Nat} {ad : Nat → Nat} {pc : Nat} {lv : List (Nat × Value)} {st : List Value} {cc : ByteArray} {own : String} {K : Nat → ClassId} {W S ns nc : Nat} {B : Nat → Option Nat} {σ : Nat → Nat → Int32} {j8 : Nat} {v8 : Option Nat}
theorem k_putns (pc' : Nat) (C : Cx p s m args meth c cc own nL D (TY K) A H0) {index : Nat} (F : FL own index 6 8 RX6 TX6 19) (P : FP RX6 TX6 19 tyX6) (hd : decode cc pc = .ok (.putfield index, 3)) (hp : pc + 3 = pc') (hr : 36 < N) {ns' : Nat} {x : Int32} (hx : x = nI ns') (kk : J p l e R s m args below meth c Q D A H0 nL k n N ad (CT K W S ns' nc ad B σ) pc' lv st) : J p l e R s m args below meth c Q D A H0 nL k n N ad (CT K W S ns nc ad B σ) pc lv (.int x :: .ref (ad 36) :: st) := by
  subst hx
  refine j_put pc' C F P rfl hd hp 36 hr rfl (CE_36 (σ 36)) rfl rfl (Nat.le_of_ble_eq_true rfl) (j_ct (fun r _ => ?_) kk)
  by_cases h : r = 36
  · subst h; rw [va_up_self]; rfl
  · rw [va_up_ne _ _ h]
    show CE K W S ns nc ad B r (σ r) = CE K W S ns' nc ad B r (σ r)
    unfold CE
    by_cases h1 : r < 11
    · rw [if_pos h1, if_pos h1]
    rw [if_neg h1, if_neg h1]
    by_cases h2 : r < 35
    · rw [if_pos h2, if_pos h2]
    rw [if_neg h2, if_neg h2]
    by_cases h3 : r < 50
    · rw [if_pos h3, if_pos h3]
      obtain ⟨u, hu⟩ : ∃ u, r = u + 35 := ⟨r - 35, by omega⟩
      subst hu
      rw [Nat.add_sub_cancel]
      match u with
      | 0 => rfl
      | 1 => exact absurd rfl h
      | 2 => rfl
      | 3 => rfl
      | 4 => rfl
      | 5 => rfl
      | 6 => rfl
      | 7 => rfl
      | 8 => rfl
      | 9 => rfl
      | 10 => rfl
      | 11 => rfl
      | 12 => rfl
      | 13 => rfl
      | v + 14 => rfl
    · rw [if_neg h3, if_neg h3]
theorem k_putnc (pc' : Nat) (C : Cx p s m args meth c cc own nL D (TY K) A H0) {index : Nat} (F : FL own index 4 1 RX4 TX4 2) (P : FP RX4 TX4 2 tyX4) (hd : decode cc pc = .ok (.putfield index, 3)) (hp : pc + 3 = pc') (hr : 7 < N) {nc' : Nat} {x : Int32} (hx : x = nI nc') (kk : J p l e R s m args below meth c Q D A H0 nL k n N ad (CT K W S ns nc' ad B σ) pc' lv st) : J p l e R s m args below meth c Q D A H0 nL k n N ad (CT K W S ns nc ad B σ) pc lv (.int x :: .ref (ad 7) :: st) := by
  subst hx
  refine j_put pc' C F P rfl hd hp 7 hr rfl (CE_7 (σ 7)) rfl rfl (Nat.le_of_ble_eq_true rfl) (j_ct (fun r _ => ?_) kk)
  by_cases h : r = 7
  · subst h; rw [va_up_self]; rfl
  · rw [va_up_ne _ _ h]
    show CE K W S ns nc ad B r (σ r) = CE K W S ns nc' ad B r (σ r)
    unfold CE
    by_cases h1 : r < 11
    · rw [if_pos h1, if_pos h1]
      match r with
      | 0 => rfl
      | 1 => rfl
      | 2 => rfl
      | 3 => rfl
      | 4 => rfl
      | 5 => rfl
      | 6 => rfl
      | 7 => exact absurd rfl h
      | 8 => rfl
      | 9 => rfl
      | v + 10 => rfl
    rw [if_neg h1, if_neg h1]
theorem CT_B8 {B' : Nat → Option Nat} (h : ∀ i, (B' i).map ad = va_up (fun i => (B i).map ad) j8 v8 i) : va_up (CT K W S ns nc ad B σ) 8 (.inl (K 3, 10, .inr (.inr (.inr (.inr (va_up (fun i => (B i).map ad) j8 v8)))))) = CT K W S ns nc ad B' σ := by
  funext r
  by_cases h8 : r = 8
  · subst h8
    rw [va_up_self]
    show _ = CE K W S ns nc ad B' 8 (σ 8)
    rw [CE_8, show (fun i => (B' i).map ad) = va_up (fun i => (B i).map ad) j8 v8 from funext h]
  · rw [va_up_ne _ _ h8]
    have h := h8
    show CE K W S ns nc ad B r (σ r) = CE K W S ns nc ad B' r (σ r)
    unfold CE
    by_cases h1 : r < 11
    · rw [if_pos h1, if_pos h1]
      match r with
      | 0 => rfl
      | 1 => rfl
      | 2 => rfl
      | 3 => rfl
      | 4 => rfl
      | 5 => rfl
      | 6 => rfl
      | 7 => rfl
      | 8 => exact absurd rfl h
      | 9 => rfl
      | v + 10 => rfl
    rw [if_neg h1, if_neg h1]
theorem k_astq8 (pc' : Nat) (C : Cx p s m args meth c cc own nL D (TY K) A H0) (hd : decode cc pc = .ok (.aastore, 1)) (hp : pc + 1 = pc') (hr : 8 < N) {q : Nat} (hq : 50 ≤ q) (hqN : q < N) {i : Int32} (hin : vp_in i 10) (kk : J p l e R s m args below meth c Q D A H0 nL k n N ad (CT K W S ns nc ad (va_up B i.toNatClampNeg (some q)) σ) pc' lv st) : J p l e R s m args below meth c Q D A H0 nL k n N ad (CT K W S ns nc ad B σ) pc lv (.ref (ad q) :: .int i :: .ref (ad 8) :: st) := by
  refine j_astq pc' C hd hp 8 hr rfl (CE_8 _) 3 (rc := (RX3, TX3, 5)) rfl 3 rfl q hqN rfl (CE_q hq _) hin rfl ?_
  rw [CT_B8 (B' := va_up B i.toNatClampNeg (some q)) (fun j => ?_)]
  · exact kk
  · by_cases h : j = i.toNatClampNeg
    · subst h; rw [va_up_self, va_up_self]; rfl
    · rw [va_up_ne _ _ h, va_up_ne _ _ h]
theorem k_astq8N (pc' : Nat) (C : Cx p s m args meth c cc own nL D (TY K) A H0) (hd : decode cc pc = .ok (.aastore, 1)) (hp : pc + 1 = pc') (hr : 8 < N) {i : Int32} (hin : vp_in i 10) (kk : J p l e R s m args below meth c Q D A H0 nL k n N ad (CT K W S ns nc ad (va_up B i.toNatClampNeg none) σ) pc' lv st) : J p l e R s m args below meth c Q D A H0 nL k n N ad (CT K W S ns nc ad B σ) pc lv (.null :: .int i :: .ref (ad 8) :: st) := by
  refine j_astqN pc' C hd hp 8 hr rfl (CE_8 _) 3 rfl hin rfl ?_
  rw [CT_B8 (B' := va_up B i.toNatClampNeg none) (fun j => ?_)]
  · exact kk
  · by_cases h : j = i.toNatClampNeg
    · subst h; rw [va_up_self, va_up_self]; rfl
    · rw [va_up_ne _ _ h, va_up_ne _ _ h]
end KP


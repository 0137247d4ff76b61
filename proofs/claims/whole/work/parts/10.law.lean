def R_law : String := "HillLayersLaw"
def lw_P (b : Addr) (xs : List Int32) (args : Array Value) (s : State) : Prop := args = #[.ref b] ∧ s.IntsAt b xs ∧ xs.length ≤ 2050 ∧ (Jvm.Cond.and given_1 narrow_1).before args s = true
def lw_Q (_ : Array Value) (s : State) (o : Outcome) (t : State) : Prop := o = .returned (some (.int 1)) ∧ Framed s o t [] 600000 7302250
def lw_Z (below : List Frame) (a : Array Value) (s : State) : State → Prop := fun t => ∃ o, t.status = .running ∧ Ended t below o ∧ lw_Q a s o t
/-- the law's own end, with 1 on the stack, nothing written that was there before, its room as the claim has it -/
theorem lw_ret {p : Program} {l : Launch} {e : Env} {s : State} {m : MethodId} {below : List Frame} {meth : Method} {c : Code} {b : Nat} (hx : p.tables.exec = Jvm.exec) (hb : c.code = code) (hr : meth.sig.returnType = ret) (hlocks : meth.locks = false) {pc : Nat} {H : Heap} {ls : Array Slot} (hdg : decode code pc = .ok (.ireturn, 1)) : W p l e room_1 s m #[Value.ref b] below meth c H [] 600000 7302250 (lw_Z below #[Value.ref b] s) (F0 m pc ls [.int 1]) := by
  intro T hT X
  obtain ⟨fs, hret, hrun, hended, hW, hframe⟩ := X.leave (v := some (.int 1)) (hlocks := hlocks) (fun h => by rw [hr] at h; cases h)
  have hmeth' : T.vm.method? m = some meth := X.method'
  refine ⟨T.setFrames fs, ?_, .returned (some (.int 1)), hrun, hended, rfl, ⟨_, rfl⟩, hW, hframe⟩
  jvm_step X.here [X.here.top, hx, hb, hdg, hmeth', hr, ret, narrow_b1]
  (try refine ⟨rfl, ?_⟩); (try refine ⟨rfl, ?_⟩)
  first | (intro acts; rw [hret _ acts rfl rfl rfl]) | rw [hret _ _ rfl rfl rfl]
  exact Steps.refl _
/-- what holds at the law's entry: the machine, the code, the tables' words (any of lw_tbl by 'hts w (by decide +kernel)'), the script of L ints xs at the cell b, what the Statement gives of the start (any of its parts by flat_of_before) -/
def lw_At (p : Program) (s : State) (m : MethodId) (meth : Method) (c : Code) (b L : Nat) (xs : Nat → Int32) : Prop :=
  p.tables.exec = Jvm.exec ∧ c.code = code ∧ meth.sig.returnType = ret ∧ c.maxLocals = 4 ∧ s.vm.findClass R_law = some m.cls ∧ (∀ w ∈ lw_tbl, w.before #[Value.ref b] s = true) ∧ va_X b L xs s s.heap ∧ b < s.heap.size ∧ meth.locks = false ∧ (Jvm.Cond.and given_1 narrow_1).before #[Value.ref b] s = true
theorem j_sld {p : Program} {l : Launch} {e : Env} {R : Room} {s : State} {m : MethodId} {args : Array Value} {below : List Frame} {meth : Method} {c : Code} {Q : State → Prop} {D : va_G} {A : Nat → Prop} {H0 : Heap} {nL k n N : Nat} {ad : Nat → Nat} {ct : Nat → va_E} {pc : Nat} {lv : List (Nat × Value)} {st : List Value} {cc : ByteArray} {own : String} {tys : List (ClassId × FieldType)} (pc' : Nat) (C : Cx p s m args meth c cc own nL D tys A H0) {b L : Nat} {xs : Nat → Int32} (hX : va_X b L xs s H0) (hbl : b < H0.size) (hbA : ¬ A b) {i : Nat} {x : Int32} (hx : x = nI i) (hi : i < L) (hL : L < 2 ^ 31) (hd : decode cc pc = .ok (.iaload, 1)) (hp : pc + 1 = pc') (kk : J p l e R s m args below meth c Q D A H0 nL k n N ad ct pc' lv (.int (xs i) :: st)) : J p l e R s m args below meth c Q D A H0 nL k n N ad ct pc lv (.int x :: .ref b :: st) := by
  intro H locs ls w hl
  subst hx
  refine va_sld C.1.1 C.1.2.1 hX hbl hbA w.2 (vp_in_nI hi hL) hd ?_
  rw [nI_clamp (by omega), hp]
  exact kk H locs ls w hl
theorem j_slen {p : Program} {l : Launch} {e : Env} {R : Room} {s : State} {m : MethodId} {args : Array Value} {below : List Frame} {meth : Method} {c : Code} {Q : State → Prop} {D : va_G} {A : Nat → Prop} {H0 : Heap} {nL k n N : Nat} {ad : Nat → Nat} {ct : Nat → va_E} {pc : Nat} {lv : List (Nat × Value)} {st : List Value} {cc : ByteArray} {own : String} {tys : List (ClassId × FieldType)} (pc' : Nat) (C : Cx p s m args meth c cc own nL D tys A H0) {b L : Nat} {xs : Nat → Int32} (hX : va_X b L xs s H0) (hbl : b < H0.size) (hbA : ¬ A b) (hd : decode cc pc = .ok (.arraylength, 1)) (hp : pc + 1 = pc') (kk : J p l e R s m args below meth c Q D A H0 nL k n N ad ct pc' lv (.int (nI L) :: st)) : J p l e R s m args below meth c Q D A H0 nL k n N ad ct pc lv (.ref b :: st) := by
  intro H locs ls w hl
  exact va_slen C.1.1 C.1.2.1 hX hbl hbA w.2 hd (by rw [hp]; exact kk H locs ls w hl)
theorem law_gt {L i : Nat} (hL : L ≤ 2050) (hi : i < 10000) : nI L - nI 4 < nI i ↔ L < i + 4 := by
  rw [Int32.lt_iff_toInt_lt, pk_sub_toInt (by omega) (by omega), nI_toInt (by omega)]
  omega
theorem law_end {p : Program} {l : Launch} {e : Env} {s : State} {m : MethodId} {below : List Frame} {meth : Method} {c : Code} {D : va_G} {tys : List (ClassId × FieldType)} {b k n N : Nat} {ad : Nat → Nat} {ct : Nat → va_E} {lv : List (Nat × Value)} (C : Cx p s m #[Value.ref b] meth c cL_law RL 4 D tys (fun q : Nat => s.heap.size ≤ q) s.heap) (hr : meth.sig.returnType = ret) (hk : k ≤ 600000) (hn : n ≤ 7302250) : J p l e room_1 s m #[Value.ref b] below meth c (lw_Z below #[Value.ref b] s) D (fun q : Nat => s.heap.size ≤ q) s.heap 4 k n N ad ct 680 lv [] := by
  refine j_iconst 681 C (x := 1) dL_law_680 rfl (by decide) ?_
  intro H locs ls w hl
  refine va_forget (fun q hq => w.2.2.2 q hq) ?_
  refine W.widen hk hn ?_
  exact lw_ret C.1.1 C.1.2.1 hr C.2.2.2 dL_law_681
set_option maxHeartbeats 16000000 in
set_option maxRecDepth 100000 in
/-- the law's loop: at its head class and reference hold the same hill -/
theorem law_loop {p : Program} {l : Launch} {e : Env} {s : State} {m : MethodId} {below : List Frame} {meth : Method} {c : Code} {D : va_G} {K : Nat → ClassId} {W S b L : Nat} {xs : Nat → Int32} (hL : L ≤ 2050) (C : Cx p s m #[Value.ref b] meth c cL_law RL 4 D (TY K) (fun q : Nat => s.heap.size ≤ q) s.heap) (hr : meth.sig.returnType = ret) (hX : va_X b L xs s s.heap) (hbl : b < s.heap.size) :
    ∀ (t i N n : Nat) (ad : Nat → Nat) (B : Nat → Option Nat) (σ : Nat → Nat → Int32), L + 1 ≤ i + t → i ≤ 2060 → Rel W S n N B σ → J p l e room_1 s m #[Value.ref b] below meth c (lw_Z below #[Value.ref b] s) D (fun q : Nat => s.heap.size ≤ q) s.heap 4 (100 + i) (30000 + 5 * i) N ad (CT K W S n n ad B σ) 38 [(0, .ref b), (1, .ref (ad 0)), (2, .ref (ad 36)), (3, .int (nI i))] [] := by
  have hbA : ¬ (fun q : Nat => s.heap.size ≤ q) b := Nat.not_le.mpr hbl
  intro t
  induction t with
  | zero =>
    intro i N n ad B σ ht hi hR
    refine j_iload_n 39 C dL_law_38 rfl rfl 3 rfl ?_
    refine j_aload_n 40 C dL_law_39 rfl rfl 0 rfl ?_
    refine j_slen 41 C hX hbl hbA dL_law_40 rfl ?_
    refine j_iconst 42 C (x := nI 4) dL_law_41 rfl (by decide) ?_
    refine j_isub 43 C dL_law_42 rfl rfl ?_
    refine j_ic_gt 680 46 C dL_law_43 rfl rfl (fun _ => ?_) (fun cc => absurd ((law_gt hL (by omega)).mpr (by omega)) cc)
    exact law_end C hr (by omega) (by omega)
  | succ t ih =>
    intro i N n ad B σ ht hi hR
    have go : ∀ {i N n k z : Nat} {ad : Nat → Nat} {B : Nat → Option Nat} {σ : Nat → Nat → Int32}, L + 1 ≤ i + 4 + t → i + 4 ≤ 2060 → Rel W S n N B σ → k ≤ 100 + (i + 4) → z ≤ 30000 + 5 * (i + 4) → J p l e room_1 s m #[Value.ref b] below meth c (lw_Z below #[Value.ref b] s) D (fun q : Nat => s.heap.size ≤ q) s.heap 4 k z N ad (CT K W S n n ad B σ) 674 [(0, .ref b), (1, .ref (ad 0)), (2, .ref (ad 36)), (3, .int (nI i))] [] := by
      intro i N n k z ad B σ h1 h2 h3 hk hz
      refine j_iinc 677 C (x' := nI (i + 4)) [(3, .int (nI (i + 4))), (0, .ref b), (1, .ref (ad 0)), (2, .ref (ad 36))] dL_law_674 rfl 3 rfl (by rw [show Int32.ofInt 4 = nI 4 from by decide, nI_add]) (by decide) rfl ?_
      refine j_goto 38 C dL_law_677 rfl ?_
      refine j_lv [1, 2, 3, 0] (lv' := [(0, .ref b), (1, .ref (ad 0)), (2, .ref (ad 36)), (3, .int (nI (i + 4)))]) rfl ?_
      refine j_widen (100 + (i + 4)) (30000 + 5 * (i + 4)) hk hz ?_
      exact ih (i + 4) N n ad B σ (by omega) h2 h3
    obtain ⟨hG, hXP⟩ := Rel_G hR
    refine j_iload_n 39 C dL_law_38 rfl rfl 3 rfl ?_
    refine j_aload_n 40 C dL_law_39 rfl rfl 0 rfl ?_
    refine j_slen 41 C hX hbl hbA dL_law_40 rfl ?_
    refine j_iconst 42 C (x := nI 4) dL_law_41 rfl (by decide) ?_
    refine j_isub 43 C dL_law_42 rfl rfl ?_
    refine j_ic_gt 680 46 C dL_law_43 rfl rfl (fun _ => law_end C hr (by omega) (by omega)) (fun cc => ?_)
    have hiL : i + 4 ≤ L := Nat.not_lt.mp (fun q => cc ((law_gt hL (by omega)).mpr q))
    refine j_aload_n 47 C dL_law_46 rfl rfl 0 rfl ?_
    refine j_iload_n 48 C dL_law_47 rfl rfl 3 rfl ?_
    refine j_sld 49 C hX hbl hbA (i := i) rfl (by omega) (by omega) dL_law_48 rfl ?_
    refine j_bipush 51 C (x := nI 31) dL_law_49 rfl (by decide) ?_
    refine j_iand 52 C dL_law_51 rfl rfl ?_
    obtain ⟨j, hj, ej⟩ := pk_andE (xs i) (m := nI 31) 5 (by decide)
    rcases (by omega : j = 0 ∨ j = 1 ∨ j = 2 ∨ j = 3 ∨ j = 4 ∨ j = 5 ∨ j = 6 ∨ j = 7 ∨ j = 8 ∨ j = 9 ∨ j = 10 ∨ j = 11 ∨ j = 12 ∨ j = 13 ∨ j = 14 ∨ j = 15 ∨ j = 16 ∨ j = 17 ∨ 18 ≤ j) with rfl | rfl | rfl | rfl | rfl | rfl | rfl | rfl | rfl | rfl | rfl | rfl | rfl | rfl | rfl | rfl | rfl | rfl | h18
    · skip
      have e31 : xs i &&& nI 31 = nI 0 := ej
      refine j_swIn 140 C dL_law_52 (off := 88) (by rw [e31]; decide) (by rw [e31]; decide) (by rw [e31]; decide) rfl ?_
      refine j_aload_n 141 C dL_law_140 rfl rfl 1 rfl ?_
      refine j_aload_n 142 C dL_law_141 rfl rfl 0 rfl ?_
      refine j_iload_n 143 C dL_law_142 rfl rfl 3 rfl ?_
      refine j_iconst 144 C (x := nI 1) dL_law_143 rfl (by decide) ?_
      refine j_iadd 145 C (z := nI (i + 1)) dL_law_144 rfl (nI_add _ _) ?_
      refine j_sld 146 C hX hbl hbA (i := i + 1) rfl (by omega) (by omega) dL_law_145 rfl ?_
      refine j_aload_n 147 C dL_law_146 rfl rfl 0 rfl ?_
      refine j_iload_n 148 C dL_law_147 rfl rfl 3 rfl ?_
      refine j_iconst 149 C (x := nI 2) dL_law_148 rfl (by decide) ?_
      refine j_iadd 150 C (z := nI (i + 2)) dL_law_149 rfl (nI_add _ _) ?_
      refine j_sld 151 C hX hbl hbA (i := i + 2) rfl (by omega) (by omega) dL_law_150 rfl ?_
      refine j_aload_n 152 C dL_law_151 rfl rfl 0 rfl ?_
      refine j_iload_n 153 C dL_law_152 rfl rfl 3 rfl ?_
      refine j_iconst 154 C (x := nI 3) dL_law_153 rfl (by decide) ?_
      refine j_iadd 155 C (z := nI (i + 3)) dL_law_154 rfl (nI_add _ _) ?_
      refine j_sld 156 C hX hbl hbA (i := i + 3) rfl (by omega) (by omega) dL_law_155 rfl ?_
      obtain ⟨zx, ex⟩ : ∃ z, m_X5_thick W S n n B σ (xs (i + 1)) (xs (i + 2)) (xs (i + 3)) = z := ⟨_, rfl⟩
      refine s_V 159 C (As := [.int (xs (i + 1)), .int (xs (i + 2)), .int (xs (i + 3))]) cv_L_21 (c_X5_thick (l := l) (D := D) (K := K) (ad := ad) hG (hz := ex) ) dL_law_156 rfl 0 5 (GH_r hG (by decide)) rfl (CE_0 _) rfl rfl rfl rfl rfl rfl ⟨⟨Nat.le_of_ble_eq_true rfl, Nat.le_of_ble_eq_true rfl⟩, by show 100 + i ≤ 600000; omega, by show 30000 + 5 * i ≤ 7302250; omega⟩ (Nat.le_of_ble_eq_true rfl) (st' := [.int zx.1]) rfl (fun hE => ?_)
      obtain ⟨hMP, hP⟩ := P_thick hR ex
      refine j_aload_n 160 C dL_law_159 rfl rfl 2 rfl ?_
      refine j_aload_n 161 C dL_law_160 rfl rfl 0 rfl ?_
      refine j_iload_n 162 C dL_law_161 rfl rfl 3 rfl ?_
      refine j_iconst 163 C (x := nI 1) dL_law_162 rfl (by decide) ?_
      refine j_iadd 164 C (z := nI (i + 1)) dL_law_163 rfl (nI_add _ _) ?_
      refine j_sld 165 C hX hbl hbA (i := i + 1) rfl (by omega) (by omega) dL_law_164 rfl ?_
      refine j_aload_n 166 C dL_law_165 rfl rfl 0 rfl ?_
      refine j_iload_n 167 C dL_law_166 rfl rfl 3 rfl ?_
      refine j_iconst 168 C (x := nI 2) dL_law_167 rfl (by decide) ?_
      refine j_iadd 169 C (z := nI (i + 2)) dL_law_168 rfl (nI_add _ _) ?_
      refine j_sld 170 C hX hbl hbA (i := i + 2) rfl (by omega) (by omega) dL_law_169 rfl ?_
      refine j_aload_n 171 C dL_law_170 rfl rfl 0 rfl ?_
      refine j_iload_n 172 C dL_law_171 rfl rfl 3 rfl ?_
      refine j_iconst 173 C (x := nI 3) dL_law_172 rfl (by decide) ?_
      refine j_iadd 174 C (z := nI (i + 3)) dL_law_173 rfl (nI_add _ _) ?_
      refine j_sld 175 C hX hbl hbA (i := i + 3) rfl (by omega) (by omega) dL_law_174 rfl ?_
      obtain ⟨zm, em⟩ : ∃ z, m_X6_thick W S n n B (sA (sA (sA σ 2 zx.2.1) 3 zx.2.2.1) 9 zx.2.2.2) (xs (i + 1)) (xs (i + 2)) (xs (i + 3)) = z := ⟨_, rfl⟩
      refine s_V 178 C (As := [.int (xs (i + 1)), .int (xs (i + 2)), .int (xs (i + 3))]) cv_L_25 (c_X6_thick (l := l) (D := D) (K := K) (ad := ad) hG (hz := em) ) dL_law_175 rfl 36 6 (GH_r hG (by decide)) rfl (CE_36 _) rfl rfl rfl rfl rfl rfl ⟨⟨Nat.le_of_ble_eq_true rfl, Nat.le_of_ble_eq_true rfl⟩, by show 100 + i ≤ 600000; omega, by show 30000 + 5 * i ≤ 7302250; omega⟩ (Nat.le_of_ble_eq_true rfl) (st' := [.int zm.1, .int zx.1]) rfl (fun hE => ?_)
      obtain ⟨hEq, hR2⟩ := hP em
      refine j_ic_eq 674 181 C dL_law_178 rfl rfl (fun _ => ?_) (fun cc => absurd hEq cc)
      exact go (i := i) (by omega) (by omega) hR2 (by omega) (by omega)
    · skip
      have e31 : xs i &&& nI 31 = nI 1 := ej
      refine j_swIn 183 C dL_law_52 (off := 131) (by rw [e31]; decide) (by rw [e31]; decide) (by rw [e31]; decide) rfl ?_
      refine j_aload_n 184 C dL_law_183 rfl rfl 1 rfl ?_
      refine j_aload_n 185 C dL_law_184 rfl rfl 0 rfl ?_
      refine j_iload_n 186 C dL_law_185 rfl rfl 3 rfl ?_
      refine j_iconst 187 C (x := nI 1) dL_law_186 rfl (by decide) ?_
      refine j_iadd 188 C (z := nI (i + 1)) dL_law_187 rfl (nI_add _ _) ?_
      refine j_sld 189 C hX hbl hbA (i := i + 1) rfl (by omega) (by omega) dL_law_188 rfl ?_
      refine j_aload_n 190 C dL_law_189 rfl rfl 0 rfl ?_
      refine j_iload_n 191 C dL_law_190 rfl rfl 3 rfl ?_
      refine j_iconst 192 C (x := nI 2) dL_law_191 rfl (by decide) ?_
      refine j_iadd 193 C (z := nI (i + 2)) dL_law_192 rfl (nI_add _ _) ?_
      refine j_sld 194 C hX hbl hbA (i := i + 2) rfl (by omega) (by omega) dL_law_193 rfl ?_
      obtain ⟨zx, ex⟩ : ∃ z, m_X5_steep W S n n B σ (xs (i + 1)) (xs (i + 2)) = z := ⟨_, rfl⟩
      refine s_V 197 C (As := [.int (xs (i + 1)), .int (xs (i + 2))]) cv_L_26 (c_X5_steep (l := l) (D := D) (K := K) (ad := ad) hG (hz := ex) ) dL_law_194 rfl 0 5 (GH_r hG (by decide)) rfl (CE_0 _) rfl rfl rfl rfl rfl rfl ⟨⟨Nat.le_of_ble_eq_true rfl, Nat.le_of_ble_eq_true rfl⟩, by show 100 + i ≤ 600000; omega, by show 30000 + 5 * i ≤ 7302250; omega⟩ (Nat.le_of_ble_eq_true rfl) (st' := [.int zx.1]) rfl (fun hE => ?_)
      obtain ⟨hMP, hP⟩ := P_steep hR ex
      refine j_aload_n 198 C dL_law_197 rfl rfl 2 rfl ?_
      refine j_aload_n 199 C dL_law_198 rfl rfl 0 rfl ?_
      refine j_iload_n 200 C dL_law_199 rfl rfl 3 rfl ?_
      refine j_iconst 201 C (x := nI 1) dL_law_200 rfl (by decide) ?_
      refine j_iadd 202 C (z := nI (i + 1)) dL_law_201 rfl (nI_add _ _) ?_
      refine j_sld 203 C hX hbl hbA (i := i + 1) rfl (by omega) (by omega) dL_law_202 rfl ?_
      refine j_aload_n 204 C dL_law_203 rfl rfl 0 rfl ?_
      refine j_iload_n 205 C dL_law_204 rfl rfl 3 rfl ?_
      refine j_iconst 206 C (x := nI 2) dL_law_205 rfl (by decide) ?_
      refine j_iadd 207 C (z := nI (i + 2)) dL_law_206 rfl (nI_add _ _) ?_
      refine j_sld 208 C hX hbl hbA (i := i + 2) rfl (by omega) (by omega) dL_law_207 rfl ?_
      obtain ⟨zm, em⟩ : ∃ z, m_X6_steep W S n n B (sA (sA σ 4 zx.2.1) 9 zx.2.2) (xs (i + 1)) (xs (i + 2)) = z := ⟨_, rfl⟩
      refine s_V 211 C (As := [.int (xs (i + 1)), .int (xs (i + 2))]) cv_L_30 (c_X6_steep (l := l) (D := D) (K := K) (ad := ad) hG (hz := em) ) dL_law_208 rfl 36 6 (GH_r hG (by decide)) rfl (CE_36 _) rfl rfl rfl rfl rfl rfl ⟨⟨Nat.le_of_ble_eq_true rfl, Nat.le_of_ble_eq_true rfl⟩, by show 100 + i ≤ 600000; omega, by show 30000 + 5 * i ≤ 7302250; omega⟩ (Nat.le_of_ble_eq_true rfl) (st' := [.int zm.1, .int zx.1]) rfl (fun hE => ?_)
      obtain ⟨hEq, hR2⟩ := hP em
      refine j_ic_eq 674 214 C dL_law_211 rfl rfl (fun _ => ?_) (fun cc => absurd hEq cc)
      exact go (i := i) (by omega) (by omega) hR2 (by omega) (by omega)
    · skip
      have e31 : xs i &&& nI 31 = nI 2 := ej
      refine j_swIn 216 C dL_law_52 (off := 164) (by rw [e31]; decide) (by rw [e31]; decide) (by rw [e31]; decide) rfl ?_
      refine j_aload_n 217 C dL_law_216 rfl rfl 1 rfl ?_
      refine j_aload_n 218 C dL_law_217 rfl rfl 0 rfl ?_
      refine j_iload_n 219 C dL_law_218 rfl rfl 3 rfl ?_
      refine j_iconst 220 C (x := nI 1) dL_law_219 rfl (by decide) ?_
      refine j_iadd 221 C (z := nI (i + 1)) dL_law_220 rfl (nI_add _ _) ?_
      refine j_sld 222 C hX hbl hbA (i := i + 1) rfl (by omega) (by omega) dL_law_221 rfl ?_
      refine j_aload_n 223 C dL_law_222 rfl rfl 0 rfl ?_
      refine j_iload_n 224 C dL_law_223 rfl rfl 3 rfl ?_
      refine j_iconst 225 C (x := nI 2) dL_law_224 rfl (by decide) ?_
      refine j_iadd 226 C (z := nI (i + 2)) dL_law_225 rfl (nI_add _ _) ?_
      refine j_sld 227 C hX hbl hbA (i := i + 2) rfl (by omega) (by omega) dL_law_226 rfl ?_
      obtain ⟨zx, ex⟩ : ∃ z, m_X5_fault W S n n B σ (xs (i + 1)) (xs (i + 2)) = z := ⟨_, rfl⟩
      refine s_V 230 C (As := [.int (xs (i + 1)), .int (xs (i + 2))]) cv_L_31 (c_X5_fault (l := l) (D := D) (K := K) (ad := ad) hG (hz := ex) ) dL_law_227 rfl 0 5 (GH_r hG (by decide)) rfl (CE_0 _) rfl rfl rfl rfl rfl rfl ⟨⟨Nat.le_of_ble_eq_true rfl, Nat.le_of_ble_eq_true rfl⟩, by show 100 + i ≤ 600000; omega, by show 30000 + 5 * i ≤ 7302250; omega⟩ (Nat.le_of_ble_eq_true rfl) (st' := [.int zx.1]) rfl (fun hE => ?_)
      obtain ⟨hMP, hP⟩ := P_fault hR ex
      refine j_aload_n 231 C dL_law_230 rfl rfl 2 rfl ?_
      refine j_aload_n 232 C dL_law_231 rfl rfl 0 rfl ?_
      refine j_iload_n 233 C dL_law_232 rfl rfl 3 rfl ?_
      refine j_iconst 234 C (x := nI 1) dL_law_233 rfl (by decide) ?_
      refine j_iadd 235 C (z := nI (i + 1)) dL_law_234 rfl (nI_add _ _) ?_
      refine j_sld 236 C hX hbl hbA (i := i + 1) rfl (by omega) (by omega) dL_law_235 rfl ?_
      refine j_aload_n 237 C dL_law_236 rfl rfl 0 rfl ?_
      refine j_iload_n 238 C dL_law_237 rfl rfl 3 rfl ?_
      refine j_iconst 239 C (x := nI 2) dL_law_238 rfl (by decide) ?_
      refine j_iadd 240 C (z := nI (i + 2)) dL_law_239 rfl (nI_add _ _) ?_
      refine j_sld 241 C hX hbl hbA (i := i + 2) rfl (by omega) (by omega) dL_law_240 rfl ?_
      obtain ⟨zm, em⟩ : ∃ z, m_X6_fault W S n n B (sA (sA (sA σ 5 zx.2.1) 6 zx.2.2.1) 9 zx.2.2.2) (xs (i + 1)) (xs (i + 2)) = z := ⟨_, rfl⟩
      refine s_V 244 C (As := [.int (xs (i + 1)), .int (xs (i + 2))]) cv_L_34 (c_X6_fault (l := l) (D := D) (K := K) (ad := ad) hG (hz := em) ) dL_law_241 rfl 36 6 (GH_r hG (by decide)) rfl (CE_36 _) rfl rfl rfl rfl rfl rfl ⟨⟨Nat.le_of_ble_eq_true rfl, Nat.le_of_ble_eq_true rfl⟩, by show 100 + i ≤ 600000; omega, by show 30000 + 5 * i ≤ 7302250; omega⟩ (Nat.le_of_ble_eq_true rfl) (st' := [.int zm.1, .int zx.1]) rfl (fun hE => ?_)
      obtain ⟨hEq, hR2⟩ := hP em
      refine j_ic_eq 674 247 C dL_law_244 rfl rfl (fun _ => ?_) (fun cc => absurd hEq cc)
      exact go (i := i) (by omega) (by omega) hR2 (by omega) (by omega)
    · skip
      have e31 : xs i &&& nI 31 = nI 3 := ej
      refine j_swIn 249 C dL_law_52 (off := 197) (by rw [e31]; decide) (by rw [e31]; decide) (by rw [e31]; decide) rfl ?_
      refine j_aload_n 250 C dL_law_249 rfl rfl 1 rfl ?_
      refine j_aload_n 251 C dL_law_250 rfl rfl 0 rfl ?_
      refine j_iload_n 252 C dL_law_251 rfl rfl 3 rfl ?_
      refine j_iconst 253 C (x := nI 1) dL_law_252 rfl (by decide) ?_
      refine j_iadd 254 C (z := nI (i + 1)) dL_law_253 rfl (nI_add _ _) ?_
      refine j_sld 255 C hX hbl hbA (i := i + 1) rfl (by omega) (by omega) dL_law_254 rfl ?_
      obtain ⟨zx, ex⟩ : ∃ z, m_X5_heal W S n n B σ (xs (i + 1)) = z := ⟨_, rfl⟩
      refine s_V 258 C (As := [.int (xs (i + 1))]) cv_L_35 (c_X5_heal (l := l) (D := D) (K := K) (ad := ad) hG (hz := ex) ) dL_law_255 rfl 0 5 (GH_r hG (by decide)) rfl (CE_0 _) rfl rfl rfl rfl rfl rfl ⟨⟨Nat.le_of_ble_eq_true rfl, Nat.le_of_ble_eq_true rfl⟩, by show 100 + i ≤ 600000; omega, by show 30000 + 5 * i ≤ 7302250; omega⟩ (Nat.le_of_ble_eq_true rfl) (st' := [.int zx.1]) rfl (fun hE => ?_)
      obtain ⟨hMP, hP⟩ := P_heal hR ex
      refine j_aload_n 259 C dL_law_258 rfl rfl 2 rfl ?_
      refine j_aload_n 260 C dL_law_259 rfl rfl 0 rfl ?_
      refine j_iload_n 261 C dL_law_260 rfl rfl 3 rfl ?_
      refine j_iconst 262 C (x := nI 1) dL_law_261 rfl (by decide) ?_
      refine j_iadd 263 C (z := nI (i + 1)) dL_law_262 rfl (nI_add _ _) ?_
      refine j_sld 264 C hX hbl hbA (i := i + 1) rfl (by omega) (by omega) dL_law_263 rfl ?_
      obtain ⟨zm, em⟩ : ∃ z, m_X6_heal W S n n B (sA (sA (sA σ 5 zx.2.1) 6 zx.2.2.1) 9 zx.2.2.2) (xs (i + 1)) = z := ⟨_, rfl⟩
      refine s_V 267 C (As := [.int (xs (i + 1))]) cv_L_39 (c_X6_heal (l := l) (D := D) (K := K) (ad := ad) hG (hz := em) ) dL_law_264 rfl 36 6 (GH_r hG (by decide)) rfl (CE_36 _) rfl rfl rfl rfl rfl rfl ⟨⟨Nat.le_of_ble_eq_true rfl, Nat.le_of_ble_eq_true rfl⟩, by show 100 + i ≤ 600000; omega, by show 30000 + 5 * i ≤ 7302250; omega⟩ (Nat.le_of_ble_eq_true rfl) (st' := [.int zm.1, .int zx.1]) rfl (fun hE => ?_)
      obtain ⟨hEq, hR2⟩ := hP em
      refine j_ic_eq 674 270 C dL_law_267 rfl rfl (fun _ => ?_) (fun cc => absurd hEq cc)
      exact go (i := i) (by omega) (by omega) hR2 (by omega) (by omega)
    · skip
      have e31 : xs i &&& nI 31 = nI 4 := ej
      refine j_swIn 272 C dL_law_52 (off := 220) (by rw [e31]; decide) (by rw [e31]; decide) (by rw [e31]; decide) rfl ?_
      refine j_aload_n 273 C dL_law_272 rfl rfl 1 rfl ?_
      refine j_aload_n 274 C dL_law_273 rfl rfl 0 rfl ?_
      refine j_iload_n 275 C dL_law_274 rfl rfl 3 rfl ?_
      refine j_iconst 276 C (x := nI 1) dL_law_275 rfl (by decide) ?_
      refine j_iadd 277 C (z := nI (i + 1)) dL_law_276 rfl (nI_add _ _) ?_
      refine j_sld 278 C hX hbl hbA (i := i + 1) rfl (by omega) (by omega) dL_law_277 rfl ?_
      refine j_aload_n 279 C dL_law_278 rfl rfl 0 rfl ?_
      refine j_iload_n 280 C dL_law_279 rfl rfl 3 rfl ?_
      refine j_iconst 281 C (x := nI 2) dL_law_280 rfl (by decide) ?_
      refine j_iadd 282 C (z := nI (i + 2)) dL_law_281 rfl (nI_add _ _) ?_
      refine j_sld 283 C hX hbl hbA (i := i + 2) rfl (by omega) (by omega) dL_law_282 rfl ?_
      obtain ⟨zx, ex⟩ : ∃ z, m_X5_ground W S n n B σ (xs (i + 1)) (xs (i + 2)) = z := ⟨_, rfl⟩
      refine s_V 286 C (As := [.int (xs (i + 1)), .int (xs (i + 2))]) cv_L_40 (c_X5_ground (l := l) (D := D) (K := K) (ad := ad) hG (hz := ex) ) dL_law_283 rfl 0 5 (GH_r hG (by decide)) rfl (CE_0 _) rfl rfl rfl rfl rfl rfl ⟨⟨Nat.le_of_ble_eq_true rfl, Nat.le_of_ble_eq_true rfl⟩, by show 100 + i ≤ 600000; omega, by show 30000 + 5 * i ≤ 7302250; omega⟩ (Nat.le_of_ble_eq_true rfl) (st' := [.int zx.1]) rfl (fun hE => ?_)
      obtain ⟨hMP, hP⟩ := P_ground hR ex
      refine j_aload_n 287 C dL_law_286 rfl rfl 2 rfl ?_
      refine j_aload_n 288 C dL_law_287 rfl rfl 0 rfl ?_
      refine j_iload_n 289 C dL_law_288 rfl rfl 3 rfl ?_
      refine j_iconst 290 C (x := nI 1) dL_law_289 rfl (by decide) ?_
      refine j_iadd 291 C (z := nI (i + 1)) dL_law_290 rfl (nI_add _ _) ?_
      refine j_sld 292 C hX hbl hbA (i := i + 1) rfl (by omega) (by omega) dL_law_291 rfl ?_
      refine j_aload_n 293 C dL_law_292 rfl rfl 0 rfl ?_
      refine j_iload_n 294 C dL_law_293 rfl rfl 3 rfl ?_
      refine j_iconst 295 C (x := nI 2) dL_law_294 rfl (by decide) ?_
      refine j_iadd 296 C (z := nI (i + 2)) dL_law_295 rfl (nI_add _ _) ?_
      refine j_sld 297 C hX hbl hbA (i := i + 2) rfl (by omega) (by omega) dL_law_296 rfl ?_
      obtain ⟨zm, em⟩ : ∃ z, m_X6_ground W S n n B (sA σ 35 zx.2) (xs (i + 1)) (xs (i + 2)) = z := ⟨_, rfl⟩
      refine s_V 300 C (As := [.int (xs (i + 1)), .int (xs (i + 2))]) cv_L_43 (c_X6_ground (l := l) (D := D) (K := K) (ad := ad) hG (hz := em) ) dL_law_297 rfl 36 6 (GH_r hG (by decide)) rfl (CE_36 _) rfl rfl rfl rfl rfl rfl ⟨⟨Nat.le_of_ble_eq_true rfl, Nat.le_of_ble_eq_true rfl⟩, by show 100 + i ≤ 600000; omega, by show 30000 + 5 * i ≤ 7302250; omega⟩ (Nat.le_of_ble_eq_true rfl) (st' := [.int zm.1, .int zx.1]) rfl (fun hE => ?_)
      obtain ⟨hEq, hR2⟩ := hP em
      refine j_ic_eq 674 303 C dL_law_300 rfl rfl (fun _ => ?_) (fun cc => absurd hEq cc)
      exact go (i := i) (by omega) (by omega) hR2 (by omega) (by omega)
    · skip
      have e31 : xs i &&& nI 31 = nI 5 := ej
      refine j_swIn 305 C dL_law_52 (off := 253) (by rw [e31]; decide) (by rw [e31]; decide) (by rw [e31]; decide) rfl ?_
      refine j_aload_n 306 C dL_law_305 rfl rfl 1 rfl ?_
      refine j_aload_n 307 C dL_law_306 rfl rfl 0 rfl ?_
      refine j_iload_n 308 C dL_law_307 rfl rfl 3 rfl ?_
      refine j_iconst 309 C (x := nI 1) dL_law_308 rfl (by decide) ?_
      refine j_iadd 310 C (z := nI (i + 1)) dL_law_309 rfl (nI_add _ _) ?_
      refine j_sld 311 C hX hbl hbA (i := i + 1) rfl (by omega) (by omega) dL_law_310 rfl ?_
      refine j_aload_n 312 C dL_law_311 rfl rfl 0 rfl ?_
      refine j_iload_n 313 C dL_law_312 rfl rfl 3 rfl ?_
      refine j_iconst 314 C (x := nI 2) dL_law_313 rfl (by decide) ?_
      refine j_iadd 315 C (z := nI (i + 2)) dL_law_314 rfl (nI_add _ _) ?_
      refine j_sld 316 C hX hbl hbA (i := i + 2) rfl (by omega) (by omega) dL_law_315 rfl ?_
      refine j_aload_n 317 C dL_law_316 rfl rfl 0 rfl ?_
      refine j_iload_n 318 C dL_law_317 rfl rfl 3 rfl ?_
      refine j_iconst 319 C (x := nI 3) dL_law_318 rfl (by decide) ?_
      refine j_iadd 320 C (z := nI (i + 3)) dL_law_319 rfl (nI_add _ _) ?_
      refine j_sld 321 C hX hbl hbA (i := i + 3) rfl (by omega) (by omega) dL_law_320 rfl ?_
      refine j_callV 324 C (As := [.int (xs (i + 1)), .int (xs (i + 2)), .int (xs (i + 3))]) (st := []) cv_L_44 (c_X5_sight (l := l) (D := D) (K := K) (ad := ad) hG hXP.1 (where0 := (xs (i + 1))) (z_ := (xs (i + 2))) (miss0 := (xs (i + 3))) rfl) dL_law_321 rfl 0 5 (GH_r hG (by decide)) rfl (CE_0 _) rfl rfl rfl rfl ⟨⟨Nat.le_of_ble_eq_true rfl, Nat.le_of_ble_eq_true rfl⟩, by show 100 + i + 1 ≤ 600000; omega, by show 30000 + 5 * i + 5 ≤ 7302250; omega⟩ (Nat.le_of_ble_eq_true rfl) (fun v N' adx ctx hB => ?_)
      rcases hB with ⟨ez, rfl, eN, ea, rfl⟩ | ⟨ez, h10, rfl, rfl, hA, rfl⟩ | ⟨ez, h10, rfl, rfl, hA, rfl⟩
      · skip
        replace eN := eN.symm
        subst eN
        replace ea := ea.symm
        subst ea
        show J p l e room_1 s m #[Value.ref b] below meth c (lw_Z below #[Value.ref b] s) D (fun q : Nat => s.heap.size ≤ q) s.heap 4 (100 + i + 1) (30000 + 5 * i + 5) N ad (CT K W S n n ad B σ) 324 [(0, .ref b), (1, .ref (ad 0)), (2, .ref (ad 36)), (3, .int (nI i))] [.int (-1)]
        have hG1 : GH W S n n N := hG
        refine j_aload_n 325 C dL_law_324 rfl rfl 2 rfl ?_
        refine j_aload_n 326 C dL_law_325 rfl rfl 0 rfl ?_
        refine j_iload_n 327 C dL_law_326 rfl rfl 3 rfl ?_
        refine j_iconst 328 C (x := nI 1) dL_law_327 rfl (by decide) ?_
        refine j_iadd 329 C (z := nI (i + 1)) dL_law_328 rfl (nI_add _ _) ?_
        refine j_sld 330 C hX hbl hbA (i := i + 1) rfl (by omega) (by omega) dL_law_329 rfl ?_
        refine j_aload_n 331 C dL_law_330 rfl rfl 0 rfl ?_
        refine j_iload_n 332 C dL_law_331 rfl rfl 3 rfl ?_
        refine j_iconst 333 C (x := nI 2) dL_law_332 rfl (by decide) ?_
        refine j_iadd 334 C (z := nI (i + 2)) dL_law_333 rfl (nI_add _ _) ?_
        refine j_sld 335 C hX hbl hbA (i := i + 2) rfl (by omega) (by omega) dL_law_334 rfl ?_
        refine j_aload_n 336 C dL_law_335 rfl rfl 0 rfl ?_
        refine j_iload_n 337 C dL_law_336 rfl rfl 3 rfl ?_
        refine j_iconst 338 C (x := nI 3) dL_law_337 rfl (by decide) ?_
        refine j_iadd 339 C (z := nI (i + 3)) dL_law_338 rfl (nI_add _ _) ?_
        refine j_sld 340 C hX hbl hbA (i := i + 3) rfl (by omega) (by omega) dL_law_339 rfl ?_
        obtain ⟨zm, em⟩ : ∃ z, m_X6_sight W S n n B σ (xs (i + 1)) (xs (i + 2)) (xs (i + 3)) = z := ⟨_, rfl⟩
        refine s_V 343 C (As := [.int (xs (i + 1)), .int (xs (i + 2)), .int (xs (i + 3))]) cv_L_48 (c_X6_sight (l := l) (D := D) (K := K) (ad := ad) hG1 (hz := em)) dL_law_340 rfl 36 6 (GH_r hG1 (by decide)) rfl (CE_36 _) rfl rfl rfl rfl rfl rfl ⟨⟨Nat.le_of_ble_eq_true rfl, Nat.le_of_ble_eq_true rfl⟩, by show 100 + i + 1 ≤ 600000; omega, by show 30000 + 5 * i + 5 ≤ 7302250; omega⟩ (Nat.le_of_ble_eq_true rfl) (st' := [.int zm.1, .int (-1)]) rfl (fun hE => ?_)
        obtain ⟨hEq, hns, hR2⟩ := P_sight0 hR ez em
        rw [hns]
        refine j_ic_eq 674 346 C dL_law_343 rfl rfl (fun _ => ?_) (fun cc => absurd hEq cc)
        exact go (i := i) (by omega) (by omega) hR2 (by omega) (by omega)
      · skip
        rw [← hA 0 (GH_r hG (by decide)), ← hA 36 (GH_r hG (by decide))]
        show J p l e room_1 s m #[Value.ref b] below meth c (lw_Z below #[Value.ref b] s) D (fun q : Nat => s.heap.size ≤ q) s.heap 4 (100 + i + 1) (30000 + 5 * i + 5) (N + 1) adx (CT K W S n (n + 1) adx (va_up B n (some N)) (sA (sA σ N (sgtW (xs (i + 1)) (xs (i + 2)) (xs (i + 3)))) 9 (m_X0_forgetQuarrel W S n (n + 1) (va_up B n (some N)) (sA σ N (sgtW (xs (i + 1)) (xs (i + 2)) (xs (i + 3))))))) 324 [(0, .ref b), (1, .ref (adx 0)), (2, .ref (adx 36)), (3, .int (nI i))] [.int (nI n)]
        have hG1 : GH W S n (n + 1) (N + 1) := ⟨hG.1, hG.2.1, hG.2.2.1, hG.2.2.2.1, hG.2.2.2.2.1, by have := hG.2.2.2.2.2.1; omega, by have := hG.2.2.2.2.2.2; omega⟩
        refine j_aload_n 325 C dL_law_324 rfl rfl 2 rfl ?_
        refine j_aload_n 326 C dL_law_325 rfl rfl 0 rfl ?_
        refine j_iload_n 327 C dL_law_326 rfl rfl 3 rfl ?_
        refine j_iconst 328 C (x := nI 1) dL_law_327 rfl (by decide) ?_
        refine j_iadd 329 C (z := nI (i + 1)) dL_law_328 rfl (nI_add _ _) ?_
        refine j_sld 330 C hX hbl hbA (i := i + 1) rfl (by omega) (by omega) dL_law_329 rfl ?_
        refine j_aload_n 331 C dL_law_330 rfl rfl 0 rfl ?_
        refine j_iload_n 332 C dL_law_331 rfl rfl 3 rfl ?_
        refine j_iconst 333 C (x := nI 2) dL_law_332 rfl (by decide) ?_
        refine j_iadd 334 C (z := nI (i + 2)) dL_law_333 rfl (nI_add _ _) ?_
        refine j_sld 335 C hX hbl hbA (i := i + 2) rfl (by omega) (by omega) dL_law_334 rfl ?_
        refine j_aload_n 336 C dL_law_335 rfl rfl 0 rfl ?_
        refine j_iload_n 337 C dL_law_336 rfl rfl 3 rfl ?_
        refine j_iconst 338 C (x := nI 3) dL_law_337 rfl (by decide) ?_
        refine j_iadd 339 C (z := nI (i + 3)) dL_law_338 rfl (nI_add _ _) ?_
        refine j_sld 340 C hX hbl hbA (i := i + 3) rfl (by omega) (by omega) dL_law_339 rfl ?_
        obtain ⟨zm, em⟩ : ∃ z, m_X6_sight W S n (n + 1) (va_up B n (some N)) (sA (sA σ N (sgtW (xs (i + 1)) (xs (i + 2)) (xs (i + 3)))) 9 (m_X0_forgetQuarrel W S n (n + 1) (va_up B n (some N)) (sA σ N (sgtW (xs (i + 1)) (xs (i + 2)) (xs (i + 3)))))) (xs (i + 1)) (xs (i + 2)) (xs (i + 3)) = z := ⟨_, rfl⟩
        refine s_V 343 C (As := [.int (xs (i + 1)), .int (xs (i + 2)), .int (xs (i + 3))]) cv_L_48 (c_X6_sight (l := l) (D := D) (K := K) (ad := adx) hG1 (hz := em)) dL_law_340 rfl 36 6 (GH_r hG1 (by decide)) rfl (CE_36 _) rfl rfl rfl rfl rfl rfl ⟨⟨Nat.le_of_ble_eq_true rfl, Nat.le_of_ble_eq_true rfl⟩, by show 100 + i + 1 ≤ 600000; omega, by show 30000 + 5 * i + 5 ≤ 7302250; omega⟩ (Nat.le_of_ble_eq_true rfl) (st' := [.int zm.1, .int (nI n)]) rfl (fun hE => ?_)
        obtain ⟨hEq, hns, hR2⟩ := P_sight1 hR ez h10 em
        rw [hns]
        refine j_ic_eq 674 346 C dL_law_343 rfl rfl (fun _ => ?_) (fun cc => absurd hEq cc)
        exact go (i := i) (by omega) (by omega) hR2 (by omega) (by omega)
      · skip
        rw [← hA 0 (GH_r hG (by decide)), ← hA 36 (GH_r hG (by decide))]
        show J p l e room_1 s m #[Value.ref b] below meth c (lw_Z below #[Value.ref b] s) D (fun q : Nat => s.heap.size ≤ q) s.heap 4 (100 + i + 1) (30000 + 5 * i + 5) (N + 1) adx (CT K W S n n adx B (sA σ N (sgtW (xs (i + 1)) (xs (i + 2)) (xs (i + 3))))) 324 [(0, .ref b), (1, .ref (adx 0)), (2, .ref (adx 36)), (3, .int (nI i))] [.int (-1)]
        have hG1 : GH W S n n (N + 1) := ⟨hG.1, hG.2.1, hG.2.2.1, hG.2.2.2.1, hG.2.2.2.2.1, by have := hG.2.2.2.2.2.1; omega, by have := hG.2.2.2.2.2.2; omega⟩
        refine j_aload_n 325 C dL_law_324 rfl rfl 2 rfl ?_
        refine j_aload_n 326 C dL_law_325 rfl rfl 0 rfl ?_
        refine j_iload_n 327 C dL_law_326 rfl rfl 3 rfl ?_
        refine j_iconst 328 C (x := nI 1) dL_law_327 rfl (by decide) ?_
        refine j_iadd 329 C (z := nI (i + 1)) dL_law_328 rfl (nI_add _ _) ?_
        refine j_sld 330 C hX hbl hbA (i := i + 1) rfl (by omega) (by omega) dL_law_329 rfl ?_
        refine j_aload_n 331 C dL_law_330 rfl rfl 0 rfl ?_
        refine j_iload_n 332 C dL_law_331 rfl rfl 3 rfl ?_
        refine j_iconst 333 C (x := nI 2) dL_law_332 rfl (by decide) ?_
        refine j_iadd 334 C (z := nI (i + 2)) dL_law_333 rfl (nI_add _ _) ?_
        refine j_sld 335 C hX hbl hbA (i := i + 2) rfl (by omega) (by omega) dL_law_334 rfl ?_
        refine j_aload_n 336 C dL_law_335 rfl rfl 0 rfl ?_
        refine j_iload_n 337 C dL_law_336 rfl rfl 3 rfl ?_
        refine j_iconst 338 C (x := nI 3) dL_law_337 rfl (by decide) ?_
        refine j_iadd 339 C (z := nI (i + 3)) dL_law_338 rfl (nI_add _ _) ?_
        refine j_sld 340 C hX hbl hbA (i := i + 3) rfl (by omega) (by omega) dL_law_339 rfl ?_
        obtain ⟨zm, em⟩ : ∃ z, m_X6_sight W S n n B (sA σ N (sgtW (xs (i + 1)) (xs (i + 2)) (xs (i + 3)))) (xs (i + 1)) (xs (i + 2)) (xs (i + 3)) = z := ⟨_, rfl⟩
        refine s_V 343 C (As := [.int (xs (i + 1)), .int (xs (i + 2)), .int (xs (i + 3))]) cv_L_48 (c_X6_sight (l := l) (D := D) (K := K) (ad := adx) hG1 (hz := em)) dL_law_340 rfl 36 6 (GH_r hG1 (by decide)) rfl (CE_36 _) rfl rfl rfl rfl rfl rfl ⟨⟨Nat.le_of_ble_eq_true rfl, Nat.le_of_ble_eq_true rfl⟩, by show 100 + i + 1 ≤ 600000; omega, by show 30000 + 5 * i + 5 ≤ 7302250; omega⟩ (Nat.le_of_ble_eq_true rfl) (st' := [.int zm.1, .int (-1)]) rfl (fun hE => ?_)
        obtain ⟨hEq, hns, hR2⟩ := P_sight2 hR ez h10 em
        rw [hns]
        refine j_ic_eq 674 346 C dL_law_343 rfl rfl (fun _ => ?_) (fun cc => absurd hEq cc)
        exact go (i := i) (by omega) (by omega) hR2 (by omega) (by omega)
    · skip
      have e31 : xs i &&& nI 31 = nI 6 := ej
      refine j_swIn 348 C dL_law_52 (off := 296) (by rw [e31]; decide) (by rw [e31]; decide) (by rw [e31]; decide) rfl ?_
      refine j_aload_n 349 C dL_law_348 rfl rfl 1 rfl ?_
      refine j_aload_n 350 C dL_law_349 rfl rfl 0 rfl ?_
      refine j_iload_n 351 C dL_law_350 rfl rfl 3 rfl ?_
      refine j_iconst 352 C (x := nI 1) dL_law_351 rfl (by decide) ?_
      refine j_iadd 353 C (z := nI (i + 1)) dL_law_352 rfl (nI_add _ _) ?_
      refine j_sld 354 C hX hbl hbA (i := i + 1) rfl (by omega) (by omega) dL_law_353 rfl ?_
      obtain ⟨zx, ex⟩ : ∃ z, m_X5_take W S n n B σ (xs (i + 1)) = z := ⟨_, rfl⟩
      refine s_V 357 C (As := [.int (xs (i + 1))]) cv_L_49 (c_X5_take (l := l) (D := D) (K := K) (ad := ad) hG (hz := ex) (hB := hXP.1)) dL_law_354 rfl 0 5 (GH_r hG (by decide)) rfl (CE_0 _) rfl rfl rfl rfl rfl rfl ⟨⟨Nat.le_of_ble_eq_true rfl, Nat.le_of_ble_eq_true rfl⟩, by show 100 + i ≤ 600000; omega, by show 30000 + 5 * i ≤ 7302250; omega⟩ (Nat.le_of_ble_eq_true rfl) (st' := [.int zx.1]) rfl (fun hE => ?_)
      obtain ⟨hMP, hP⟩ := P_take hR ex
      refine j_aload_n 358 C dL_law_357 rfl rfl 2 rfl ?_
      refine j_aload_n 359 C dL_law_358 rfl rfl 0 rfl ?_
      refine j_iload_n 360 C dL_law_359 rfl rfl 3 rfl ?_
      refine j_iconst 361 C (x := nI 1) dL_law_360 rfl (by decide) ?_
      refine j_iadd 362 C (z := nI (i + 1)) dL_law_361 rfl (nI_add _ _) ?_
      refine j_sld 363 C hX hbl hbA (i := i + 1) rfl (by omega) (by omega) dL_law_362 rfl ?_
      obtain ⟨zm, em⟩ : ∃ z, m_X6_take W S n n zx.2.1 (sA σ 9 zx.2.2) (xs (i + 1)) = z := ⟨_, rfl⟩
      refine s_V 366 C (As := [.int (xs (i + 1))]) cv_L_52 (c_X6_take (l := l) (D := D) (K := K) (ad := ad) hG (hz := em) ) dL_law_363 rfl 36 6 (GH_r hG (by decide)) rfl (CE_36 _) rfl rfl rfl rfl rfl rfl ⟨⟨Nat.le_of_ble_eq_true rfl, Nat.le_of_ble_eq_true rfl⟩, by show 100 + i ≤ 600000; omega, by show 30000 + 5 * i ≤ 7302250; omega⟩ (Nat.le_of_ble_eq_true rfl) (st' := [.int zm.1, .int zx.1]) rfl (fun hE => ?_)
      obtain ⟨hEq, hR2⟩ := hP em
      refine j_ic_eq 674 369 C dL_law_366 rfl rfl (fun _ => ?_) (fun cc => absurd hEq cc)
      exact go (i := i) (by omega) (by omega) hR2 (by omega) (by omega)
    · skip
      have e31 : xs i &&& nI 31 = nI 7 := ej
      refine j_swIn 371 C dL_law_52 (off := 319) (by rw [e31]; decide) (by rw [e31]; decide) (by rw [e31]; decide) rfl ?_
      refine j_aload_n 372 C dL_law_371 rfl rfl 1 rfl ?_
      obtain ⟨zx, ex⟩ : ∃ z, m_X5_quarrel W S n n B σ  = z := ⟨_, rfl⟩
      refine s_V 375 C (As := []) cv_L_53 (c_X5_quarrel (l := l) (D := D) (K := K) (ad := ad) hG (hz := ex) (hB := hXP.1) (hb7 := hXP.2.1)) dL_law_372 rfl 0 5 (GH_r hG (by decide)) rfl (CE_0 _) rfl rfl rfl rfl rfl rfl ⟨⟨Nat.le_of_ble_eq_true rfl, Nat.le_of_ble_eq_true rfl⟩, by show 100 + i ≤ 600000; omega, by show 30000 + 5 * i ≤ 7302250; omega⟩ (Nat.le_of_ble_eq_true rfl) (st' := [.int zx.1]) rfl (fun hE => ?_)
      obtain ⟨hMP, hP⟩ := P_quarrel hR ex
      refine j_aload_n 376 C dL_law_375 rfl rfl 2 rfl ?_
      obtain ⟨zm, em⟩ : ∃ z, m_X6_quarrel W S n n B zx.2  = z := ⟨_, rfl⟩
      refine s_V 379 C (As := []) cv_L_57 (c_X6_quarrel (l := l) (D := D) (K := K) (ad := ad) hG (hz := em) (hsee := hMP.1) (hb17 := hMP.2.1)) dL_law_376 rfl 36 6 (GH_r hG (by decide)) rfl (CE_36 _) rfl rfl rfl rfl rfl rfl ⟨⟨Nat.le_of_ble_eq_true rfl, Nat.le_of_ble_eq_true rfl⟩, by show 100 + i ≤ 600000; omega, by show 30000 + 5 * i ≤ 7302250; omega⟩ (Nat.le_of_ble_eq_true rfl) (st' := [.int zm.1, .int zx.1]) rfl (fun hE => ?_)
      obtain ⟨hEq, hR2⟩ := hP em
      refine j_ic_eq 674 382 C dL_law_379 rfl rfl (fun _ => ?_) (fun cc => absurd hEq cc)
      exact go (i := i) (by omega) (by omega) hR2 (by omega) (by omega)
    · skip
      have e31 : xs i &&& nI 31 = nI 8 := ej
      refine j_swIn 384 C dL_law_52 (off := 332) (by rw [e31]; decide) (by rw [e31]; decide) (by rw [e31]; decide) rfl ?_
      refine j_aload_n 385 C dL_law_384 rfl rfl 1 rfl ?_
      refine j_aload_n 386 C dL_law_385 rfl rfl 0 rfl ?_
      refine j_iload_n 387 C dL_law_386 rfl rfl 3 rfl ?_
      refine j_iconst 388 C (x := nI 1) dL_law_387 rfl (by decide) ?_
      refine j_iadd 389 C (z := nI (i + 1)) dL_law_388 rfl (nI_add _ _) ?_
      refine j_sld 390 C hX hbl hbA (i := i + 1) rfl (by omega) (by omega) dL_law_389 rfl ?_
      refine j_aload_n 391 C dL_law_390 rfl rfl 0 rfl ?_
      refine j_iload_n 392 C dL_law_391 rfl rfl 3 rfl ?_
      refine j_iconst 393 C (x := nI 2) dL_law_392 rfl (by decide) ?_
      refine j_iadd 394 C (z := nI (i + 2)) dL_law_393 rfl (nI_add _ _) ?_
      refine j_sld 395 C hX hbl hbA (i := i + 2) rfl (by omega) (by omega) dL_law_394 rfl ?_
      refine j_aload_n 396 C dL_law_395 rfl rfl 0 rfl ?_
      refine j_iload_n 397 C dL_law_396 rfl rfl 3 rfl ?_
      refine j_iconst 398 C (x := nI 3) dL_law_397 rfl (by decide) ?_
      refine j_iadd 399 C (z := nI (i + 3)) dL_law_398 rfl (nI_add _ _) ?_
      refine j_sld 400 C hX hbl hbA (i := i + 3) rfl (by omega) (by omega) dL_law_399 rfl ?_
      obtain ⟨zx, ex⟩ : ∃ z, m_X5_span W S n n B σ (xs (i + 1)) (xs (i + 2)) (xs (i + 3)) = z := ⟨_, rfl⟩
      refine s_V 403 C (As := [.int (xs (i + 1)), .int (xs (i + 2)), .int (xs (i + 3))]) cv_L_58 (c_X5_span (l := l) (D := D) (K := K) (ad := ad) hG (hz := ex) (hB := hXP.1) (hb7 := hXP.2.1)) dL_law_400 rfl 0 5 (GH_r hG (by decide)) rfl (CE_0 _) rfl rfl rfl rfl rfl rfl ⟨⟨Nat.le_of_ble_eq_true rfl, Nat.le_of_ble_eq_true rfl⟩, by show 100 + i ≤ 600000; omega, by show 30000 + 5 * i ≤ 7302250; omega⟩ (Nat.le_of_ble_eq_true rfl) (st' := [.int zx.1]) rfl (fun hE => ?_)
      obtain ⟨hMP, hP⟩ := P_span hR ex
      refine j_aload_n 404 C dL_law_403 rfl rfl 2 rfl ?_
      refine j_aload_n 405 C dL_law_404 rfl rfl 0 rfl ?_
      refine j_iload_n 406 C dL_law_405 rfl rfl 3 rfl ?_
      refine j_iconst 407 C (x := nI 1) dL_law_406 rfl (by decide) ?_
      refine j_iadd 408 C (z := nI (i + 1)) dL_law_407 rfl (nI_add _ _) ?_
      refine j_sld 409 C hX hbl hbA (i := i + 1) rfl (by omega) (by omega) dL_law_408 rfl ?_
      refine j_aload_n 410 C dL_law_409 rfl rfl 0 rfl ?_
      refine j_iload_n 411 C dL_law_410 rfl rfl 3 rfl ?_
      refine j_iconst 412 C (x := nI 2) dL_law_411 rfl (by decide) ?_
      refine j_iadd 413 C (z := nI (i + 2)) dL_law_412 rfl (nI_add _ _) ?_
      refine j_sld 414 C hX hbl hbA (i := i + 2) rfl (by omega) (by omega) dL_law_413 rfl ?_
      refine j_aload_n 415 C dL_law_414 rfl rfl 0 rfl ?_
      refine j_iload_n 416 C dL_law_415 rfl rfl 3 rfl ?_
      refine j_iconst 417 C (x := nI 3) dL_law_416 rfl (by decide) ?_
      refine j_iadd 418 C (z := nI (i + 3)) dL_law_417 rfl (nI_add _ _) ?_
      refine j_sld 419 C hX hbl hbA (i := i + 3) rfl (by omega) (by omega) dL_law_418 rfl ?_
      obtain ⟨zm, em⟩ : ∃ z, m_X6_span W S n n B zx.2 (xs (i + 1)) (xs (i + 2)) (xs (i + 3)) = z := ⟨_, rfl⟩
      refine s_V 422 C (As := [.int (xs (i + 1)), .int (xs (i + 2)), .int (xs (i + 3))]) cv_L_61 (c_X6_span (l := l) (D := D) (K := K) (ad := ad) hG (hz := em) (hsee := hMP.1) (hb17 := hMP.2.1)) dL_law_419 rfl 36 6 (GH_r hG (by decide)) rfl (CE_36 _) rfl rfl rfl rfl rfl rfl ⟨⟨Nat.le_of_ble_eq_true rfl, Nat.le_of_ble_eq_true rfl⟩, by show 100 + i ≤ 600000; omega, by show 30000 + 5 * i ≤ 7302250; omega⟩ (Nat.le_of_ble_eq_true rfl) (st' := [.int zm.1, .int zx.1]) rfl (fun hE => ?_)
      obtain ⟨hEq, hR2⟩ := hP em
      refine j_ic_eq 674 425 C dL_law_422 rfl rfl (fun _ => ?_) (fun cc => absurd hEq cc)
      exact go (i := i) (by omega) (by omega) hR2 (by omega) (by omega)
    · skip
      have e31 : xs i &&& nI 31 = nI 9 := ej
      refine j_swIn 427 C dL_law_52 (off := 375) (by rw [e31]; decide) (by rw [e31]; decide) (by rw [e31]; decide) rfl ?_
      refine j_aload_n 428 C dL_law_427 rfl rfl 1 rfl ?_
      obtain ⟨zx, ex⟩ : ∃ z, m_X5_open W S n n B σ  = z := ⟨_, rfl⟩
      refine s_V 431 C (As := []) cv_L_62 (c_X5_open (l := l) (D := D) (K := K) (ad := ad) hG (hz := ex) (hB := hXP.1) (hb7 := hXP.2.1)) dL_law_428 rfl 0 5 (GH_r hG (by decide)) rfl (CE_0 _) rfl rfl rfl rfl rfl rfl ⟨⟨Nat.le_of_ble_eq_true rfl, Nat.le_of_ble_eq_true rfl⟩, by show 100 + i ≤ 600000; omega, by show 30000 + 5 * i ≤ 7302250; omega⟩ (Nat.le_of_ble_eq_true rfl) (st' := [.int zx.1]) rfl (fun hE => ?_)
      obtain ⟨hMP, hP⟩ := P_open hR ex
      refine j_aload_n 432 C dL_law_431 rfl rfl 2 rfl ?_
      obtain ⟨zm, em⟩ : ∃ z, m_X6_open W S n n B zx.2  = z := ⟨_, rfl⟩
      refine s_V 435 C (As := []) cv_L_65 (c_X6_open (l := l) (D := D) (K := K) (ad := ad) hG (hz := em) (hsee := hMP.1) (hb17 := hMP.2.1)) dL_law_432 rfl 36 6 (GH_r hG (by decide)) rfl (CE_36 _) rfl rfl rfl rfl rfl rfl ⟨⟨Nat.le_of_ble_eq_true rfl, Nat.le_of_ble_eq_true rfl⟩, by show 100 + i ≤ 600000; omega, by show 30000 + 5 * i ≤ 7302250; omega⟩ (Nat.le_of_ble_eq_true rfl) (st' := [.int zm.1, .int zx.1]) rfl (fun hE => ?_)
      obtain ⟨hEq, hR2⟩ := hP em
      refine j_ic_eq 674 438 C dL_law_435 rfl rfl (fun _ => ?_) (fun cc => absurd hEq cc)
      exact go (i := i) (by omega) (by omega) hR2 (by omega) (by omega)
    · skip
      have e31 : xs i &&& nI 31 = nI 10 := ej
      refine j_swIn 440 C dL_law_52 (off := 388) (by rw [e31]; decide) (by rw [e31]; decide) (by rw [e31]; decide) rfl ?_
      refine j_aload_n 441 C dL_law_440 rfl rfl 1 rfl ?_
      refine j_aload_n 442 C dL_law_441 rfl rfl 0 rfl ?_
      refine j_iload_n 443 C dL_law_442 rfl rfl 3 rfl ?_
      refine j_iconst 444 C (x := nI 1) dL_law_443 rfl (by decide) ?_
      refine j_iadd 445 C (z := nI (i + 1)) dL_law_444 rfl (nI_add _ _) ?_
      refine j_sld 446 C hX hbl hbA (i := i + 1) rfl (by omega) (by omega) dL_law_445 rfl ?_
      refine j_aload_n 447 C dL_law_446 rfl rfl 0 rfl ?_
      refine j_iload_n 448 C dL_law_447 rfl rfl 3 rfl ?_
      refine j_iconst 449 C (x := nI 2) dL_law_448 rfl (by decide) ?_
      refine j_iadd 450 C (z := nI (i + 2)) dL_law_449 rfl (nI_add _ _) ?_
      refine j_sld 451 C hX hbl hbA (i := i + 2) rfl (by omega) (by omega) dL_law_450 rfl ?_
      obtain ⟨zx, ex⟩ : ∃ z, m_X5_layer W S n n B σ (xs (i + 1)) (xs (i + 2)) = z := ⟨_, rfl⟩
      refine s_V 454 C (As := [.int (xs (i + 1)), .int (xs (i + 2))]) cv_L_66 (c_X5_layer (l := l) (D := D) (K := K) (ad := ad) hG (hz := ex) (hB := hXP.1) (hb7 := hXP.2.1)) dL_law_451 rfl 0 5 (GH_r hG (by decide)) rfl (CE_0 _) rfl rfl rfl rfl rfl rfl ⟨⟨Nat.le_of_ble_eq_true rfl, Nat.le_of_ble_eq_true rfl⟩, by show 100 + i ≤ 600000; omega, by show 30000 + 5 * i ≤ 7302250; omega⟩ (Nat.le_of_ble_eq_true rfl) (st' := [.int zx.1]) rfl (fun hE => ?_)
      obtain ⟨hMP, hP⟩ := P_layer hR ex
      refine j_aload_n 455 C dL_law_454 rfl rfl 2 rfl ?_
      refine j_aload_n 456 C dL_law_455 rfl rfl 0 rfl ?_
      refine j_iload_n 457 C dL_law_456 rfl rfl 3 rfl ?_
      refine j_iconst 458 C (x := nI 1) dL_law_457 rfl (by decide) ?_
      refine j_iadd 459 C (z := nI (i + 1)) dL_law_458 rfl (nI_add _ _) ?_
      refine j_sld 460 C hX hbl hbA (i := i + 1) rfl (by omega) (by omega) dL_law_459 rfl ?_
      refine j_aload_n 461 C dL_law_460 rfl rfl 0 rfl ?_
      refine j_iload_n 462 C dL_law_461 rfl rfl 3 rfl ?_
      refine j_iconst 463 C (x := nI 2) dL_law_462 rfl (by decide) ?_
      refine j_iadd 464 C (z := nI (i + 2)) dL_law_463 rfl (nI_add _ _) ?_
      refine j_sld 465 C hX hbl hbA (i := i + 2) rfl (by omega) (by omega) dL_law_464 rfl ?_
      obtain ⟨zm, em⟩ : ∃ z, m_X6_layer W S n n B zx.2 (xs (i + 1)) (xs (i + 2)) = z := ⟨_, rfl⟩
      refine s_V 468 C (As := [.int (xs (i + 1)), .int (xs (i + 2))]) cv_L_70 (c_X6_layer (l := l) (D := D) (K := K) (ad := ad) hG (hz := em) (hsee := hMP.1) (hb17 := hMP.2.1)) dL_law_465 rfl 36 6 (GH_r hG (by decide)) rfl (CE_36 _) rfl rfl rfl rfl rfl rfl ⟨⟨Nat.le_of_ble_eq_true rfl, Nat.le_of_ble_eq_true rfl⟩, by show 100 + i ≤ 600000; omega, by show 30000 + 5 * i ≤ 7302250; omega⟩ (Nat.le_of_ble_eq_true rfl) (st' := [.int zm.1, .int zx.1]) rfl (fun hE => ?_)
      obtain ⟨hEq, hR2⟩ := hP em
      refine j_ic_eq 674 471 C dL_law_468 rfl rfl (fun _ => ?_) (fun cc => absurd hEq cc)
      exact go (i := i) (by omega) (by omega) hR2 (by omega) (by omega)
    · skip
      have e31 : xs i &&& nI 31 = nI 11 := ej
      refine j_swIn 473 C dL_law_52 (off := 421) (by rw [e31]; decide) (by rw [e31]; decide) (by rw [e31]; decide) rfl ?_
      refine j_aload_n 474 C dL_law_473 rfl rfl 1 rfl ?_
      refine j_aload_n 475 C dL_law_474 rfl rfl 0 rfl ?_
      refine j_iload_n 476 C dL_law_475 rfl rfl 3 rfl ?_
      refine j_iconst 477 C (x := nI 1) dL_law_476 rfl (by decide) ?_
      refine j_iadd 478 C (z := nI (i + 1)) dL_law_477 rfl (nI_add _ _) ?_
      refine j_sld 479 C hX hbl hbA (i := i + 1) rfl (by omega) (by omega) dL_law_478 rfl ?_
      refine j_aload_n 480 C dL_law_479 rfl rfl 0 rfl ?_
      refine j_iload_n 481 C dL_law_480 rfl rfl 3 rfl ?_
      refine j_iconst 482 C (x := nI 2) dL_law_481 rfl (by decide) ?_
      refine j_iadd 483 C (z := nI (i + 2)) dL_law_482 rfl (nI_add _ _) ?_
      refine j_sld 484 C hX hbl hbA (i := i + 2) rfl (by omega) (by omega) dL_law_483 rfl ?_
      refine j_aload_n 485 C dL_law_484 rfl rfl 0 rfl ?_
      refine j_iload_n 486 C dL_law_485 rfl rfl 3 rfl ?_
      refine j_iconst 487 C (x := nI 3) dL_law_486 rfl (by decide) ?_
      refine j_iadd 488 C (z := nI (i + 3)) dL_law_487 rfl (nI_add _ _) ?_
      refine j_sld 489 C hX hbl hbA (i := i + 3) rfl (by omega) (by omega) dL_law_488 rfl ?_
      obtain ⟨zx, ex⟩ : ∃ z, m_X5_between W S n n B σ (xs (i + 1)) (xs (i + 2)) (xs (i + 3)) = z := ⟨_, rfl⟩
      refine s_V 492 C (As := [.int (xs (i + 1)), .int (xs (i + 2)), .int (xs (i + 3))]) cv_L_71 (c_X5_between (l := l) (D := D) (K := K) (ad := ad) hG (hz := ex) (hB := hXP.1) (hb7 := hXP.2.1)) dL_law_489 rfl 0 5 (GH_r hG (by decide)) rfl (CE_0 _) rfl rfl rfl rfl rfl rfl ⟨⟨Nat.le_of_ble_eq_true rfl, Nat.le_of_ble_eq_true rfl⟩, by show 100 + i ≤ 600000; omega, by show 30000 + 5 * i ≤ 7302250; omega⟩ (Nat.le_of_ble_eq_true rfl) (st' := [.int zx.1]) rfl (fun hE => ?_)
      obtain ⟨hMP, hP⟩ := P_between hR ex
      refine j_aload_n 493 C dL_law_492 rfl rfl 2 rfl ?_
      refine j_aload_n 494 C dL_law_493 rfl rfl 0 rfl ?_
      refine j_iload_n 495 C dL_law_494 rfl rfl 3 rfl ?_
      refine j_iconst 496 C (x := nI 1) dL_law_495 rfl (by decide) ?_
      refine j_iadd 497 C (z := nI (i + 1)) dL_law_496 rfl (nI_add _ _) ?_
      refine j_sld 498 C hX hbl hbA (i := i + 1) rfl (by omega) (by omega) dL_law_497 rfl ?_
      refine j_aload_n 499 C dL_law_498 rfl rfl 0 rfl ?_
      refine j_iload_n 500 C dL_law_499 rfl rfl 3 rfl ?_
      refine j_iconst 501 C (x := nI 2) dL_law_500 rfl (by decide) ?_
      refine j_iadd 502 C (z := nI (i + 2)) dL_law_501 rfl (nI_add _ _) ?_
      refine j_sld 503 C hX hbl hbA (i := i + 2) rfl (by omega) (by omega) dL_law_502 rfl ?_
      refine j_aload_n 504 C dL_law_503 rfl rfl 0 rfl ?_
      refine j_iload_n 505 C dL_law_504 rfl rfl 3 rfl ?_
      refine j_iconst 506 C (x := nI 3) dL_law_505 rfl (by decide) ?_
      refine j_iadd 507 C (z := nI (i + 3)) dL_law_506 rfl (nI_add _ _) ?_
      refine j_sld 508 C hX hbl hbA (i := i + 3) rfl (by omega) (by omega) dL_law_507 rfl ?_
      obtain ⟨zm, em⟩ : ∃ z, m_X6_between W S n n B zx.2 (xs (i + 1)) (xs (i + 2)) (xs (i + 3)) = z := ⟨_, rfl⟩
      refine s_V 511 C (As := [.int (xs (i + 1)), .int (xs (i + 2)), .int (xs (i + 3))]) cv_L_74 (c_X6_between (l := l) (D := D) (K := K) (ad := ad) hG (hz := em) (hsee := hMP.1) (hb17 := hMP.2.1)) dL_law_508 rfl 36 6 (GH_r hG (by decide)) rfl (CE_36 _) rfl rfl rfl rfl rfl rfl ⟨⟨Nat.le_of_ble_eq_true rfl, Nat.le_of_ble_eq_true rfl⟩, by show 100 + i ≤ 600000; omega, by show 30000 + 5 * i ≤ 7302250; omega⟩ (Nat.le_of_ble_eq_true rfl) (st' := [.int zm.1, .int zx.1]) rfl (fun hE => ?_)
      obtain ⟨hEq, hR2⟩ := hP em
      refine j_ic_eq 674 514 C dL_law_511 rfl rfl (fun _ => ?_) (fun cc => absurd hEq cc)
      exact go (i := i) (by omega) (by omega) hR2 (by omega) (by omega)
    · skip
      have e31 : xs i &&& nI 31 = nI 12 := ej
      refine j_swIn 516 C dL_law_52 (off := 464) (by rw [e31]; decide) (by rw [e31]; decide) (by rw [e31]; decide) rfl ?_
      refine j_aload_n 517 C dL_law_516 rfl rfl 1 rfl ?_
      refine j_aload_n 518 C dL_law_517 rfl rfl 0 rfl ?_
      refine j_iload_n 519 C dL_law_518 rfl rfl 3 rfl ?_
      refine j_iconst 520 C (x := nI 1) dL_law_519 rfl (by decide) ?_
      refine j_iadd 521 C (z := nI (i + 1)) dL_law_520 rfl (nI_add _ _) ?_
      refine j_sld 522 C hX hbl hbA (i := i + 1) rfl (by omega) (by omega) dL_law_521 rfl ?_
      refine j_aload_n 523 C dL_law_522 rfl rfl 0 rfl ?_
      refine j_iload_n 524 C dL_law_523 rfl rfl 3 rfl ?_
      refine j_iconst 525 C (x := nI 2) dL_law_524 rfl (by decide) ?_
      refine j_iadd 526 C (z := nI (i + 2)) dL_law_525 rfl (nI_add _ _) ?_
      refine j_sld 527 C hX hbl hbA (i := i + 2) rfl (by omega) (by omega) dL_law_526 rfl ?_
      obtain ⟨zx, ex⟩ : ∃ z, m_X5_worn W S n n B σ (xs (i + 1)) (xs (i + 2)) = z := ⟨_, rfl⟩
      refine s_V 530 C (As := [.int (xs (i + 1)), .int (xs (i + 2))]) cv_L_75 (c_X5_worn (l := l) (D := D) (K := K) (ad := ad) hG (hz := ex) (hB := hXP.1) (hb7 := hXP.2.1)) dL_law_527 rfl 0 5 (GH_r hG (by decide)) rfl (CE_0 _) rfl rfl rfl rfl rfl rfl ⟨⟨Nat.le_of_ble_eq_true rfl, Nat.le_of_ble_eq_true rfl⟩, by show 100 + i ≤ 600000; omega, by show 30000 + 5 * i ≤ 7302250; omega⟩ (Nat.le_of_ble_eq_true rfl) (st' := [.int zx.1]) rfl (fun hE => ?_)
      obtain ⟨hMP, hP⟩ := P_worn hR ex
      refine j_aload_n 531 C dL_law_530 rfl rfl 2 rfl ?_
      refine j_aload_n 532 C dL_law_531 rfl rfl 0 rfl ?_
      refine j_iload_n 533 C dL_law_532 rfl rfl 3 rfl ?_
      refine j_iconst 534 C (x := nI 1) dL_law_533 rfl (by decide) ?_
      refine j_iadd 535 C (z := nI (i + 1)) dL_law_534 rfl (nI_add _ _) ?_
      refine j_sld 536 C hX hbl hbA (i := i + 1) rfl (by omega) (by omega) dL_law_535 rfl ?_
      refine j_aload_n 537 C dL_law_536 rfl rfl 0 rfl ?_
      refine j_iload_n 538 C dL_law_537 rfl rfl 3 rfl ?_
      refine j_iconst 539 C (x := nI 2) dL_law_538 rfl (by decide) ?_
      refine j_iadd 540 C (z := nI (i + 2)) dL_law_539 rfl (nI_add _ _) ?_
      refine j_sld 541 C hX hbl hbA (i := i + 2) rfl (by omega) (by omega) dL_law_540 rfl ?_
      obtain ⟨zm, em⟩ : ∃ z, m_X6_worn W S n n B zx.2 (xs (i + 1)) (xs (i + 2)) = z := ⟨_, rfl⟩
      refine s_V 544 C (As := [.int (xs (i + 1)), .int (xs (i + 2))]) cv_L_78 (c_X6_worn (l := l) (D := D) (K := K) (ad := ad) hG (hz := em) (hsee := hMP.1) (hb17 := hMP.2.1)) dL_law_541 rfl 36 6 (GH_r hG (by decide)) rfl (CE_36 _) rfl rfl rfl rfl rfl rfl ⟨⟨Nat.le_of_ble_eq_true rfl, Nat.le_of_ble_eq_true rfl⟩, by show 100 + i ≤ 600000; omega, by show 30000 + 5 * i ≤ 7302250; omega⟩ (Nat.le_of_ble_eq_true rfl) (st' := [.int zm.1, .int zx.1]) rfl (fun hE => ?_)
      obtain ⟨hEq, hR2⟩ := hP em
      refine j_ic_eq 674 547 C dL_law_544 rfl rfl (fun _ => ?_) (fun cc => absurd hEq cc)
      exact go (i := i) (by omega) (by omega) hR2 (by omega) (by omega)
    · skip
      have e31 : xs i &&& nI 31 = nI 13 := ej
      refine j_swIn 549 C dL_law_52 (off := 497) (by rw [e31]; decide) (by rw [e31]; decide) (by rw [e31]; decide) rfl ?_
      refine j_aload_n 550 C dL_law_549 rfl rfl 1 rfl ?_
      refine j_aload_n 551 C dL_law_550 rfl rfl 0 rfl ?_
      refine j_iload_n 552 C dL_law_551 rfl rfl 3 rfl ?_
      refine j_iconst 553 C (x := nI 1) dL_law_552 rfl (by decide) ?_
      refine j_iadd 554 C (z := nI (i + 1)) dL_law_553 rfl (nI_add _ _) ?_
      refine j_sld 555 C hX hbl hbA (i := i + 1) rfl (by omega) (by omega) dL_law_554 rfl ?_
      refine j_aload_n 556 C dL_law_555 rfl rfl 0 rfl ?_
      refine j_iload_n 557 C dL_law_556 rfl rfl 3 rfl ?_
      refine j_iconst 558 C (x := nI 2) dL_law_557 rfl (by decide) ?_
      refine j_iadd 559 C (z := nI (i + 2)) dL_law_558 rfl (nI_add _ _) ?_
      refine j_sld 560 C hX hbl hbA (i := i + 2) rfl (by omega) (by omega) dL_law_559 rfl ?_
      obtain ⟨zx, ex⟩ : ∃ z, m_X5_tells W S n n B σ (xs (i + 1)) (xs (i + 2)) = z := ⟨_, rfl⟩
      refine s_V 563 C (As := [.int (xs (i + 1)), .int (xs (i + 2))]) cv_L_79 (c_X5_tells (l := l) (D := D) (K := K) (ad := ad) hG (hz := ex) (hB := hXP.1) (hb7 := hXP.2.1) (has := hXP.2.2)) dL_law_560 rfl 0 5 (GH_r hG (by decide)) rfl (CE_0 _) rfl rfl rfl rfl rfl rfl ⟨⟨Nat.le_of_ble_eq_true rfl, Nat.le_of_ble_eq_true rfl⟩, by show 100 + i ≤ 600000; omega, by show 30000 + 5 * i ≤ 7302250; omega⟩ (Nat.le_of_ble_eq_true rfl) (st' := [.int zx.1]) rfl (fun hE => ?_)
      obtain ⟨hMP, hP⟩ := P_tells hR ex
      refine j_aload_n 564 C dL_law_563 rfl rfl 2 rfl ?_
      refine j_aload_n 565 C dL_law_564 rfl rfl 0 rfl ?_
      refine j_iload_n 566 C dL_law_565 rfl rfl 3 rfl ?_
      refine j_iconst 567 C (x := nI 1) dL_law_566 rfl (by decide) ?_
      refine j_iadd 568 C (z := nI (i + 1)) dL_law_567 rfl (nI_add _ _) ?_
      refine j_sld 569 C hX hbl hbA (i := i + 1) rfl (by omega) (by omega) dL_law_568 rfl ?_
      refine j_aload_n 570 C dL_law_569 rfl rfl 0 rfl ?_
      refine j_iload_n 571 C dL_law_570 rfl rfl 3 rfl ?_
      refine j_iconst 572 C (x := nI 2) dL_law_571 rfl (by decide) ?_
      refine j_iadd 573 C (z := nI (i + 2)) dL_law_572 rfl (nI_add _ _) ?_
      refine j_sld 574 C hX hbl hbA (i := i + 2) rfl (by omega) (by omega) dL_law_573 rfl ?_
      obtain ⟨zm, em⟩ : ∃ z, m_X6_tells W S n n B zx.2 (xs (i + 1)) (xs (i + 2)) = z := ⟨_, rfl⟩
      refine s_V 577 C (As := [.int (xs (i + 1)), .int (xs (i + 2))]) cv_L_82 (c_X6_tells (l := l) (D := D) (K := K) (ad := ad) hG (hz := em) (hsee := hMP.1) (hb17 := hMP.2.1) (hrk := hMP.2.2)) dL_law_574 rfl 36 6 (GH_r hG (by decide)) rfl (CE_36 _) rfl rfl rfl rfl rfl rfl ⟨⟨Nat.le_of_ble_eq_true rfl, Nat.le_of_ble_eq_true rfl⟩, by show 100 + i ≤ 600000; omega, by show 30000 + 5 * i ≤ 7302250; omega⟩ (Nat.le_of_ble_eq_true rfl) (st' := [.int zm.1, .int zx.1]) rfl (fun hE => ?_)
      obtain ⟨hEq, hR2⟩ := hP em
      refine j_ic_eq 674 580 C dL_law_577 rfl rfl (fun _ => ?_) (fun cc => absurd hEq cc)
      exact go (i := i) (by omega) (by omega) hR2 (by omega) (by omega)
    · skip
      have e31 : xs i &&& nI 31 = nI 14 := ej
      refine j_swIn 582 C dL_law_52 (off := 530) (by rw [e31]; decide) (by rw [e31]; decide) (by rw [e31]; decide) rfl ?_
      refine j_aload_n 583 C dL_law_582 rfl rfl 1 rfl ?_
      obtain ⟨zx, ex⟩ : ∃ z, m_X5_next W S n n B σ  = z := ⟨_, rfl⟩
      refine s_V 586 C (As := []) cv_L_83 (c_X5_next (l := l) (D := D) (K := K) (ad := ad) hG (hz := ex) (hB := hXP.1) (hb7 := hXP.2.1) (has := hXP.2.2)) dL_law_583 rfl 0 5 (GH_r hG (by decide)) rfl (CE_0 _) rfl rfl rfl rfl rfl rfl ⟨⟨Nat.le_of_ble_eq_true rfl, Nat.le_of_ble_eq_true rfl⟩, by show 100 + i ≤ 600000; omega, by show 30000 + 5 * i ≤ 7302250; omega⟩ (Nat.le_of_ble_eq_true rfl) (st' := [.int zx.1]) rfl (fun hE => ?_)
      obtain ⟨hMP, hP⟩ := P_next hR ex
      refine j_aload_n 587 C dL_law_586 rfl rfl 2 rfl ?_
      obtain ⟨zm, em⟩ : ∃ z, m_X6_next W S n n B zx.2  = z := ⟨_, rfl⟩
      refine s_V 590 C (As := []) cv_L_86 (c_X6_next (l := l) (D := D) (K := K) (ad := ad) hG (hz := em) (hsee := hMP.1) (hb17 := hMP.2.1) (hrk := hMP.2.2)) dL_law_587 rfl 36 6 (GH_r hG (by decide)) rfl (CE_36 _) rfl rfl rfl rfl rfl rfl ⟨⟨Nat.le_of_ble_eq_true rfl, Nat.le_of_ble_eq_true rfl⟩, by show 100 + i ≤ 600000; omega, by show 30000 + 5 * i ≤ 7302250; omega⟩ (Nat.le_of_ble_eq_true rfl) (st' := [.int zm.1, .int zx.1]) rfl (fun hE => ?_)
      obtain ⟨hEq, hR2⟩ := hP em
      refine j_ic_eq 674 593 C dL_law_590 rfl rfl (fun _ => ?_) (fun cc => absurd hEq cc)
      exact go (i := i) (by omega) (by omega) hR2 (by omega) (by omega)
    · skip
      have e31 : xs i &&& nI 31 = nI 15 := ej
      refine j_swIn 595 C dL_law_52 (off := 543) (by rw [e31]; decide) (by rw [e31]; decide) (by rw [e31]; decide) rfl ?_
      refine j_aload_n 596 C dL_law_595 rfl rfl 1 rfl ?_
      refine j_aload_n 597 C dL_law_596 rfl rfl 0 rfl ?_
      refine j_iload_n 598 C dL_law_597 rfl rfl 3 rfl ?_
      refine j_iconst 599 C (x := nI 1) dL_law_598 rfl (by decide) ?_
      refine j_iadd 600 C (z := nI (i + 1)) dL_law_599 rfl (nI_add _ _) ?_
      refine j_sld 601 C hX hbl hbA (i := i + 1) rfl (by omega) (by omega) dL_law_600 rfl ?_
      obtain ⟨zx, ex⟩ : ∃ z, m_X5_bend W S n n B σ (xs (i + 1)) = z := ⟨_, rfl⟩
      refine s_V 604 C (As := [.int (xs (i + 1))]) cv_L_87 (c_X5_bend (l := l) (D := D) (K := K) (ad := ad) hG (hz := ex) (hB := hXP.1) (hb7 := hXP.2.1)) dL_law_601 rfl 0 5 (GH_r hG (by decide)) rfl (CE_0 _) rfl rfl rfl rfl rfl rfl ⟨⟨Nat.le_of_ble_eq_true rfl, Nat.le_of_ble_eq_true rfl⟩, by show 100 + i ≤ 600000; omega, by show 30000 + 5 * i ≤ 7302250; omega⟩ (Nat.le_of_ble_eq_true rfl) (st' := [.int zx.1]) rfl (fun hE => ?_)
      obtain ⟨hMP, hP⟩ := P_bend hR ex
      refine j_aload_n 605 C dL_law_604 rfl rfl 2 rfl ?_
      refine j_aload_n 606 C dL_law_605 rfl rfl 0 rfl ?_
      refine j_iload_n 607 C dL_law_606 rfl rfl 3 rfl ?_
      refine j_iconst 608 C (x := nI 1) dL_law_607 rfl (by decide) ?_
      refine j_iadd 609 C (z := nI (i + 1)) dL_law_608 rfl (nI_add _ _) ?_
      refine j_sld 610 C hX hbl hbA (i := i + 1) rfl (by omega) (by omega) dL_law_609 rfl ?_
      obtain ⟨zm, em⟩ : ∃ z, m_X6_bend W S n n B zx.2 (xs (i + 1)) = z := ⟨_, rfl⟩
      refine s_V 613 C (As := [.int (xs (i + 1))]) cv_L_91 (c_X6_bend (l := l) (D := D) (K := K) (ad := ad) hG (hz := em) (hsee := hMP.1) (hb17 := hMP.2.1)) dL_law_610 rfl 36 6 (GH_r hG (by decide)) rfl (CE_36 _) rfl rfl rfl rfl rfl rfl ⟨⟨Nat.le_of_ble_eq_true rfl, Nat.le_of_ble_eq_true rfl⟩, by show 100 + i ≤ 600000; omega, by show 30000 + 5 * i ≤ 7302250; omega⟩ (Nat.le_of_ble_eq_true rfl) (st' := [.int zm.1, .int zx.1]) rfl (fun hE => ?_)
      obtain ⟨hEq, hR2⟩ := hP em
      refine j_ic_eq 674 616 C dL_law_613 rfl rfl (fun _ => ?_) (fun cc => absurd hEq cc)
      exact go (i := i) (by omega) (by omega) hR2 (by omega) (by omega)
    · skip
      have e31 : xs i &&& nI 31 = nI 16 := ej
      refine j_swIn 618 C dL_law_52 (off := 566) (by rw [e31]; decide) (by rw [e31]; decide) (by rw [e31]; decide) rfl ?_
      refine j_aload_n 619 C dL_law_618 rfl rfl 1 rfl ?_
      refine j_aload_n 620 C dL_law_619 rfl rfl 0 rfl ?_
      refine j_iload_n 621 C dL_law_620 rfl rfl 3 rfl ?_
      refine j_iconst 622 C (x := nI 1) dL_law_621 rfl (by decide) ?_
      refine j_iadd 623 C (z := nI (i + 1)) dL_law_622 rfl (nI_add _ _) ?_
      refine j_sld 624 C hX hbl hbA (i := i + 1) rfl (by omega) (by omega) dL_law_623 rfl ?_
      refine j_aload_n 625 C dL_law_624 rfl rfl 0 rfl ?_
      refine j_iload_n 626 C dL_law_625 rfl rfl 3 rfl ?_
      refine j_iconst 627 C (x := nI 2) dL_law_626 rfl (by decide) ?_
      refine j_iadd 628 C (z := nI (i + 2)) dL_law_627 rfl (nI_add _ _) ?_
      refine j_sld 629 C hX hbl hbA (i := i + 2) rfl (by omega) (by omega) dL_law_628 rfl ?_
      obtain ⟨zx, ex⟩ : ∃ z, m_X5_told W S n n B σ (xs (i + 1)) (xs (i + 2)) = z := ⟨_, rfl⟩
      refine s_V 632 C (As := [.int (xs (i + 1)), .int (xs (i + 2))]) cv_L_92 (c_X5_told (l := l) (D := D) (K := K) (ad := ad) hG (hz := ex) (hB := hXP.1) (hb7 := hXP.2.1)) dL_law_629 rfl 0 5 (GH_r hG (by decide)) rfl (CE_0 _) rfl rfl rfl rfl rfl rfl ⟨⟨Nat.le_of_ble_eq_true rfl, Nat.le_of_ble_eq_true rfl⟩, by show 100 + i ≤ 600000; omega, by show 30000 + 5 * i ≤ 7302250; omega⟩ (Nat.le_of_ble_eq_true rfl) (st' := [.int zx.1]) rfl (fun hE => ?_)
      obtain ⟨hMP, hP⟩ := P_told hR ex
      refine j_aload_n 633 C dL_law_632 rfl rfl 2 rfl ?_
      refine j_aload_n 634 C dL_law_633 rfl rfl 0 rfl ?_
      refine j_iload_n 635 C dL_law_634 rfl rfl 3 rfl ?_
      refine j_iconst 636 C (x := nI 1) dL_law_635 rfl (by decide) ?_
      refine j_iadd 637 C (z := nI (i + 1)) dL_law_636 rfl (nI_add _ _) ?_
      refine j_sld 638 C hX hbl hbA (i := i + 1) rfl (by omega) (by omega) dL_law_637 rfl ?_
      refine j_aload_n 639 C dL_law_638 rfl rfl 0 rfl ?_
      refine j_iload_n 640 C dL_law_639 rfl rfl 3 rfl ?_
      refine j_iconst 641 C (x := nI 2) dL_law_640 rfl (by decide) ?_
      refine j_iadd 642 C (z := nI (i + 2)) dL_law_641 rfl (nI_add _ _) ?_
      refine j_sld 643 C hX hbl hbA (i := i + 2) rfl (by omega) (by omega) dL_law_642 rfl ?_
      obtain ⟨zm, em⟩ : ∃ z, m_X6_told W S n n B zx.2 (xs (i + 1)) (xs (i + 2)) = z := ⟨_, rfl⟩
      refine s_V 646 C (As := [.int (xs (i + 1)), .int (xs (i + 2))]) cv_L_95 (c_X6_told (l := l) (D := D) (K := K) (ad := ad) hG (hz := em) (hsee := hMP.1) (hb17 := hMP.2.1)) dL_law_643 rfl 36 6 (GH_r hG (by decide)) rfl (CE_36 _) rfl rfl rfl rfl rfl rfl ⟨⟨Nat.le_of_ble_eq_true rfl, Nat.le_of_ble_eq_true rfl⟩, by show 100 + i ≤ 600000; omega, by show 30000 + 5 * i ≤ 7302250; omega⟩ (Nat.le_of_ble_eq_true rfl) (st' := [.int zm.1, .int zx.1]) rfl (fun hE => ?_)
      obtain ⟨hEq, hR2⟩ := hP em
      refine j_ic_eq 674 649 C dL_law_646 rfl rfl (fun _ => ?_) (fun cc => absurd hEq cc)
      exact go (i := i) (by omega) (by omega) hR2 (by omega) (by omega)
    · skip
      have e31 : xs i &&& nI 31 = nI 17 := ej
      refine j_swIn 651 C dL_law_52 (off := 599) (by rw [e31]; decide) (by rw [e31]; decide) (by rw [e31]; decide) rfl ?_
      refine j_aload_n 652 C dL_law_651 rfl rfl 1 rfl ?_
      refine j_aload_n 653 C dL_law_652 rfl rfl 0 rfl ?_
      refine j_iload_n 654 C dL_law_653 rfl rfl 3 rfl ?_
      refine j_iconst 655 C (x := nI 1) dL_law_654 rfl (by decide) ?_
      refine j_iadd 656 C (z := nI (i + 1)) dL_law_655 rfl (nI_add _ _) ?_
      refine j_sld 657 C hX hbl hbA (i := i + 1) rfl (by omega) (by omega) dL_law_656 rfl ?_
      obtain ⟨zx, ex⟩ : ∃ z, m_X5_count W S n n B σ (xs (i + 1)) = z := ⟨_, rfl⟩
      refine s_V 660 C (As := [.int (xs (i + 1))]) cv_L_96 (c_X5_count (l := l) (D := D) (K := K) (ad := ad) hG (hz := ex) (hB := hXP.1)) dL_law_657 rfl 0 5 (GH_r hG (by decide)) rfl (CE_0 _) rfl rfl rfl rfl rfl rfl ⟨⟨Nat.le_of_ble_eq_true rfl, Nat.le_of_ble_eq_true rfl⟩, by show 100 + i ≤ 600000; omega, by show 30000 + 5 * i ≤ 7302250; omega⟩ (Nat.le_of_ble_eq_true rfl) (st' := [.int zx]) rfl (fun hE => ?_)
      obtain ⟨hMP, hP⟩ := P_count hR ex
      refine j_aload_n 661 C dL_law_660 rfl rfl 2 rfl ?_
      refine j_aload_n 662 C dL_law_661 rfl rfl 0 rfl ?_
      refine j_iload_n 663 C dL_law_662 rfl rfl 3 rfl ?_
      refine j_iconst 664 C (x := nI 1) dL_law_663 rfl (by decide) ?_
      refine j_iadd 665 C (z := nI (i + 1)) dL_law_664 rfl (nI_add _ _) ?_
      refine j_sld 666 C hX hbl hbA (i := i + 1) rfl (by omega) (by omega) dL_law_665 rfl ?_
      obtain ⟨zm, em⟩ : ∃ z, m_X6_count W S n n B σ (xs (i + 1)) = z := ⟨_, rfl⟩
      refine s_V 669 C (As := [.int (xs (i + 1))]) cv_L_99 (c_X6_count (l := l) (D := D) (K := K) (ad := ad) hG (hz := em) ) dL_law_666 rfl 36 6 (GH_r hG (by decide)) rfl (CE_36 _) rfl rfl rfl rfl rfl rfl ⟨⟨Nat.le_of_ble_eq_true rfl, Nat.le_of_ble_eq_true rfl⟩, by show 100 + i ≤ 600000; omega, by show 30000 + 5 * i ≤ 7302250; omega⟩ (Nat.le_of_ble_eq_true rfl) (st' := [.int zm, .int zx]) rfl (fun hE => ?_)
      obtain ⟨hEq, hR2⟩ := hP em
      refine j_ic_eq 674 672 C dL_law_669 rfl rfl (fun _ => ?_) (fun cc => absurd hEq cc)
      exact go (i := i) (by omega) (by omega) hR2 (by omega) (by omega)
    · refine j_swOut 674 C dL_law_52 (by rw [ej, nI_toInt (by omega)]; right; omega) rfl ?_
      exact go (i := i) (by omega) (by omega) hR (by omega) (by omega)

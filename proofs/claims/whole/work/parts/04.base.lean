/-! worlds by roles: role r is the cell ct r at the address ad r -/
def ww (N : Nat) (ad : Nat → Nat) (ct : Nat → va_E) : va_W := (List.range N).map (fun r => (ad r, ct r))
theorem ww_len {N : Nat} {ad : Nat → Nat} {ct : Nat → va_E} : (ww N ad ct).length = N := by simp [ww]
theorem ww_get {N : Nat} {ad : Nat → Nat} {ct : Nat → va_E} {r : Nat} (h : r < N) : (ww N ad ct)[r]? = some (ad r, ct r) := by
  simp [ww, h]
theorem ww_at {N : Nat} {ad : Nat → Nat} {ct : Nat → va_E} {r a : Nat} {x : va_E} (h : r < N) (ha : ad r = a) (hx : ct r = x) : (ww N ad ct)[r]? = some (a, x) := by
  rw [ww_get h, ha, hx]
theorem ww_of {N : Nat} {ad : Nat → Nat} {ct : Nat → va_E} {k : Nat} {q : Nat × va_E} (h : (ww N ad ct)[k]? = some q) : k < N ∧ q = (ad k, ct k) := by
  have hk : k < (ww N ad ct).length := (List.getElem?_eq_some_iff.mp h).1
  rw [ww_len] at hk
  rw [ww_get hk] at h
  exact ⟨hk, (Option.some.inj h).symm⟩
theorem ww_set {N : Nat} {ad : Nat → Nat} {ct : Nat → va_E} {r a : Nat} {x : va_E} (h : r < N) (ha : ad r = a) : (ww N ad ct).set r (a, x) = ww N ad (va_up ct r x) := by
  subst ha
  apply List.ext_getElem?
  intro k
  by_cases hk : k = r
  · subst hk
    rw [List.getElem?_set_self (by rw [ww_len]; exact h), ww_get h, va_up_self]
  · rw [List.getElem?_set_ne (Ne.symm hk)]
    by_cases hN : k < N
    · rw [ww_get hN, ww_get hN, va_up_ne _ _ hk]
    · rw [List.getElem?_eq_none (by rw [ww_len]; omega), List.getElem?_eq_none (by rw [ww_len]; omega)]
theorem ww_push {N : Nat} {ad : Nat → Nat} {ct : Nat → va_E} {a : Nat} {x : va_E} : ww N ad ct ++ [(a, x)] = ww (N + 1) (va_up ad N a) (va_up ct N x) := by
  apply List.ext_getElem?
  intro k
  rcases Nat.lt_trichotomy k N with h | h | h
  · rw [List.getElem?_append_left (by rw [ww_len]; exact h), ww_get h, ww_get (by omega), va_up_ne _ _ (by omega), va_up_ne _ _ (by omega)]
  · subst h
    rw [List.getElem?_append_right (by rw [ww_len]; omega), ww_len, ww_get (by omega), va_up_self, va_up_self, Nat.sub_self]
    rfl
  · rw [List.getElem?_eq_none (by simp [ww_len]; omega), List.getElem?_eq_none (by rw [ww_len]; omega)]
theorem ww_congr {N : Nat} {ad : Nat → Nat} {ct ct' : Nat → va_E} (h : ∀ r, r < N → ct r = ct' r) : ww N ad ct = ww N ad ct' := by
  apply List.ext_getElem?
  intro k
  by_cases hN : k < N
  · rw [ww_get hN, ww_get hN, h k hN]
  · rw [List.getElem?_eq_none (by rw [ww_len]; omega), List.getElem?_eq_none (by rw [ww_len]; omega)]
theorem ww_congrA {N : Nat} {ad ad' : Nat → Nat} {ct ct' : Nat → va_E} (ha : ∀ r, r < N → ad r = ad' r) (h : ∀ r, r < N → ct r = ct' r) : ww N ad ct = ww N ad' ct' := by
  apply List.ext_getElem?
  intro k
  by_cases hN : k < N
  · rw [ww_get hN, ww_get hN, h k hN, ha k hN]
  · rw [List.getElem?_eq_none (by rw [ww_len]; omega), List.getElem?_eq_none (by rw [ww_len]; omega)]
/-- what a method may change: its world, and what it makes -/
def wA (N : Nat) (ad : Nat → Nat) (sz : Nat) : Nat → Prop := fun q => (∃ r, r < N ∧ q = ad r) ∨ sz ≤ q
/-- what the tables say, of a state -/
def KX (D : va_G) (tys : List (ClassId × FieldType)) (U : State) : Prop := va_K D vwCl tys U ∧ va_AO RX1 U ∧ va_AO RX3 U ∧ va_Nw (.methodLinkNest RX5 29 yX4_init RX5) U
theorem KX.warm {D : va_G} {tys : List (ClassId × FieldType)} {s U : State} (hW : s.WarmedH U.vm) (h : KX D tys s) : KX D tys U :=
  ⟨va_K.moved hW.alike h.1, va_AO.moved hW.alike h.2.1, va_AO.moved hW.alike h.2.2.1, va_Nw.warmM hW h.2.2.2⟩
theorem KX.call {D : va_G} {tys : List (ClassId × FieldType)} {U : State} {g : JFrame} {mk : MethodId} {a : Array Value} (h : KX D tys U) : KX D tys (U.calling g mk a) :=
  ⟨va_K.moved (u := U) (U := U.calling g mk a) (Vm.Alike.refl U.vm) h.1, va_AO.moved (u := U) (U := U.calling g mk a) (Vm.Alike.refl U.vm) h.2.1, va_AO.moved (u := U) (U := U.calling g mk a) (Vm.Alike.refl U.vm) h.2.2.1, va_Nw.same rfl (u := U) (U := U.calling g mk a) rfl h.2.2.2⟩
def hwd (D : va_G) (A : Nat → Prop) (N : Nat) (ad : Nat → Nat) (ct : Nat → va_E) (H : Heap) : Prop := va_P D vwCl (ww N ad ct) H ∧ va_D A (ww N ad ct)
def WD (D : va_G) (A : Nat → Prop) (H0 : Heap) (N : Nat) (ad : Nat → Nat) (ct : Nat → va_E) (H : Heap) (locs : List Loc) : Prop := hwd D A N ad ct H ∧ va_S A H0 H locs
def MPre (D : va_G) (tys : List (ClassId × FieldType)) (N : Nat) (ad : Nat → Nat) (ct : Nat → va_E) (sz : Nat) (av : List Value) : Array Value → State → Prop := va_Pc av (fun U => U.heap.size = sz ∧ KX D tys U ∧ hwd D (fun _ => True) N ad ct U.heap)
/-- a method's end: the answer v, the world N' ad' ct', of which B holds -/
def QC (D : va_G) (A : Nat → Prop) (B : Option Value → Nat → (Nat → Nat) → (Nat → va_E) → Prop) : Array Value → State → Outcome → State → Prop := fun _ st oc t =>
  (∃ v N' ad' ct', oc = .returned v ∧ B v N' ad' ct' ∧ hwd D A N' ad' ct' t.heap) ∧ va_F A st t
abbrev wsM (y : MethodName) (b : ByteArray) (nL : Nat) (ret : Option FieldType) : List Cond := .code y b nL ret :: TG
/-- a method's contract -/
def MC (l : Launch) (y : MethodName) (b : ByteArray) (nL : Nat) (ret : Option FieldType) (rm : Room) (D : va_G) (tys : List (ClassId × FieldType)) (N : Nat) (ad : Nat → Nat) (ct : Nat → va_E) (av : List Value) (B : Option Value → Nat → (Nat → Nat) → (Nat → va_E) → Prop) : Prop :=
  ∀ sz, Met l y (wsM y b nL ret) rm (MPre D tys N ad ct sz av) (QC D (wA N ad sz) B) rm.cells rm.slots (wA N ad sz)
/-- the simple end: this answer, this world, no cell made; E holds too -/
def BS (V : Option Value) (N : Nat) (ad : Nat → Nat) (ct : Nat → va_E) (E : Prop) : Option Value → Nat → (Nat → Nat) → (Nat → va_E) → Prop := fun v N' ad' ct' => v = V ∧ N' = N ∧ ad' = ad ∧ ct' = ct ∧ E
/-- what stays while a body runs -/
def Cx (p : Program) (s : State) (m : MethodId) (args : Array Value) (meth : Method) (c : Code) (cc : ByteArray) (own : String) (nL : Nat) (D : va_G) (tys : List (ClassId × FieldType)) (A : Nat → Prop) (H0 : Heap) : Prop :=
  CallFix p m c cc nL s args TG own ∧ KX D tys s ∧ (∀ q, H0.size ≤ q → A q) ∧ meth.locks = false
/-- where a body ends -/
def RX (s : State) (args : Array Value) (below : List Frame) (meth : Method) (Q : State → Prop) (D : va_G) (A : Nat → Prop) (H0 : Heap) (mc ms : Nat) (ret : Option FieldType) (nm : String) (B : Option Value → Nat → (Nat → Nat) → (Nat → va_E) → Prop) : Prop :=
  Q = MQ below (QC D A B) args s mc ms A ∧ s.heap = H0 ∧ meth.sig.returnType = ret ∧ meth.name = nm
/-- the machine at pc, with these locals, this stack, this world, comes to Q -/
def J (p : Program) (l : Launch) (e : Env) (R : Room) (s : State) (m : MethodId) (args : Array Value) (below : List Frame) (meth : Method) (c : Code) (Q : State → Prop) (D : va_G) (A : Nat → Prop) (H0 : Heap) (nL k n N : Nat) (ad : Nat → Nat) (ct : Nat → va_E) (pc : Nat) (lv : List (Nat × Value)) (st : List Value) : Prop :=
  ∀ (H : Heap) (locs : List Loc) (ls : Array Slot), WD D A H0 N ad ct H locs → lv_has ls nL lv → W p l e R s m args below meth c H locs k n Q (F0 m pc ls st)
theorem wA_of {D : va_G} {A : Nat → Prop} {H0 H : Heap} {N : Nat} {ad : Nat → Nat} {ct : Nat → va_E} {locs : List Loc} (hA : ∀ q, H0.size ≤ q → A q) (w : WD D A H0 N ad ct H locs) : ∀ q, wA N ad H.size q → A q := by
  intro q h
  rcases h with ⟨r, hr, rfl⟩ | h
  · exact w.1.2.2 r _ (ww_get hr)
  · exact hA q (Nat.le_trans w.2.1 h)
theorem good_TG {y : MethodName} {b : ByteArray} {nL : Nat} {ret : Option FieldType} (hc : Cond.code y b nL ret ∈ TG) : GoodIn TG (wsM y b nL ret) := by
  intro w h
  rcases List.mem_cons.mp h with rfl | h
  · exact ⟨hc, good_of_word (TG_good hc)⟩
  · exact ⟨h, good_of_word (TG_good h)⟩
theorem MPre_blind {D : va_G} {tys : List (ClassId × FieldType)} {N : Nat} {ad : Nat → Nat} {ct : Nat → va_E} {sz : Nat} {av : List Value} : FrameBlind (MPre D tys N ad ct sz av) := fun _ _ _ _ h => ⟨h.1, h.2.1, h.2.2.1.call, h.2.2.2⟩
section JR
variable {p : Program} {l : Launch} {e : Env} {R : Room} {s : State} {m : MethodId} {args : Array Value} {below : List Frame} {meth : Method} {c : Code} {Q : State → Prop} {D : va_G} {A : Nat → Prop} {H0 : Heap} {nL k n N : Nat} {ad : Nat → Nat} {ct : Nat → va_E} {pc : Nat} {lv : List (Nat × Value)} {st : List Value} {cc : ByteArray} {own : String} {tys : List (ClassId × FieldType)}
theorem j_lv (is : List Nat) {lv' : List (Nat × Value)} (h : lv_pick lv is = lv') (kk : J p l e R s m args below meth c Q D A H0 nL k n N ad ct pc lv' st) : J p l e R s m args below meth c Q D A H0 nL k n N ad ct pc lv st := fun H locs ls w hl => kk H locs ls w (lv_sub hl is h)
theorem j_ct {ct' : Nat → va_E} (h : ∀ r, r < N → ct r = ct' r) (kk : J p l e R s m args below meth c Q D A H0 nL k n N ad ct' pc lv st) : J p l e R s m args below meth c Q D A H0 nL k n N ad ct pc lv st := by
  intro H locs ls w hl
  refine kk H locs ls ?_ hl
  unfold WD hwd at w ⊢
  rw [← ww_congr h]
  exact w
theorem j_widen (k' n' : Nat) (h1 : k ≤ k') (h2 : n ≤ n') (kk : J p l e R s m args below meth c Q D A H0 nL k' n' N ad ct pc lv st) : J p l e R s m args below meth c Q D A H0 nL k n N ad ct pc lv st := fun H locs ls w hl => W.widen h1 h2 (kk H locs ls w hl)
theorem j_st {st' : List Value} (h : st = st') (kk : J p l e R s m args below meth c Q D A H0 nL k n N ad ct pc lv st') : J p l e R s m args below meth c Q D A H0 nL k n N ad ct pc lv st := h ▸ kk
theorem j_iconst (pc' : Nat) (C : Cx p s m args meth c cc own nL D tys A H0) {v : Int} {x : Int32} (hd : decode cc pc = .ok (.iconst v, 1)) (hp : pc + 1 = pc') (hv : Int32.ofInt v = x) (kk : J p l e R s m args below meth c Q D A H0 nL k n N ad ct pc' lv (.int x :: st)) : J p l e R s m args below meth c Q D A H0 nL k n N ad ct pc lv st := fun H locs ls w hl => lv_iconst C.1.1 C.1.2.1 hd hv (hp ▸ kk H locs ls w hl)
theorem j_bipush (pc' : Nat) (C : Cx p s m args meth c cc own nL D tys A H0) {v : Int} {x : Int32} (hd : decode cc pc = .ok (.bipush v, 2)) (hp : pc + 2 = pc') (hv : (Int8.ofInt v).toInt32 = x) (kk : J p l e R s m args below meth c Q D A H0 nL k n N ad ct pc' lv (.int x :: st)) : J p l e R s m args below meth c Q D A H0 nL k n N ad ct pc lv st := fun H locs ls w hl => lv_bipush C.1.1 C.1.2.1 hd hv (hp ▸ kk H locs ls w hl)
theorem j_sipush (pc' : Nat) (C : Cx p s m args meth c cc own nL D tys A H0) {v : Int} {x : Int32} (hd : decode cc pc = .ok (.sipush v, 3)) (hp : pc + 3 = pc') (hv : (Int16.ofInt v).toInt32 = x) (kk : J p l e R s m args below meth c Q D A H0 nL k n N ad ct pc' lv (.int x :: st)) : J p l e R s m args below meth c Q D A H0 nL k n N ad ct pc lv st := fun H locs ls w hl => lv_sipush C.1.1 C.1.2.1 hd hv (hp ▸ kk H locs ls w hl)
theorem j_ldc (pc' : Nat) (C : Cx p s m args meth c cc own nL D tys A H0) {index : Nat} {x x' : Int32} (hw : Cond.constant own index x ∈ TG) (hd : decode cc pc = .ok (.ldc index, 2)) (hp : pc + 2 = pc') (hv : x = x') (kk : J p l e R s m args below meth c Q D A H0 nL k n N ad ct pc' lv (.int x' :: st)) : J p l e R s m args below meth c Q D A H0 nL k n N ad ct pc lv st := fun H locs ls w hl => lv_ldc C.1.1 C.1.2.1 C.1.2.2.2.1 (C.1.2.2.2.2 _ hw) hd (by rw [hp, hv]; exact kk H locs ls w hl)
theorem j_ldcw (pc' : Nat) (C : Cx p s m args meth c cc own nL D tys A H0) {index : Nat} {x x' : Int32} (hw : Cond.constant own index x ∈ TG) (hd : decode cc pc = .ok (.ldc_w index, 3)) (hp : pc + 3 = pc') (hv : x = x') (kk : J p l e R s m args below meth c Q D A H0 nL k n N ad ct pc' lv (.int x' :: st)) : J p l e R s m args below meth c Q D A H0 nL k n N ad ct pc lv st := fun H locs ls w hl => lv_ldcw C.1.1 C.1.2.1 C.1.2.2.2.1 (C.1.2.2.2.2 _ hw) hd (by rw [hp, hv]; exact kk H locs ls w hl)
theorem j_iload_n (pc' : Nat) (C : Cx p s m args meth c cc own nL D tys A H0) {i : Fin 4} {j : Nat} {x : Int32} (hd : decode cc pc = .ok (.iload_n i, 1)) (hp : pc + 1 = pc') (hi : (i : Nat) = j) (q : Nat) (hq : lv[q]? = some (j, .int x)) (kk : J p l e R s m args below meth c Q D A H0 nL k n N ad ct pc' lv (.int x :: st)) : J p l e R s m args below meth c Q D A H0 nL k n N ad ct pc lv st := fun H locs ls w hl => lv_iload_n C.1.1 C.1.2.1 hd hi (lv_at hl q hq) (hp ▸ kk H locs ls w hl)
theorem j_iload (pc' : Nat) (C : Cx p s m args meth c cc own nL D tys A H0) {j : Nat} {x : Int32} (hd : decode cc pc = .ok (.iload j, 2)) (hp : pc + 2 = pc') (q : Nat) (hq : lv[q]? = some (j, .int x)) (kk : J p l e R s m args below meth c Q D A H0 nL k n N ad ct pc' lv (.int x :: st)) : J p l e R s m args below meth c Q D A H0 nL k n N ad ct pc lv st := fun H locs ls w hl => lv_iload C.1.1 C.1.2.1 hd (lv_at hl q hq) (hp ▸ kk H locs ls w hl)
theorem j_aload_n (pc' : Nat) (C : Cx p s m args meth c cc own nL D tys A H0) {i : Fin 4} {j : Nat} {x : Nat} (hd : decode cc pc = .ok (.aload_n i, 1)) (hp : pc + 1 = pc') (hi : (i : Nat) = j) (q : Nat) (hq : lv[q]? = some (j, .ref x)) (kk : J p l e R s m args below meth c Q D A H0 nL k n N ad ct pc' lv (.ref x :: st)) : J p l e R s m args below meth c Q D A H0 nL k n N ad ct pc lv st := fun H locs ls w hl => lv_aload_n C.1.1 C.1.2.1 hd hi (lv_at hl q hq) (hp ▸ kk H locs ls w hl)
theorem j_aload (pc' : Nat) (C : Cx p s m args meth c cc own nL D tys A H0) {j : Nat} {x : Nat} (hd : decode cc pc = .ok (.aload j, 2)) (hp : pc + 2 = pc') (q : Nat) (hq : lv[q]? = some (j, .ref x)) (kk : J p l e R s m args below meth c Q D A H0 nL k n N ad ct pc' lv (.ref x :: st)) : J p l e R s m args below meth c Q D A H0 nL k n N ad ct pc lv st := fun H locs ls w hl => lv_aload C.1.1 C.1.2.1 hd (lv_at hl q hq) (hp ▸ kk H locs ls w hl)
theorem j_aload_nN (pc' : Nat) (C : Cx p s m args meth c cc own nL D tys A H0) {i : Fin 4} {j : Nat} (hd : decode cc pc = .ok (.aload_n i, 1)) (hp : pc + 1 = pc') (hi : (i : Nat) = j) (q : Nat) (hq : lv[q]? = some (j, .null)) (kk : J p l e R s m args below meth c Q D A H0 nL k n N ad ct pc' lv (.null :: st)) : J p l e R s m args below meth c Q D A H0 nL k n N ad ct pc lv st := fun H locs ls w hl => lv_aload_nN C.1.1 C.1.2.1 hd hi (lv_at hl q hq) (hp ▸ kk H locs ls w hl)
theorem j_aloadN (pc' : Nat) (C : Cx p s m args meth c cc own nL D tys A H0) {j : Nat} (hd : decode cc pc = .ok (.aload j, 2)) (hp : pc + 2 = pc') (q : Nat) (hq : lv[q]? = some (j, .null)) (kk : J p l e R s m args below meth c Q D A H0 nL k n N ad ct pc' lv (.null :: st)) : J p l e R s m args below meth c Q D A H0 nL k n N ad ct pc lv st := fun H locs ls w hl => lv_aloadN C.1.1 C.1.2.1 hd (lv_at hl q hq) (hp ▸ kk H locs ls w hl)
theorem j_istore_n (pc' : Nat) (C : Cx p s m args meth c cc own nL D tys A H0) {i : Fin 4} {j : Nat} {x : Int32} (lv' : List (Nat × Value)) (hd : decode cc pc = .ok (.istore_n i, 1)) (hp : pc + 1 = pc') (hi : (i : Nat) = j) (hn : j < nL) (hl' : (j, Value.int x) :: lv.filter (fun q => !(q.1 == j) && !(q.1 + 1 == j && q.2.category == 2)) = lv') (kk : J p l e R s m args below meth c Q D A H0 nL k n N ad ct pc' lv' st) : J p l e R s m args below meth c Q D A H0 nL k n N ad ct pc lv (.int x :: st) := fun H locs ls w hl => lv_istore_n C.1.1 C.1.2.1 hd hi hl hn hl' (fun ls' hl2 => hp ▸ kk H locs ls' w hl2)
theorem j_istore (pc' : Nat) (C : Cx p s m args meth c cc own nL D tys A H0) {j : Nat} {x : Int32} (lv' : List (Nat × Value)) (hd : decode cc pc = .ok (.istore j, 2)) (hp : pc + 2 = pc') (hn : j < nL) (hl' : (j, Value.int x) :: lv.filter (fun q => !(q.1 == j) && !(q.1 + 1 == j && q.2.category == 2)) = lv') (kk : J p l e R s m args below meth c Q D A H0 nL k n N ad ct pc' lv' st) : J p l e R s m args below meth c Q D A H0 nL k n N ad ct pc lv (.int x :: st) := fun H locs ls w hl => lv_istore C.1.1 C.1.2.1 hd hl hn hl' (fun ls' hl2 => hp ▸ kk H locs ls' w hl2)
theorem j_astore_n (pc' : Nat) (C : Cx p s m args meth c cc own nL D tys A H0) {i : Fin 4} {j : Nat} {x : Nat} (lv' : List (Nat × Value)) (hd : decode cc pc = .ok (.astore_n i, 1)) (hp : pc + 1 = pc') (hi : (i : Nat) = j) (hn : j < nL) (hl' : (j, Value.ref x) :: lv.filter (fun q => !(q.1 == j) && !(q.1 + 1 == j && q.2.category == 2)) = lv') (kk : J p l e R s m args below meth c Q D A H0 nL k n N ad ct pc' lv' st) : J p l e R s m args below meth c Q D A H0 nL k n N ad ct pc lv (.ref x :: st) := fun H locs ls w hl => lv_astore_n C.1.1 C.1.2.1 hd hi hl hn hl' (fun ls' hl2 => hp ▸ kk H locs ls' w hl2)
theorem j_astore (pc' : Nat) (C : Cx p s m args meth c cc own nL D tys A H0) {j : Nat} {x : Nat} (lv' : List (Nat × Value)) (hd : decode cc pc = .ok (.astore j, 2)) (hp : pc + 2 = pc') (hn : j < nL) (hl' : (j, Value.ref x) :: lv.filter (fun q => !(q.1 == j) && !(q.1 + 1 == j && q.2.category == 2)) = lv') (kk : J p l e R s m args below meth c Q D A H0 nL k n N ad ct pc' lv' st) : J p l e R s m args below meth c Q D A H0 nL k n N ad ct pc lv (.ref x :: st) := fun H locs ls w hl => lv_astore C.1.1 C.1.2.1 hd hl hn hl' (fun ls' hl2 => hp ▸ kk H locs ls' w hl2)
theorem j_astore_nN (pc' : Nat) (C : Cx p s m args meth c cc own nL D tys A H0) {i : Fin 4} {j : Nat} (lv' : List (Nat × Value)) (hd : decode cc pc = .ok (.astore_n i, 1)) (hp : pc + 1 = pc') (hi : (i : Nat) = j) (hn : j < nL) (hl' : (j, Value.null) :: lv.filter (fun q => !(q.1 == j) && !(q.1 + 1 == j && q.2.category == 2)) = lv') (kk : J p l e R s m args below meth c Q D A H0 nL k n N ad ct pc' lv' st) : J p l e R s m args below meth c Q D A H0 nL k n N ad ct pc lv (.null :: st) := fun H locs ls w hl => lv_astore_nN C.1.1 C.1.2.1 hd hi hl hn hl' (fun ls' hl2 => hp ▸ kk H locs ls' w hl2)
theorem j_astoreN (pc' : Nat) (C : Cx p s m args meth c cc own nL D tys A H0) {j : Nat} (lv' : List (Nat × Value)) (hd : decode cc pc = .ok (.astore j, 2)) (hp : pc + 2 = pc') (hn : j < nL) (hl' : (j, Value.null) :: lv.filter (fun q => !(q.1 == j) && !(q.1 + 1 == j && q.2.category == 2)) = lv') (kk : J p l e R s m args below meth c Q D A H0 nL k n N ad ct pc' lv' st) : J p l e R s m args below meth c Q D A H0 nL k n N ad ct pc lv (.null :: st) := fun H locs ls w hl => lv_astoreN C.1.1 C.1.2.1 hd hl hn hl' (fun ls' hl2 => hp ▸ kk H locs ls' w hl2)
theorem va_rf_cat (x : Option Nat) : (va_rf x).category = 1 := by cases x <;> rfl
theorem j_astore_o (pc' : Nat) (C : Cx p s m args meth c cc own nL D tys A H0) {j : Nat} {x : Option Nat} (lv' : List (Nat × Value)) (hd : decode cc pc = .ok (.astore j, 2)) (hp : pc + 2 = pc') (hn : j < nL) (hl' : (j, va_rf x) :: lv.filter (fun q => !(q.1 == j) && !(q.1 + 1 == j && q.2.category == 2)) = lv') (kk : J p l e R s m args below meth c Q D A H0 nL k n N ad ct pc' lv' st) : J p l e R s m args below meth c Q D A H0 nL k n N ad ct pc lv (va_rf x :: st) := by
  cases x with
  | none => exact j_astoreN pc' C lv' hd hp hn hl' kk
  | some a => exact j_astore pc' C lv' hd hp hn hl' kk
theorem j_astore_no (pc' : Nat) (C : Cx p s m args meth c cc own nL D tys A H0) {i : Fin 4} {j : Nat} {x : Option Nat} (lv' : List (Nat × Value)) (hd : decode cc pc = .ok (.astore_n i, 1)) (hp : pc + 1 = pc') (hi : (i : Nat) = j) (hn : j < nL) (hl' : (j, va_rf x) :: lv.filter (fun q => !(q.1 == j) && !(q.1 + 1 == j && q.2.category == 2)) = lv') (kk : J p l e R s m args below meth c Q D A H0 nL k n N ad ct pc' lv' st) : J p l e R s m args below meth c Q D A H0 nL k n N ad ct pc lv (va_rf x :: st) := by
  cases x with
  | none => exact j_astore_nN pc' C lv' hd hp hi hn hl' kk
  | some a => exact j_astore_n pc' C lv' hd hp hi hn hl' kk
theorem j_aload_o (pc' : Nat) (C : Cx p s m args meth c cc own nL D tys A H0) {j : Nat} {x : Option Nat} (hd : decode cc pc = .ok (.aload j, 2)) (hp : pc + 2 = pc') (q : Nat) (hq : lv[q]? = some (j, va_rf x)) (kk : J p l e R s m args below meth c Q D A H0 nL k n N ad ct pc' lv (va_rf x :: st)) : J p l e R s m args below meth c Q D A H0 nL k n N ad ct pc lv st := by
  cases x with
  | none => exact j_aloadN pc' C hd hp q hq kk
  | some a => exact j_aload pc' C hd hp q hq kk
theorem j_aload_no (pc' : Nat) (C : Cx p s m args meth c cc own nL D tys A H0) {i : Fin 4} {j : Nat} {x : Option Nat} (hd : decode cc pc = .ok (.aload_n i, 1)) (hp : pc + 1 = pc') (hi : (i : Nat) = j) (q : Nat) (hq : lv[q]? = some (j, va_rf x)) (kk : J p l e R s m args below meth c Q D A H0 nL k n N ad ct pc' lv (va_rf x :: st)) : J p l e R s m args below meth c Q D A H0 nL k n N ad ct pc lv st := by
  cases x with
  | none => exact j_aload_nN pc' C hd hp hi q hq kk
  | some a => exact j_aload_n pc' C hd hp hi q hq kk
theorem j_iinc (pc' : Nat) (C : Cx p s m args meth c cc own nL D tys A H0) {j : Nat} {d : Int} {x x' : Int32} (lv' : List (Nat × Value)) (hd : decode cc pc = .ok (.iinc j d, 3)) (hp : pc + 3 = pc') (q : Nat) (hq : lv[q]? = some (j, .int x)) (hv : x + Int32.ofInt d = x') (hn : j < nL) (hl' : (j, Value.int x') :: lv.filter (fun q => !(q.1 == j) && !(q.1 + 1 == j && q.2.category == 2)) = lv') (kk : J p l e R s m args below meth c Q D A H0 nL k n N ad ct pc' lv' st) : J p l e R s m args below meth c Q D A H0 nL k n N ad ct pc lv st := fun H locs ls w hl => lv_iinc C.1.1 C.1.2.1 hd hl hq hv hn hl' (fun ls' hl2 => hp ▸ kk H locs ls' w hl2)
theorem j_iadd (pc' : Nat) (C : Cx p s m args meth c cc own nL D tys A H0) {x y z : Int32} (hd : decode cc pc = .ok (.iadd, 1)) (hp : pc + 1 = pc') (hz : x + y = z) (kk : J p l e R s m args below meth c Q D A H0 nL k n N ad ct pc' lv (.int z :: st)) : J p l e R s m args below meth c Q D A H0 nL k n N ad ct pc lv (.int y :: .int x :: st) := fun H locs ls w hl => lv_iadd C.1.1 C.1.2.1 hd (by rw [hp, hz]; exact kk H locs ls w hl)
theorem j_isub (pc' : Nat) (C : Cx p s m args meth c cc own nL D tys A H0) {x y z : Int32} (hd : decode cc pc = .ok (.isub, 1)) (hp : pc + 1 = pc') (hz : x - y = z) (kk : J p l e R s m args below meth c Q D A H0 nL k n N ad ct pc' lv (.int z :: st)) : J p l e R s m args below meth c Q D A H0 nL k n N ad ct pc lv (.int y :: .int x :: st) := fun H locs ls w hl => lv_isub C.1.1 C.1.2.1 hd (by rw [hp, hz]; exact kk H locs ls w hl)
theorem j_imul (pc' : Nat) (C : Cx p s m args meth c cc own nL D tys A H0) {x y z : Int32} (hd : decode cc pc = .ok (.imul, 1)) (hp : pc + 1 = pc') (hz : x * y = z) (kk : J p l e R s m args below meth c Q D A H0 nL k n N ad ct pc' lv (.int z :: st)) : J p l e R s m args below meth c Q D A H0 nL k n N ad ct pc lv (.int y :: .int x :: st) := fun H locs ls w hl => lv_imul C.1.1 C.1.2.1 hd (by rw [hp, hz]; exact kk H locs ls w hl)
theorem j_iand (pc' : Nat) (C : Cx p s m args meth c cc own nL D tys A H0) {x y z : Int32} (hd : decode cc pc = .ok (.iand, 1)) (hp : pc + 1 = pc') (hz : x &&& y = z) (kk : J p l e R s m args below meth c Q D A H0 nL k n N ad ct pc' lv (.int z :: st)) : J p l e R s m args below meth c Q D A H0 nL k n N ad ct pc lv (.int y :: .int x :: st) := fun H locs ls w hl => lv_iand C.1.1 C.1.2.1 hd (by rw [hp, hz]; exact kk H locs ls w hl)
theorem j_ior (pc' : Nat) (C : Cx p s m args meth c cc own nL D tys A H0) {x y z : Int32} (hd : decode cc pc = .ok (.ior, 1)) (hp : pc + 1 = pc') (hz : x ||| y = z) (kk : J p l e R s m args below meth c Q D A H0 nL k n N ad ct pc' lv (.int z :: st)) : J p l e R s m args below meth c Q D A H0 nL k n N ad ct pc lv (.int y :: .int x :: st) := fun H locs ls w hl => lv_ior C.1.1 C.1.2.1 hd (by rw [hp, hz]; exact kk H locs ls w hl)
theorem j_ixor (pc' : Nat) (C : Cx p s m args meth c cc own nL D tys A H0) {x y z : Int32} (hd : decode cc pc = .ok (.ixor, 1)) (hp : pc + 1 = pc') (hz : x ^^^ y = z) (kk : J p l e R s m args below meth c Q D A H0 nL k n N ad ct pc' lv (.int z :: st)) : J p l e R s m args below meth c Q D A H0 nL k n N ad ct pc lv (.int y :: .int x :: st) := fun H locs ls w hl => lv_ixor C.1.1 C.1.2.1 hd (by rw [hp, hz]; exact kk H locs ls w hl)
theorem j_idiv (pc' : Nat) (C : Cx p s m args meth c cc own nL D tys A H0) {x y z : Int32} (hd : decode cc pc = .ok (.idiv, 1)) (hp : pc + 1 = pc') (h0 : ¬ y = 0) (hz : x / y = z) (kk : J p l e R s m args below meth c Q D A H0 nL k n N ad ct pc' lv (.int z :: st)) : J p l e R s m args below meth c Q D A H0 nL k n N ad ct pc lv (.int y :: .int x :: st) := fun H locs ls w hl => lv_idiv C.1.1 C.1.2.1 hd h0 (by rw [hp, hz]; exact kk H locs ls w hl)
theorem j_irem (pc' : Nat) (C : Cx p s m args meth c cc own nL D tys A H0) {x y z : Int32} (hd : decode cc pc = .ok (.irem, 1)) (hp : pc + 1 = pc') (h0 : ¬ y = 0) (hz : x - x / y * y = z) (kk : J p l e R s m args below meth c Q D A H0 nL k n N ad ct pc' lv (.int z :: st)) : J p l e R s m args below meth c Q D A H0 nL k n N ad ct pc lv (.int y :: .int x :: st) := fun H locs ls w hl => lv_irem C.1.1 C.1.2.1 hd h0 (by rw [hp, hz]; exact kk H locs ls w hl)
theorem j_ineg (pc' : Nat) (C : Cx p s m args meth c cc own nL D tys A H0) {x z : Int32} (hd : decode cc pc = .ok (.ineg, 1)) (hp : pc + 1 = pc') (hz : -x = z) (kk : J p l e R s m args below meth c Q D A H0 nL k n N ad ct pc' lv (.int z :: st)) : J p l e R s m args below meth c Q D A H0 nL k n N ad ct pc lv (.int x :: st) := fun H locs ls w hl => lv_ineg C.1.1 C.1.2.1 hd (by rw [hp, hz]; exact kk H locs ls w hl)
theorem j_ishl (pc' : Nat) (C : Cx p s m args meth c cc own nL D tys A H0) {x y z : Int32} (hd : decode cc pc = .ok (.ishl, 1)) (hp : pc + 1 = pc') (hz : x <<< (y &&& 31) = z) (kk : J p l e R s m args below meth c Q D A H0 nL k n N ad ct pc' lv (.int z :: st)) : J p l e R s m args below meth c Q D A H0 nL k n N ad ct pc lv (.int y :: .int x :: st) := fun H locs ls w hl => lv_ishl C.1.1 C.1.2.1 hd (by rw [hp, hz]; exact kk H locs ls w hl)
theorem j_ishr (pc' : Nat) (C : Cx p s m args meth c cc own nL D tys A H0) {x y z : Int32} (hd : decode cc pc = .ok (.ishr, 1)) (hp : pc + 1 = pc') (hz : x >>> (y &&& 31) = z) (kk : J p l e R s m args below meth c Q D A H0 nL k n N ad ct pc' lv (.int z :: st)) : J p l e R s m args below meth c Q D A H0 nL k n N ad ct pc lv (.int y :: .int x :: st) := fun H locs ls w hl => lv_ishr C.1.1 C.1.2.1 hd (by rw [hp, hz]; exact kk H locs ls w hl)
theorem j_iushr (pc' : Nat) (C : Cx p s m args meth c cc own nL D tys A H0) {x y z : Int32} (hd : decode cc pc = .ok (.iushr, 1)) (hp : pc + 1 = pc') (hz : (x.toUInt32 >>> (y.toUInt32 &&& Int32.toUInt32 31)).toInt32 = z) (kk : J p l e R s m args below meth c Q D A H0 nL k n N ad ct pc' lv (.int z :: st)) : J p l e R s m args below meth c Q D A H0 nL k n N ad ct pc lv (.int y :: .int x :: st) := fun H locs ls w hl => lv_iushr C.1.1 C.1.2.1 hd hz (by rw [hp]; exact kk H locs ls w hl)
theorem j_dup (pc' : Nat) (C : Cx p s m args meth c cc own nL D tys A H0) {v : Value} (hd : decode cc pc = .ok (.dup, 1)) (hp : pc + 1 = pc') (hc : v.category = 1) (kk : J p l e R s m args below meth c Q D A H0 nL k n N ad ct pc' lv (v :: v :: st)) : J p l e R s m args below meth c Q D A H0 nL k n N ad ct pc lv (v :: st) := fun H locs ls w hl => lv_dup C.1.1 C.1.2.1 hd hc (hp ▸ kk H locs ls w hl)
theorem j_dup2 (pc' : Nat) (C : Cx p s m args meth c cc own nL D tys A H0) {v u : Value} (hd : decode cc pc = .ok (.dup2, 1)) (hp : pc + 1 = pc') (hc : v.category = 1) (hu : u.category = 1) (kk : J p l e R s m args below meth c Q D A H0 nL k n N ad ct pc' lv (v :: u :: v :: u :: st)) : J p l e R s m args below meth c Q D A H0 nL k n N ad ct pc lv (v :: u :: st) := fun H locs ls w hl => lv_dup2_11 C.1.1 C.1.2.1 hd hc hu (hp ▸ kk H locs ls w hl)
theorem j_null (pc' : Nat) (C : Cx p s m args meth c cc own nL D tys A H0) (hd : decode cc pc = .ok (.aconst_null, 1)) (hp : pc + 1 = pc') (kk : J p l e R s m args below meth c Q D A H0 nL k n N ad ct pc' lv (.null :: st)) : J p l e R s m args below meth c Q D A H0 nL k n N ad ct pc lv st := fun H locs ls w hl => lv_null C.1.1 C.1.2.1 hd (hp ▸ kk H locs ls w hl)
theorem j_goto (pc' : Nat) (C : Cx p s m args meth c cc own nL D tys A H0) {o : Int} (hd : decode cc pc = .ok (.goto o, 3)) (hp : (pc : Int) + o = (pc' : Int)) (kk : J p l e R s m args below meth c Q D A H0 nL k n N ad ct pc' lv st) : J p l e R s m args below meth c Q D A H0 nL k n N ad ct pc lv st := fun H locs ls w hl => lv_goto C.1.1 C.1.2.1 hd hp (kk H locs ls w hl)
theorem j_if_eq (pt pc' : Nat) (C : Cx p s m args meth c cc own nL D tys A H0) {o : Int} {x : Int32} (hd : decode cc pc = .ok (.ifCond .eq o, 3)) (ht : (pc : Int) + o = (pt : Int)) (hp : pc + 3 = pc') (kt : x = 0 → J p l e R s m args below meth c Q D A H0 nL k n N ad ct pt lv st) (kf : ¬ x = 0 → J p l e R s m args below meth c Q D A H0 nL k n N ad ct pc' lv st) : J p l e R s m args below meth c Q D A H0 nL k n N ad ct pc lv (.int x :: st) := fun H locs ls w hl => lv_if_eq C.1.1 C.1.2.1 hd ht (fun h => kt h H locs ls w hl) (fun h => hp ▸ kf h H locs ls w hl)
theorem j_ic_eq (pt pc' : Nat) (C : Cx p s m args meth c cc own nL D tys A H0) {o : Int} {x y : Int32} (hd : decode cc pc = .ok (.if_icmp .eq o, 3)) (ht : (pc : Int) + o = (pt : Int)) (hp : pc + 3 = pc') (kt : x = y → J p l e R s m args below meth c Q D A H0 nL k n N ad ct pt lv st) (kf : ¬ x = y → J p l e R s m args below meth c Q D A H0 nL k n N ad ct pc' lv st) : J p l e R s m args below meth c Q D A H0 nL k n N ad ct pc lv (.int y :: .int x :: st) := fun H locs ls w hl => lv_icmp_eq C.1.1 C.1.2.1 hd ht (fun h => kt h H locs ls w hl) (fun h => hp ▸ kf h H locs ls w hl)
theorem j_in_eq (pt pc' : Nat) (C : Cx p s m args meth c cc own nL D tys A H0) {o : Int} {x y : Nat} (hx : x < 2 ^ 31) (hy : y < 2 ^ 31) (hd : decode cc pc = .ok (.if_icmp .eq o, 3)) (ht : (pc : Int) + o = (pt : Int)) (hp : pc + 3 = pc') (kt : x = y → J p l e R s m args below meth c Q D A H0 nL k n N ad ct pt lv st) (kf : ¬ x = y → J p l e R s m args below meth c Q D A H0 nL k n N ad ct pc' lv st) : J p l e R s m args below meth c Q D A H0 nL k n N ad ct pc lv (.int (nI y) :: .int (nI x) :: st) := j_ic_eq pt pc' C hd ht hp (fun h => kt ((nI_eq hx hy).mp h)) (fun h => kf (fun q => h ((nI_eq hx hy).mpr q)))
theorem j_if_ne (pt pc' : Nat) (C : Cx p s m args meth c cc own nL D tys A H0) {o : Int} {x : Int32} (hd : decode cc pc = .ok (.ifCond .ne o, 3)) (ht : (pc : Int) + o = (pt : Int)) (hp : pc + 3 = pc') (kt : ¬ x = 0 → J p l e R s m args below meth c Q D A H0 nL k n N ad ct pt lv st) (kf : x = 0 → J p l e R s m args below meth c Q D A H0 nL k n N ad ct pc' lv st) : J p l e R s m args below meth c Q D A H0 nL k n N ad ct pc lv (.int x :: st) := fun H locs ls w hl => lv_if_ne C.1.1 C.1.2.1 hd ht (fun h => kt h H locs ls w hl) (fun h => hp ▸ kf h H locs ls w hl)
theorem j_ic_ne (pt pc' : Nat) (C : Cx p s m args meth c cc own nL D tys A H0) {o : Int} {x y : Int32} (hd : decode cc pc = .ok (.if_icmp .ne o, 3)) (ht : (pc : Int) + o = (pt : Int)) (hp : pc + 3 = pc') (kt : ¬ x = y → J p l e R s m args below meth c Q D A H0 nL k n N ad ct pt lv st) (kf : x = y → J p l e R s m args below meth c Q D A H0 nL k n N ad ct pc' lv st) : J p l e R s m args below meth c Q D A H0 nL k n N ad ct pc lv (.int y :: .int x :: st) := fun H locs ls w hl => lv_icmp_ne C.1.1 C.1.2.1 hd ht (fun h => kt h H locs ls w hl) (fun h => hp ▸ kf h H locs ls w hl)
theorem j_in_ne (pt pc' : Nat) (C : Cx p s m args meth c cc own nL D tys A H0) {o : Int} {x y : Nat} (hx : x < 2 ^ 31) (hy : y < 2 ^ 31) (hd : decode cc pc = .ok (.if_icmp .ne o, 3)) (ht : (pc : Int) + o = (pt : Int)) (hp : pc + 3 = pc') (kt : ¬ x = y → J p l e R s m args below meth c Q D A H0 nL k n N ad ct pt lv st) (kf : x = y → J p l e R s m args below meth c Q D A H0 nL k n N ad ct pc' lv st) : J p l e R s m args below meth c Q D A H0 nL k n N ad ct pc lv (.int (nI y) :: .int (nI x) :: st) := j_ic_ne pt pc' C hd ht hp (fun h => kt (((not_congr (nI_eq hx hy))).mp h)) (fun h => kf ((nI_eq hx hy).mp h))
theorem j_if_lt (pt pc' : Nat) (C : Cx p s m args meth c cc own nL D tys A H0) {o : Int} {x : Int32} (hd : decode cc pc = .ok (.ifCond .lt o, 3)) (ht : (pc : Int) + o = (pt : Int)) (hp : pc + 3 = pc') (kt : x < 0 → J p l e R s m args below meth c Q D A H0 nL k n N ad ct pt lv st) (kf : ¬ x < 0 → J p l e R s m args below meth c Q D A H0 nL k n N ad ct pc' lv st) : J p l e R s m args below meth c Q D A H0 nL k n N ad ct pc lv (.int x :: st) := fun H locs ls w hl => lv_if_lt C.1.1 C.1.2.1 hd ht (fun h => kt h H locs ls w hl) (fun h => hp ▸ kf h H locs ls w hl)
theorem j_ic_lt (pt pc' : Nat) (C : Cx p s m args meth c cc own nL D tys A H0) {o : Int} {x y : Int32} (hd : decode cc pc = .ok (.if_icmp .lt o, 3)) (ht : (pc : Int) + o = (pt : Int)) (hp : pc + 3 = pc') (kt : x < y → J p l e R s m args below meth c Q D A H0 nL k n N ad ct pt lv st) (kf : ¬ x < y → J p l e R s m args below meth c Q D A H0 nL k n N ad ct pc' lv st) : J p l e R s m args below meth c Q D A H0 nL k n N ad ct pc lv (.int y :: .int x :: st) := fun H locs ls w hl => lv_icmp_lt C.1.1 C.1.2.1 hd ht (fun h => kt h H locs ls w hl) (fun h => hp ▸ kf h H locs ls w hl)
theorem j_in_lt (pt pc' : Nat) (C : Cx p s m args meth c cc own nL D tys A H0) {o : Int} {x y : Nat} (hx : x < 2 ^ 31) (hy : y < 2 ^ 31) (hd : decode cc pc = .ok (.if_icmp .lt o, 3)) (ht : (pc : Int) + o = (pt : Int)) (hp : pc + 3 = pc') (kt : x < y → J p l e R s m args below meth c Q D A H0 nL k n N ad ct pt lv st) (kf : ¬ x < y → J p l e R s m args below meth c Q D A H0 nL k n N ad ct pc' lv st) : J p l e R s m args below meth c Q D A H0 nL k n N ad ct pc lv (.int (nI y) :: .int (nI x) :: st) := j_ic_lt pt pc' C hd ht hp (fun h => kt ((nI_ltI hx hy).mp h)) (fun h => kf (fun q => h ((nI_ltI hx hy).mpr q)))
theorem j_if_ge (pt pc' : Nat) (C : Cx p s m args meth c cc own nL D tys A H0) {o : Int} {x : Int32} (hd : decode cc pc = .ok (.ifCond .ge o, 3)) (ht : (pc : Int) + o = (pt : Int)) (hp : pc + 3 = pc') (kt : 0 ≤ x → J p l e R s m args below meth c Q D A H0 nL k n N ad ct pt lv st) (kf : ¬ 0 ≤ x → J p l e R s m args below meth c Q D A H0 nL k n N ad ct pc' lv st) : J p l e R s m args below meth c Q D A H0 nL k n N ad ct pc lv (.int x :: st) := fun H locs ls w hl => lv_if_ge C.1.1 C.1.2.1 hd ht (fun h => kt h H locs ls w hl) (fun h => hp ▸ kf h H locs ls w hl)
theorem j_ic_ge (pt pc' : Nat) (C : Cx p s m args meth c cc own nL D tys A H0) {o : Int} {x y : Int32} (hd : decode cc pc = .ok (.if_icmp .ge o, 3)) (ht : (pc : Int) + o = (pt : Int)) (hp : pc + 3 = pc') (kt : y ≤ x → J p l e R s m args below meth c Q D A H0 nL k n N ad ct pt lv st) (kf : ¬ y ≤ x → J p l e R s m args below meth c Q D A H0 nL k n N ad ct pc' lv st) : J p l e R s m args below meth c Q D A H0 nL k n N ad ct pc lv (.int y :: .int x :: st) := fun H locs ls w hl => lv_icmp_ge C.1.1 C.1.2.1 hd ht (fun h => kt h H locs ls w hl) (fun h => hp ▸ kf h H locs ls w hl)
theorem j_in_ge (pt pc' : Nat) (C : Cx p s m args meth c cc own nL D tys A H0) {o : Int} {x y : Nat} (hx : x < 2 ^ 31) (hy : y < 2 ^ 31) (hd : decode cc pc = .ok (.if_icmp .ge o, 3)) (ht : (pc : Int) + o = (pt : Int)) (hp : pc + 3 = pc') (kt : y ≤ x → J p l e R s m args below meth c Q D A H0 nL k n N ad ct pt lv st) (kf : ¬ y ≤ x → J p l e R s m args below meth c Q D A H0 nL k n N ad ct pc' lv st) : J p l e R s m args below meth c Q D A H0 nL k n N ad ct pc lv (.int (nI y) :: .int (nI x) :: st) := j_ic_ge pt pc' C hd ht hp (fun h => kt ((nI_leI hy hx).mp h)) (fun h => kf (fun q => h ((nI_leI hy hx).mpr q)))
theorem j_if_gt (pt pc' : Nat) (C : Cx p s m args meth c cc own nL D tys A H0) {o : Int} {x : Int32} (hd : decode cc pc = .ok (.ifCond .gt o, 3)) (ht : (pc : Int) + o = (pt : Int)) (hp : pc + 3 = pc') (kt : 0 < x → J p l e R s m args below meth c Q D A H0 nL k n N ad ct pt lv st) (kf : ¬ 0 < x → J p l e R s m args below meth c Q D A H0 nL k n N ad ct pc' lv st) : J p l e R s m args below meth c Q D A H0 nL k n N ad ct pc lv (.int x :: st) := fun H locs ls w hl => lv_if_gt C.1.1 C.1.2.1 hd ht (fun h => kt h H locs ls w hl) (fun h => hp ▸ kf h H locs ls w hl)
theorem j_ic_gt (pt pc' : Nat) (C : Cx p s m args meth c cc own nL D tys A H0) {o : Int} {x y : Int32} (hd : decode cc pc = .ok (.if_icmp .gt o, 3)) (ht : (pc : Int) + o = (pt : Int)) (hp : pc + 3 = pc') (kt : y < x → J p l e R s m args below meth c Q D A H0 nL k n N ad ct pt lv st) (kf : ¬ y < x → J p l e R s m args below meth c Q D A H0 nL k n N ad ct pc' lv st) : J p l e R s m args below meth c Q D A H0 nL k n N ad ct pc lv (.int y :: .int x :: st) := fun H locs ls w hl => lv_icmp_gt C.1.1 C.1.2.1 hd ht (fun h => kt h H locs ls w hl) (fun h => hp ▸ kf h H locs ls w hl)
theorem j_in_gt (pt pc' : Nat) (C : Cx p s m args meth c cc own nL D tys A H0) {o : Int} {x y : Nat} (hx : x < 2 ^ 31) (hy : y < 2 ^ 31) (hd : decode cc pc = .ok (.if_icmp .gt o, 3)) (ht : (pc : Int) + o = (pt : Int)) (hp : pc + 3 = pc') (kt : y < x → J p l e R s m args below meth c Q D A H0 nL k n N ad ct pt lv st) (kf : ¬ y < x → J p l e R s m args below meth c Q D A H0 nL k n N ad ct pc' lv st) : J p l e R s m args below meth c Q D A H0 nL k n N ad ct pc lv (.int (nI y) :: .int (nI x) :: st) := j_ic_gt pt pc' C hd ht hp (fun h => kt ((nI_ltI hy hx).mp h)) (fun h => kf (fun q => h ((nI_ltI hy hx).mpr q)))
theorem j_if_le (pt pc' : Nat) (C : Cx p s m args meth c cc own nL D tys A H0) {o : Int} {x : Int32} (hd : decode cc pc = .ok (.ifCond .le o, 3)) (ht : (pc : Int) + o = (pt : Int)) (hp : pc + 3 = pc') (kt : x ≤ 0 → J p l e R s m args below meth c Q D A H0 nL k n N ad ct pt lv st) (kf : ¬ x ≤ 0 → J p l e R s m args below meth c Q D A H0 nL k n N ad ct pc' lv st) : J p l e R s m args below meth c Q D A H0 nL k n N ad ct pc lv (.int x :: st) := fun H locs ls w hl => lv_if_le C.1.1 C.1.2.1 hd ht (fun h => kt h H locs ls w hl) (fun h => hp ▸ kf h H locs ls w hl)
theorem j_ic_le (pt pc' : Nat) (C : Cx p s m args meth c cc own nL D tys A H0) {o : Int} {x y : Int32} (hd : decode cc pc = .ok (.if_icmp .le o, 3)) (ht : (pc : Int) + o = (pt : Int)) (hp : pc + 3 = pc') (kt : x ≤ y → J p l e R s m args below meth c Q D A H0 nL k n N ad ct pt lv st) (kf : ¬ x ≤ y → J p l e R s m args below meth c Q D A H0 nL k n N ad ct pc' lv st) : J p l e R s m args below meth c Q D A H0 nL k n N ad ct pc lv (.int y :: .int x :: st) := fun H locs ls w hl => lv_icmp_le C.1.1 C.1.2.1 hd ht (fun h => kt h H locs ls w hl) (fun h => hp ▸ kf h H locs ls w hl)
theorem j_in_le (pt pc' : Nat) (C : Cx p s m args meth c cc own nL D tys A H0) {o : Int} {x y : Nat} (hx : x < 2 ^ 31) (hy : y < 2 ^ 31) (hd : decode cc pc = .ok (.if_icmp .le o, 3)) (ht : (pc : Int) + o = (pt : Int)) (hp : pc + 3 = pc') (kt : x ≤ y → J p l e R s m args below meth c Q D A H0 nL k n N ad ct pt lv st) (kf : ¬ x ≤ y → J p l e R s m args below meth c Q D A H0 nL k n N ad ct pc' lv st) : J p l e R s m args below meth c Q D A H0 nL k n N ad ct pc lv (.int (nI y) :: .int (nI x) :: st) := j_ic_le pt pc' C hd ht hp (fun h => kt ((nI_leI hx hy).mp h)) (fun h => kf (fun q => h ((nI_leI hx hy).mpr q)))
theorem j_ifnull (pt pc' : Nat) (C : Cx p s m args meth c cc own nL D tys A H0) {o : Int} {x : Option Nat} (hd : decode cc pc = .ok (.ifnull o, 3)) (ht : (pc : Int) + o = (pt : Int)) (hp : pc + 3 = pc') (kt : x = none → J p l e R s m args below meth c Q D A H0 nL k n N ad ct pt lv st) (kf : ∀ a, x = some a → J p l e R s m args below meth c Q D A H0 nL k n N ad ct pc' lv st) : J p l e R s m args below meth c Q D A H0 nL k n N ad ct pc lv (va_rf x :: st) := by
  intro H locs ls w hl
  cases x with
  | none => exact lv_ifnullN C.1.1 C.1.2.1 hd ht (kt rfl H locs ls w hl)
  | some a => exact lv_ifnull C.1.1 C.1.2.1 hd (hp ▸ kf a rfl H locs ls w hl)
theorem j_ifnonnull (pt pc' : Nat) (C : Cx p s m args meth c cc own nL D tys A H0) {o : Int} {x : Option Nat} (hd : decode cc pc = .ok (.ifnonnull o, 3)) (ht : (pc : Int) + o = (pt : Int)) (hp : pc + 3 = pc') (kt : ∀ a, x = some a → J p l e R s m args below meth c Q D A H0 nL k n N ad ct pt lv st) (kf : x = none → J p l e R s m args below meth c Q D A H0 nL k n N ad ct pc' lv st) : J p l e R s m args below meth c Q D A H0 nL k n N ad ct pc lv (va_rf x :: st) := by
  intro H locs ls w hl
  cases x with
  | none => exact lv_ifnonnullN C.1.1 C.1.2.1 hd (hp ▸ kf rfl H locs ls w hl)
  | some a => exact lv_ifnonnull C.1.1 C.1.2.1 hd ht (kt a rfl H locs ls w hl)
theorem j_swIn (pt : Nat) (C : Cx p s m args meth c cc own nL D tys A H0) {dflt lo hi : Int} {offs : Array Int} {len : Nat} {x : Int32} {off : Int} (hd : decode cc pc = .ok (.tableswitch dflt lo hi offs, len)) (h1 : ¬ x.toInt < lo) (h2 : ¬ hi < x.toInt) (ho : offs[(x.toInt - lo).toNat]? = some off) (ht : (pc : Int) + off = (pt : Int)) (kk : J p l e R s m args below meth c Q D A H0 nL k n N ad ct pt lv st) : J p l e R s m args below meth c Q D A H0 nL k n N ad ct pc lv (.int x :: st) := fun H locs ls w hl => lv_tableIn C.1.1 C.1.2.1 hd h1 h2 ho ht (kk H locs ls w hl)
theorem j_swOut (pt : Nat) (C : Cx p s m args meth c cc own nL D tys A H0) {dflt lo hi : Int} {offs : Array Int} {len : Nat} {x : Int32} (hd : decode cc pc = .ok (.tableswitch dflt lo hi offs, len)) (h : x.toInt < lo ∨ hi < x.toInt) (ht : (pc : Int) + dflt = (pt : Int)) (kk : J p l e R s m args below meth c Q D A H0 nL k n N ad ct pt lv st) : J p l e R s m args below meth c Q D A H0 nL k n N ad ct pc lv (.int x :: st) := fun H locs ls w hl => lv_tableOut C.1.1 C.1.2.1 hd h ht (kk H locs ls w hl)
/-- a field's words -/
def FL (own : String) (index ci i : Nat) (C : String) (T : u_T) (NN : Nat) : Prop := vwCl[ci]? = some (C, T, NN) ∧ (∀ w ∈ u_ws C T NN, w ∈ TG) ∧ i < NN ∧ Cond.fieldLink own index (T i).1 (T i).2.1 (T i).2.2.1 ∈ TG
def FP (C : String) (T : u_T) (NN : Nat) (ty : Nat → FieldType) : Prop := (∀ i, i < NN → parseFieldDescriptor (T i).2.2.1 = some (ty i)) ∧ (∀ a, a < NN → ∀ b, b < NN → a ≠ b → (T a).2.1 ≠ (T b).2.1)
theorem j_get (pc' : Nat) (C : Cx p s m args meth c cc own nL D tys A H0) {index ci i : Nat} {Cn : String} {T : u_T} {NN : Nat} (F : FL own index ci i Cn T NN) (hd : decode cc pc = .ok (.getfield index, 3)) (hp : pc + 3 = pc') (r : Nat) (hr : r < N) {a : Nat} (ha : ad r = a) {fs : List Value} (he : ct r = .inr (ci, fs)) {v : Value} (hv : fs[i]? = some v) (kk : J p l e R s m args below meth c Q D A H0 nL k n N ad ct pc' lv (v :: st)) : J p l e R s m args below meth c Q D A H0 nL k n N ad ct pc lv (.ref a :: st) := fun H locs ls w hl =>
  va_get C.1.1 C.1.2.1 C.1.2.2.2.2 F.2.1 C.1.2.2.2.1 C.2.1.1 w.1.1 r (ww_at hr ha he) F.1 i F.2.2.1 (C.1.2.2.2.2 _ F.2.2.2) (fun _ h => h) hv hd (hp ▸ kk H locs ls w hl)
theorem j_put (pc' : Nat) (C : Cx p s m args meth c cc own nL D tys A H0) {index ci i : Nat} {Cn : String} {T : u_T} {NN : Nat} {ty : Nat → FieldType} (F : FL own index ci i Cn T NN) (P : FP Cn T NN ty) (hfin : (T i).2.2.2 = false) (hd : decode cc pc = .ok (.putfield index, 3)) (hp : pc + 3 = pc') (r : Nat) (hr : r < N) {a : Nat} (ha : ad r = a) {fs : List Value} (he : ct r = .inr (ci, fs)) {v : Value} (hn : narrow (ty i) v = v) (hfit : fits (ty i) v = true) (hl0 : i < fs.length) (kk : J p l e R s m args below meth c Q D A H0 nL k n N ad (va_up ct r (.inr (ci, fs.set i v))) pc' lv st) : J p l e R s m args below meth c Q D A H0 nL k n N ad ct pc lv (v :: .ref a :: st) := fun H locs ls w hl =>
  va_put C.1.1 C.1.2.1 C.1.2.2.2.2 F.2.1 ty P.1 P.2 C.1.2.2.2.1 C.2.1.1 w.1.1 w.1.2 w.2 r (ww_at hr ha he) F.1 i F.2.2.1 (C.1.2.2.2.2 _ F.2.2.2) (fun _ h => h) hfin (P.1 i F.2.2.1) hn hfit hl0 hd (fun H1 locs1 a1 a2 a3 => by
    rw [ww_set hr ha] at a1 a2
    exact hp ▸ kk H1 locs1 ls ⟨⟨a1, a2⟩, a3⟩ hl)
theorem j_putF (pc' : Nat) (C : Cx p s m args meth c cc own nL D tys A H0) {index ci i : Nat} {Cn : String} {T : u_T} {NN : Nat} {ty : Nat → FieldType} (F : FL own index ci i Cn T NN) (P : FP Cn T NN ty) (hfin : (T i).2.2.2 = true) (hin : meth.name = "<init>") (hdecl : (T i).1 = own) (hd : decode cc pc = .ok (.putfield index, 3)) (hp : pc + 3 = pc') (r : Nat) (hr : r < N) {a : Nat} (ha : ad r = a) {fs : List Value} (he : ct r = .inr (ci, fs)) {v : Value} (hn : narrow (ty i) v = v) (hfit : fits (ty i) v = true) (hl0 : i < fs.length) (kk : J p l e R s m args below meth c Q D A H0 nL k n N ad (va_up ct r (.inr (ci, fs.set i v))) pc' lv st) : J p l e R s m args below meth c Q D A H0 nL k n N ad ct pc lv (v :: .ref a :: st) := fun H locs ls w hl =>
  va_putF C.1.1 C.1.2.1 C.1.2.2.2.2 F.2.1 ty P.1 P.2 C.1.2.2.2.1 C.2.1.1 w.1.1 w.1.2 w.2 r (ww_at hr ha he) F.1 i F.2.2.1 (C.1.2.2.2.2 _ F.2.2.2) (fun _ h => h) hfin hin hdecl (P.1 i F.2.2.1) hn hfit hl0 hd (fun H1 locs1 a1 a2 a3 => by
    rw [ww_set hr ha] at a1 a2
    exact hp ▸ kk H1 locs1 ls ⟨⟨a1, a2⟩, a3⟩ hl)
theorem j_iald (pc' : Nat) (C : Cx p s m args meth c cc own nL D tys A H0) (hd : decode cc pc = .ok (.iaload, 1)) (hp : pc + 1 = pc') (r : Nat) (hr : r < N) {a : Nat} (ha : ad r = a) {cA : ClassId} {z : Nat} {f : Nat → Int32} (he : ct r = .inl (cA, z, .inl f)) (t0 : Nat) (ht : tys[t0]? = some (cA, .int)) {i : Int32} (hin : vp_in i z) {j : Nat} (hj : i.toNatClampNeg = j) (kk : J p l e R s m args below meth c Q D A H0 nL k n N ad ct pc' lv (.int (f j) :: st)) : J p l e R s m args below meth c Q D A H0 nL k n N ad ct pc lv (.int i :: .ref a :: st) := fun H locs ls w hl =>
  va_iald C.1.1 C.1.2.1 C.2.1.1 w.1.1 r t0 (ww_at hr ha he) ht hin hd (by rw [hp, hj]; exact kk H locs ls w hl)
theorem j_zald (pc' : Nat) (C : Cx p s m args meth c cc own nL D tys A H0) (hd : decode cc pc = .ok (.baload, 1)) (hp : pc + 1 = pc') (r : Nat) (hr : r < N) {a : Nat} (ha : ad r = a) {cA : ClassId} {z : Nat} {f : Nat → Int32} (he : ct r = .inl (cA, z, .inl f)) (t0 : Nat) (ht : tys[t0]? = some (cA, .boolean)) {i : Int32} (hin : vp_in i z) {j : Nat} (hj : i.toNatClampNeg = j) (kk : J p l e R s m args below meth c Q D A H0 nL k n N ad ct pc' lv (.int (f j) :: st)) : J p l e R s m args below meth c Q D A H0 nL k n N ad ct pc lv (.int i :: .ref a :: st) := fun H locs ls w hl =>
  va_zald C.1.1 C.1.2.1 C.2.1.1 w.1.1 r t0 (ww_at hr ha he) ht hin hd (by rw [hp, hj]; exact kk H locs ls w hl)
theorem j_iast (pc' : Nat) (C : Cx p s m args meth c cc own nL D tys A H0) (hd : decode cc pc = .ok (.iastore, 1)) (hp : pc + 1 = pc') (r : Nat) (hr : r < N) {a : Nat} (ha : ad r = a) {cA : ClassId} {z : Nat} {f : Nat → Int32} (he : ct r = .inl (cA, z, .inl f)) (t0 : Nat) (ht : tys[t0]? = some (cA, .int)) {i x : Int32} (hin : vp_in i z) {j : Nat} (hj : i.toNatClampNeg = j) (kk : J p l e R s m args below meth c Q D A H0 nL k n N ad (va_up ct r (.inl (cA, z, .inl (upd f j x)))) pc' lv st) : J p l e R s m args below meth c Q D A H0 nL k n N ad ct pc lv (.int x :: .int i :: .ref a :: st) := fun H locs ls w hl =>
  va_iast C.1.1 C.1.2.1 C.2.1.1 w.1.1 w.1.2 w.2 r t0 (ww_at hr ha he) ht hin hd (fun H1 locs1 a1 a2 a3 => by
    rw [ww_set hr ha, hj] at a1 a2
    exact hp ▸ kk H1 locs1 ls ⟨⟨a1, a2⟩, a3⟩ hl)
theorem j_zast (pc' : Nat) (C : Cx p s m args meth c cc own nL D tys A H0) (hd : decode cc pc = .ok (.bastore, 1)) (hp : pc + 1 = pc') (r : Nat) (hr : r < N) {a : Nat} (ha : ad r = a) {cA : ClassId} {z : Nat} {f : Nat → Int32} (he : ct r = .inl (cA, z, .inl f)) (t0 : Nat) (ht : tys[t0]? = some (cA, .boolean)) {i x : Int32} (hin : vp_in i z) {j : Nat} (hj : i.toNatClampNeg = j) (hb : vp_nar .boolean x = x) (kk : J p l e R s m args below meth c Q D A H0 nL k n N ad (va_up ct r (.inl (cA, z, .inl (upd f j x)))) pc' lv st) : J p l e R s m args below meth c Q D A H0 nL k n N ad ct pc lv (.int x :: .int i :: .ref a :: st) := fun H locs ls w hl =>
  va_zast C.1.1 C.1.2.1 C.2.1.1 w.1.1 w.1.2 w.2 r t0 (ww_at hr ha he) ht hin hd (fun H1 locs1 a1 a2 a3 => by
    rw [ww_set hr ha, hj, hb] at a1 a2
    exact hp ▸ kk H1 locs1 ls ⟨⟨a1, a2⟩, a3⟩ hl)
theorem j_alen (pc' : Nat) (C : Cx p s m args meth c cc own nL D tys A H0) (hd : decode cc pc = .ok (.arraylength, 1)) (hp : pc + 1 = pc') (r : Nat) (hr : r < N) {a : Nat} (ha : ad r = a) {cA : ClassId} {x : vp_A} (he : ct r = .inl (cA, x)) (t0 : Nat) {ty : FieldType} (ht : tys[t0]? = some (cA, ty)) (kk : J p l e R s m args below meth c Q D A H0 nL k n N ad ct pc' lv (.int (nI x.1) :: st)) : J p l e R s m args below meth c Q D A H0 nL k n N ad ct pc lv (.ref a :: st) := fun H locs ls w hl =>
  va_alen C.1.1 C.1.2.1 C.2.1.1 w.1.1 r t0 (ww_at hr ha he) ht rfl hd (hp ▸ kk H locs ls w hl)
theorem j_aldq (pc' : Nat) (C : Cx p s m args meth c cc own nL D tys A H0) (hd : decode cc pc = .ok (.aaload, 1)) (hp : pc + 1 = pc') (r : Nat) (hr : r < N) {a : Nat} (ha : ad r = a) {cA : ClassId} {Cn : String} {z : Nat} {f : Nat → Option Nat} (he : ct r = .inl (cA, z, .inr (.inr (.inr (.inr f))))) (t0 : Nat) (ht : tys[t0]? = some (cA, .object Cn)) {i : Int32} (hin : vp_in i z) {j : Nat} (hj : i.toNatClampNeg = j) {v : Value} (hv : va_rf (f j) = v) (kk : J p l e R s m args below meth c Q D A H0 nL k n N ad ct pc' lv (v :: st)) : J p l e R s m args below meth c Q D A H0 nL k n N ad ct pc lv (.int i :: .ref a :: st) := fun H locs ls w hl =>
  va_aldq C.1.1 C.1.2.1 C.2.1.1 w.1.1 r t0 (ww_at hr ha he) ht hin hd (by rw [hp, hj, hv]; exact kk H locs ls w hl)
theorem j_astq (pc' : Nat) (C : Cx p s m args meth c cc own nL D tys A H0) (hd : decode cc pc = .ok (.aastore, 1)) (hp : pc + 1 = pc') (r : Nat) (hr : r < N) {a : Nat} (ha : ad r = a) {cA : ClassId} {z : Nat} {f : Nat → Option Nat} (he : ct r = .inl (cA, z, .inr (.inr (.inr (.inr f))))) (ci : Nat) {rc : vw_C} (hc : vwCl[ci]? = some rc) (t0 : Nat) (ht : tys[t0]? = some (cA, .object rc.1)) (rv : Nat) (hrv : rv < N) {v : Nat} (hav : ad rv = v) {vs : List Value} (hev : ct rv = .inr (ci, vs)) {i : Int32} (hin : vp_in i z) {j : Nat} (hj : i.toNatClampNeg = j) (kk : J p l e R s m args below meth c Q D A H0 nL k n N ad (va_up ct r (.inl (cA, z, .inr (.inr (.inr (.inr (va_up f j (some v)))))))) pc' lv st) : J p l e R s m args below meth c Q D A H0 nL k n N ad ct pc lv (.ref v :: .int i :: .ref a :: st) := fun H locs ls w hl =>
  va_astq C.1.1 C.1.2.1 C.2.1.1 w.1.1 w.1.2 w.2 r t0 rv ci (ww_at hr ha he) ht (ww_at hrv hav hev) hc hin hd (fun H1 locs1 a1 a2 a3 => by
    rw [ww_set hr ha, hj] at a1 a2
    exact hp ▸ kk H1 locs1 ls ⟨⟨a1, a2⟩, a3⟩ hl)
theorem j_astqN (pc' : Nat) (C : Cx p s m args meth c cc own nL D tys A H0) (hd : decode cc pc = .ok (.aastore, 1)) (hp : pc + 1 = pc') (r : Nat) (hr : r < N) {a : Nat} (ha : ad r = a) {cA : ClassId} {Cn : String} {z : Nat} {f : Nat → Option Nat} (he : ct r = .inl (cA, z, .inr (.inr (.inr (.inr f))))) (t0 : Nat) (ht : tys[t0]? = some (cA, .object Cn)) {i : Int32} (hin : vp_in i z) {j : Nat} (hj : i.toNatClampNeg = j) (kk : J p l e R s m args below meth c Q D A H0 nL k n N ad (va_up ct r (.inl (cA, z, .inr (.inr (.inr (.inr (va_up f j none))))))) pc' lv st) : J p l e R s m args below meth c Q D A H0 nL k n N ad ct pc lv (.null :: .int i :: .ref a :: st) := fun H locs ls w hl =>
  va_astqN C.1.1 C.1.2.1 C.2.1.1 w.1.1 w.1.2 w.2 r t0 (ww_at hr ha he) ht hin hd (fun H1 locs1 a1 a2 a3 => by
    rw [ww_set hr ha, hj] at a1 a2
    exact hp ▸ kk H1 locs1 ls ⟨⟨a1, a2⟩, a3⟩ hl)
/-- behind a call -/
theorem j_run (C : Cx p s m args meth c cc own nL D tys A H0) {B : Option Value → Nat → (Nat → Nat) → (Nat → va_E) → Prop} {mc ms pc' : Nat} {av : Array Value} {st0 : List Value} (hp : pc + 3 = pc')
    (hrun : ∀ (H : Heap) (locs : List Loc) (ls : Array Slot), WD D A H0 N ad ct H locs → lv_has ls nL lv → va_Run p l e R s m args below meth c H locs k n mc ms (F0 m pc ls st0) st (QC D (wA N ad H.size) B av) (wA N ad H.size))
    (kk : ∀ v N' ad' ct', B v N' ad' ct' → J p l e R s m args below meth c Q D A H0 nL (k + mc) (n + ms) N' ad' ct' pc' lv (v.toList ++ st)) : J p l e R s m args below meth c Q D A H0 nL k n N ad ct pc lv st0 := by
  intro H locs ls w hl T hT X
  have hA := wA_of C.2.2.1 w
  obtain ⟨v, st₀, t, T', L, h0, X', hL, e1, e2, ⟨⟨v', N', ad', ct', hv, hB, hP, hD⟩, hz, hk⟩, st'⟩ := hrun H locs ls w hl T hT X
  cases hv
  rw [h0] at hz hk
  have wd : WD D A H0 N' ad' ct' T'.heap (locs ++ L) := by
    refine ⟨⟨by rw [e1]; exact hP, hD.weaken (fun _ _ _ h => hA _ h)⟩, Nat.le_trans w.2.1 (by rw [e1]; exact hz), fun q h1 h2 => ?_, fun q hq => ?_⟩
    · rw [e1, hk q (Nat.lt_of_lt_of_le h1 w.2.1) (fun z => h2 (hA q z))]
      exact w.2.2.1 q h1 h2
    · rcases List.mem_append.mp hq with h | h
      · exact w.2.2.2 q h
      · exact hA _ (hL q h)
  obtain ⟨t2, a1, b1⟩ := kk _ N' ad' ct' hB T'.heap (locs ++ L) ls wd hl T' rfl X'
  subst hp
  exact ⟨t2, st' t2 a1, b1⟩
theorem MPre_in {H : Heap} {locs : List Loc} (C : Cx p s m args meth c cc own nL D tys A H0) (w : WD D A H0 N ad ct H locs) {av : List Value} : ∀ U : State, U.heap = H → s.WarmedH U.vm → MPre D tys N ad ct H.size av av.toArray U := fun U hU hW => ⟨rfl, by rw [hU], C.2.1.warm hW, by rw [hU]; exact w.1.1, w.1.2.weaken (fun _ _ _ _ => trivial)⟩
/-- a virtual call's words -/
def CV (own : String) (index : Nat) (y : MethodName) (b : ByteArray) (nL2 : Nat) (ret : Option FieldType) (na : Nat) : Prop := Cond.methodLink own index y ∈ TG ∧ Cond.instanceMethod y ∈ TG ∧ Cond.selects y.cls y y ∈ TG ∧ Cond.initialized y.cls ∈ TG ∧ Cond.code y b nL2 ret ∈ TG ∧ (y.cls ≠ "java/lang/invoke/MethodHandle" ∧ y.cls ≠ "java/lang/invoke/VarHandle" ∧ (parseMethodDescriptor y.desc).map (fun d => d.parameters.length) = some na)
def RM (R rm : Room) (nL2 k n : Nat) : Prop := (rm.frames + 1 ≤ R.frames ∧ 8 + (nL2 + 11) + rm.locals ≤ R.locals) ∧ (k + rm.cells ≤ R.cells ∧ n + rm.slots ≤ R.slots)
theorem j_callV (pc' : Nat) (C : Cx p s m args meth c cc own nL D tys A H0) {index : Nat} {y : MethodName} {b : ByteArray} {nL2 na : Nat} {ret : Option FieldType} {rm : Room} {B : Option Value → Nat → (Nat → Nat) → (Nat → va_E) → Prop} {As : List Value} {a : Nat} {st0 : List Value} (cv : CV own index y b nL2 ret na) (hM : MC l y b nL2 ret rm D tys N ad ct (.ref a :: As) B) (hd : decode cc pc = .ok (.invokevirtual index, 3)) (hp : pc + 3 = pc') (r ci : Nat) (hr : r < N) (ha : ad r = a) {fs : List Value} (he : ct r = .inr (ci, fs)) {rc : vw_C} (hc : vwCl[ci]? = some rc) (hy : rc.1 = y.cls) (hna : As.length = na) (hst : st0 = As.reverse ++ .ref a :: st) (hR : RM R rm nL2 k n) (hcat : (st.map fun v => v.category).sum ≤ 8)
    (kk : ∀ v N' ad' ct', B v N' ad' ct' → J p l e R s m args below meth c Q D A H0 nL (k + rm.cells) (n + rm.slots) N' ad' ct' pc' lv (v.toList ++ st)) : J p l e R s m args below meth c Q D A H0 nL k n N ad ct pc lv st0 := by
  refine j_run C (av := (Value.ref a :: As).toArray) hp (fun H locs ls w hl => ?_) kk
  have hts := C.1.2.2.2.2
  refine va_runV (As := As) (rest := st) C.1 (hM H.size) (C := y.cls) (n := na) ⟨callB_of na hts (good_TG cv.2.2.2.2.1) rfl rfl rfl (hts _ cv.2.2.2.1) (hts _ cv.1) cv.2.2.2.2.2 hR.1, hts _ cv.2.1, hts _ cv.2.2.1⟩ ⟨MPre_blind, ?_, MPre_in C w⟩ rfl hna hl.1 hst (lv_room hcat) hd hR.2
  have h := va_recv C.2.1.1 w.1.1 hc (ww_at hr ha he)
  rw [hy] at h
  exact h
/-- a static call's words -/
def CS (own : String) (index : Nat) (y : MethodName) (b : ByteArray) (nL2 : Nat) (ret : Option FieldType) (na : Nat) : Prop := Cond.methodLink own index y ∈ TG ∧ Cond.static y ∈ TG ∧ Cond.initialized y.cls ∈ TG ∧ Cond.code y b nL2 ret ∈ TG ∧ (y.cls ≠ "java/lang/invoke/MethodHandle" ∧ y.cls ≠ "java/lang/invoke/VarHandle" ∧ (parseMethodDescriptor y.desc).map (fun d => d.parameters.length) = some na)
theorem j_callS (pc' : Nat) (C : Cx p s m args meth c cc own nL D tys A H0) {index : Nat} {y : MethodName} {b : ByteArray} {nL2 na : Nat} {ret : Option FieldType} {rm : Room} {B : Option Value → Nat → (Nat → Nat) → (Nat → va_E) → Prop} {As : List Value} {st0 : List Value} (cv : CS own index y b nL2 ret na) (hM : MC l y b nL2 ret rm D tys N ad ct As B) (hd : decode cc pc = .ok (.invokestatic index, 3)) (hp : pc + 3 = pc') (hna : As.length = na) (hst : st0 = As.reverse ++ st) (hR : RM R rm nL2 k n) (hcat : (st.map fun v => v.category).sum ≤ 8)
    (kk : ∀ v N' ad' ct', B v N' ad' ct' → J p l e R s m args below meth c Q D A H0 nL (k + rm.cells) (n + rm.slots) N' ad' ct' pc' lv (v.toList ++ st)) : J p l e R s m args below meth c Q D A H0 nL k n N ad ct pc lv st0 := by
  refine j_run C (av := As.toArray) hp (fun H locs ls w hl => ?_) kk
  have hts := C.1.2.2.2.2
  exact va_runS (As := As) (rest := st) C.1 (hM H.size) (n := na) ⟨callB_of na hts (good_TG cv.2.2.2.1) rfl rfl rfl (hts _ cv.2.2.1) (hts _ cv.1) cv.2.2.2.2 hR.1, hts _ cv.2.1⟩ ⟨MPre_blind, MPre_in C w⟩ rfl hna hl.1 hst (lv_room hcat) hd hR.2
/-- a constructor call's words -/
def CI (own : String) (index : Nat) (y : MethodName) (b : ByteArray) (nL2 : Nat) (na : Nat) : Prop := Cond.methodLink own index y ∈ TG ∧ Cond.instanceMethod y ∈ TG ∧ Cond.initialized y.cls ∈ TG ∧ Cond.code y b nL2 none ∈ TG ∧ y.name = "<init>" ∧ (y.cls ≠ "java/lang/invoke/MethodHandle" ∧ y.cls ≠ "java/lang/invoke/VarHandle" ∧ (parseMethodDescriptor y.desc).map (fun d => d.parameters.length) = some na)
theorem j_callI (pc' : Nat) (C : Cx p s m args meth c cc own nL D tys A H0) {index : Nat} {y : MethodName} {b : ByteArray} {nL2 na : Nat} {rm : Room} {B : Option Value → Nat → (Nat → Nat) → (Nat → va_E) → Prop} {As : List Value} {a : Nat} {st0 : List Value} (cv : CI own index y b nL2 na) (hM : MC l y b nL2 none rm D tys N ad ct (.ref a :: As) B) (hd : decode cc pc = .ok (.invokespecial index, 3)) (hp : pc + 3 = pc') (hna : As.length = na) (hst : st0 = As.reverse ++ .ref a :: st) (hR : RM R rm nL2 k n) (hcat : (st.map fun v => v.category).sum ≤ 8)
    (kk : ∀ v N' ad' ct', B v N' ad' ct' → J p l e R s m args below meth c Q D A H0 nL (k + rm.cells) (n + rm.slots) N' ad' ct' pc' lv (v.toList ++ st)) : J p l e R s m args below meth c Q D A H0 nL k n N ad ct pc lv st0 := by
  refine j_run C (av := (Value.ref a :: As).toArray) hp (fun H locs ls w hl => ?_) kk
  have hts := C.1.2.2.2.2
  exact va_runI (As := As) (rest := st) C.1 (hM H.size) (n := na) ⟨callB_of na hts (good_TG cv.2.2.2.1) rfl rfl rfl (hts _ cv.2.2.1) (hts _ cv.1) cv.2.2.2.2.2 hR.1, cv.2.2.2.2.1, hts _ cv.2.1⟩ ⟨MPre_blind, MPre_in C w⟩ rfl hna hl.1 hst (lv_room hcat) hd hR.2
theorem j_callIN (pc' : Nat) (C : Cx p s m args meth c cc RX5 nL D tys A H0) {b : ByteArray} {nL2 na : Nat} {rm : Room} {B : Option Value → Nat → (Nat → Nat) → (Nat → va_E) → Prop} {As : List Value} {a : Nat} {st0 : List Value} (cv : Cond.instanceMethod yX4_init ∈ TG ∧ Cond.initialized yX4_init.cls ∈ TG ∧ Cond.code yX4_init b nL2 none ∈ TG ∧ yX4_init.name = "<init>" ∧ (yX4_init.cls ≠ "java/lang/invoke/MethodHandle" ∧ yX4_init.cls ≠ "java/lang/invoke/VarHandle" ∧ (parseMethodDescriptor yX4_init.desc).map (fun d => d.parameters.length) = some na)) (hM : MC l yX4_init b nL2 none rm D tys N ad ct (.ref a :: As) B) (hd : decode cc pc = .ok (.invokespecial 29, 3)) (hp : pc + 3 = pc') (hna : As.length = na) (hst : st0 = As.reverse ++ .ref a :: st) (hR : RM R rm nL2 k n) (hcat : (st.map fun v => v.category).sum ≤ 8)
    (kk : ∀ v N' ad' ct', B v N' ad' ct' → J p l e R s m args below meth c Q D A H0 nL (k + rm.cells) (n + rm.slots) N' ad' ct' pc' lv (v.toList ++ st)) : J p l e R s m args below meth c Q D A H0 nL k n N ad ct pc lv st0 := by
  refine j_run C (av := (Value.ref a :: As).toArray) hp (fun H locs ls w hl => ?_) kk
  have hts := C.1.2.2.2.2
  exact va_runIN (As := As) (rest := st) C.1 (hM H.size) (n := na) ⟨va_cnB na hts (good_TG cv.2.2.1) rfl rfl rfl C.2.1.2.2.2 (hts _ cv.2.1) cv.2.2.2.2 hR.1, cv.2.2.2.1, hts _ cv.1⟩ ⟨MPre_blind, MPre_in C w⟩ rfl hna hl.1 hst (lv_room hcat) hd hR.2
theorem j_objInit (pc' : Nat) (C : Cx p s m args meth c cc own nL D tys A H0) {index : Nat} {a : Nat} (hw : Cond.methodLink own index objectInit ∈ TG) (hd : decode cc pc = .ok (.invokespecial index, 3)) (hp : pc + 3 = pc') (hR : 1 ≤ R.frames) (hR2 : (st.map fun v => v.category).sum + 12 ≤ R.locals) (kk : J p l e R s m args below meth c Q D A H0 nL k n N ad ct pc' lv st) : J p l e R s m args below meth c Q D A H0 nL k n N ad ct pc lv (.ref a :: st) := by
  intro H locs ls w hl
  have hts := C.1.2.2.2.2
  exact W.objInit C.1.1 C.1.2.1 C.1.2.2.2.1 (hts _ hw) (hts _ wi_objinit) (hts _ wc_objinit) rfl (by rw [C.1.2.2.1]; exact hl.1) rfl hd hR (by show 2 * 0 + _ + 12 ≤ _; omega) (hp ▸ kk H locs ls w hl)
theorem j_mmax (pc' : Nat) (C : Cx p s m args meth c cc own nL D tys A H0) {index : Nat} (hw : Cond.methodLink own index Lib.Math.max.name ∈ TG) {x y : Int32} {z : Int32} (hz : (if x < y then y else x) = z) (hd : decode cc pc = .ok (.invokestatic index, 3)) (hp : pc + 3 = pc') (hR : 1 ≤ R.frames) (hR2 : (st.map fun v => v.category).sum + 13 ≤ R.locals) (hk : k ≤ R.cells) (hn : n ≤ R.slots) (kk : J p l e R s m args below meth c Q D A H0 nL k n N ad ct pc' lv (.int z :: st)) : J p l e R s m args below meth c Q D A H0 nL k n N ad ct pc lv (.int y :: .int x :: st) := by
  intro H locs ls w hl
  have hts := C.1.2.2.2.2
  exact va_mmax C.1.1 C.1.2.1 (by rw [C.1.2.2.1]; exact hl.1.symm) C.1.2.2.2.1 (hts _ hw) (hts _ ws_Math_max) (hts _ wI_Math) (hts _ wc_Math_max) hR hR2 hk hn hd (by rw [hp, hz]; exact kk H locs ls w hl)
theorem j_mmin (pc' : Nat) (C : Cx p s m args meth c cc own nL D tys A H0) {index : Nat} (hw : Cond.methodLink own index Lib.Math.min.name ∈ TG) {x y : Int32} {z : Int32} (hz : (if y < x then y else x) = z) (hd : decode cc pc = .ok (.invokestatic index, 3)) (hp : pc + 3 = pc') (hR : 1 ≤ R.frames) (hR2 : (st.map fun v => v.category).sum + 13 ≤ R.locals) (hk : k ≤ R.cells) (hn : n ≤ R.slots) (kk : J p l e R s m args below meth c Q D A H0 nL k n N ad ct pc' lv (.int z :: st)) : J p l e R s m args below meth c Q D A H0 nL k n N ad ct pc lv (.int y :: .int x :: st) := by
  intro H locs ls w hl
  have hts := C.1.2.2.2.2
  exact va_mmin C.1.1 C.1.2.1 (by rw [C.1.2.2.1]; exact hl.1.symm) C.1.2.2.2.1 (hts _ hw) (hts _ ws_Math_min) (hts _ wI_Math) (hts _ wc_Math_min) hR hR2 hk hn hd (by rw [hp, hz]; exact kk H locs ls w hl)
theorem j_mabs (pc' : Nat) (C : Cx p s m args meth c cc own nL D tys A H0) {index : Nat} (hw : Cond.methodLink own index Lib.Math.abs.name ∈ TG) {x : Int32} {z : Int32} (hz : (if 0 ≤ x then x else 0 - x) = z) (hd : decode cc pc = .ok (.invokestatic index, 3)) (hp : pc + 3 = pc') (hR : 1 ≤ R.frames) (hR2 : (st.map fun v => v.category).sum + 13 ≤ R.locals) (hk : k ≤ R.cells) (hn : n ≤ R.slots) (kk : J p l e R s m args below meth c Q D A H0 nL k n N ad ct pc' lv (.int z :: st)) : J p l e R s m args below meth c Q D A H0 nL k n N ad ct pc lv (.int x :: st) := by
  intro H locs ls w hl
  have hts := C.1.2.2.2.2
  exact va_mabs C.1.1 C.1.2.1 (by rw [C.1.2.2.1]; exact hl.1.symm) C.1.2.2.2.1 (hts _ hw) (hts _ ws_Math_abs) (hts _ wI_Math) (hts _ wc_Math_abs) hR hR2 hk hn hd (by rw [hp, hz]; exact kk H locs ls w hl)
theorem j_copyi (pc' : Nat) (C : Cx p s m args meth c cc own nL D tys A H0) {index : Nat} (hw : Cond.methodLink own index arraycopyName ∈ TG) (hd : decode cc pc = .ok (.invokestatic index, 3)) (hp : pc + 3 = pc') (r r2 : Nat) (hr : r < N) (hr2 : r2 < N) {a a2 : Nat} (ha : ad r = a) (ha2 : ad r2 = a2) {cA : ClassId} {z z2 : Nat} {f g : Nat → Int32} (he : ct r = .inl (cA, z, .inl f)) (he2 : ct r2 = .inl (cA, z2, .inl g)) (t0 : Nat) (ht : tys[t0]? = some (cA, .int)) {w : Nat} (hw31 : w < 2 ^ 31) (h4 : w ≤ z) (h5 : w ≤ z2) (hR : 1 ≤ R.frames) (hR2 : (st.map fun v => v.category).sum + (nativeFrameWords "java/lang/System" "arraycopy" 5 + 11) ≤ R.locals)
    (kk : J p l e R s m args below meth c Q D A H0 nL k n N ad (va_up ct r2 (.inl (cA, z2, .inl (va_cpy f g 0 0 w)))) pc' lv st) : J p l e R s m args below meth c Q D A H0 nL k n N ad ct pc lv (.int (nI w) :: .int (nI 0) :: .ref a2 :: .int (nI 0) :: .ref a :: st) := by
  intro H locs ls wd hl
  have hts := C.1.2.2.2.2
  have e0 : (nI 0).toNatClampNeg = 0 := by decide
  refine va_copyi C.1.1 C.1.2.1 (by rw [C.1.2.2.1]; exact hl.1.symm) C.1.2.2.2.1 (hts _ hw) (hts _ wnat_arraycopy) (hts _ ws_arraycopy) (hts _ wI_System) C.2.1.1 wd.1.1 wd.1.2 wd.2 r r2 t0 t0 (ww_at hr ha he) (ww_at hr2 ha2 he2) ht ht rfl (by decide) (by decide) (nI_pos hw31) (by rw [e0, nI_clamp hw31]; omega) (by rw [e0, nI_clamp hw31]; omega) (fun i _ => rfl) hR hR2 hd (fun H1 locs1 a1 a2' a3 => ?_)
  rw [ww_set hr2 ha2, e0, nI_clamp hw31] at a1 a2'
  exact hp ▸ kk H1 locs1 ls ⟨⟨a1, a2'⟩, a3⟩ hl
theorem j_new (pc' : Nat) (C : Cx p s m args meth c cc own nL D tys A H0) {index ci : Nat} {Cn : String} {T : u_T} {NN : Nat} {ty : Nat → FieldType} (hc : vwCl[ci]? = some (Cn, T, NN)) (hin : ∀ w ∈ u_ws Cn T NN, w ∈ TG) (P : FP Cn T NN ty) (h1 : Cond.classLink own index Cn ∈ TG) (h2 : Cond.instantiable Cn NN ∈ TG) (h3 : Cond.initialized Cn ∈ TG) (fs : List Value) (hfs : ∀ j, j < NN → defaultValue (ty j) = vp_V fs j) (hd : decode cc pc = .ok (.new index, 3)) (hp : pc + 3 = pc') (hR : k + 1 ≤ R.cells) (hR2 : n + NN ≤ R.slots)
    (kk : ∀ a : Nat, J p l e R s m args below meth c Q D A H0 nL (k + 1) (n + NN) (N + 1) (va_up ad N a) (va_up ct N (.inr (ci, fs))) pc' lv (.ref a :: st)) : J p l e R s m args below meth c Q D A H0 nL k n N ad ct pc lv st := by
  intro H locs ls w hl
  have hts := C.1.2.2.2.2
  refine va_new C.1.1 C.1.2.1 hts hin ty P.1 C.1.2.2.2.1 (hts _ h1) (hts _ h2) (hts _ h3) C.2.1.1 w.1.1 w.1.2 w.2 C.2.2.1 hc hfs hR hR2 hd (fun q H1 a1 a2 a3 => ?_)
  rw [ww_push] at a1 a2
  exact hp ▸ kk q H1 locs ls ⟨⟨a1, a2⟩, a3⟩ hl
theorem RA_uniq {U : State} {c1 c2 : ClassId} {t : FieldType} (h1 : va_RA U c1 t) (h2 : va_RA U c2 t) : c1 = c2 := by
  cases t with
  | object C0 =>
    obtain ⟨_, _, _, _, _, x1⟩ := h1
    obtain ⟨_, _, _, _, _, x2⟩ := h2
    exact Option.some.inj (x1.symm.trans x2)
  | _ => exact Option.some.inj (h1.symm.trans h2)
theorem j_newa (pc' : Nat) (C : Cx p s m args meth c cc own nL D tys A H0) {atype : ArrayType} {ty : FieldType} (hty : newarray.typeOf atype = ty) (harr : Cond.arrayClass ty ∈ TG) (t0 : Nat) {cA : ClassId} (ht : tys[t0]? = some (cA, ty)) {z : Nat} {x : Int32} (hx : x = nI z) (a0 : vp_A) (ha0 : ∀ cA : ClassId, vp_cell cA a0 = arrV cA z (fun _ => defaultValue ty)) (hz : z < 2 ^ 31) (hby : z * componentBytes ty ≤ 536870912) (hd : decode cc pc = .ok (.newarray atype, 2)) (hp : pc + 2 = pc') (hR : k + 1 ≤ R.cells) (hR2 : n + z ≤ R.slots)
    (kk : ∀ a : Nat, J p l e R s m args below meth c Q D A H0 nL (k + 1) (n + z) (N + 1) (va_up ad N a) (va_up ct N (.inl (cA, a0))) pc' lv (.ref a :: st)) : J p l e R s m args below meth c Q D A H0 nL k n N ad ct pc lv (.int x :: st) := by
  intro H locs ls w hl
  have hts := C.1.2.2.2.2
  subst hx
  refine va_newa C.1.1 C.1.2.1 (atype := atype) (by rw [hty]; exact hts _ harr) hty C.2.1.1 w.1.1 w.1.2 w.2 C.2.2.1 ha0 (nI_pos hz) (nI_clamp hz) hby hR hR2 hd (fun q cB H1 hK2 a1 a2 a3 => ?_)
  have e1 := (hK2.2 tys.length (cB, ty) (by simp)).2
  have e2 := (C.2.1.1.2 t0 _ ht).2
  have e3 : cB = cA := RA_uniq e1 e2
  subst e3
  rw [ww_push] at a1 a2
  exact hp ▸ kk q H1 locs ls ⟨⟨a1, a2⟩, a3⟩ hl
theorem j_newq (pc' : Nat) (C : Cx p s m args meth c cc own nL D tys A H0) {index : Nat} {Cn : String} (h1 : Cond.classLink own index Cn ∈ TG) (hover : va_AO Cn s) (t0 : Nat) {cA : ClassId} (ht : tys[t0]? = some (cA, .object Cn)) {z : Nat} {x : Int32} (hx : x = nI z) (hz : z < 2 ^ 31) (hby : z * 4 ≤ 536870912) (hd : decode cc pc = .ok (.anewarray index, 3)) (hp : pc + 3 = pc') (hR : k + 1 ≤ R.cells) (hR2 : n + z ≤ R.slots)
    (kk : ∀ a : Nat, J p l e R s m args below meth c Q D A H0 nL (k + 1) (n + z) (N + 1) (va_up ad N a) (va_up ct N (.inl (cA, z, .inr (.inr (.inr (.inr (fun _ => none))))))) pc' lv (.ref a :: st)) : J p l e R s m args below meth c Q D A H0 nL k n N ad ct pc lv (.int x :: st) := by
  intro H locs ls w hl
  have hts := C.1.2.2.2.2
  subst hx
  refine va_newq C.1.1 C.1.2.1 C.1.2.2.2.1 (hts _ h1) hover C.2.1.1 w.1.1 w.1.2 w.2 C.2.2.1 (nI_pos hz) (nI_clamp hz) hby hR hR2 hd (fun q cB H1 hK2 a1 a2 a3 => ?_)
  have e1 := (hK2.2 tys.length (cB, .object Cn) (by simp)).2
  have e2 := (C.2.1.1.2 t0 _ ht).2
  have e3 : cB = cA := RA_uniq e1 e2
  subst e3
  rw [ww_push] at a1 a2
  exact hp ▸ kk q H1 locs ls ⟨⟨a1, a2⟩, a3⟩ hl
theorem QC_in {B : Option Value → Nat → (Nat → Nat) → (Nat → va_E) → Prop} {H : Heap} {locs : List Loc} {a : Array Value} {v : Option Value} {t : State} (w : WD D A s.heap N ad ct H locs) (ht : t.heap = H) (hB : B v N ad ct) : QC D A B a s (.returned v) t := ⟨⟨v, N, ad, ct, rfl, hB, by rw [ht]; exact w.1⟩, w.2.F ht⟩
theorem j_retI (C : Cx p s m args meth c cc own nL D tys A H0) {nm : String} {B : Option Value → Nat → (Nat → Nat) → (Nat → va_E) → Prop} {ty : FieldType} (X : RX s args below meth Q D A H0 k n (some ty) nm B) {x : Int32} (hd : decode cc pc = .ok (.ireturn, 1)) (hn : narrow ty (.int x) = .int x) (hB : B (some (.int x)) N ad ct) : J p l e R s m args below meth c Q D A H0 nL k n N ad ct pc lv [.int x] := by
  obtain ⟨rfl, rfl, hr, -⟩ := X
  exact fun H locs ls w hl => W.zret C.1.1 C.1.2.1 hr hn (fun t ht _ => QC_in w ht hB) w.2.2.2 hd C.2.2.2
theorem j_retV (C : Cx p s m args meth c cc own nL D tys A H0) {nm : String} {B : Option Value → Nat → (Nat → Nat) → (Nat → va_E) → Prop} (X : RX s args below meth Q D A H0 k n none nm B) (hd : decode cc pc = .ok (.return_, 1)) (hB : B none N ad ct) : J p l e R s m args below meth c Q D A H0 nL k n N ad ct pc lv [] := by
  obtain ⟨rfl, rfl, hr, -⟩ := X
  exact fun H locs ls w hl => W.vret C.1.1 C.1.2.1 hr (fun t ht _ => QC_in w ht hB) w.2.2.2 hd C.2.2.2
theorem j_retA (C : Cx p s m args meth c cc own nL D tys A H0) {nm : String} {B : Option Value → Nat → (Nat → Nat) → (Nat → va_E) → Prop} {rt : FieldType} (X : RX s args below meth Q D A H0 k n (some rt) nm B) (hrt : (∃ n, rt = .object n) ∨ ∃ t, rt = .array t) {v : Value} (hv : v = .null ∨ ∃ a, v = .ref a) (hd : decode cc pc = .ok (.areturn, 1)) (hB : B (some v) N ad ct) : J p l e R s m args below meth c Q D A H0 nL k n N ad ct pc lv [v] := by
  obtain ⟨rfl, rfl, hr, -⟩ := X
  exact fun H locs ls w hl => W.aret C.1.1 C.1.2.1 hr hrt hv (fun t ht _ => QC_in w ht hB) w.2.2.2 hd C.2.2.2
end JR
/-- a contract out of a walk of the body -/
theorem MC.of {l : Launch} {y : MethodName} {b : ByteArray} {nL : Nat} {ret : Option FieldType} {rm : Room} {D : va_G} {tys : List (ClassId × FieldType)} {N : Nat} {ad : Nat → Nat} {ct : Nat → va_E} {av : List Value} {B : Option Value → Nat → (Nat → Nat) → (Nat → va_E) → Prop} (hy : plainName y.cls = true) (hlen : (lg_sl av).length ≤ nL)
    (body : ∀ (p : Program) (e : Env) (s : State) (m : MethodId) (args : Array Value) (below : List Frame) (meth : Method) (c : Code) (Q : State → Prop) (A : Nat → Prop) (H0 : Heap), Cx p s m args meth c b y.cls nL D tys A H0 → RX s args below meth Q D A H0 rm.cells rm.slots ret y.name B → J p l e rm s m args below meth c Q D A H0 nL 0 0 N ad ct 0 (lv_args 0 av) []) : MC l y b nL ret rm D tys N ad ct av B := by
  intro sz
  refine Met.ofW (cc := b) (maxL := nL) (ret := ret) hy rfl ?_
  intro p e s m args below meth c s₁ B0 hml hv
  obtain ⟨rfl, hsz, hK, hP, hD0⟩ := hv
  have hts := atoms_spec (ws := wsM y b nL ret) B0.pre
  have hown : s.vm.findClass y.cls = some m.cls := findClass_of_methodNamed B0.named
  subst hsz
  have hD : va_D (wA N ad s.heap.size) (ww N ad ct) := ⟨hD0.1, fun k q hq => by
    obtain ⟨h1, rfl⟩ := ww_of hq
    exact Or.inl ⟨k, h1, rfl⟩⟩
  have hl := lv_entry av (n := nL) hlen
  rw [lg_entry_eq]
  exact body p e s m av.toArray below meth c _ (wA N ad s.heap.size) s.heap ⟨⟨B0.exec, B0.bytes, hml, hown, fun w h => hts w (List.mem_cons_of_mem _ h)⟩, hK, fun q h => Or.inr h, B0.notSynchronized⟩ ⟨rfl, rfl, B0.returns, (name_of_methodNamed B0.named B0.method).1⟩ s.heap [] _ ⟨⟨hP, hD⟩, va_S.rf⟩ hl

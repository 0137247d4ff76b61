/-! constructors: worlds whose cells from role n0 on are a list -/
def adL (la : List Nat) (n0 : Nat) (ad : Nat → Nat) : Nat → Nat := fun r => if r < n0 then ad r else la.getD (r - n0) 0
def ctL (l : List va_E) (n0 : Nat) (ct : Nat → va_E) : Nat → va_E := fun r => if r < n0 then ct r else l.getD (r - n0) (.inr (0, []))
theorem adL_hi {la : List Nat} {n0 i a : Nat} {ad : Nat → Nat} (h : la[i]? = some a) : adL la n0 ad (n0 + i) = a := by
  unfold adL
  rw [if_neg (by omega), show n0 + i - n0 = i by omega, List.getD_eq_getElem?_getD, h]; rfl
theorem ctL_hi {l : List va_E} {n0 i : Nat} {x : va_E} {ct : Nat → va_E} (h : l[i]? = some x) : ctL l n0 ct (n0 + i) = x := by
  unfold ctL
  rw [if_neg (by omega), show n0 + i - n0 = i by omega, List.getD_eq_getElem?_getD, h]; rfl
theorem adL_lo {la : List Nat} {n0 r : Nat} {ad : Nat → Nat} (h : r < n0) : adL la n0 ad r = ad r := if_pos h
theorem ctL_lo {l : List va_E} {n0 r : Nat} {ct : Nat → va_E} (h : r < n0) : ctL l n0 ct r = ct r := if_pos h
theorem ctL_set {l : List va_E} {n0 i : Nat} {x : va_E} {ct : Nat → va_E} (h : i < l.length) (r : Nat) : va_up (ctL l n0 ct) (n0 + i) x r = ctL (l.set i x) n0 ct r := by
  by_cases hr : r = n0 + i
  · subst hr; rw [va_up_self, ctL_hi (List.getElem?_set_self h)]
  · rw [va_up_ne _ _ hr]
    by_cases h0 : r < n0
    · rw [ctL_lo h0, ctL_lo h0]
    · obtain ⟨j, rfl⟩ : ∃ j, r = n0 + j := ⟨r - n0, by omega⟩
      unfold ctL
      rw [if_neg (by omega), if_neg (by omega), show n0 + j - n0 = j by omega, List.getD_eq_getElem?_getD, List.getD_eq_getElem?_getD, List.getElem?_set_ne (by omega)]
theorem ctL_push {l : List va_E} {n0 : Nat} {x : va_E} {ct : Nat → va_E} (r : Nat) : va_up (ctL l n0 ct) (n0 + l.length) x r = ctL (l ++ [x]) n0 ct r := by
  by_cases hr : r = n0 + l.length
  · subst hr; rw [va_up_self, ctL_hi (x := x) (by simp)]
  · rw [va_up_ne _ _ hr]
    by_cases h0 : r < n0
    · rw [ctL_lo h0, ctL_lo h0]
    · obtain ⟨j, rfl⟩ : ∃ j, r = n0 + j := ⟨r - n0, by omega⟩
      unfold ctL
      rw [if_neg (by omega), if_neg (by omega), show n0 + j - n0 = j by omega, List.getD_eq_getElem?_getD, List.getD_eq_getElem?_getD]
      rcases Nat.lt_or_ge j l.length with h | h
      · rw [List.getElem?_append_left h]
      · rw [List.getElem?_eq_none h, List.getElem?_eq_none (by simp; omega)]
theorem adL_push {la : List Nat} {n0 a : Nat} {ad : Nat → Nat} (r : Nat) : va_up (adL la n0 ad) (n0 + la.length) a r = adL (la ++ [a]) n0 ad r := by
  by_cases hr : r = n0 + la.length
  · subst hr; rw [va_up_self, adL_hi (a := a) (by simp)]
  · rw [va_up_ne _ _ hr]
    by_cases h0 : r < n0
    · rw [adL_lo h0, adL_lo h0]
    · obtain ⟨j, rfl⟩ : ∃ j, r = n0 + j := ⟨r - n0, by omega⟩
      unfold adL
      rw [if_neg (by omega), if_neg (by omega), show n0 + j - n0 = j by omega, List.getD_eq_getElem?_getD, List.getD_eq_getElem?_getD]
      rcases Nat.lt_or_ge j la.length with h | h
      · rw [List.getElem?_append_left h]
      · rw [List.getElem?_eq_none h, List.getElem?_eq_none (by simp; omega)]
section CR
variable {p : Program} {l : Launch} {e : Env} {R : Room} {s : State} {m : MethodId} {args : Array Value} {below : List Frame} {meth : Method} {c : Code} {Q : State → Prop} {D : va_G} {A : Nat → Prop} {H0 : Heap} {nL k n n0 : Nat} {ad : Nat → Nat} {ct : Nat → va_E} {pc : Nat} {lv : List (Nat × Value)} {st : List Value} {cc : ByteArray} {own : String} {tys : List (ClassId × FieldType)} {N : Nat} {la : List Nat} {cl : List va_E}
theorem j_ww {N' : Nat} {ad' : Nat → Nat} {ct' : Nat → va_E} (hN : N = N') (ha : ∀ r, r < N → ad r = ad' r) (h : ∀ r, r < N → ct r = ct' r) (kk : J p l e R s m args below meth c Q D A H0 nL k n N' ad' ct' pc lv st) : J p l e R s m args below meth c Q D A H0 nL k n N ad ct pc lv st := by
  subst hN
  intro H locs ls w hl
  refine kk H locs ls ?_ hl
  unfold WD hwd at w ⊢
  rw [← ww_congrA ha h]
  exact w
theorem c_get (pc' : Nat) (C : Cx p s m args meth c cc own nL D tys A H0) {index ci i : Nat} {Cn : String} {T : u_T} {NN : Nat} (F : FL own index ci i Cn T NN) (hd : decode cc pc = .ok (.getfield index, 3)) (hp : pc + 3 = pc') (j : Nat) (hr : n0 + j < N) {a : Nat} (ha : la[j]? = some a) {fs : List Value} (he : cl[j]? = some (.inr (ci, fs))) (v : Value) (hv : fs[i]? = some v) (kk : J p l e R s m args below meth c Q D A H0 nL k n N (adL la n0 ad) (ctL cl n0 ct) pc' lv (v :: st)) : J p l e R s m args below meth c Q D A H0 nL k n N (adL la n0 ad) (ctL cl n0 ct) pc lv (.ref a :: st) :=
  j_get pc' C F hd hp (n0 + j) hr (adL_hi ha) (ctL_hi he) hv kk
theorem c_put (pc' : Nat) (C : Cx p s m args meth c cc own nL D tys A H0) {index ci i : Nat} {Cn : String} {T : u_T} {NN : Nat} {ty : Nat → FieldType} (F : FL own index ci i Cn T NN) (P : FP Cn T NN ty) (hfin : (T i).2.2.2 = false) (hd : decode cc pc = .ok (.putfield index, 3)) (hp : pc + 3 = pc') (j : Nat) (hr : n0 + j < N) {a : Nat} (ha : la[j]? = some a) {fs : List Value} (he : cl[j]? = some (.inr (ci, fs))) {v : Value} (hn : narrow (ty i) v = v) (hfit : fits (ty i) v = true) (hl0 : i < fs.length) (cl' : List va_E) (hcl : cl.set j (.inr (ci, fs.set i v)) = cl') (kk : J p l e R s m args below meth c Q D A H0 nL k n N (adL la n0 ad) (ctL cl' n0 ct) pc' lv st) : J p l e R s m args below meth c Q D A H0 nL k n N (adL la n0 ad) (ctL cl n0 ct) pc lv (v :: .ref a :: st) :=
  j_put pc' C F P hfin hd hp (n0 + j) hr (adL_hi ha) (ctL_hi he) hn hfit hl0 (j_ct (fun r _ => (ctL_set (List.getElem?_eq_some_iff.mp he).1 r).trans (by rw [hcl])) kk)
theorem c_putF (pc' : Nat) (C : Cx p s m args meth c cc own nL D tys A H0) {index ci i : Nat} {Cn : String} {T : u_T} {NN : Nat} {ty : Nat → FieldType} (F : FL own index ci i Cn T NN) (P : FP Cn T NN ty) (hfin : (T i).2.2.2 = true) (hin : meth.name = "<init>") (hdecl : (T i).1 = own) (hd : decode cc pc = .ok (.putfield index, 3)) (hp : pc + 3 = pc') (j : Nat) (hr : n0 + j < N) {a : Nat} (ha : la[j]? = some a) {fs : List Value} (he : cl[j]? = some (.inr (ci, fs))) {v : Value} (hn : narrow (ty i) v = v) (hfit : fits (ty i) v = true) (hl0 : i < fs.length) (cl' : List va_E) (hcl : cl.set j (.inr (ci, fs.set i v)) = cl') (kk : J p l e R s m args below meth c Q D A H0 nL k n N (adL la n0 ad) (ctL cl' n0 ct) pc' lv st) : J p l e R s m args below meth c Q D A H0 nL k n N (adL la n0 ad) (ctL cl n0 ct) pc lv (v :: .ref a :: st) :=
  j_putF pc' C F P hfin hin hdecl hd hp (n0 + j) hr (adL_hi ha) (ctL_hi he) hn hfit hl0 (j_ct (fun r _ => (ctL_set (List.getElem?_eq_some_iff.mp he).1 r).trans (by rw [hcl])) kk)
theorem c_iast (pc' : Nat) (C : Cx p s m args meth c cc own nL D tys A H0) (hd : decode cc pc = .ok (.iastore, 1)) (hp : pc + 1 = pc') (j : Nat) (hr : n0 + j < N) {a : Nat} (ha : la[j]? = some a) {cA : ClassId} {z : Nat} {f : Nat → Int32} (he : cl[j]? = some (.inl (cA, z, .inl f))) (t0 : Nat) (ht : tys[t0]? = some (cA, .int)) {i x : Int32} (hin : vp_in i z) {q : Nat} (hq : i.toNatClampNeg = q) (cl' : List va_E) (hcl : cl.set j (.inl (cA, z, .inl (upd f q x))) = cl') (kk : J p l e R s m args below meth c Q D A H0 nL k n N (adL la n0 ad) (ctL cl' n0 ct) pc' lv st) : J p l e R s m args below meth c Q D A H0 nL k n N (adL la n0 ad) (ctL cl n0 ct) pc lv (.int x :: .int i :: .ref a :: st) :=
  j_iast pc' C hd hp (n0 + j) hr (adL_hi ha) (ctL_hi he) t0 ht hin hq (j_ct (fun r _ => (ctL_set (List.getElem?_eq_some_iff.mp he).1 r).trans (by rw [hcl])) kk)
theorem c_alen (pc' : Nat) (C : Cx p s m args meth c cc own nL D tys A H0) (hd : decode cc pc = .ok (.arraylength, 1)) (hp : pc + 1 = pc') (j : Nat) (hr : n0 + j < N) {a : Nat} (ha : la[j]? = some a) {cA : ClassId} {z : Nat} {x : (Nat → Int32) ⊕ (Nat → Int64) ⊕ (Nat → UInt32) ⊕ (Nat → UInt64) ⊕ (Nat → Option Nat)} (he : cl[j]? = some (.inl (cA, z, x))) (t0 : Nat) {ty : FieldType} (ht : tys[t0]? = some (cA, ty)) (kk : J p l e R s m args below meth c Q D A H0 nL k n N (adL la n0 ad) (ctL cl n0 ct) pc' lv (.int (nI z) :: st)) : J p l e R s m args below meth c Q D A H0 nL k n N (adL la n0 ad) (ctL cl n0 ct) pc lv (.ref a :: st) :=
  j_alen pc' C hd hp (n0 + j) hr (adL_hi ha) (ctL_hi he) t0 ht kk
theorem c_astq (pc' : Nat) (C : Cx p s m args meth c cc own nL D tys A H0) (hd : decode cc pc = .ok (.aastore, 1)) (hp : pc + 1 = pc') (j : Nat) (hr : n0 + j < N) {a : Nat} (ha : la[j]? = some a) {cA : ClassId} {z : Nat} {f : Nat → Option Nat} (he : cl[j]? = some (.inl (cA, z, .inr (.inr (.inr (.inr f)))))) (ci : Nat) {rc : vw_C} (hc : vwCl[ci]? = some rc) (t0 : Nat) (ht : tys[t0]? = some (cA, .object rc.1)) (jv : Nat) (hrv : n0 + jv < N) {v : Nat} (hav : la[jv]? = some v) {vs : List Value} (hev : cl[jv]? = some (.inr (ci, vs))) {i : Int32} (hin : vp_in i z) {q : Nat} (hq : i.toNatClampNeg = q) (cl' : List va_E) (hcl : cl.set j (.inl (cA, z, .inr (.inr (.inr (.inr (va_up f q (some v))))))) = cl') (kk : J p l e R s m args below meth c Q D A H0 nL k n N (adL la n0 ad) (ctL cl' n0 ct) pc' lv st) : J p l e R s m args below meth c Q D A H0 nL k n N (adL la n0 ad) (ctL cl n0 ct) pc lv (.ref v :: .int i :: .ref a :: st) :=
  j_astq pc' C hd hp (n0 + j) hr (adL_hi ha) (ctL_hi he) ci hc t0 ht (n0 + jv) hrv (adL_hi hav) (ctL_hi hev) hin hq (j_ct (fun r _ => (ctL_set (List.getElem?_eq_some_iff.mp he).1 r).trans (by rw [hcl])) kk)
theorem c_new (pc' N' : Nat) (C : Cx p s m args meth c cc own nL D tys A H0) {index ci : Nat} {Cn : String} {T : u_T} {NN : Nat} {ty : Nat → FieldType} (hc : vwCl[ci]? = some (Cn, T, NN)) (hin : ∀ w ∈ u_ws Cn T NN, w ∈ TG) (P : FP Cn T NN ty) (h1 : Cond.classLink own index Cn ∈ TG) (h2 : Cond.instantiable Cn NN ∈ TG) (h3 : Cond.initialized Cn ∈ TG) (fs : List Value) (hfs : ∀ j, j < NN → defaultValue (ty j) = vp_V fs j) (hd : decode cc pc = .ok (.new index, 3)) (hp : pc + 3 = pc') (hR : k + 1 ≤ R.cells) (hR2 : n + NN ≤ R.slots) (hNa : N = n0 + la.length) (hNc : N = n0 + cl.length) (hN' : N + 1 = N') (k' n' : Nat) (hk : k + 1 = k') (hn : n + NN = n')
    (kk : ∀ (a : Nat) (la' : List Nat) (cl' : List va_E), la' = la ++ [a] → cl' = cl ++ [.inr (ci, fs)] → J p l e R s m args below meth c Q D A H0 nL k' n' N' (adL la' n0 ad) (ctL cl' n0 ct) pc' lv (.ref a :: st)) : J p l e R s m args below meth c Q D A H0 nL k n N (adL la n0 ad) (ctL cl n0 ct) pc lv st := by
  subst hk; subst hn
  exact j_new pc' C hc hin P h1 h2 h3 fs hfs hd hp hR hR2 (fun a => j_ww hN' (fun r _ => by rw [hNa]; exact adL_push r) (fun r _ => by rw [hNc]; exact ctL_push r) (kk a _ _ rfl rfl))
theorem c_newa (pc' N' : Nat) (C : Cx p s m args meth c cc own nL D tys A H0) {atype : ArrayType} {ty : FieldType} (hty : newarray.typeOf atype = ty) (harr : Cond.arrayClass ty ∈ TG) (t0 : Nat) {cA : ClassId} (ht : tys[t0]? = some (cA, ty)) {z : Nat} {x : Int32} (hx : x = nI z) (ha0 : ∀ cA : ClassId, vp_cell cA (z, .inl (fun _ => 0)) = arrV cA z (fun _ => defaultValue ty)) (hz : z < 2 ^ 31) (hby : z * componentBytes ty ≤ 536870912) (hd : decode cc pc = .ok (.newarray atype, 2)) (hp : pc + 2 = pc') (hR : k + 1 ≤ R.cells) (hR2 : n + z ≤ R.slots) (hNa : N = n0 + la.length) (hNc : N = n0 + cl.length) (hN' : N + 1 = N') (k' n' : Nat) (hk : k + 1 = k') (hn : n + z = n')
    (kk : ∀ (a : Nat) (la' : List Nat) (cl' : List va_E), la' = la ++ [a] → cl' = cl ++ [.inl (cA, z, .inl (fun _ => 0))] → J p l e R s m args below meth c Q D A H0 nL k' n' N' (adL la' n0 ad) (ctL cl' n0 ct) pc' lv (.ref a :: st)) : J p l e R s m args below meth c Q D A H0 nL k n N (adL la n0 ad) (ctL cl n0 ct) pc lv (.int x :: st) := by
  subst hk; subst hn
  exact j_newa pc' C hty harr t0 ht hx _ ha0 hz hby hd hp hR hR2 (fun a => j_ww hN' (fun r _ => by rw [hNa]; exact adL_push r) (fun r _ => by rw [hNc]; exact ctL_push r) (kk a _ _ rfl rfl))
theorem c_newq (pc' N' : Nat) (C : Cx p s m args meth c cc own nL D tys A H0) {index : Nat} {Cn : String} (h1 : Cond.classLink own index Cn ∈ TG) (hover : va_AO Cn s) (t0 : Nat) {cA : ClassId} (ht : tys[t0]? = some (cA, .object Cn)) {z : Nat} {x : Int32} (hx : x = nI z) (hz : z < 2 ^ 31) (hby : z * 4 ≤ 536870912) (hd : decode cc pc = .ok (.anewarray index, 3)) (hp : pc + 3 = pc') (hR : k + 1 ≤ R.cells) (hR2 : n + z ≤ R.slots) (hNa : N = n0 + la.length) (hNc : N = n0 + cl.length) (hN' : N + 1 = N') (k' n' : Nat) (hk : k + 1 = k') (hn : n + z = n')
    (kk : ∀ (a : Nat) (la' : List Nat) (cl' : List va_E), la' = la ++ [a] → cl' = cl ++ [.inl (cA, z, .inr (.inr (.inr (.inr (fun _ => none)))))] → J p l e R s m args below meth c Q D A H0 nL k' n' N' (adL la' n0 ad) (ctL cl' n0 ct) pc' lv (.ref a :: st)) : J p l e R s m args below meth c Q D A H0 nL k n N (adL la n0 ad) (ctL cl n0 ct) pc lv (.int x :: st) := by
  subst hk; subst hn
  exact j_newq pc' C h1 hover t0 ht hx hz hby hd hp hR hR2 (fun a => j_ww hN' (fun r _ => by rw [hNa]; exact adL_push r) (fun r _ => by rw [hNc]; exact ctL_push r) (kk a _ _ rfl rfl))
end CR
theorem arr0I (cA : ClassId) (z : Nat) : vp_cell cA (z, .inl (fun _ => 0)) = arrV cA z (fun _ => defaultValue .int) := rfl
theorem arr0Z (cA : ClassId) (z : Nat) : vp_cell cA (z, .inl (fun _ => 0)) = arrV cA z (fun _ => defaultValue .boolean) := rfl

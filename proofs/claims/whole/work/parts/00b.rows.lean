abbrev Nm : Type := List vw_C × List (String × Nat × String × String × String × String) × List (String × Nat × MethodName × String)
abbrev Ctx : Type := Program × Launch × Env × Room × State × MethodId × Array Value × List Frame × Method × Code × va_G × (Nat → ClassId) × ((Nat → Nat) → Prop) × (Nat → Prop) × (State → Prop)
def tys (ac : Nat → ClassId) : List (ClassId × FieldType) := [(ac 0, .int), (ac 1, .boolean)]
def NWok (nm : Nm) (U : State) : Prop := (∀ q ∈ nm.2.1, va_Nw (.fieldLinkNest q.1 q.2.1 q.2.2.1 q.2.2.2.1 q.2.2.2.2.1 q.2.2.2.2.2) U) ∧ ∀ q ∈ nm.2.2, va_Nw (.methodLinkNest q.1 q.2.1 q.2.2.1 q.2.2.2) U
theorem NWok.warm {nm : Nm} {s U : State} (hW : s.WarmedH U.vm) (h : NWok nm s) : NWok nm U := ⟨fun q hq => va_Nw.warmF hW (h.1 q hq), fun q hq => va_Nw.warmM hW (h.2 q hq)⟩
theorem NWok.same {nm : Nm} {u U : State} (e : u.vm = U.vm) (h : NWok nm u) : NWok nm U := ⟨fun q hq => va_Nw.same rfl e (h.1 q hq), fun q hq => va_Nw.same rfl e (h.2 q hq)⟩
def XW (nm : Nm) (X : Ctx) (nL ce sl : Nat) (S : List Shp) (σ : Sg) (pc : Nat) (L : List (Nat × Value)) (st : List Value) : Prop := match X with
  | (p, l, e, R, s, m, args, below, meth, c, D, ac, E, A, Q) => ∀ (a : Nat → Nat) (H : Heap) (locs : List Loc) (ls : Array Slot), E a → va_P D nm.1 (Wd ac a σ 0 S) H → va_D A (Wd ac a σ 0 S) → va_S A s.heap H locs → lv_has ls nL (L.map (cvp a)) → W p l e R s m args below meth c H locs ce sl Q (F0 m pc ls (st.map (cv a)))
def Cx (nm : Nm) (X : Ctx) (cc : ByteArray) (nL : Nat) (own : String) (Ts : List Cond) (rty : Option FieldType) (R0 : Room) : Prop := match X with
  | (p, l, e, R, s, m, args, below, meth, c, D, ac, E, A, Q) => CallFix p m c cc nL s args Ts own ∧ meth.sig.returnType = rty ∧ meth.locks = false ∧ va_K D nm.1 (tys ac) s ∧ NWok nm s ∧ (∀ q, s.heap.size ≤ q → A q) ∧ R = R0
def Ix (X : Ctx) : Prop := match X with
  | (_, _, _, _, _, _, _, _, meth, _, _, _, E, _, _) => meth.name = "<init>"
def Ex (X : Ctx) (n0 : Nat) : Prop := match X with
  | (_, _, _, _, _, _, _, _, _, _, _, _, E, _, _) => ∀ (a a' : Nat → Nat), E a → (∀ q, q < n0 → a' q = a q) → E a'
def QX (cl : List vw_C) (D : va_G) (ac : Nat → ClassId) (E : (Nat → Nat) → Prop) (A : Nat → Prop) (ret : Option Value) (S : List Shp) (σ : Sg) : Array Value → State → Outcome → State → Prop := fun _ st oc t => oc = .returned ret ∧ (∃ a, E a ∧ va_P D cl (Wd ac a σ 0 S) t.heap ∧ va_D A (Wd ac a σ 0 S)) ∧ va_F A st t
def Rx (nm : Nm) (X : Ctx) (mc ms : Nat) (ret : Option Value) (S : List Shp) (σ : Sg) : Prop := match X with
  | (p, l, e, R, s, m, args, below, meth, c, D, ac, E, A, Q) => Q = MQ below (QX nm.1 D ac E A ret S σ) args s mc ms A
def PX (nm : Nm) (D : va_G) (ac : Nat → ClassId) (a : Nat → Nat) (S : List Shp) (σ : Sg) (sz : Nat) (U : State) : Prop := U.heap.size = sz ∧ va_P D nm.1 (Wd ac a σ 0 S) U.heap ∧ va_K D nm.1 (tys ac) U ∧ NWok nm U ∧ va_D (fun _ => True) (Wd ac a σ 0 S)
def Ctr (nm : Nm) (y : MethodName) (ws : List Cond) (rm : Room) (S : List Shp) (σ : Sg) (vs : List Value) (ret : Option Value) (σ' : Sg) : Prop :=
  ∀ (l : Launch) (D : va_G) (ac : Nat → ClassId) (a : Nat → Nat) (sz : Nat), Met l y ws rm (va_Pc (vs.map (cv a)) (PX nm D ac a S σ sz)) (QX nm.1 D ac (fun a' => a' = a) (va_A (Wd ac a σ 0 S) sz) ret S σ') 0 0 (va_A (Wd ac a σ 0 S) sz)
def CtrA (nm : Nm) (y : MethodName) (ws : List Cond) (rm : Room) (mc ms : Nat) (S : List Shp) (σ : Sg) (vs : List Value) (S' : List Shp) (σ' : Sg) : Prop :=
  ∀ (l : Launch) (D : va_G) (ac : Nat → ClassId) (a : Nat → Nat) (sz : Nat), Met l y ws rm (va_Pc (vs.map (cv a)) (PX nm D ac a S σ sz)) (QX nm.1 D ac (fun a' => ∀ q, q < S.length → a' q = a q) (va_A (Wd ac a σ 0 S) sz) none S' σ') mc ms (va_A (Wd ac a σ 0 S) sz)
def fl1 (i : Nat) : Nat × Value → Bool := fun q => !(q.1 == i) && !(q.1 + 1 == i && q.2.category == 2)
def fl2 (i : Nat) : Nat × Value → Bool := fun q => !(q.1 == i) && (!(q.1 == i + 1) && !(q.1 + 1 == i && q.2.category == 2))
theorem map_fl1 (a : Nat → Nat) (i : Nat) : ∀ (L : List (Nat × Value)), (L.map (cvp a)).filter (fl1 i) = (L.filter (fl1 i)).map (cvp a)
  | [] => rfl
  | q :: L => by
    have e : fl1 i (cvp a q) = fl1 i q := by simp only [fl1, cvp, cv_cat]
    simp only [List.map_cons, List.filter_cons, e, map_fl1 a i L]
    by_cases h : fl1 i q = true <;> simp [h]
theorem map_fl2 (a : Nat → Nat) (i : Nat) : ∀ (L : List (Nat × Value)), (L.map (cvp a)).filter (fl2 i) = (L.filter (fl2 i)).map (cvp a)
  | [] => rfl
  | q :: L => by
    have e : fl2 i (cvp a q) = fl2 i q := by simp only [fl2, cvp, cv_cat]
    simp only [List.map_cons, List.filter_cons, e, map_fl2 a i L]
    by_cases h : fl2 i q = true <;> simp [h]
theorem pick_map {f : Nat × Value → Nat × Value} (l : List (Nat × Value)) : ∀ (ks : List Nat), lv_pick (l.map f) ks = (lv_pick l ks).map f
  | [] => rfl
  | k :: ks => by
    have ih := pick_map (f := f) l ks
    unfold lv_pick at ih ⊢
    simp only [List.filterMap_cons, List.getElem?_map]
    cases h : l[k]? with
    | none => simpa [List.getElem?_map] using ih
    | some v => simpa [List.getElem?_map] using ih
theorem ps_fl1 (a : Nat → Nat) {i : Nat} {v : Value} {L L' : List (Nat × Value)} {ks : List Nat} (h : lv_pick ((i, v) :: L.filter (fl1 i)) ks = L') : lv_pick ((i, cv a v) :: (L.map (cvp a)).filter (fl1 i)) ks = L'.map (cvp a) := by
  rw [map_fl1, ← h, ← pick_map]
  rfl
theorem ps_fl2 (a : Nat → Nat) {i : Nat} {v : Value} {L L' : List (Nat × Value)} {ks : List Nat} (h : lv_pick ((i, v) :: L.filter (fl2 i)) ks = L') : lv_pick ((i, cv a v) :: (L.map (cvp a)).filter (fl2 i)) ks = L'.map (cvp a) := by
  rw [map_fl2, ← h, ← pick_map]
  rfl
theorem args_map (a : Nat → Nat) : ∀ (vs : List Value) (i : Nat), lv_args i (vs.map (cv a)) = (lv_args i vs).map (cvp a)
  | [], _ => rfl
  | v :: vs, i => by
    simp only [List.map_cons, lv_args, cv_cat, args_map a vs]
    rfl
theorem lgsl_map (a : Nat → Nat) : ∀ (vs : List Value), (lg_sl (vs.map (cv a))).length = (lg_sl vs).length
  | [] => rfl
  | v :: vs => by
    have ih := lgsl_map a vs
    unfold lg_sl at ih ⊢
    simp only [List.map_cons, List.flatMap_cons, List.length_append, ih, cv_cat]
    by_cases h : v.category = 2 <;> simp [h]
def gd {α : Type} (b : Bool) (x : Option α) : Option α := if b = true then x else none
def vi (i : Int32) (n : Nat) : Bool := !(decide (i < 0) || decide (n ≤ i.toNatClampNeg))
def lt_ {α β : Type} (x : α) (k : α → Option β) : Option β := k x
def bd {β : Type} (o : Option (Int32 × Sg)) (k : Int32 → Sg → Option β) : Option β := match o with
  | none => none
  | some z => k z.1 z.2
def bdl {β : Type} (o : Option (Int64 × Sg)) (k : Int64 → Sg → Option β) : Option β := match o with
  | none => none
  | some z => k z.1 z.2
def bdv {β : Type} (o : Option Sg) (k : Sg → Option β) : Option β := match o with
  | none => none
  | some z => k z
theorem gd_some {α : Type} {b : Bool} {x : Option α} {r : α} (h : gd b x = some r) : b = true ∧ x = some r := by
  unfold gd at h
  by_cases e : b = true
  · rw [if_pos e] at h
    exact ⟨e, h⟩
  · rw [if_neg e] at h
    cases h
theorem vi_in {i : Int32} {n : Nat} (h : vi i n = true) : vp_in i n := by
  unfold vi at h
  unfold vp_in
  simpa using h
theorem bd_some {β : Type} {o : Option (Int32 × Sg)} {k : Int32 → Sg → Option β} {r : β} (h : bd o k = some r) : ∃ v σ, o = some (v, σ) ∧ k v σ = some r := by
  unfold bd at h
  cases o with
  | none => cases h
  | some z => exact ⟨z.1, z.2, rfl, h⟩
theorem bdl_some {β : Type} {o : Option (Int64 × Sg)} {k : Int64 → Sg → Option β} {r : β} (h : bdl o k = some r) : ∃ v σ, o = some (v, σ) ∧ k v σ = some r := by
  unfold bdl at h
  cases o with
  | none => cases h
  | some z => exact ⟨z.1, z.2, rfl, h⟩
theorem bdv_some {β : Type} {o : Option Sg} {k : Sg → Option β} {r : β} (h : bdv o k = some r) : ∃ σ, o = some σ ∧ k σ = some r := by
  unfold bdv at h
  cases o with
  | none => cases h
  | some z => exact ⟨z, rfl, h⟩
theorem P_eq {D : va_G} {cl : List vw_C} {w w' : va_W} {H : Heap} (e : w = w') (h : va_P D cl w H) : va_P D cl w' H := e ▸ h
theorem D_eq {A : Nat → Prop} {w w' : va_W} (e : w = w') (h : va_D A w) : va_D A w' := e ▸ h
theorem cat_sum (a : Nat → Nat) : ∀ (st : List Value), ((st.map (cv a)).map fun v => v.category).sum = (st.map fun v => v.category).sum
  | [] => rfl
  | v :: st => by
    simp only [List.map_cons, List.sum_cons, cv_cat]
    rw [cat_sum a st]
def bz (v : Int32) : Bool := decide (v = 0) || decide (v = 1)
theorem bz_nar {v : Int32} (h : bz v = true) : narrow .boolean (.int v) = .int v := by
  unfold bz at h
  simp only [Bool.or_eq_true, decide_eq_true_eq] at h
  rcases h with rfl | rfl <;> rfl
theorem bz_fits {v : Int32} (h : bz v = true) : fits .boolean (.int v) = true := by
  unfold bz at h
  simp only [Bool.or_eq_true, decide_eq_true_eq] at h
  rcases h with rfl | rfl <;> rfl
section XR
variable {nm : Nm} {X : Ctx} {cc : ByteArray} {nL ce sl pc : Nat} {own : String} {Ts : List Cond} {rty : Option FieldType} {R0 : Room} {S : List Shp} {σ : Sg} {L L' : List (Nat × Value)} {st : List Value} {β : Type} {out : β}
theorem X_iconst (C : Cx nm X cc nL own Ts rty R0) {n : Int} {v : Int32} (d : decode cc pc = .ok (.iconst n, 1)) (hv : Int32.ofInt n = v) (k : XW nm X nL ce sl S σ (pc + 1) L (.int v :: st)) : XW nm X nL ce sl S σ (pc) L (st) := by
  obtain ⟨p, l, e, R, s, m, args, below, meth, c, D, ac, E, A, Q⟩ := X
  obtain ⟨⟨hx, hb, hml, hown, hts⟩, hr, hlk, hK, hN, hA, rfl⟩ := C
  intro a H locs ls hE hP hD hS hl
  exact lv_iconst hx hb d hv (k a H locs ls hE hP hD hS hl)
theorem X_bipush (C : Cx nm X cc nL own Ts rty R0) {n : Int} {v : Int32} (d : decode cc pc = .ok (.bipush n, 2)) (hv : (Int8.ofInt n).toInt32 = v) (k : XW nm X nL ce sl S σ (pc + 2) L (.int v :: st)) : XW nm X nL ce sl S σ (pc) L (st) := by
  obtain ⟨p, l, e, R, s, m, args, below, meth, c, D, ac, E, A, Q⟩ := X
  obtain ⟨⟨hx, hb, hml, hown, hts⟩, hr, hlk, hK, hN, hA, rfl⟩ := C
  intro a H locs ls hE hP hD hS hl
  exact lv_bipush hx hb d hv (k a H locs ls hE hP hD hS hl)
theorem X_sipush (C : Cx nm X cc nL own Ts rty R0) {n : Int} {v : Int32} (d : decode cc pc = .ok (.sipush n, 3)) (hv : (Int16.ofInt n).toInt32 = v) (k : XW nm X nL ce sl S σ (pc + 3) L (.int v :: st)) : XW nm X nL ce sl S σ (pc) L (st) := by
  obtain ⟨p, l, e, R, s, m, args, below, meth, c, D, ac, E, A, Q⟩ := X
  obtain ⟨⟨hx, hb, hml, hown, hts⟩, hr, hlk, hK, hN, hA, rfl⟩ := C
  intro a H locs ls hE hP hD hS hl
  exact lv_sipush hx hb d hv (k a H locs ls hE hP hD hS hl)
theorem X_ldc (C : Cx nm X cc nL own Ts rty R0) {index : Nat} {v : Int32} (hw : Cond.constant own index v ∈ Ts) (d : decode cc pc = .ok (.ldc index, 2)) (k : XW nm X nL ce sl S σ (pc + 2) L (.int v :: st)) : XW nm X nL ce sl S σ (pc) L (st) := by
  obtain ⟨p, l, e, R, s, m, args, below, meth, c, D, ac, E, A, Q⟩ := X
  obtain ⟨⟨hx, hb, hml, hown, hts⟩, hr, hlk, hK, hN, hA, rfl⟩ := C
  intro a H locs ls hE hP hD hS hl
  exact lv_ldc hx hb hown (hts _ hw) d (k a H locs ls hE hP hD hS hl)
theorem X_ldc2 (C : Cx nm X cc nL own Ts rty R0) {index : Nat} {v : Int64} (hw : Cond.constantLong own index v ∈ Ts) (d : decode cc pc = .ok (.ldc2_w index, 3)) (k : XW nm X nL ce sl S σ (pc + 3) L (.long v :: st)) : XW nm X nL ce sl S σ (pc) L (st) := by
  obtain ⟨p, l, e, R, s, m, args, below, meth, c, D, ac, E, A, Q⟩ := X
  obtain ⟨⟨hx, hb, hml, hown, hts⟩, hr, hlk, hK, hN, hA, rfl⟩ := C
  intro a H locs ls hE hP hD hS hl
  exact lv_ldc2 hx hb hown (hts _ hw) d (k a H locs ls hE hP hD hS hl)
theorem X_iload_n (C : Cx nm X cc nL own Ts rty R0) {i : Nat} {x : Int32} (kp : Nat) {k0 : Fin 4} (d : decode cc pc = .ok (.iload_n k0, 1)) (hi : (k0 : Nat) = i) (hk : L[kp]? = some (i, .int x)) (k : XW nm X nL ce sl S σ (pc + 1) L (.int x :: st)) : XW nm X nL ce sl S σ (pc) L (st) := by
  obtain ⟨p, l, e, R, s, m, args, below, meth, c, D, ac, E, A, Q⟩ := X
  obtain ⟨⟨hx, hb, hml, hown, hts⟩, hr, hlk, hK, hN, hA, rfl⟩ := C
  intro a H locs ls hE hP hD hS hl
  exact lv_iload_n hx hb d hi (lv_at hl kp (by rw [List.getElem?_map, hk]; rfl)) (k a H locs ls hE hP hD hS hl)
theorem X_iload (C : Cx nm X cc nL own Ts rty R0) {i : Nat} {x : Int32} (kp : Nat) (d : decode cc pc = .ok (.iload i, 2)) (hk : L[kp]? = some (i, .int x)) (k : XW nm X nL ce sl S σ (pc + 2) L (.int x :: st)) : XW nm X nL ce sl S σ (pc) L (st) := by
  obtain ⟨p, l, e, R, s, m, args, below, meth, c, D, ac, E, A, Q⟩ := X
  obtain ⟨⟨hx, hb, hml, hown, hts⟩, hr, hlk, hK, hN, hA, rfl⟩ := C
  intro a H locs ls hE hP hD hS hl
  exact lv_iload hx hb d (lv_at hl kp (by rw [List.getElem?_map, hk]; rfl)) (k a H locs ls hE hP hD hS hl)
theorem X_lload_n (C : Cx nm X cc nL own Ts rty R0) {i : Nat} {x : Int64} (kp : Nat) {k0 : Fin 4} (d : decode cc pc = .ok (.lload_n k0, 1)) (hi : (k0 : Nat) = i) (hk : L[kp]? = some (i, .long x)) (k : XW nm X nL ce sl S σ (pc + 1) L (.long x :: st)) : XW nm X nL ce sl S σ (pc) L (st) := by
  obtain ⟨p, l, e, R, s, m, args, below, meth, c, D, ac, E, A, Q⟩ := X
  obtain ⟨⟨hx, hb, hml, hown, hts⟩, hr, hlk, hK, hN, hA, rfl⟩ := C
  intro a H locs ls hE hP hD hS hl
  exact lv_lload_n hx hb d hi (lv_at hl kp (by rw [List.getElem?_map, hk]; rfl)) (k a H locs ls hE hP hD hS hl)
theorem X_lload (C : Cx nm X cc nL own Ts rty R0) {i : Nat} {x : Int64} (kp : Nat) (d : decode cc pc = .ok (.lload i, 2)) (hk : L[kp]? = some (i, .long x)) (k : XW nm X nL ce sl S σ (pc + 2) L (.long x :: st)) : XW nm X nL ce sl S σ (pc) L (st) := by
  obtain ⟨p, l, e, R, s, m, args, below, meth, c, D, ac, E, A, Q⟩ := X
  obtain ⟨⟨hx, hb, hml, hown, hts⟩, hr, hlk, hK, hN, hA, rfl⟩ := C
  intro a H locs ls hE hP hD hS hl
  exact lv_lload hx hb d (lv_at hl kp (by rw [List.getElem?_map, hk]; rfl)) (k a H locs ls hE hP hD hS hl)
theorem X_aload_n (C : Cx nm X cc nL own Ts rty R0) {i x : Nat} (kp : Nat) {k0 : Fin 4} (d : decode cc pc = .ok (.aload_n k0, 1)) (hi : (k0 : Nat) = i) (hk : L[kp]? = some (i, .ref x)) (k : XW nm X nL ce sl S σ (pc + 1) L (.ref x :: st)) : XW nm X nL ce sl S σ (pc) L (st) := by
  obtain ⟨p, l, e, R, s, m, args, below, meth, c, D, ac, E, A, Q⟩ := X
  obtain ⟨⟨hx, hb, hml, hown, hts⟩, hr, hlk, hK, hN, hA, rfl⟩ := C
  intro a H locs ls hE hP hD hS hl
  exact lv_aload_n (x := a x) hx hb d hi (lv_at hl kp (by rw [List.getElem?_map, hk]; rfl)) (k a H locs ls hE hP hD hS hl)
theorem X_aload (C : Cx nm X cc nL own Ts rty R0) {i x : Nat} (kp : Nat) (d : decode cc pc = .ok (.aload i, 2)) (hk : L[kp]? = some (i, .ref x)) (k : XW nm X nL ce sl S σ (pc + 2) L (.ref x :: st)) : XW nm X nL ce sl S σ (pc) L (st) := by
  obtain ⟨p, l, e, R, s, m, args, below, meth, c, D, ac, E, A, Q⟩ := X
  obtain ⟨⟨hx, hb, hml, hown, hts⟩, hr, hlk, hK, hN, hA, rfl⟩ := C
  intro a H locs ls hE hP hD hS hl
  exact lv_aload (x := a x) hx hb d (lv_at hl kp (by rw [List.getElem?_map, hk]; rfl)) (k a H locs ls hE hP hD hS hl)
theorem X_istore_n (C : Cx nm X cc nL own Ts rty R0) {i : Nat} {x : Int32} {k0 : Fin 4} (ks : List Nat) (d : decode cc pc = .ok (.istore_n k0, 1)) (hi : (k0 : Nat) = i) (hn : i < nL) (hL : lv_pick ((i, Value.int x) :: L.filter (fl1 i)) ks = L') (k : XW nm X nL ce sl S σ (pc + 1) L' (st)) : XW nm X nL ce sl S σ (pc) L (.int x :: st) := by
  obtain ⟨p, l, e, R, s, m, args, below, meth, c, D, ac, E, A, Q⟩ := X
  obtain ⟨⟨hx, hb, hml, hown, hts⟩, hr, hlk, hK, hN, hA, rfl⟩ := C
  intro a H locs ls hE hP hD hS hl
  exact lv_istore_n hx hb d hi hl hn rfl (fun ls hl2 => k a H locs ls hE hP hD hS (lv_sub hl2 ks (ps_fl1 a hL)))
theorem X_istore (C : Cx nm X cc nL own Ts rty R0) {i : Nat} {x : Int32} (ks : List Nat) (d : decode cc pc = .ok (.istore i, 2)) (hn : i < nL) (hL : lv_pick ((i, Value.int x) :: L.filter (fl1 i)) ks = L') (k : XW nm X nL ce sl S σ (pc + 2) L' (st)) : XW nm X nL ce sl S σ (pc) L (.int x :: st) := by
  obtain ⟨p, l, e, R, s, m, args, below, meth, c, D, ac, E, A, Q⟩ := X
  obtain ⟨⟨hx, hb, hml, hown, hts⟩, hr, hlk, hK, hN, hA, rfl⟩ := C
  intro a H locs ls hE hP hD hS hl
  exact lv_istore hx hb d hl hn rfl (fun ls hl2 => k a H locs ls hE hP hD hS (lv_sub hl2 ks (ps_fl1 a hL)))
theorem X_lstore_n (C : Cx nm X cc nL own Ts rty R0) {i : Nat} {x : Int64} {k0 : Fin 4} (ks : List Nat) (d : decode cc pc = .ok (.lstore_n k0, 1)) (hi : (k0 : Nat) = i) (hn : i + 1 < nL) (hL : lv_pick ((i, Value.long x) :: L.filter (fl2 i)) ks = L') (k : XW nm X nL ce sl S σ (pc + 1) L' (st)) : XW nm X nL ce sl S σ (pc) L (.long x :: st) := by
  obtain ⟨p, l, e, R, s, m, args, below, meth, c, D, ac, E, A, Q⟩ := X
  obtain ⟨⟨hx, hb, hml, hown, hts⟩, hr, hlk, hK, hN, hA, rfl⟩ := C
  intro a H locs ls hE hP hD hS hl
  exact lv_lstore_n hx hb d hi hl hn rfl (fun ls hl2 => k a H locs ls hE hP hD hS (lv_sub hl2 ks (ps_fl2 a hL)))
theorem X_lstore (C : Cx nm X cc nL own Ts rty R0) {i : Nat} {x : Int64} (ks : List Nat) (d : decode cc pc = .ok (.lstore i, 2)) (hn : i + 1 < nL) (hL : lv_pick ((i, Value.long x) :: L.filter (fl2 i)) ks = L') (k : XW nm X nL ce sl S σ (pc + 2) L' (st)) : XW nm X nL ce sl S σ (pc) L (.long x :: st) := by
  obtain ⟨p, l, e, R, s, m, args, below, meth, c, D, ac, E, A, Q⟩ := X
  obtain ⟨⟨hx, hb, hml, hown, hts⟩, hr, hlk, hK, hN, hA, rfl⟩ := C
  intro a H locs ls hE hP hD hS hl
  exact lv_lstore hx hb d hl hn rfl (fun ls hl2 => k a H locs ls hE hP hD hS (lv_sub hl2 ks (ps_fl2 a hL)))
theorem X_astore_n (C : Cx nm X cc nL own Ts rty R0) {i : Nat} {x : Nat} {k0 : Fin 4} (ks : List Nat) (d : decode cc pc = .ok (.astore_n k0, 1)) (hi : (k0 : Nat) = i) (hn : i < nL) (hL : lv_pick ((i, Value.ref x) :: L.filter (fl1 i)) ks = L') (k : XW nm X nL ce sl S σ (pc + 1) L' (st)) : XW nm X nL ce sl S σ (pc) L (.ref x :: st) := by
  obtain ⟨p, l, e, R, s, m, args, below, meth, c, D, ac, E, A, Q⟩ := X
  obtain ⟨⟨hx, hb, hml, hown, hts⟩, hr, hlk, hK, hN, hA, rfl⟩ := C
  intro a H locs ls hE hP hD hS hl
  exact lv_astore_n (x := a x) hx hb d hi hl hn rfl (fun ls hl2 => k a H locs ls hE hP hD hS (lv_sub hl2 ks (ps_fl1 a hL)))
theorem X_astore (C : Cx nm X cc nL own Ts rty R0) {i : Nat} {x : Nat} (ks : List Nat) (d : decode cc pc = .ok (.astore i, 2)) (hn : i < nL) (hL : lv_pick ((i, Value.ref x) :: L.filter (fl1 i)) ks = L') (k : XW nm X nL ce sl S σ (pc + 2) L' (st)) : XW nm X nL ce sl S σ (pc) L (.ref x :: st) := by
  obtain ⟨p, l, e, R, s, m, args, below, meth, c, D, ac, E, A, Q⟩ := X
  obtain ⟨⟨hx, hb, hml, hown, hts⟩, hr, hlk, hK, hN, hA, rfl⟩ := C
  intro a H locs ls hE hP hD hS hl
  exact lv_astore (x := a x) hx hb d hl hn rfl (fun ls hl2 => k a H locs ls hE hP hD hS (lv_sub hl2 ks (ps_fl1 a hL)))
theorem X_iinc (C : Cx nm X cc nL own Ts rty R0) {i : Nat} {x v : Int32} {n : Int} (kp : Nat) (ks : List Nat) (d : decode cc pc = .ok (.iinc i n, 3)) (hk : L[kp]? = some (i, .int x)) (hv : Int32.ofInt n = v) (hn : i < nL) (hL : lv_pick ((i, Value.int (x + v)) :: L.filter (fl1 i)) ks = L') (k : XW nm X nL ce sl S σ (pc + 3) L' (st)) : XW nm X nL ce sl S σ (pc) L (st) := by
  obtain ⟨p, l, e, R, s, m, args, below, meth, c, D, ac, E, A, Q⟩ := X
  obtain ⟨⟨hx, hb, hml, hown, hts⟩, hr, hlk, hK, hN, hA, rfl⟩ := C
  intro a H locs ls hE hP hD hS hl
  subst hv
  exact lv_iinc (k := kp) hx hb d hl (by rw [List.getElem?_map, hk]; rfl) rfl hn rfl (fun ls hl2 => k a H locs ls hE hP hD hS (lv_sub hl2 ks (ps_fl1 a hL)))
theorem X_iadd (C : Cx nm X cc nL own Ts rty R0) {x y : Int32} (d : decode cc pc = .ok (.iadd, 1)) (k : XW nm X nL ce sl S σ (pc + 1) L (.int (x + y) :: st)) : XW nm X nL ce sl S σ (pc) L (.int y :: .int x :: st) := by
  obtain ⟨p, l, e, R, s, m, args, below, meth, c, D, ac, E, A, Q⟩ := X
  obtain ⟨⟨hx, hb, hml, hown, hts⟩, hr, hlk, hK, hN, hA, rfl⟩ := C
  intro a H locs ls hE hP hD hS hl
  exact lv_iadd hx hb d (k a H locs ls hE hP hD hS hl)
theorem X_isub (C : Cx nm X cc nL own Ts rty R0) {x y : Int32} (d : decode cc pc = .ok (.isub, 1)) (k : XW nm X nL ce sl S σ (pc + 1) L (.int (x - y) :: st)) : XW nm X nL ce sl S σ (pc) L (.int y :: .int x :: st) := by
  obtain ⟨p, l, e, R, s, m, args, below, meth, c, D, ac, E, A, Q⟩ := X
  obtain ⟨⟨hx, hb, hml, hown, hts⟩, hr, hlk, hK, hN, hA, rfl⟩ := C
  intro a H locs ls hE hP hD hS hl
  exact lv_isub hx hb d (k a H locs ls hE hP hD hS hl)
theorem X_imul (C : Cx nm X cc nL own Ts rty R0) {x y : Int32} (d : decode cc pc = .ok (.imul, 1)) (k : XW nm X nL ce sl S σ (pc + 1) L (.int (x * y) :: st)) : XW nm X nL ce sl S σ (pc) L (.int y :: .int x :: st) := by
  obtain ⟨p, l, e, R, s, m, args, below, meth, c, D, ac, E, A, Q⟩ := X
  obtain ⟨⟨hx, hb, hml, hown, hts⟩, hr, hlk, hK, hN, hA, rfl⟩ := C
  intro a H locs ls hE hP hD hS hl
  exact lv_imul hx hb d (k a H locs ls hE hP hD hS hl)
theorem X_iand (C : Cx nm X cc nL own Ts rty R0) {x y : Int32} (d : decode cc pc = .ok (.iand, 1)) (k : XW nm X nL ce sl S σ (pc + 1) L (.int (x &&& y) :: st)) : XW nm X nL ce sl S σ (pc) L (.int y :: .int x :: st) := by
  obtain ⟨p, l, e, R, s, m, args, below, meth, c, D, ac, E, A, Q⟩ := X
  obtain ⟨⟨hx, hb, hml, hown, hts⟩, hr, hlk, hK, hN, hA, rfl⟩ := C
  intro a H locs ls hE hP hD hS hl
  exact lv_iand hx hb d (k a H locs ls hE hP hD hS hl)
theorem X_ior (C : Cx nm X cc nL own Ts rty R0) {x y : Int32} (d : decode cc pc = .ok (.ior, 1)) (k : XW nm X nL ce sl S σ (pc + 1) L (.int (x ||| y) :: st)) : XW nm X nL ce sl S σ (pc) L (.int y :: .int x :: st) := by
  obtain ⟨p, l, e, R, s, m, args, below, meth, c, D, ac, E, A, Q⟩ := X
  obtain ⟨⟨hx, hb, hml, hown, hts⟩, hr, hlk, hK, hN, hA, rfl⟩ := C
  intro a H locs ls hE hP hD hS hl
  exact lv_ior hx hb d (k a H locs ls hE hP hD hS hl)
theorem X_ishl (C : Cx nm X cc nL own Ts rty R0) {x y : Int32} (d : decode cc pc = .ok (.ishl, 1)) (k : XW nm X nL ce sl S σ (pc + 1) L (.int (x <<< (y &&& 31)) :: st)) : XW nm X nL ce sl S σ (pc) L (.int y :: .int x :: st) := by
  obtain ⟨p, l, e, R, s, m, args, below, meth, c, D, ac, E, A, Q⟩ := X
  obtain ⟨⟨hx, hb, hml, hown, hts⟩, hr, hlk, hK, hN, hA, rfl⟩ := C
  intro a H locs ls hE hP hD hS hl
  exact lv_ishl hx hb d (k a H locs ls hE hP hD hS hl)
theorem X_ishr (C : Cx nm X cc nL own Ts rty R0) {x y : Int32} (d : decode cc pc = .ok (.ishr, 1)) (k : XW nm X nL ce sl S σ (pc + 1) L (.int (x >>> (y &&& 31)) :: st)) : XW nm X nL ce sl S σ (pc) L (.int y :: .int x :: st) := by
  obtain ⟨p, l, e, R, s, m, args, below, meth, c, D, ac, E, A, Q⟩ := X
  obtain ⟨⟨hx, hb, hml, hown, hts⟩, hr, hlk, hK, hN, hA, rfl⟩ := C
  intro a H locs ls hE hP hD hS hl
  exact lv_ishr hx hb d (k a H locs ls hE hP hD hS hl)
theorem X_idiv (C : Cx nm X cc nL own Ts rty R0) {x y : Int32} {f : Option β} (d : decode cc pc = .ok (.idiv, 1)) (hf : gd (!decide (y = 0)) f = some out) (k : f = some out → XW nm X nL ce sl S σ (pc + 1) L (.int (x / y) :: st)) : XW nm X nL ce sl S σ (pc) L (.int y :: .int x :: st) := by
  obtain ⟨p, l, e, R, s, m, args, below, meth, c, D, ac, E, A, Q⟩ := X
  obtain ⟨⟨hx, hb, hml, hown, hts⟩, hr, hlk, hK, hN, hA, rfl⟩ := C
  intro a H locs ls hE hP hD hS hl
  have hg := gd_some hf
  exact lv_idiv hx hb d (by simpa using hg.1) (k hg.2 a H locs ls hE hP hD hS hl)
theorem X_irem (C : Cx nm X cc nL own Ts rty R0) {x y : Int32} {f : Option β} (d : decode cc pc = .ok (.irem, 1)) (hf : gd (!decide (y = 0)) f = some out) (k : f = some out → XW nm X nL ce sl S σ (pc + 1) L (.int (x - x / y * y) :: st)) : XW nm X nL ce sl S σ (pc) L (.int y :: .int x :: st) := by
  obtain ⟨p, l, e, R, s, m, args, below, meth, c, D, ac, E, A, Q⟩ := X
  obtain ⟨⟨hx, hb, hml, hown, hts⟩, hr, hlk, hK, hN, hA, rfl⟩ := C
  intro a H locs ls hE hP hD hS hl
  have hg := gd_some hf
  exact lv_irem hx hb d (by simpa using hg.1) (k hg.2 a H locs ls hE hP hD hS hl)
theorem X_ineg (C : Cx nm X cc nL own Ts rty R0) {x : Int32} (d : decode cc pc = .ok (.ineg, 1)) (k : XW nm X nL ce sl S σ (pc + 1) L (.int (0 - x) :: st)) : XW nm X nL ce sl S σ (pc) L (.int x :: st) := by
  obtain ⟨p, l, e, R, s, m, args, below, meth, c, D, ac, E, A, Q⟩ := X
  obtain ⟨⟨hx, hb, hml, hown, hts⟩, hr, hlk, hK, hN, hA, rfl⟩ := C
  intro a H locs ls hE hP hD hS hl
  exact lv_ineg hx hb d (k a H locs ls hE hP hD hS hl)
theorem X_ladd (C : Cx nm X cc nL own Ts rty R0) {x y : Int64} (d : decode cc pc = .ok (.ladd, 1)) (k : XW nm X nL ce sl S σ (pc + 1) L (.long (x + y) :: st)) : XW nm X nL ce sl S σ (pc) L (.long y :: .long x :: st) := by
  obtain ⟨p, l, e, R, s, m, args, below, meth, c, D, ac, E, A, Q⟩ := X
  obtain ⟨⟨hx, hb, hml, hown, hts⟩, hr, hlk, hK, hN, hA, rfl⟩ := C
  intro a H locs ls hE hP hD hS hl
  exact lv_ladd hx hb d (k a H locs ls hE hP hD hS hl)
theorem X_lsub (C : Cx nm X cc nL own Ts rty R0) {x y : Int64} (d : decode cc pc = .ok (.lsub, 1)) (k : XW nm X nL ce sl S σ (pc + 1) L (.long (x - y) :: st)) : XW nm X nL ce sl S σ (pc) L (.long y :: .long x :: st) := by
  obtain ⟨p, l, e, R, s, m, args, below, meth, c, D, ac, E, A, Q⟩ := X
  obtain ⟨⟨hx, hb, hml, hown, hts⟩, hr, hlk, hK, hN, hA, rfl⟩ := C
  intro a H locs ls hE hP hD hS hl
  exact lv_lsub hx hb d (k a H locs ls hE hP hD hS hl)
theorem X_lmul (C : Cx nm X cc nL own Ts rty R0) {x y : Int64} (d : decode cc pc = .ok (.lmul, 1)) (k : XW nm X nL ce sl S σ (pc + 1) L (.long (x * y) :: st)) : XW nm X nL ce sl S σ (pc) L (.long y :: .long x :: st) := by
  obtain ⟨p, l, e, R, s, m, args, below, meth, c, D, ac, E, A, Q⟩ := X
  obtain ⟨⟨hx, hb, hml, hown, hts⟩, hr, hlk, hK, hN, hA, rfl⟩ := C
  intro a H locs ls hE hP hD hS hl
  exact lv_lmul hx hb d (k a H locs ls hE hP hD hS hl)
theorem X_i2l (C : Cx nm X cc nL own Ts rty R0) {x : Int32} (d : decode cc pc = .ok (.i2l, 1)) (k : XW nm X nL ce sl S σ (pc + 1) L (.long x.toInt64 :: st)) : XW nm X nL ce sl S σ (pc) L (.int x :: st) := by
  obtain ⟨p, l, e, R, s, m, args, below, meth, c, D, ac, E, A, Q⟩ := X
  obtain ⟨⟨hx, hb, hml, hown, hts⟩, hr, hlk, hK, hN, hA, rfl⟩ := C
  intro a H locs ls hE hP hD hS hl
  exact lv_i2l hx hb d rfl (k a H locs ls hE hP hD hS hl)
theorem X_lcmp (C : Cx nm X cc nL own Ts rty R0) {x y : Int64} (d : decode cc pc = .ok (.lcmp, 1)) (k : XW nm X nL ce sl S σ (pc + 1) L (.int (lg_cmp x y) :: st)) : XW nm X nL ce sl S σ (pc) L (.long y :: .long x :: st) := by
  obtain ⟨p, l, e, R, s, m, args, below, meth, c, D, ac, E, A, Q⟩ := X
  obtain ⟨⟨hx, hb, hml, hown, hts⟩, hr, hlk, hK, hN, hA, rfl⟩ := C
  intro a H locs ls hE hP hD hS hl
  exact W.lcmp hx hb d (k a H locs ls hE hP hD hS hl)
theorem X_dup (C : Cx nm X cc nL own Ts rty R0) {v : Value} (d : decode cc pc = .ok (.dup, 1)) (h1 : v.category = 1) (k : XW nm X nL ce sl S σ (pc + 1) L (v :: v :: st)) : XW nm X nL ce sl S σ (pc) L (v :: st) := by
  obtain ⟨p, l, e, R, s, m, args, below, meth, c, D, ac, E, A, Q⟩ := X
  obtain ⟨⟨hx, hb, hml, hown, hts⟩, hr, hlk, hK, hN, hA, rfl⟩ := C
  intro a H locs ls hE hP hD hS hl
  exact lv_dup hx hb d ((cv_cat a _).trans h1) (k a H locs ls hE hP hD hS hl)
theorem X_pop (C : Cx nm X cc nL own Ts rty R0) {v : Value} (d : decode cc pc = .ok (.pop, 1)) (h1 : v.category = 1) (k : XW nm X nL ce sl S σ (pc + 1) L (st)) : XW nm X nL ce sl S σ (pc) L (v :: st) := by
  obtain ⟨p, l, e, R, s, m, args, below, meth, c, D, ac, E, A, Q⟩ := X
  obtain ⟨⟨hx, hb, hml, hown, hts⟩, hr, hlk, hK, hN, hA, rfl⟩ := C
  intro a H locs ls hE hP hD hS hl
  exact lv_pop hx hb d ((cv_cat a _).trans h1) (k a H locs ls hE hP hD hS hl)
theorem X_dup_x1 (C : Cx nm X cc nL own Ts rty R0) {v u : Value} (d : decode cc pc = .ok (.dup_x1, 1)) (h1 : v.category = 1) (h2 : u.category = 1) (k : XW nm X nL ce sl S σ (pc + 1) L (v :: u :: v :: st)) : XW nm X nL ce sl S σ (pc) L (v :: u :: st) := by
  obtain ⟨p, l, e, R, s, m, args, below, meth, c, D, ac, E, A, Q⟩ := X
  obtain ⟨⟨hx, hb, hml, hown, hts⟩, hr, hlk, hK, hN, hA, rfl⟩ := C
  intro a H locs ls hE hP hD hS hl
  exact lv_dup_x1 hx hb d ((cv_cat a _).trans h1) ((cv_cat a _).trans h2) (k a H locs ls hE hP hD hS hl)
theorem X_dup2 (C : Cx nm X cc nL own Ts rty R0) {v u : Value} (d : decode cc pc = .ok (.dup2, 1)) (h1 : v.category = 1) (h2 : u.category = 1) (k : XW nm X nL ce sl S σ (pc + 1) L (v :: u :: v :: u :: st)) : XW nm X nL ce sl S σ (pc) L (v :: u :: st) := by
  obtain ⟨p, l, e, R, s, m, args, below, meth, c, D, ac, E, A, Q⟩ := X
  obtain ⟨⟨hx, hb, hml, hown, hts⟩, hr, hlk, hK, hN, hA, rfl⟩ := C
  intro a H locs ls hE hP hD hS hl
  exact lv_dup2_11 hx hb d ((cv_cat a _).trans h1) ((cv_cat a _).trans h2) (k a H locs ls hE hP hD hS hl)
theorem X_if_eq (C : Cx nm X cc nL own Ts rty R0) {x : Int32} {off : Int} {tgt : Nat} {f g : Option β} (d : decode cc pc = .ok (.ifCond .eq off, 3)) (ht : (pc : Int) + off = (tgt : Int)) (hf : (if x = 0 then f else g) = some out) (kt : f = some out → XW nm X nL ce sl S σ (tgt) L (st)) (kf : g = some out → XW nm X nL ce sl S σ (pc + 3) L (st)) : XW nm X nL ce sl S σ (pc) L (.int x :: st) := by
  obtain ⟨p, l, e, R, s, m, args, below, meth, c, D, ac, E, A, Q⟩ := X
  obtain ⟨⟨hx, hb, hml, hown, hts⟩, hr, hlk, hK, hN, hA, rfl⟩ := C
  intro a H locs ls hE hP hD hS hl
  exact lv_if_eq hx hb d ht (fun hc => kt (by rw [if_pos hc] at hf; exact hf) a H locs ls hE hP hD hS hl) (fun hc => kf (by rw [if_neg hc] at hf; exact hf) a H locs ls hE hP hD hS hl)
theorem X_icmp_eq (C : Cx nm X cc nL own Ts rty R0) {x y : Int32} {off : Int} {tgt : Nat} {f g : Option β} (d : decode cc pc = .ok (.if_icmp .eq off, 3)) (ht : (pc : Int) + off = (tgt : Int)) (hf : (if x = y then f else g) = some out) (kt : f = some out → XW nm X nL ce sl S σ (tgt) L (st)) (kf : g = some out → XW nm X nL ce sl S σ (pc + 3) L (st)) : XW nm X nL ce sl S σ (pc) L (.int y :: .int x :: st) := by
  obtain ⟨p, l, e, R, s, m, args, below, meth, c, D, ac, E, A, Q⟩ := X
  obtain ⟨⟨hx, hb, hml, hown, hts⟩, hr, hlk, hK, hN, hA, rfl⟩ := C
  intro a H locs ls hE hP hD hS hl
  exact lv_icmp_eq hx hb d ht (fun hc => kt (by rw [if_pos hc] at hf; exact hf) a H locs ls hE hP hD hS hl) (fun hc => kf (by rw [if_neg hc] at hf; exact hf) a H locs ls hE hP hD hS hl)
theorem X_if_ne (C : Cx nm X cc nL own Ts rty R0) {x : Int32} {off : Int} {tgt : Nat} {f g : Option β} (d : decode cc pc = .ok (.ifCond .ne off, 3)) (ht : (pc : Int) + off = (tgt : Int)) (hf : (if x = 0 then f else g) = some out) (kt : g = some out → XW nm X nL ce sl S σ (tgt) L (st)) (kf : f = some out → XW nm X nL ce sl S σ (pc + 3) L (st)) : XW nm X nL ce sl S σ (pc) L (.int x :: st) := by
  obtain ⟨p, l, e, R, s, m, args, below, meth, c, D, ac, E, A, Q⟩ := X
  obtain ⟨⟨hx, hb, hml, hown, hts⟩, hr, hlk, hK, hN, hA, rfl⟩ := C
  intro a H locs ls hE hP hD hS hl
  exact lv_if_ne hx hb d ht (fun hc => kt (by rw [if_neg hc] at hf; exact hf) a H locs ls hE hP hD hS hl) (fun hc => kf (by rw [if_pos hc] at hf; exact hf) a H locs ls hE hP hD hS hl)
theorem X_icmp_ne (C : Cx nm X cc nL own Ts rty R0) {x y : Int32} {off : Int} {tgt : Nat} {f g : Option β} (d : decode cc pc = .ok (.if_icmp .ne off, 3)) (ht : (pc : Int) + off = (tgt : Int)) (hf : (if x = y then f else g) = some out) (kt : g = some out → XW nm X nL ce sl S σ (tgt) L (st)) (kf : f = some out → XW nm X nL ce sl S σ (pc + 3) L (st)) : XW nm X nL ce sl S σ (pc) L (.int y :: .int x :: st) := by
  obtain ⟨p, l, e, R, s, m, args, below, meth, c, D, ac, E, A, Q⟩ := X
  obtain ⟨⟨hx, hb, hml, hown, hts⟩, hr, hlk, hK, hN, hA, rfl⟩ := C
  intro a H locs ls hE hP hD hS hl
  exact lv_icmp_ne hx hb d ht (fun hc => kt (by rw [if_neg hc] at hf; exact hf) a H locs ls hE hP hD hS hl) (fun hc => kf (by rw [if_pos hc] at hf; exact hf) a H locs ls hE hP hD hS hl)
theorem X_if_lt (C : Cx nm X cc nL own Ts rty R0) {x : Int32} {off : Int} {tgt : Nat} {f g : Option β} (d : decode cc pc = .ok (.ifCond .lt off, 3)) (ht : (pc : Int) + off = (tgt : Int)) (hf : (if x < 0 then f else g) = some out) (kt : f = some out → XW nm X nL ce sl S σ (tgt) L (st)) (kf : g = some out → XW nm X nL ce sl S σ (pc + 3) L (st)) : XW nm X nL ce sl S σ (pc) L (.int x :: st) := by
  obtain ⟨p, l, e, R, s, m, args, below, meth, c, D, ac, E, A, Q⟩ := X
  obtain ⟨⟨hx, hb, hml, hown, hts⟩, hr, hlk, hK, hN, hA, rfl⟩ := C
  intro a H locs ls hE hP hD hS hl
  exact lv_if_lt hx hb d ht (fun hc => kt (by rw [if_pos hc] at hf; exact hf) a H locs ls hE hP hD hS hl) (fun hc => kf (by rw [if_neg hc] at hf; exact hf) a H locs ls hE hP hD hS hl)
theorem X_icmp_lt (C : Cx nm X cc nL own Ts rty R0) {x y : Int32} {off : Int} {tgt : Nat} {f g : Option β} (d : decode cc pc = .ok (.if_icmp .lt off, 3)) (ht : (pc : Int) + off = (tgt : Int)) (hf : (if x < y then f else g) = some out) (kt : f = some out → XW nm X nL ce sl S σ (tgt) L (st)) (kf : g = some out → XW nm X nL ce sl S σ (pc + 3) L (st)) : XW nm X nL ce sl S σ (pc) L (.int y :: .int x :: st) := by
  obtain ⟨p, l, e, R, s, m, args, below, meth, c, D, ac, E, A, Q⟩ := X
  obtain ⟨⟨hx, hb, hml, hown, hts⟩, hr, hlk, hK, hN, hA, rfl⟩ := C
  intro a H locs ls hE hP hD hS hl
  exact lv_icmp_lt hx hb d ht (fun hc => kt (by rw [if_pos hc] at hf; exact hf) a H locs ls hE hP hD hS hl) (fun hc => kf (by rw [if_neg hc] at hf; exact hf) a H locs ls hE hP hD hS hl)
theorem X_if_ge (C : Cx nm X cc nL own Ts rty R0) {x : Int32} {off : Int} {tgt : Nat} {f g : Option β} (d : decode cc pc = .ok (.ifCond .ge off, 3)) (ht : (pc : Int) + off = (tgt : Int)) (hf : (if 0 ≤ x then f else g) = some out) (kt : f = some out → XW nm X nL ce sl S σ (tgt) L (st)) (kf : g = some out → XW nm X nL ce sl S σ (pc + 3) L (st)) : XW nm X nL ce sl S σ (pc) L (.int x :: st) := by
  obtain ⟨p, l, e, R, s, m, args, below, meth, c, D, ac, E, A, Q⟩ := X
  obtain ⟨⟨hx, hb, hml, hown, hts⟩, hr, hlk, hK, hN, hA, rfl⟩ := C
  intro a H locs ls hE hP hD hS hl
  exact lv_if_ge hx hb d ht (fun hc => kt (by rw [if_pos hc] at hf; exact hf) a H locs ls hE hP hD hS hl) (fun hc => kf (by rw [if_neg hc] at hf; exact hf) a H locs ls hE hP hD hS hl)
theorem X_icmp_ge (C : Cx nm X cc nL own Ts rty R0) {x y : Int32} {off : Int} {tgt : Nat} {f g : Option β} (d : decode cc pc = .ok (.if_icmp .ge off, 3)) (ht : (pc : Int) + off = (tgt : Int)) (hf : (if y ≤ x then f else g) = some out) (kt : f = some out → XW nm X nL ce sl S σ (tgt) L (st)) (kf : g = some out → XW nm X nL ce sl S σ (pc + 3) L (st)) : XW nm X nL ce sl S σ (pc) L (.int y :: .int x :: st) := by
  obtain ⟨p, l, e, R, s, m, args, below, meth, c, D, ac, E, A, Q⟩ := X
  obtain ⟨⟨hx, hb, hml, hown, hts⟩, hr, hlk, hK, hN, hA, rfl⟩ := C
  intro a H locs ls hE hP hD hS hl
  exact lv_icmp_ge hx hb d ht (fun hc => kt (by rw [if_pos hc] at hf; exact hf) a H locs ls hE hP hD hS hl) (fun hc => kf (by rw [if_neg hc] at hf; exact hf) a H locs ls hE hP hD hS hl)
theorem X_if_gt (C : Cx nm X cc nL own Ts rty R0) {x : Int32} {off : Int} {tgt : Nat} {f g : Option β} (d : decode cc pc = .ok (.ifCond .gt off, 3)) (ht : (pc : Int) + off = (tgt : Int)) (hf : (if 0 < x then f else g) = some out) (kt : f = some out → XW nm X nL ce sl S σ (tgt) L (st)) (kf : g = some out → XW nm X nL ce sl S σ (pc + 3) L (st)) : XW nm X nL ce sl S σ (pc) L (.int x :: st) := by
  obtain ⟨p, l, e, R, s, m, args, below, meth, c, D, ac, E, A, Q⟩ := X
  obtain ⟨⟨hx, hb, hml, hown, hts⟩, hr, hlk, hK, hN, hA, rfl⟩ := C
  intro a H locs ls hE hP hD hS hl
  exact lv_if_gt hx hb d ht (fun hc => kt (by rw [if_pos hc] at hf; exact hf) a H locs ls hE hP hD hS hl) (fun hc => kf (by rw [if_neg hc] at hf; exact hf) a H locs ls hE hP hD hS hl)
theorem X_icmp_gt (C : Cx nm X cc nL own Ts rty R0) {x y : Int32} {off : Int} {tgt : Nat} {f g : Option β} (d : decode cc pc = .ok (.if_icmp .gt off, 3)) (ht : (pc : Int) + off = (tgt : Int)) (hf : (if y < x then f else g) = some out) (kt : f = some out → XW nm X nL ce sl S σ (tgt) L (st)) (kf : g = some out → XW nm X nL ce sl S σ (pc + 3) L (st)) : XW nm X nL ce sl S σ (pc) L (.int y :: .int x :: st) := by
  obtain ⟨p, l, e, R, s, m, args, below, meth, c, D, ac, E, A, Q⟩ := X
  obtain ⟨⟨hx, hb, hml, hown, hts⟩, hr, hlk, hK, hN, hA, rfl⟩ := C
  intro a H locs ls hE hP hD hS hl
  exact lv_icmp_gt hx hb d ht (fun hc => kt (by rw [if_pos hc] at hf; exact hf) a H locs ls hE hP hD hS hl) (fun hc => kf (by rw [if_neg hc] at hf; exact hf) a H locs ls hE hP hD hS hl)
theorem X_if_le (C : Cx nm X cc nL own Ts rty R0) {x : Int32} {off : Int} {tgt : Nat} {f g : Option β} (d : decode cc pc = .ok (.ifCond .le off, 3)) (ht : (pc : Int) + off = (tgt : Int)) (hf : (if x ≤ 0 then f else g) = some out) (kt : f = some out → XW nm X nL ce sl S σ (tgt) L (st)) (kf : g = some out → XW nm X nL ce sl S σ (pc + 3) L (st)) : XW nm X nL ce sl S σ (pc) L (.int x :: st) := by
  obtain ⟨p, l, e, R, s, m, args, below, meth, c, D, ac, E, A, Q⟩ := X
  obtain ⟨⟨hx, hb, hml, hown, hts⟩, hr, hlk, hK, hN, hA, rfl⟩ := C
  intro a H locs ls hE hP hD hS hl
  exact lv_if_le hx hb d ht (fun hc => kt (by rw [if_pos hc] at hf; exact hf) a H locs ls hE hP hD hS hl) (fun hc => kf (by rw [if_neg hc] at hf; exact hf) a H locs ls hE hP hD hS hl)
theorem X_icmp_le (C : Cx nm X cc nL own Ts rty R0) {x y : Int32} {off : Int} {tgt : Nat} {f g : Option β} (d : decode cc pc = .ok (.if_icmp .le off, 3)) (ht : (pc : Int) + off = (tgt : Int)) (hf : (if x ≤ y then f else g) = some out) (kt : f = some out → XW nm X nL ce sl S σ (tgt) L (st)) (kf : g = some out → XW nm X nL ce sl S σ (pc + 3) L (st)) : XW nm X nL ce sl S σ (pc) L (.int y :: .int x :: st) := by
  obtain ⟨p, l, e, R, s, m, args, below, meth, c, D, ac, E, A, Q⟩ := X
  obtain ⟨⟨hx, hb, hml, hown, hts⟩, hr, hlk, hK, hN, hA, rfl⟩ := C
  intro a H locs ls hE hP hD hS hl
  exact lv_icmp_le hx hb d ht (fun hc => kt (by rw [if_pos hc] at hf; exact hf) a H locs ls hE hP hD hS hl) (fun hc => kf (by rw [if_neg hc] at hf; exact hf) a H locs ls hE hP hD hS hl)
theorem X_goto (C : Cx nm X cc nL own Ts rty R0) {off : Int} {tgt : Nat} (d : decode cc pc = .ok (.goto off, 3)) (ht : (pc : Int) + off = (tgt : Int)) (k : XW nm X nL ce sl S σ (tgt) L (st)) : XW nm X nL ce sl S σ (pc) L (st) := by
  obtain ⟨p, l, e, R, s, m, args, below, meth, c, D, ac, E, A, Q⟩ := X
  obtain ⟨⟨hx, hb, hml, hown, hts⟩, hr, hlk, hK, hN, hA, rfl⟩ := C
  intro a H locs ls hE hP hD hS hl
  exact lv_goto hx hb d ht (k a H locs ls hE hP hD hS hl)
theorem X_tin (C : Cx nm X cc nL own Ts rty R0) {dflt lo hi off : Int} {offs : Array Int} {len tgt : Nat} {x : Int32} (d : decode cc pc = .ok (.tableswitch dflt lo hi offs, len)) (h1 : ¬ x.toInt < lo) (h2 : ¬ hi < x.toInt) (ho : offs[(x.toInt - lo).toNat]? = some off) (ht : (pc : Int) + off = (tgt : Int)) (k : XW nm X nL ce sl S σ (tgt) L (st)) : XW nm X nL ce sl S σ (pc) L (.int x :: st) := by
  obtain ⟨p, l, e, R, s, m, args, below, meth, c, D, ac, E, A, Q⟩ := X
  obtain ⟨⟨hx, hb, hml, hown, hts⟩, hr, hlk, hK, hN, hA, rfl⟩ := C
  intro a H locs ls hE hP hD hS hl
  exact lv_tableIn hx hb d h1 h2 ho ht (k a H locs ls hE hP hD hS hl)
theorem X_tout (C : Cx nm X cc nL own Ts rty R0) {dflt lo hi : Int} {offs : Array Int} {len tgt : Nat} {x : Int32} (d : decode cc pc = .ok (.tableswitch dflt lo hi offs, len)) (h : x.toInt < lo ∨ hi < x.toInt) (ht : (pc : Int) + dflt = (tgt : Int)) (k : XW nm X nL ce sl S σ (tgt) L (st)) : XW nm X nL ce sl S σ (pc) L (.int x :: st) := by
  obtain ⟨p, l, e, R, s, m, args, below, meth, c, D, ac, E, A, Q⟩ := X
  obtain ⟨⟨hx, hb, hml, hown, hts⟩, hr, hlk, hK, hN, hA, rfl⟩ := C
  intro a H locs ls hE hP hD hS hl
  exact lv_tableOut hx hb d h ht (k a H locs ls hE hP hD hS hl)
theorem X_nm {x : Int32} {f : Int32 → Option β} (hf : lt_ x f = some out) (k : ∀ y : Int32, f y = some out → XW nm X nL ce sl S σ (pc) L (.int y :: st)) : XW nm X nL ce sl S σ (pc) L (.int x :: st) := k x hf
theorem X_nml {x : Int64} {f : Int64 → Option β} (hf : lt_ x f = some out) (k : ∀ y : Int64, f y = some out → XW nm X nL ce sl S σ (pc) L (.long y :: st)) : XW nm X nL ce sl S σ (pc) L (.long x :: st) := k x hf
theorem X_loc (ks : List Nat) (hL : lv_pick L ks = L') (k : XW nm X nL ce sl S σ (pc) L' (st)) : XW nm X nL ce sl S σ (pc) L (st) := by
  obtain ⟨p, l, e, R, s, m, args, below, meth, c, D, ac, E, A, Q⟩ := X
  intro a H locs ls hE hP hD hS hl
  exact k a H locs ls hE hP hD hS (lv_sub hl ks (by rw [pick_map, hL]))
theorem X_geti (C : Cx nm X cc nL own Ts rty R0) {q ci index : Nat} {fl : List (Option Nat)} {Cn : String} {T : u_T} {Nn : Nat} (k0 : Nat) (hq : S[q]? = some (.inl (ci, fl))) (hc : nm.1[ci]? = some (Cn, T, Nn)) (hin : ∀ w ∈ u_ws Cn T Nn, w ∈ Ts) (hk : k0 < Nn) (hw : Cond.fieldLink own index (T k0).1 (T k0).2.1 (T k0).2.2.1 ∈ Ts) (hfl : fl[k0]? = some none) (d : decode cc pc = .ok (.getfield index, 3)) (k : XW nm X nL ce sl S σ (pc + 3) L (.int (σ q k0) :: st)) : XW nm X nL ce sl S σ (pc) L (.ref q :: st) := by
  obtain ⟨p, l, e, R, s, m, args, below, meth, c, D, ac, E, A, Q⟩ := X
  obtain ⟨⟨hx, hb, hml, hown, hts⟩, hr, hlk, hK, hN, hA, rfl⟩ := C
  intro a H locs ls hE hP hD hS hl
  exact va_get hx hb hts hin hown hK hP q (Wd_get0 hq) hc k0 hk (hts _ hw) (fun _ h9 => h9) (by have h9 := flds_get a (σ q) fl 0 k0 _ hfl; rw [Nat.zero_add] at h9; exact h9) d (k a H locs ls hE hP hD hS hl)
theorem X_getr (C : Cx nm X cc nL own Ts rty R0) {r : Nat} {q ci index : Nat} {fl : List (Option Nat)} {Cn : String} {T : u_T} {Nn : Nat} (k0 : Nat) (hq : S[q]? = some (.inl (ci, fl))) (hc : nm.1[ci]? = some (Cn, T, Nn)) (hin : ∀ w ∈ u_ws Cn T Nn, w ∈ Ts) (hk : k0 < Nn) (hw : Cond.fieldLink own index (T k0).1 (T k0).2.1 (T k0).2.2.1 ∈ Ts) (hfl : fl[k0]? = some (some (r + 1))) (d : decode cc pc = .ok (.getfield index, 3)) (k : XW nm X nL ce sl S σ (pc + 3) L (.ref r :: st)) : XW nm X nL ce sl S σ (pc) L (.ref q :: st) := by
  obtain ⟨p, l, e, R, s, m, args, below, meth, c, D, ac, E, A, Q⟩ := X
  obtain ⟨⟨hx, hb, hml, hown, hts⟩, hr, hlk, hK, hN, hA, rfl⟩ := C
  intro a H locs ls hE hP hD hS hl
  exact va_get hx hb hts hin hown hK hP q (Wd_get0 hq) hc k0 hk (hts _ hw) (fun _ h9 => h9) (by have h9 := flds_get a (σ q) fl 0 k0 _ hfl; rw [Nat.zero_add] at h9; exact h9) d (k a H locs ls hE hP hD hS hl)
theorem X_getiN (C : Cx nm X cc nL own Ts rty R0) {q ci index : Nat} {fl : List (Option Nat)} {Cn : String} {T : u_T} {Nn : Nat} (k0 : Nat) (hq : S[q]? = some (.inl (ci, fl))) (hc : nm.1[ci]? = some (Cn, T, Nn)) (hin : ∀ w ∈ u_ws Cn T Nn, w ∈ Ts) (hk : k0 < Nn) {host : String} (hw : (own, index, (T k0).1, (T k0).2.1, (T k0).2.2.1, host) ∈ nm.2.1) (hfl : fl[k0]? = some none) (d : decode cc pc = .ok (.getfield index, 3)) (k : XW nm X nL ce sl S σ (pc + 3) L (.int (σ q k0) :: st)) : XW nm X nL ce sl S σ (pc) L (.ref q :: st) := by
  obtain ⟨p, l, e, R, s, m, args, below, meth, c, D, ac, E, A, Q⟩ := X
  obtain ⟨⟨hx, hb, hml, hown, hts⟩, hr, hlk, hK, hN, hA, rfl⟩ := C
  intro a H locs ls hE hP hD hS hl
  exact va_getN hx hb hts hin hown hK hP q (Wd_get0 hq) hc k0 hk (va_Nw.use rfl (hN.1 _ hw)) (fun _ h9 => h9) (by have h9 := flds_get a (σ q) fl 0 k0 _ hfl; rw [Nat.zero_add] at h9; exact h9) d (k a H locs ls hE hP hD hS hl)
theorem X_getrN (C : Cx nm X cc nL own Ts rty R0) {r : Nat} {q ci index : Nat} {fl : List (Option Nat)} {Cn : String} {T : u_T} {Nn : Nat} (k0 : Nat) (hq : S[q]? = some (.inl (ci, fl))) (hc : nm.1[ci]? = some (Cn, T, Nn)) (hin : ∀ w ∈ u_ws Cn T Nn, w ∈ Ts) (hk : k0 < Nn) {host : String} (hw : (own, index, (T k0).1, (T k0).2.1, (T k0).2.2.1, host) ∈ nm.2.1) (hfl : fl[k0]? = some (some (r + 1))) (d : decode cc pc = .ok (.getfield index, 3)) (k : XW nm X nL ce sl S σ (pc + 3) L (.ref r :: st)) : XW nm X nL ce sl S σ (pc) L (.ref q :: st) := by
  obtain ⟨p, l, e, R, s, m, args, below, meth, c, D, ac, E, A, Q⟩ := X
  obtain ⟨⟨hx, hb, hml, hown, hts⟩, hr, hlk, hK, hN, hA, rfl⟩ := C
  intro a H locs ls hE hP hD hS hl
  exact va_getN hx hb hts hin hown hK hP q (Wd_get0 hq) hc k0 hk (va_Nw.use rfl (hN.1 _ hw)) (fun _ h9 => h9) (by have h9 := flds_get a (σ q) fl 0 k0 _ hfl; rw [Nat.zero_add] at h9; exact h9) d (k a H locs ls hE hP hD hS hl)
theorem X_puti (C : Cx nm X cc nL own Ts rty R0) {v : Int32} {f : Sg → Option β} {q ci index : Nat} {fl : List (Option Nat)} {Cn : String} {T : u_T} {Nn : Nat} (k0 : Nat) (hq : S[q]? = some (.inl (ci, fl))) (hc : nm.1[ci]? = some (Cn, T, Nn)) (hin : ∀ w ∈ u_ws Cn T Nn, w ∈ Ts) (hk : k0 < Nn) (ty0 : Nat → FieldType) (hty : ∀ k, k < Nn → parseFieldDescriptor (T k).2.2.1 = some (ty0 k)) (hnm : ∀ a, a < Nn → ∀ b, b < Nn → a ≠ b → (T a).2.1 ≠ (T b).2.1) (hw : Cond.fieldLink own index (T k0).1 (T k0).2.1 (T k0).2.2.1 ∈ Ts) (hfin : (T k0).2.2.2 = false) (hd : parseFieldDescriptor (T k0).2.2.1 = some .int) (hfl : fl[k0]? = some none) (d : decode cc pc = .ok (.putfield index, 3)) (hf : lt_ (sgu σ q k0 v) f = some out) (k : ∀ σ1 : Sg, f σ1 = some out → XW nm X nL ce sl S σ1 (pc + 3) L (st)) : XW nm X nL ce sl S σ (pc) L (.int v :: .ref q :: st) := by
  obtain ⟨p, l, e, R, s, m, args, below, meth, c, D, ac, E, A, Q⟩ := X
  obtain ⟨⟨hx, hb, hml, hown, hts⟩, hr, hlk, hK, hN, hA, rfl⟩ := C
  intro a H locs ls hE hP hD hS hl
  exact va_put hx hb hts hin ty0 hty hnm hown hK hP hD hS q (Wd_get0 hq) hc k0 hk (hts _ hw) (fun _ h9 => h9) hfin hd rfl rfl (by rw [flds_len]; exact (List.getElem?_eq_some_iff.mp hfl).1) d (fun H1 locs1 hP hD hS => k _ hf a H1 locs1 ls hE (P_eq (Wd_puti (ac := ac) (a := a) (σ := σ) (v := v) hq hfl) hP) (D_eq (Wd_puti (ac := ac) (a := a) (σ := σ) (v := v) hq hfl) hD) hS hl)
theorem X_puti0 (C : Cx nm X cc nL own Ts rty R0) {v : Int32} {q ci index : Nat} {fl : List (Option Nat)} {Cn : String} {T : u_T} {Nn : Nat} (k0 : Nat) (hq : S[q]? = some (.inl (ci, fl))) (hc : nm.1[ci]? = some (Cn, T, Nn)) (hin : ∀ w ∈ u_ws Cn T Nn, w ∈ Ts) (hk : k0 < Nn) (ty0 : Nat → FieldType) (hty : ∀ k, k < Nn → parseFieldDescriptor (T k).2.2.1 = some (ty0 k)) (hnm : ∀ a, a < Nn → ∀ b, b < Nn → a ≠ b → (T a).2.1 ≠ (T b).2.1) (hw : Cond.fieldLink own index (T k0).1 (T k0).2.1 (T k0).2.2.1 ∈ Ts) (hfin : (T k0).2.2.2 = false) (hd : parseFieldDescriptor (T k0).2.2.1 = some .int) (hfl : fl[k0]? = some none) (d : decode cc pc = .ok (.putfield index, 3)) (k : XW nm X nL ce sl S (sgu σ q k0 v) (pc + 3) L (st)) : XW nm X nL ce sl S σ (pc) L (.int v :: .ref q :: st) := by
  obtain ⟨p, l, e, R, s, m, args, below, meth, c, D, ac, E, A, Q⟩ := X
  obtain ⟨⟨hx, hb, hml, hown, hts⟩, hr, hlk, hK, hN, hA, rfl⟩ := C
  intro a H locs ls hE hP hD hS hl
  exact va_put hx hb hts hin ty0 hty hnm hown hK hP hD hS q (Wd_get0 hq) hc k0 hk (hts _ hw) (fun _ h9 => h9) hfin hd rfl rfl (by rw [flds_len]; exact (List.getElem?_eq_some_iff.mp hfl).1) d (fun H1 locs1 hP hD hS => k a H1 locs1 ls hE (P_eq (Wd_puti (ac := ac) (a := a) (σ := σ) (v := v) hq hfl) hP) (D_eq (Wd_puti (ac := ac) (a := a) (σ := σ) (v := v) hq hfl) hD) hS hl)
theorem X_putz (C : Cx nm X cc nL own Ts rty R0) {v : Int32} {f : Sg → Option β} {q ci index : Nat} {fl : List (Option Nat)} {Cn : String} {T : u_T} {Nn : Nat} (k0 : Nat) (hq : S[q]? = some (.inl (ci, fl))) (hc : nm.1[ci]? = some (Cn, T, Nn)) (hin : ∀ w ∈ u_ws Cn T Nn, w ∈ Ts) (hk : k0 < Nn) (ty0 : Nat → FieldType) (hty : ∀ k, k < Nn → parseFieldDescriptor (T k).2.2.1 = some (ty0 k)) (hnm : ∀ a, a < Nn → ∀ b, b < Nn → a ≠ b → (T a).2.1 ≠ (T b).2.1) (hw : Cond.fieldLink own index (T k0).1 (T k0).2.1 (T k0).2.2.1 ∈ Ts) (hfin : (T k0).2.2.2 = false) (hd : parseFieldDescriptor (T k0).2.2.1 = some .boolean) (hfl : fl[k0]? = some none) (d : decode cc pc = .ok (.putfield index, 3)) (hf : gd (bz v) (lt_ (sgu σ q k0 v) f) = some out) (k : ∀ σ1 : Sg, f σ1 = some out → XW nm X nL ce sl S σ1 (pc + 3) L (st)) : XW nm X nL ce sl S σ (pc) L (.int v :: .ref q :: st) := by
  obtain ⟨p, l, e, R, s, m, args, below, meth, c, D, ac, E, A, Q⟩ := X
  obtain ⟨⟨hx, hb, hml, hown, hts⟩, hr, hlk, hK, hN, hA, rfl⟩ := C
  intro a H locs ls hE hP hD hS hl
  have hg := gd_some hf
  exact va_put hx hb hts hin ty0 hty hnm hown hK hP hD hS q (Wd_get0 hq) hc k0 hk (hts _ hw) (fun _ h9 => h9) hfin hd (bz_nar hg.1) (bz_fits hg.1) (by rw [flds_len]; exact (List.getElem?_eq_some_iff.mp hfl).1) d (fun H1 locs1 hP hD hS => k _ hg.2 a H1 locs1 ls hE (P_eq (Wd_puti (ac := ac) (a := a) (σ := σ) (v := v) hq hfl) hP) (D_eq (Wd_puti (ac := ac) (a := a) (σ := σ) (v := v) hq hfl) hD) hS hl)
theorem X_putz0 (C : Cx nm X cc nL own Ts rty R0) {v : Int32} {q ci index : Nat} {fl : List (Option Nat)} {Cn : String} {T : u_T} {Nn : Nat} (k0 : Nat) (hq : S[q]? = some (.inl (ci, fl))) (hc : nm.1[ci]? = some (Cn, T, Nn)) (hin : ∀ w ∈ u_ws Cn T Nn, w ∈ Ts) (hk : k0 < Nn) (ty0 : Nat → FieldType) (hty : ∀ k, k < Nn → parseFieldDescriptor (T k).2.2.1 = some (ty0 k)) (hnm : ∀ a, a < Nn → ∀ b, b < Nn → a ≠ b → (T a).2.1 ≠ (T b).2.1) (hw : Cond.fieldLink own index (T k0).1 (T k0).2.1 (T k0).2.2.1 ∈ Ts) (hfin : (T k0).2.2.2 = false) (hd : parseFieldDescriptor (T k0).2.2.1 = some .boolean) (hfl : fl[k0]? = some none) (hv : bz v = true) (d : decode cc pc = .ok (.putfield index, 3)) (k : XW nm X nL ce sl S (sgu σ q k0 v) (pc + 3) L (st)) : XW nm X nL ce sl S σ (pc) L (.int v :: .ref q :: st) := by
  obtain ⟨p, l, e, R, s, m, args, below, meth, c, D, ac, E, A, Q⟩ := X
  obtain ⟨⟨hx, hb, hml, hown, hts⟩, hr, hlk, hK, hN, hA, rfl⟩ := C
  intro a H locs ls hE hP hD hS hl
  exact va_put hx hb hts hin ty0 hty hnm hown hK hP hD hS q (Wd_get0 hq) hc k0 hk (hts _ hw) (fun _ h9 => h9) hfin hd (bz_nar hv) (bz_fits hv) (by rw [flds_len]; exact (List.getElem?_eq_some_iff.mp hfl).1) d (fun H1 locs1 hP hD hS => k a H1 locs1 ls hE (P_eq (Wd_puti (ac := ac) (a := a) (σ := σ) (v := v) hq hfl) hP) (D_eq (Wd_puti (ac := ac) (a := a) (σ := σ) (v := v) hq hfl) hD) hS hl)
theorem X_putiN (C : Cx nm X cc nL own Ts rty R0) {v : Int32} {f : Sg → Option β} {q ci index : Nat} {fl : List (Option Nat)} {Cn : String} {T : u_T} {Nn : Nat} (k0 : Nat) (hq : S[q]? = some (.inl (ci, fl))) (hc : nm.1[ci]? = some (Cn, T, Nn)) (hin : ∀ w ∈ u_ws Cn T Nn, w ∈ Ts) (hk : k0 < Nn) (ty0 : Nat → FieldType) (hty : ∀ k, k < Nn → parseFieldDescriptor (T k).2.2.1 = some (ty0 k)) (hnm : ∀ a, a < Nn → ∀ b, b < Nn → a ≠ b → (T a).2.1 ≠ (T b).2.1) {host : String} (hw : (own, index, (T k0).1, (T k0).2.1, (T k0).2.2.1, host) ∈ nm.2.1) (hfin : (T k0).2.2.2 = false) (hd : parseFieldDescriptor (T k0).2.2.1 = some .int) (hfl : fl[k0]? = some none) (d : decode cc pc = .ok (.putfield index, 3)) (hf : lt_ (sgu σ q k0 v) f = some out) (k : ∀ σ1 : Sg, f σ1 = some out → XW nm X nL ce sl S σ1 (pc + 3) L (st)) : XW nm X nL ce sl S σ (pc) L (.int v :: .ref q :: st) := by
  obtain ⟨p, l, e, R, s, m, args, below, meth, c, D, ac, E, A, Q⟩ := X
  obtain ⟨⟨hx, hb, hml, hown, hts⟩, hr, hlk, hK, hN, hA, rfl⟩ := C
  intro a H locs ls hE hP hD hS hl
  exact va_putN hx hb hts hin ty0 hty hnm hown hK hP hD hS q (Wd_get0 hq) hc k0 hk (va_Nw.use rfl (hN.1 _ hw)) (fun _ h9 => h9) hfin hd rfl rfl (by rw [flds_len]; exact (List.getElem?_eq_some_iff.mp hfl).1) d (fun H1 locs1 hP hD hS => k _ hf a H1 locs1 ls hE (P_eq (Wd_puti (ac := ac) (a := a) (σ := σ) (v := v) hq hfl) hP) (D_eq (Wd_puti (ac := ac) (a := a) (σ := σ) (v := v) hq hfl) hD) hS hl)
theorem X_putiN0 (C : Cx nm X cc nL own Ts rty R0) {v : Int32} {q ci index : Nat} {fl : List (Option Nat)} {Cn : String} {T : u_T} {Nn : Nat} (k0 : Nat) (hq : S[q]? = some (.inl (ci, fl))) (hc : nm.1[ci]? = some (Cn, T, Nn)) (hin : ∀ w ∈ u_ws Cn T Nn, w ∈ Ts) (hk : k0 < Nn) (ty0 : Nat → FieldType) (hty : ∀ k, k < Nn → parseFieldDescriptor (T k).2.2.1 = some (ty0 k)) (hnm : ∀ a, a < Nn → ∀ b, b < Nn → a ≠ b → (T a).2.1 ≠ (T b).2.1) {host : String} (hw : (own, index, (T k0).1, (T k0).2.1, (T k0).2.2.1, host) ∈ nm.2.1) (hfin : (T k0).2.2.2 = false) (hd : parseFieldDescriptor (T k0).2.2.1 = some .int) (hfl : fl[k0]? = some none) (d : decode cc pc = .ok (.putfield index, 3)) (k : XW nm X nL ce sl S (sgu σ q k0 v) (pc + 3) L (st)) : XW nm X nL ce sl S σ (pc) L (.int v :: .ref q :: st) := by
  obtain ⟨p, l, e, R, s, m, args, below, meth, c, D, ac, E, A, Q⟩ := X
  obtain ⟨⟨hx, hb, hml, hown, hts⟩, hr, hlk, hK, hN, hA, rfl⟩ := C
  intro a H locs ls hE hP hD hS hl
  exact va_putN hx hb hts hin ty0 hty hnm hown hK hP hD hS q (Wd_get0 hq) hc k0 hk (va_Nw.use rfl (hN.1 _ hw)) (fun _ h9 => h9) hfin hd rfl rfl (by rw [flds_len]; exact (List.getElem?_eq_some_iff.mp hfl).1) d (fun H1 locs1 hP hD hS => k a H1 locs1 ls hE (P_eq (Wd_puti (ac := ac) (a := a) (σ := σ) (v := v) hq hfl) hP) (D_eq (Wd_puti (ac := ac) (a := a) (σ := σ) (v := v) hq hfl) hD) hS hl)
theorem X_putzN (C : Cx nm X cc nL own Ts rty R0) {v : Int32} {f : Sg → Option β} {q ci index : Nat} {fl : List (Option Nat)} {Cn : String} {T : u_T} {Nn : Nat} (k0 : Nat) (hq : S[q]? = some (.inl (ci, fl))) (hc : nm.1[ci]? = some (Cn, T, Nn)) (hin : ∀ w ∈ u_ws Cn T Nn, w ∈ Ts) (hk : k0 < Nn) (ty0 : Nat → FieldType) (hty : ∀ k, k < Nn → parseFieldDescriptor (T k).2.2.1 = some (ty0 k)) (hnm : ∀ a, a < Nn → ∀ b, b < Nn → a ≠ b → (T a).2.1 ≠ (T b).2.1) {host : String} (hw : (own, index, (T k0).1, (T k0).2.1, (T k0).2.2.1, host) ∈ nm.2.1) (hfin : (T k0).2.2.2 = false) (hd : parseFieldDescriptor (T k0).2.2.1 = some .boolean) (hfl : fl[k0]? = some none) (d : decode cc pc = .ok (.putfield index, 3)) (hf : gd (bz v) (lt_ (sgu σ q k0 v) f) = some out) (k : ∀ σ1 : Sg, f σ1 = some out → XW nm X nL ce sl S σ1 (pc + 3) L (st)) : XW nm X nL ce sl S σ (pc) L (.int v :: .ref q :: st) := by
  obtain ⟨p, l, e, R, s, m, args, below, meth, c, D, ac, E, A, Q⟩ := X
  obtain ⟨⟨hx, hb, hml, hown, hts⟩, hr, hlk, hK, hN, hA, rfl⟩ := C
  intro a H locs ls hE hP hD hS hl
  have hg := gd_some hf
  exact va_putN hx hb hts hin ty0 hty hnm hown hK hP hD hS q (Wd_get0 hq) hc k0 hk (va_Nw.use rfl (hN.1 _ hw)) (fun _ h9 => h9) hfin hd (bz_nar hg.1) (bz_fits hg.1) (by rw [flds_len]; exact (List.getElem?_eq_some_iff.mp hfl).1) d (fun H1 locs1 hP hD hS => k _ hg.2 a H1 locs1 ls hE (P_eq (Wd_puti (ac := ac) (a := a) (σ := σ) (v := v) hq hfl) hP) (D_eq (Wd_puti (ac := ac) (a := a) (σ := σ) (v := v) hq hfl) hD) hS hl)
theorem X_putzN0 (C : Cx nm X cc nL own Ts rty R0) {v : Int32} {q ci index : Nat} {fl : List (Option Nat)} {Cn : String} {T : u_T} {Nn : Nat} (k0 : Nat) (hq : S[q]? = some (.inl (ci, fl))) (hc : nm.1[ci]? = some (Cn, T, Nn)) (hin : ∀ w ∈ u_ws Cn T Nn, w ∈ Ts) (hk : k0 < Nn) (ty0 : Nat → FieldType) (hty : ∀ k, k < Nn → parseFieldDescriptor (T k).2.2.1 = some (ty0 k)) (hnm : ∀ a, a < Nn → ∀ b, b < Nn → a ≠ b → (T a).2.1 ≠ (T b).2.1) {host : String} (hw : (own, index, (T k0).1, (T k0).2.1, (T k0).2.2.1, host) ∈ nm.2.1) (hfin : (T k0).2.2.2 = false) (hd : parseFieldDescriptor (T k0).2.2.1 = some .boolean) (hfl : fl[k0]? = some none) (hv : bz v = true) (d : decode cc pc = .ok (.putfield index, 3)) (k : XW nm X nL ce sl S (sgu σ q k0 v) (pc + 3) L (st)) : XW nm X nL ce sl S σ (pc) L (.int v :: .ref q :: st) := by
  obtain ⟨p, l, e, R, s, m, args, below, meth, c, D, ac, E, A, Q⟩ := X
  obtain ⟨⟨hx, hb, hml, hown, hts⟩, hr, hlk, hK, hN, hA, rfl⟩ := C
  intro a H locs ls hE hP hD hS hl
  exact va_putN hx hb hts hin ty0 hty hnm hown hK hP hD hS q (Wd_get0 hq) hc k0 hk (va_Nw.use rfl (hN.1 _ hw)) (fun _ h9 => h9) hfin hd (bz_nar hv) (bz_fits hv) (by rw [flds_len]; exact (List.getElem?_eq_some_iff.mp hfl).1) d (fun H1 locs1 hP hD hS => k a H1 locs1 ls hE (P_eq (Wd_puti (ac := ac) (a := a) (σ := σ) (v := v) hq hfl) hP) (D_eq (Wd_puti (ac := ac) (a := a) (σ := σ) (v := v) hq hfl) hD) hS hl)
theorem X_putiF (C : Cx nm X cc nL own Ts rty R0) {v : Int32} {f : Sg → Option β} {q ci index : Nat} {fl : List (Option Nat)} {Cn : String} {T : u_T} {Nn : Nat} (k0 : Nat) (hq : S[q]? = some (.inl (ci, fl))) (hc : nm.1[ci]? = some (Cn, T, Nn)) (hin : ∀ w ∈ u_ws Cn T Nn, w ∈ Ts) (hk : k0 < Nn) (ty0 : Nat → FieldType) (hty : ∀ k, k < Nn → parseFieldDescriptor (T k).2.2.1 = some (ty0 k)) (hnm : ∀ a, a < Nn → ∀ b, b < Nn → a ≠ b → (T a).2.1 ≠ (T b).2.1) (hw : Cond.fieldLink own index (T k0).1 (T k0).2.1 (T k0).2.2.1 ∈ Ts) (hfin : (T k0).2.2.2 = true) (I : Ix X) (hdc : (T k0).1 = own) (hd : parseFieldDescriptor (T k0).2.2.1 = some .int) (hfl : fl[k0]? = some none) (d : decode cc pc = .ok (.putfield index, 3)) (hf : lt_ (sgu σ q k0 v) f = some out) (k : ∀ σ1 : Sg, f σ1 = some out → XW nm X nL ce sl S σ1 (pc + 3) L (st)) : XW nm X nL ce sl S σ (pc) L (.int v :: .ref q :: st) := by
  obtain ⟨p, l, e, R, s, m, args, below, meth, c, D, ac, E, A, Q⟩ := X
  obtain ⟨⟨hx, hb, hml, hown, hts⟩, hr, hlk, hK, hN, hA, rfl⟩ := C
  intro a H locs ls hE hP hD hS hl
  exact va_putF hx hb hts hin ty0 hty hnm hown hK hP hD hS q (Wd_get0 hq) hc k0 hk (hts _ hw) (fun _ h9 => h9) hfin I hdc hd rfl rfl (by rw [flds_len]; exact (List.getElem?_eq_some_iff.mp hfl).1) d (fun H1 locs1 hP hD hS => k _ hf a H1 locs1 ls hE (P_eq (Wd_puti (ac := ac) (a := a) (σ := σ) (v := v) hq hfl) hP) (D_eq (Wd_puti (ac := ac) (a := a) (σ := σ) (v := v) hq hfl) hD) hS hl)
theorem X_putiF0 (C : Cx nm X cc nL own Ts rty R0) {v : Int32} {q ci index : Nat} {fl : List (Option Nat)} {Cn : String} {T : u_T} {Nn : Nat} (k0 : Nat) (hq : S[q]? = some (.inl (ci, fl))) (hc : nm.1[ci]? = some (Cn, T, Nn)) (hin : ∀ w ∈ u_ws Cn T Nn, w ∈ Ts) (hk : k0 < Nn) (ty0 : Nat → FieldType) (hty : ∀ k, k < Nn → parseFieldDescriptor (T k).2.2.1 = some (ty0 k)) (hnm : ∀ a, a < Nn → ∀ b, b < Nn → a ≠ b → (T a).2.1 ≠ (T b).2.1) (hw : Cond.fieldLink own index (T k0).1 (T k0).2.1 (T k0).2.2.1 ∈ Ts) (hfin : (T k0).2.2.2 = true) (I : Ix X) (hdc : (T k0).1 = own) (hd : parseFieldDescriptor (T k0).2.2.1 = some .int) (hfl : fl[k0]? = some none) (d : decode cc pc = .ok (.putfield index, 3)) (k : XW nm X nL ce sl S (sgu σ q k0 v) (pc + 3) L (st)) : XW nm X nL ce sl S σ (pc) L (.int v :: .ref q :: st) := by
  obtain ⟨p, l, e, R, s, m, args, below, meth, c, D, ac, E, A, Q⟩ := X
  obtain ⟨⟨hx, hb, hml, hown, hts⟩, hr, hlk, hK, hN, hA, rfl⟩ := C
  intro a H locs ls hE hP hD hS hl
  exact va_putF hx hb hts hin ty0 hty hnm hown hK hP hD hS q (Wd_get0 hq) hc k0 hk (hts _ hw) (fun _ h9 => h9) hfin I hdc hd rfl rfl (by rw [flds_len]; exact (List.getElem?_eq_some_iff.mp hfl).1) d (fun H1 locs1 hP hD hS => k a H1 locs1 ls hE (P_eq (Wd_puti (ac := ac) (a := a) (σ := σ) (v := v) hq hfl) hP) (D_eq (Wd_puti (ac := ac) (a := a) (σ := σ) (v := v) hq hfl) hD) hS hl)
theorem X_putr (C : Cx nm X cc nL own Ts rty R0) {r : Nat} {ty : FieldType} {x0 : Option Nat} {q ci index : Nat} {fl : List (Option Nat)} {Cn : String} {T : u_T} {Nn : Nat} (k0 : Nat) (hq : S[q]? = some (.inl (ci, fl))) (hc : nm.1[ci]? = some (Cn, T, Nn)) (hin : ∀ w ∈ u_ws Cn T Nn, w ∈ Ts) (hk : k0 < Nn) (ty0 : Nat → FieldType) (hty : ∀ k, k < Nn → parseFieldDescriptor (T k).2.2.1 = some (ty0 k)) (hnm : ∀ a, a < Nn → ∀ b, b < Nn → a ≠ b → (T a).2.1 ≠ (T b).2.1) (hw : Cond.fieldLink own index (T k0).1 (T k0).2.1 (T k0).2.2.1 ∈ Ts) (hfin : (T k0).2.2.2 = true) (I : Ix X) (hdc : (T k0).1 = own) (hd : parseFieldDescriptor (T k0).2.2.1 = some ty) (hrt : ∀ b : Nat, narrow ty (.ref b) = .ref b ∧ fits ty (.ref b) = true) (hfl : fl[k0]? = some x0) (d : decode cc pc = .ok (.putfield index, 3)) (k : XW nm X nL ce sl (S.set q (.inl (ci, fl.set k0 (some (r + 1))))) σ (pc + 3) L (st)) : XW nm X nL ce sl S σ (pc) L (.ref r :: .ref q :: st) := by
  obtain ⟨p, l, e, R, s, m, args, below, meth, c, D, ac, E, A, Q⟩ := X
  obtain ⟨⟨hx, hb, hml, hown, hts⟩, hr, hlk, hK, hN, hA, rfl⟩ := C
  intro a H locs ls hE hP hD hS hl
  exact va_putF hx hb hts hin ty0 hty hnm hown hK hP hD hS q (Wd_get0 hq) hc k0 hk (hts _ hw) (fun _ h9 => h9) hfin I hdc hd (hrt (a r)).1 (hrt (a r)).2 (by rw [flds_len]; exact (List.getElem?_eq_some_iff.mp hfl).1) d (fun H1 locs1 hP hD hS => k a H1 locs1 ls hE (P_eq (Wd_putr (ac := ac) (a := a) (σ := σ) (r := r)) hP) (D_eq (Wd_putr (ac := ac) (a := a) (σ := σ) (r := r)) hD) hS hl)
theorem X_iald (C : Cx nm X cc nL own Ts rty R0) {q n : Nat} {i : Int32} {f : Option β} (hq : S[q]? = some (.inr (0, n))) (d : decode cc pc = .ok (.iaload, 1)) (hf : gd (vi i n) f = some out) (k : f = some out → XW nm X nL ce sl S σ (pc + 1) L (.int (σ q i.toNatClampNeg) :: st)) : XW nm X nL ce sl S σ (pc) L (.int i :: .ref q :: st) := by
  obtain ⟨p, l, e, R, s, m, args, below, meth, c, D, ac, E, A, Q⟩ := X
  obtain ⟨⟨hx, hb, hml, hown, hts⟩, hr, hlk, hK, hN, hA, rfl⟩ := C
  intro a H locs ls hE hP hD hS hl
  have hg := gd_some hf
  exact va_iald hx hb hK hP q 0 (Wd_get0 hq) rfl (vi_in hg.1) d (k hg.2 a H locs ls hE hP hD hS hl)
theorem X_zald (C : Cx nm X cc nL own Ts rty R0) {q n : Nat} {i : Int32} {f : Option β} (hq : S[q]? = some (.inr (1, n))) (d : decode cc pc = .ok (.baload, 1)) (hf : gd (vi i n) f = some out) (k : f = some out → XW nm X nL ce sl S σ (pc + 1) L (.int (σ q i.toNatClampNeg) :: st)) : XW nm X nL ce sl S σ (pc) L (.int i :: .ref q :: st) := by
  obtain ⟨p, l, e, R, s, m, args, below, meth, c, D, ac, E, A, Q⟩ := X
  obtain ⟨⟨hx, hb, hml, hown, hts⟩, hr, hlk, hK, hN, hA, rfl⟩ := C
  intro a H locs ls hE hP hD hS hl
  have hg := gd_some hf
  exact va_zald hx hb hK hP q 1 (Wd_get0 hq) rfl (vi_in hg.1) d (k hg.2 a H locs ls hE hP hD hS hl)
theorem X_iast (C : Cx nm X cc nL own Ts rty R0) {q n : Nat} {i x : Int32} {f : Sg → Option β} (hq : S[q]? = some (.inr (0, n))) (d : decode cc pc = .ok (.iastore, 1)) (hf : gd (vi i n) (lt_ (sgu σ q i.toNatClampNeg x) f) = some out) (k : ∀ σ1 : Sg, f σ1 = some out → XW nm X nL ce sl S σ1 (pc + 1) L (st)) : XW nm X nL ce sl S σ (pc) L (.int x :: .int i :: .ref q :: st) := by
  obtain ⟨p, l, e, R, s, m, args, below, meth, c, D, ac, E, A, Q⟩ := X
  obtain ⟨⟨hx, hb, hml, hown, hts⟩, hr, hlk, hK, hN, hA, rfl⟩ := C
  intro a H locs ls hE hP hD hS hl
  have hg := gd_some hf
  exact va_iast hx hb hK hP hD hS q 0 (Wd_get0 hq) rfl (vi_in hg.1) d (fun H1 locs1 hP hD hS => k _ hg.2 a H1 locs1 ls hE (P_eq (Wd_puta hq) hP) (D_eq (Wd_puta hq) hD) hS hl)
theorem X_iast0 (C : Cx nm X cc nL own Ts rty R0) {q n : Nat} {i x : Int32} (j : Nat) (hq : S[q]? = some (.inr (0, n))) (hi : vi i n = true) (hj : i.toNatClampNeg = j) (d : decode cc pc = .ok (.iastore, 1)) (k : XW nm X nL ce sl S (sgu σ q j x) (pc + 1) L (st)) : XW nm X nL ce sl S σ (pc) L (.int x :: .int i :: .ref q :: st) := by
  obtain ⟨p, l, e, R, s, m, args, below, meth, c, D, ac, E, A, Q⟩ := X
  obtain ⟨⟨hx, hb, hml, hown, hts⟩, hr, hlk, hK, hN, hA, rfl⟩ := C
  intro a H locs ls hE hP hD hS hl
  subst hj
  exact va_iast hx hb hK hP hD hS q 0 (Wd_get0 hq) rfl (vi_in hi) d (fun H1 locs1 hP hD hS => k a H1 locs1 ls hE (P_eq (Wd_puta hq) hP) (D_eq (Wd_puta hq) hD) hS hl)
theorem X_zast (C : Cx nm X cc nL own Ts rty R0) {q n : Nat} {i x : Int32} {f : Sg → Option β} (hq : S[q]? = some (.inr (1, n))) (d : decode cc pc = .ok (.bastore, 1)) (hf : gd (vi i n) (lt_ (sgu σ q i.toNatClampNeg (vp_nar .boolean x)) f) = some out) (k : ∀ σ1 : Sg, f σ1 = some out → XW nm X nL ce sl S σ1 (pc + 1) L (st)) : XW nm X nL ce sl S σ (pc) L (.int x :: .int i :: .ref q :: st) := by
  obtain ⟨p, l, e, R, s, m, args, below, meth, c, D, ac, E, A, Q⟩ := X
  obtain ⟨⟨hx, hb, hml, hown, hts⟩, hr, hlk, hK, hN, hA, rfl⟩ := C
  intro a H locs ls hE hP hD hS hl
  have hg := gd_some hf
  exact va_zast hx hb hK hP hD hS q 1 (Wd_get0 hq) rfl (vi_in hg.1) d (fun H1 locs1 hP hD hS => k _ hg.2 a H1 locs1 ls hE (P_eq (Wd_puta hq) hP) (D_eq (Wd_puta hq) hD) hS hl)
theorem X_alen (C : Cx nm X cc nL own Ts rty R0) {q n z : Nat} {v : Int32} (hq : S[q]? = some (.inr (z, n))) (hz : z = 0) (hv : Int32.ofNat n = v) (d : decode cc pc = .ok (.arraylength, 1)) (k : XW nm X nL ce sl S σ (pc + 1) L (.int v :: st)) : XW nm X nL ce sl S σ (pc) L (.ref q :: st) := by
  obtain ⟨p, l, e, R, s, m, args, below, meth, c, D, ac, E, A, Q⟩ := X
  obtain ⟨⟨hx, hb, hml, hown, hts⟩, hr, hlk, hK, hN, hA, rfl⟩ := C
  intro a H locs ls hE hP hD hS hl
  subst hz
  exact va_alen hx hb hK hP q 0 (Wd_get0 hq) rfl hv d (k a H locs ls hE hP hD hS hl)
theorem X_mmax (C : Cx nm X cc nL own Ts rty R0) {x y : Int32} {index : Nat} (h1 : Cond.methodLink own index Lib.Math.max.name ∈ Ts) (h2 : Cond.static Lib.Math.max.name ∈ Ts) (h3 : Cond.initialized "java/lang/Math" ∈ Ts) (h4 : Cond.code Lib.Math.max.name Lib.Math.max.code 2 (some .int) ∈ Ts) (hR : 1 ≤ R0.frames ∧ (st.map fun v => v.category).sum + 13 ≤ R0.locals ∧ ce ≤ R0.cells ∧ sl ≤ R0.slots) (d : decode cc pc = .ok (.invokestatic index, 3)) (k : XW nm X nL ce sl S σ (pc + 3) L (.int (if x < y then y else x) :: st)) : XW nm X nL ce sl S σ (pc) L (.int y :: .int x :: st) := by
  obtain ⟨p, l, e, R, s, m, args, below, meth, c, D, ac, E, A, Q⟩ := X
  obtain ⟨⟨hx, hb, hml, hown, hts⟩, hr, hlk, hK, hN, hA, rfl⟩ := C
  intro a H locs ls hE hP hD hS hl
  exact va_mmax hx hb (hml.trans hl.1.symm) hown (hts _ h1) (hts _ h2) (hts _ h3) (hts _ h4) hR.1 (by rw [cat_sum]; exact hR.2.1) hR.2.2.1 hR.2.2.2 d (k a H locs ls hE hP hD hS hl)
theorem X_mmin (C : Cx nm X cc nL own Ts rty R0) {x y : Int32} {index : Nat} (h1 : Cond.methodLink own index Lib.Math.min.name ∈ Ts) (h2 : Cond.static Lib.Math.min.name ∈ Ts) (h3 : Cond.initialized "java/lang/Math" ∈ Ts) (h4 : Cond.code Lib.Math.min.name Lib.Math.min.code 2 (some .int) ∈ Ts) (hR : 1 ≤ R0.frames ∧ (st.map fun v => v.category).sum + 13 ≤ R0.locals ∧ ce ≤ R0.cells ∧ sl ≤ R0.slots) (d : decode cc pc = .ok (.invokestatic index, 3)) (k : XW nm X nL ce sl S σ (pc + 3) L (.int (if y < x then y else x) :: st)) : XW nm X nL ce sl S σ (pc) L (.int y :: .int x :: st) := by
  obtain ⟨p, l, e, R, s, m, args, below, meth, c, D, ac, E, A, Q⟩ := X
  obtain ⟨⟨hx, hb, hml, hown, hts⟩, hr, hlk, hK, hN, hA, rfl⟩ := C
  intro a H locs ls hE hP hD hS hl
  exact va_mmin hx hb (hml.trans hl.1.symm) hown (hts _ h1) (hts _ h2) (hts _ h3) (hts _ h4) hR.1 (by rw [cat_sum]; exact hR.2.1) hR.2.2.1 hR.2.2.2 d (k a H locs ls hE hP hD hS hl)
theorem X_iret (C : Cx nm X cc nL own Ts (some .int) R0) {v : Int32} {o : Int32 × Sg} (d : decode cc pc = .ok (.ireturn, 1)) (hf : some (v, σ) = some o) (Rr : Rx nm X ce sl (some (.int o.1)) S o.2) : XW nm X nL ce sl S σ (pc) L ([.int v]) := by
  cases hf
  obtain ⟨p, l, e, R, s, m, args, below, meth, c, D, ac, E, A, Q⟩ := X
  obtain ⟨⟨hx, hb, hml, hown, hts⟩, hr, hlk, hK, hN, hA, rfl⟩ := C
  intro a H locs ls hE hP hD hS hl
  subst Rr
  exact W.iret hx hb hr (fun t ht hW => ⟨rfl, ⟨a, hE, by rw [ht]; exact hP, hD⟩, hS.F ht⟩) hS.2.2 d hlk
theorem X_lret (C : Cx nm X cc nL own Ts (some .long) R0) {v : Int64} {o : Int64 × Sg} (d : decode cc pc = .ok (.lreturn, 1)) (hf : some (v, σ) = some o) (Rr : Rx nm X ce sl (some (.long o.1)) S o.2) : XW nm X nL ce sl S σ (pc) L ([.long v]) := by
  cases hf
  obtain ⟨p, l, e, R, s, m, args, below, meth, c, D, ac, E, A, Q⟩ := X
  obtain ⟨⟨hx, hb, hml, hown, hts⟩, hr, hlk, hK, hN, hA, rfl⟩ := C
  intro a H locs ls hE hP hD hS hl
  subst Rr
  exact W.lret hx hb hr (fun t ht hW => ⟨rfl, ⟨a, hE, by rw [ht]; exact hP, hD⟩, hS.F ht⟩) hS.2.2 d hlk
theorem X_zret (C : Cx nm X cc nL own Ts (some .boolean) R0) {v : Int32} {o : Int32 × Sg} (d : decode cc pc = .ok (.ireturn, 1)) (hf : gd (bz v) (some (v, σ)) = some o) (Rr : Rx nm X ce sl (some (.int o.1)) S o.2) : XW nm X nL ce sl S σ (pc) L ([.int v]) := by
  have hg := gd_some hf
  have hf := hg.2
  cases hf
  obtain ⟨p, l, e, R, s, m, args, below, meth, c, D, ac, E, A, Q⟩ := X
  obtain ⟨⟨hx, hb, hml, hown, hts⟩, hr, hlk, hK, hN, hA, rfl⟩ := C
  intro a H locs ls hE hP hD hS hl
  subst Rr
  exact W.zret hx hb hr (bz_nar hg.1) (fun t ht hW => ⟨rfl, ⟨a, hE, by rw [ht]; exact hP, hD⟩, hS.F ht⟩) hS.2.2 d hlk
theorem X_vret (C : Cx nm X cc nL own Ts none R0) {o : Sg} (d : decode cc pc = .ok (.return_, 1)) (hf : some σ = some o) (Rr : Rx nm X ce sl none S o) : XW nm X nL ce sl S σ (pc) L ([]) := by
  cases hf
  obtain ⟨p, l, e, R, s, m, args, below, meth, c, D, ac, E, A, Q⟩ := X
  obtain ⟨⟨hx, hb, hml, hown, hts⟩, hr, hlk, hK, hN, hA, rfl⟩ := C
  intro a H locs ls hE hP hD hS hl
  subst Rr
  exact W.vret hx hb hr (fun t ht hW => ⟨rfl, ⟨a, hE, by rw [ht]; exact hP, hD⟩, hS.F ht⟩) hS.2.2 d hlk
end XR

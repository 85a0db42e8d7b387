def rfo (n : Nat) (v : Value) : Bool := match v with
  | .ref q => decide (q ≤ n) || decide (1000 ≤ q)
  | _ => true
def rfn (n : Nat) (v : Value) : Bool := match v with
  | .ref q => decide (q ≠ n)
  | _ => true
theorem cv_rfn {n x : Nat} {a : Nat → Nat} {v : Value} (h : rfn n v = true) : cv (fun j => if j = n then x else a j) v = cv a v := by
  cases v <;> try rfl
  rename_i q
  have h : q ≠ n := by simpa [rfn] using h
  show Value.ref (if q = n then x else a q) = Value.ref (a q)
  rw [if_neg h]
theorem map_rfn {n x : Nat} {a : Nat → Nat} : ∀ {st : List Value}, st.all (rfn n) = true → st.map (cv (fun j => if j = n then x else a j)) = st.map (cv a)
  | [], _ => rfl
  | v :: st, h => by
    simp only [List.all_cons, Bool.and_eq_true] at h
    rw [List.map_cons, List.map_cons, cv_rfn h.1, map_rfn h.2]
theorem mapp_rfn {n x : Nat} {a : Nat → Nat} : ∀ {L : List (Nat × Value)}, L.all (fun q => rfn n q.2) = true → L.map (cvp (fun j => if j = n then x else a j)) = L.map (cvp a)
  | [], _ => rfl
  | v :: L, h => by
    simp only [List.all_cons, Bool.and_eq_true] at h
    rw [List.map_cons, List.map_cons, mapp_rfn h.2]
    show (v.1, cv _ v.2) :: _ = (v.1, cv a v.2) :: _
    rw [cv_rfn h.1]
theorem cv_rfo {n : Nat} {a a' : Nat → Nat} {v : Value} (ha : ∀ q, q ≤ n ∨ 1000 ≤ q → a' q = a q) (h : rfo n v = true) : cv a' v = cv a v := by
  cases v <;> try rfl
  rename_i q
  have h : q ≤ n ∨ 1000 ≤ q := by simpa [rfo] using h
  show Value.ref (a' q) = Value.ref (a q)
  rw [ha q h]
theorem map_rfo {n : Nat} {a a' : Nat → Nat} (ha : ∀ q, q ≤ n ∨ 1000 ≤ q → a' q = a q) : ∀ {st : List Value}, st.all (rfo n) = true → st.map (cv a') = st.map (cv a)
  | [], _ => rfl
  | v :: st, h => by
    simp only [List.all_cons, Bool.and_eq_true] at h
    rw [List.map_cons, List.map_cons, cv_rfo ha h.1, map_rfo ha h.2]
theorem mapp_rfo {n : Nat} {a a' : Nat → Nat} (ha : ∀ q, q ≤ n ∨ 1000 ≤ q → a' q = a q) : ∀ {L : List (Nat × Value)}, L.all (fun q => rfo n q.2) = true → L.map (cvp a') = L.map (cvp a)
  | [], _ => rfl
  | v :: L, h => by
    simp only [List.all_cons, Bool.and_eq_true] at h
    rw [List.map_cons, List.map_cons, mapp_rfo ha h.2]
    show (v.1, cv _ v.2) :: _ = (v.1, cv a v.2) :: _
    rw [cv_rfo ha h.1]
def nor (fl : List (Option Nat)) : Bool := fl.all (fun x => match x with
  | some (_ + 1) => false
  | _ => true)
theorem nor_A {a a' : Nat → Nat} {f : Nat → Int32} {fl : List (Option Nat)} (h : nor fl = true) : flds a f 0 fl = flds a' f 0 fl := by
  refine flds_congA f fl 0 (fun r hr => ?_)
  have := List.all_eq_true.mp h _ hr
  cases this
def shf (n : Nat) (S : List Shp) : List Shp := S.map (fun s => match s with
  | .inl o => .inl (o.1, o.2.map (fun x => match x with
    | some (r + 1) => some (n + r + 1)
    | y => y))
  | .inr z => .inr z)
def mrg (n : Nat) (σ σ' : Sg) : Sg := fun q => if q < n then σ q else σ' (q - n)
theorem flds_shf {a1 a2 : Nat → Nat} {n N : Nat} (f : Nat → Int32) (ha : ∀ q, q < N → a2 (n + q) = a1 q) : ∀ (fl : List (Option Nat)) (i : Nat), (fl.all (fun x => match x with
    | some (r + 1) => decide (r < N)
    | _ => true)) = true → flds a2 f i (fl.map (fun x => match x with
    | some (r + 1) => some (n + r + 1)
    | y => y)) = flds a1 f i fl
  | [], _, _ => rfl
  | x :: xs, i, h => by
    simp only [List.all_cons, Bool.and_eq_true] at h
    have ih := flds_shf f ha xs (i + 1) h.2
    cases x with
    | none => simp only [List.map_cons, flds]; rw [ih]; rfl
    | some r => cases r with
      | zero => simp only [List.map_cons, flds]; rw [ih]; rfl
      | succ r =>
        have hr : r < N := by simpa using h.1
        simp only [List.map_cons, flds]
        rw [ih]
        show Value.ref (a2 (n + r)) :: _ = Value.ref (a1 r) :: _
        rw [ha r hr]
theorem Wd_shf {ac : Nat → ClassId} {a1 a2 : Nat → Nat} {σ1 σ2 : Sg} {n N : Nat} (ha : ∀ q, q < N → a2 (n + q) = a1 q) (hσ : ∀ q, q < N → σ2 (n + q) = σ1 q) : ∀ (S : List Shp) (i : Nat), wfS S N = true → i + S.length ≤ N → Wd ac a2 σ2 (n + i) (shf n S) = Wd ac a1 σ1 i S
  | [], _, _, _ => rfl
  | .inl o :: xs, i, hw, hn => by
    simp only [wfS, Bool.and_eq_true] at hw
    simp only [List.length_cons] at hn
    have ih := Wd_shf (ac := ac) ha hσ xs (i + 1) hw.2 (by omega)
    show (a2 (n + i), cel ac a2 (σ2 (n + i)) (.inl (o.1, o.2.map (fun x => match x with | some (r + 1) => some (n + r + 1) | y => y)))) :: Wd ac a2 σ2 (n + i + 1) (shf n xs) = (a1 i, Sum.inr (o.1, flds a1 (σ1 i) 0 o.2)) :: Wd ac a1 σ1 (i + 1) xs
    rw [show n + i + 1 = n + (i + 1) by omega, ih, ha i (by omega), hσ i (by omega)]
    show (a1 i, Sum.inr (o.1, flds a2 (σ1 i) 0 _)) :: _ = _
    rw [flds_shf (σ1 i) ha o.2 0 hw.1]
  | .inr z :: xs, i, hw, hn => by
    simp only [wfS] at hw
    simp only [List.length_cons] at hn
    have ih := Wd_shf (ac := ac) ha hσ xs (i + 1) hw (by omega)
    show (a2 (n + i), Sum.inl (ac z.1, z.2, Sum.inl (σ2 (n + i)))) :: Wd ac a2 σ2 (n + i + 1) (shf n xs) = (a1 i, Sum.inl (ac z.1, z.2, Sum.inl (σ1 i))) :: Wd ac a1 σ1 (i + 1) xs
    rw [show n + i + 1 = n + (i + 1) by omega, ih, ha i (by omega), hσ i (by omega)]
theorem range_pick {α : Type} (l r : List α) : (List.range l.length).map (fun i => (l ++ r)[i]?) = l.map some := by
  apply List.ext_getElem?
  intro i
  by_cases h : i < l.length
  · simp [h, List.getElem?_append_left h]
  · simp [h]
section XA
variable {nm : Nm} {X : Ctx} {cc : ByteArray} {nL ce sl pc : Nat} {own : String} {Ts : List Cond} {rty : Option FieldType} {R0 : Room} {S : List Shp} {σ : Sg} {L L' : List (Nat × Value)} {st : List Value} {n0 : Nat}
theorem X_new (C : Cx nm X cc nL own Ts rty R0) (hX : Ey X n0) {ci index : Nat} {Cn : String} {T : u_T} {Nn : Nat} {fl : List (Option Nat)} (n : Nat) (hn : S.length = n) (hn0 : n0 ≤ n) (hn1 : n < 1000) (hwf : wfS S n = true) (ty : Nat → FieldType) (hty : ∀ k, k < Nn → parseFieldDescriptor (T k).2.2.1 = some (ty k)) (hc : nm.1[ci]? = some (Cn, T, Nn)) (hin : ∀ w ∈ u_ws Cn T Nn, w ∈ Ts) (h1 : Cond.classLink own index Cn ∈ Ts) (h2 : Cond.instantiable Cn Nn ∈ Ts) (h3 : Cond.initialized Cn ∈ Ts) (hnor : nor fl = true) (hfs : ∀ j, j < Nn → defaultValue (ty j) = vp_V (flds (fun _ => 0) (fun _ => 0) 0 fl) j) (hσ : ∀ j, σ n j = 0) (hst : st.all (rfn n) = true) (hL : L.all (fun q => rfn n q.2) = true) (hR : ce + 1 ≤ R0.cells ∧ sl + Nn ≤ R0.slots) (d : decode cc pc = .ok (.new index, 3)) (k : XW nm X nL (ce + 1) (sl + Nn) (S ++ [.inl (ci, fl)]) σ (pc + 3) L (.ref n :: st)) : XW nm X nL ce sl S σ pc L st := by
  obtain ⟨p, l, e, R, s, m, args, below, meth, c, D, ac, E, A, Q⟩ := X
  obtain ⟨⟨hx, hb, hml, hown, hts⟩, hr, hlk, hK, hN, hA, rfl⟩ := C
  intro a H locs ls hE hP hD hS hl
  subst hn
  have hz : σ S.length = fun _ => 0 := funext hσ
  have hfl : flds a (σ S.length) 0 fl = flds (fun _ => 0) (fun _ => 0) 0 fl := by rw [hz]; exact nor_A hnor
  refine va_new hx hb hts hin ty hty hown (hts _ h1) (hts _ h2) (hts _ h3) hK hP hD hS hA hc (fs := flds a (σ S.length) 0 fl) (fun j hj => by rw [hfl]; exact hfs j hj) hR.1 hR.2 d (fun q H1 hP hD hS => ?_)
  have he : Wd ac a σ 0 S ++ [(q, cel ac a (σ S.length) (.inl (ci, fl)))] = Wd ac (fun j => if j = S.length then q else a j) σ 0 (S ++ [.inl (ci, fl)]) := Wd_push hwf (by show Sum.inr (ci, flds _ _ 0 fl) = Sum.inr (ci, flds _ _ 0 fl); rw [nor_A hnor])
  have := k (fun j => if j = S.length then q else a j) H1 locs ls (hX a _ hE (fun j hj => if_neg (by omega))) (P_eq he hP) (D_eq he hD) hS (by rw [mapp_rfn hL]; exact hl)
  rw [List.map_cons, map_rfn hst, show cv (fun j => if j = S.length then q else a j) (.ref S.length) = .ref q from by show Value.ref (if S.length = S.length then q else _) = _; rw [if_pos rfl]] at this
  exact this
theorem X_newa (C : Cx nm X cc nL own Ts rty R0) (hX : Ey X n0) {atype : ArrayType} {ty : FieldType} (z : Nat) {len : Int32} {N : Nat} (n : Nat) (hn : S.length = n) (hn0 : n0 ≤ n) (hn1 : n < 1000) (hwf : wfS S n = true) (hat : newarray.typeOf atype = ty) (hz0 : ∀ ac, (tys ac)[z]? = some (ac z, ty)) (hra : ∀ (U : State) (c1 c2 : ClassId), va_RA U c1 ty → va_RA U c2 ty → c1 = c2) (hdf : defaultValue ty = .int 0) (hw : Cond.arrayClass ty ∈ Ts) (hlen : vi len 100000000 = true) (hN : len.toNatClampNeg = N) (hby : N * componentBytes ty ≤ 536870912) (hσ : ∀ j, σ n j = 0) (hst : st.all (rfn n) = true) (hL : L.all (fun q => rfn n q.2) = true) (hR : ce + 1 ≤ R0.cells ∧ sl + N ≤ R0.slots) (d : decode cc pc = .ok (.newarray atype, 2)) (k : XW nm X nL (ce + 1) (sl + N) (S ++ [.inr (z, N)]) σ (pc + 2) L (.ref n :: st)) : XW nm X nL ce sl S σ pc L (.int len :: st) := by
  obtain ⟨p, l, e, R, s, m, args, below, meth, c, D, ac, E, A, Q⟩ := X
  obtain ⟨⟨hx, hb, hml, hown, hts⟩, hr, hlk, hK, hN', hA, rfl⟩ := C
  intro a H locs ls hE hP hD hS hl
  subst hn
  have hz : σ S.length = fun _ => 0 := funext hσ
  refine va_newa hx hb (by rw [hat]; exact hts _ hw) hat hK hP hD hS hA (a0 := (N, .inl (σ S.length))) (fun cA => by show arrV cA N (fun j => .int (σ S.length j)) = _; rw [hz, hdf]) (fun h => (vi_in hlen) (Or.inl h)) hN hby hR.1 hR.2 d (fun q cA H1 hK1 hP hD hS => ?_)
  have hcA : cA = ac z := hra s _ _ (hK1.2 2 (cA, ty) rfl).2 (hK.2 z (ac z, ty) (hz0 ac)).2
  subst hcA
  have he : Wd ac a σ 0 S ++ [(q, cel ac a (σ S.length) (.inr (z, N)))] = Wd ac (fun j => if j = S.length then q else a j) σ 0 (S ++ [.inr (z, N)]) := Wd_push hwf rfl
  have := k (fun j => if j = S.length then q else a j) H1 locs ls (hX a _ hE (fun j hj => if_neg (by omega))) (P_eq he hP) (D_eq he hD) hS (by rw [mapp_rfn hL]; exact hl)
  rw [List.map_cons, map_rfn hst, show cv (fun j => if j = S.length then q else a j) (.ref S.length) = .ref q from by show Value.ref (if S.length = S.length then q else _) = _; rw [if_pos rfl]] at this
  exact this
theorem X_obj (C : Cx nm X cc nL own Ts rty R0) {b index : Nat} (h1 : Cond.methodLink own index Lib.objectInit ∈ Ts) (h2 : Cond.instanceMethod Lib.objectInit ∈ Ts) (h3 : Cond.code Lib.objectInit ⟨#[0xb1]⟩ 1 none ∈ Ts) (hR : 1 ≤ R0.frames ∧ (st.map fun v => v.category).sum + 12 ≤ R0.locals) (d : decode cc pc = .ok (.invokespecial index, 3)) (k : XW nm X nL ce sl S σ (pc + 3) L st) : XW nm X nL ce sl S σ pc L (.ref b :: st) := by
  obtain ⟨p, l, e, R, s, m, args, below, meth, c, D, ac, E, A, Q⟩ := X
  obtain ⟨⟨hx, hb, hml, hown, hts⟩, hr, hlk, hK, hN, hA, rfl⟩ := C
  intro a H locs ls hE hP hD hS hl
  exact W.objInit hx hb hown (hts _ h1) (hts _ h2) (hts _ h3) rfl (by rw [hml]; exact hl.1) rfl d hR.1 (by show 2 * 0 + _ + 12 ≤ _; rw [cat_sum]; omega) (k a H locs ls hE hP hD hS hl)
theorem X_widen {ce' sl' : Nat} (h1 : ce ≤ ce') (h2 : sl ≤ sl') (k : XW nm X nL ce' sl' S σ pc L st) : XW nm X nL ce sl S σ pc L st := by
  obtain ⟨p, l, e, R, s, m, args, below, meth, c, D, ac, E, A, Q⟩ := X
  intro a H locs ls hE hP hD hS hl
  exact W.widen h1 h2 (k a H locs ls hE hP hD hS hl)
end XA

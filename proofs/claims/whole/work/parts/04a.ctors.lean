def z0 : Sg := fun _ _ => 0
def mrg2 (n len : Nat) (σ σ1 : Sg) : Sg := fun q => if q < n then σ q else if q < n + len then σ1 (q - n) else σ q
theorem Wd_congS (ac : Nat → ClassId) (a : Nat → Nat) {σ σ' : Sg} : ∀ (S : List Shp) (i : Nat), (∀ j, i ≤ j → j < i + S.length → σ j = σ' j) → Wd ac a σ i S = Wd ac a σ' i S
  | [], _, _ => rfl
  | x :: xs, i, h => by
    simp only [List.length_cons] at h
    show (a i, cel ac a (σ i) x) :: Wd ac a σ (i + 1) xs = (a i, cel ac a (σ' i) x) :: Wd ac a σ' (i + 1) xs
    rw [Wd_congS ac a xs (i + 1) (fun j hj hj2 => h j (by omega) (by omega)), h i (Nat.le_refl i) (by omega)]
section XB
variable {nm : Nm} {X : Ctx} {cc : ByteArray} {nL ce sl pc : Nat} {own : String} {Ts : List Cond} {rty : Option FieldType} {R0 : Room} {S S' : List Shp} {σ σ' : Sg} {L L' : List (Nat × Value)} {st : List Value} {n0 : Nat}
theorem X_S (h : S = S') (k : XW nm X nL ce sl S' σ pc L st) : XW nm X nL ce sl S σ pc L st := h ▸ k
theorem X_g (h : σ = σ') (k : XW nm X nL ce sl S σ' pc L st) : XW nm X nL ce sl S σ pc L st := h ▸ k
theorem X_ei {x y : Int32} (h : x = y) (k : XW nm X nL ce sl S σ pc L (.int y :: st)) : XW nm X nL ce sl S σ pc L (.int x :: st) := h ▸ k
theorem ctor_end {p : Program} {l : Launch} {e : Env} {R : Room} {s : State} {m : MethodId} {args : Array Value} {below : List Frame} {meth : Method} {c : Code} {D : va_G} {ac : Nat → ClassId} {E : (Nat → Nat) → Prop} {A : Nat → Prop} {Q : State → Prop} {S0 S1 : List Shp} {s0 : Shp} {σ1 : Sg} {mc ms n : Nat} {rest : List Value}
    (hX : Ey (p, l, e, R, s, m, args, below, meth, c, D, ac, E, A, Q) n0) (hn : S0.length = n) (hn0 : n0 ≤ n) (hlen : n + S1.length ≤ 1000) (hpos : 0 < S1.length) (hwf0 : wfS S0 n = true) (hwf1 : wfS S1 S1.length = true) (hnd : va_nd (List.range n) = true) (hs0 : ∀ (ac : Nat → ClassId) (a a' : Nat → Nat) (f : Nat → Int32), cel ac a f s0 = cel ac a' f s0) (hσ : ∀ j, σ n j = 0) (hrf : rest.all (rfo n) = true) (hLf : L.all (fun q => rfo n q.2) = true) (hA : ∀ q, s.heap.size ≤ q → A q)
    {a : Nat → Nat} {H : Heap} {locs : List Loc} {ls : Array Slot} {st0 : List Value} {av : Array Value} (hE : E a) (hP : va_P D nm.1 (Wd ac a σ 0 (S0 ++ [s0])) H) (hD : va_D A (Wd ac a σ 0 (S0 ++ [s0]))) (hS : va_S A s.heap H locs) (hl : lv_has ls nL (L.map (cvp a)))
    (hr : va_Run p l e R s m args below meth c H locs ce sl mc ms (F0 m pc ls st0) (rest.map (cv a)) (QX nm.1 D ac (fun a' => ∀ q, q < 1 → a' q = a (n + q)) (va_A (Wd ac (fun q => a (n + q)) z0 0 [s0]) H.size) none S1 σ1 av) (va_A (Wd ac (fun q => a (n + q)) z0 0 [s0]) H.size))
    (k : XW nm (p, l, e, R, s, m, args, below, meth, c, D, ac, E, A, Q) nL (ce + mc) (sl + ms) (S0 ++ shf n S1) (mrg2 n S1.length σ σ1) (pc + 3) L rest) : W p l e R s m args below meth c H locs ce sl Q (F0 m pc ls st0) := by
  subst hn
  have hz : σ S0.length = fun _ => 0 := funext hσ
  have hcell : (Wd ac a σ 0 (S0 ++ [s0]))[S0.length]? = some (a S0.length, cel ac a (σ S0.length) s0) := Wd_get0 (by simp)
  have hwc : Wd ac (fun q => a (S0.length + q)) z0 0 [s0] = [(a S0.length, cel ac a (σ S0.length) s0)] := by
    show [(a (S0.length + 0), cel ac _ (z0 0) s0)] = _
    rw [hz, hs0 ac _ a]
    rfl
  have hsub : ∀ q, va_A (Wd ac (fun q => a (S0.length + q)) z0 0 [s0]) H.size q → A q := by
    intro q h
    rw [hwc] at h
    rcases h with ⟨k, e, h⟩ | h
    · have h1 : k < 1 := (List.getElem?_eq_some_iff.mp h).1
      rw [show k = 0 by omega] at h
      cases h
      exact hD.2 S0.length _ hcell
    · exact hA q (Nat.le_trans hS.1 h)
  refine run_any hr hsub hS (fun a1 H1 locs1 hE1 hP1 hD1 hz1 hk1 hS1 => ?_)
  have hj := va_join (wr := Wd ac a σ 0 S0) (w1 := Wd ac a1 σ1 0 S1) (wc := Wd ac (fun q => a (S0.length + q)) z0 0 [s0]) hP hD [S0.length] (List.range S0.length) (by rw [hwc]; show [(Wd ac a σ 0 (S0 ++ [s0]))[S0.length]?] = _; rw [hcell]; rfl) (by rw [Wd_app, ← Wd_len ac a σ S0 0]; exact range_pick _ _) hnd (by intro i hi hc; have := List.mem_range.mp hi; have := List.mem_singleton.mp hc; omega) hk1 hsub hP1 hD1
  have ha2 : ∀ q, q ≤ S0.length ∨ 1000 ≤ q → (fun q => if q < S0.length then a q else if q < S0.length + S1.length then a1 (q - S0.length) else a q) q = a q := by
    intro q hq
    show (if q < S0.length then a q else if q < S0.length + S1.length then a1 (q - S0.length) else a q) = a q
    by_cases h1 : q < S0.length
    · rw [if_pos h1]
    · rw [if_neg h1]
      by_cases h2 : q < S0.length + S1.length
      · rw [if_pos h2]
        have h3 : q = S0.length := by omega
        subst h3
        rw [Nat.sub_self, hE1 0 (by omega)]
        rfl
      · rw [if_neg h2]
  have hw : Wd ac a σ 0 S0 ++ Wd ac a1 σ1 0 S1 = Wd ac (fun q => if q < S0.length then a q else if q < S0.length + S1.length then a1 (q - S0.length) else a q) (mrg2 S0.length S1.length σ σ1) 0 (S0 ++ shf S0.length S1) := by
    rw [Wd_app, Nat.zero_add]
    have e1 := Wd_shf (ac := ac) (a1 := a1) (a2 := fun q => if q < S0.length then a q else if q < S0.length + S1.length then a1 (q - S0.length) else a q) (σ1 := σ1) (σ2 := mrg2 S0.length S1.length σ σ1) (n := S0.length) (N := S1.length) (fun q hq => by show (if S0.length + q < S0.length then _ else if S0.length + q < S0.length + S1.length then a1 (S0.length + q - S0.length) else _) = _; rw [if_neg (by omega), if_pos (by omega), Nat.add_sub_cancel_left]) (fun q hq => by show (if S0.length + q < S0.length then _ else if S0.length + q < S0.length + S1.length then σ1 (S0.length + q - S0.length) else _) = _; rw [if_neg (by omega), if_pos (by omega), Nat.add_sub_cancel_left]) S1 0 hwf1 (by omega)
    rw [Nat.add_zero] at e1
    rw [e1, Wd_congA (a := a) (n := S0.length) (fun q hq => if_pos hq) S0 0 hwf0 (by omega), Wd_congS ac a (σ := σ) (σ' := mrg2 S0.length S1.length σ σ1) S0 0 (fun j _ hj => (if_pos (by omega)).symm)]
  have := k _ H1 locs1 ls (hX a _ hE (fun q hq => ha2 q (by omega))) (P_eq hw hj.1) (D_eq hw hj.2) hS1 (by rw [mapp_rfo ha2 hLf]; exact hl)
  rw [map_rfo ha2 hrf] at this
  exact this
theorem X_callI (C : Cx nm X cc nL own Ts rty R0) (hX : Ey X n0) {AW : List Cond} (hAW : AW.all goodWord = true) (hAT : ∀ w ∈ AW, w ∈ Ts) {y : MethodName} {bytes : ByteArray} {maxL index np mc ms : Nat} {rm : Room} {As rest : List Value} {S0 S1 : List Shp} {s0 : Shp} {σ1 : Sg} (n : Nat) (K : LkI AW own index y bytes maxL np) (hSS : S = S0 ++ [s0]) (hn : S0.length = n) (hn0 : n0 ≤ n) (hlen : n + S1.length ≤ 1000) (hpos : 0 < S1.length) (hwf0 : wfS S0 n = true) (hwf1 : wfS S1 S1.length = true) (hnd : va_nd (List.range n) = true) (hs0 : ∀ (ac : Nat → ClassId) (a a' : Nat → Nat) (f : Nat → Int32), cel ac a f s0 = cel ac a' f s0) (hσ : ∀ j, σ n j = 0) (hrf : rest.all (rfo n) = true) (hLf : L.all (fun q => rfo n q.2) = true) (hAs : ∀ a, As.map (cv a) = As) (hR : rm.frames + 1 ≤ R0.frames ∧ 8 + (maxL + 11) + rm.locals ≤ R0.locals ∧ rm.cells = mc ∧ rm.slots = ms ∧ ce + mc ≤ R0.cells ∧ sl + ms ≤ R0.slots) (hnp : As.length = np) (hst : As.reverse ++ .ref n :: rest = st) (hw : (rest.map fun v => v.category).sum ≤ 8) (d : decode cc pc = .ok (.invokespecial index, 3)) (hM : CtrA nm y (Cond.code y bytes maxL none :: AW) rm mc ms [s0] z0 (.ref 0 :: As) S1 σ1) (k : XW nm X nL (ce + mc) (sl + ms) (S0 ++ shf n S1) (mrg2 n S1.length σ σ1) (pc + 3) L rest) : XW nm X nL ce sl S σ pc L st := by
  obtain ⟨p, l, e, R, s, m, args, below, meth, c, D, ac, E, A, Q⟩ := X
  obtain ⟨⟨hx, hb, hml, hown, hts⟩, hr, hlk, hK, hN, hA, rfl⟩ := C
  intro a H locs ls hE hP hD hS hl
  subst hSS
  obtain ⟨⟨k1, k2, k3, k4⟩, k5, k6⟩ := K
  have hB : CallB R s args own index y bytes maxL none (Cond.code y bytes maxL none :: AW) rm mc ms np := callB_of np hts (good_all hAW hAT k1) rfl hR.2.2.1 hR.2.2.2.1 (hts _ (hAT _ k3)) (hts _ (hAT _ k2)) k4 ⟨hR.1, hR.2.1⟩
  have hw0 : Wd ac (fun q => a (n + q)) z0 0 [s0] = [(a n, cel ac a (σ n) s0)] := by
    have hz : σ n = fun _ => 0 := funext hσ
    show [(a (n + 0), cel ac _ (z0 0) s0)] = _
    rw [hz, hs0 ac _ a]
    rfl
  have hcell : (S0 ++ [s0])[n]? = some s0 := by rw [← hn]; simp
  have hPc : va_P D nm.1 (Wd ac (fun q => a (n + q)) z0 0 [s0]) H := by
    rw [hw0]
    exact hP.sub [n] (by simp [Wd_get0 hcell])
  have hDc : va_D (fun _ => True) (Wd ac (fun q => a (n + q)) z0 0 [s0]) := by
    rw [hw0]
    exact (hD.sub [n] (by rfl) (by simp [Wd_get0 hcell])).weaken (fun _ _ _ _ => trivial)
  refine ctor_end (nm := nm) (av := (Value.ref (a n) :: As).toArray) hX hn hn0 hlen hpos hwf0 hwf1 hnd hs0 hσ hrf hLf hA hE hP hD hS hl ?_ k
  have hst2 : st.map (cv a) = As.reverse ++ Value.ref (a n) :: rest.map (cv a) := by
    rw [← hst, List.map_append, List.map_reverse, hAs]
    rfl
  exact va_runI (b := a n) (As := As) (rest := rest.map (cv a)) ⟨hx, hb, hml, hown, hts⟩ (hM l D ac (fun q => a (n + q)) H.size) ⟨hB, k6, hts _ (hAT _ k5)⟩ ⟨QX_blind, fun U hU hW => ⟨by show _ = (Value.ref (a (n + 0)) :: As.map (cv _)).toArray; rw [hAs]; rfl, by rw [hU], by rw [hU]; exact hPc, va_K.moved hW.alike hK, hN.warm hW, hDc⟩⟩ rfl hnp hl.1 hst2 (lv_room (by rw [cat_sum]; exact hw)) d ⟨hR.2.2.2.2.1, hR.2.2.2.2.2⟩
theorem X_callN (C : Cx nm X cc nL own Ts rty R0) (hX : Ey X n0) {AW : List Cond} (hAW : AW.all goodWord = true) (hAT : ∀ w ∈ AW, w ∈ Ts) {y : MethodName} {bytes : ByteArray} {maxL index np mc ms : Nat} {host : String} {rm : Room} {As rest : List Value} {S0 S1 : List Shp} {s0 : Shp} {σ1 : Sg} (n : Nat) (K : LkN nm AW own index y host bytes maxL np) (hSS : S = S0 ++ [s0]) (hn : S0.length = n) (hn0 : n0 ≤ n) (hlen : n + S1.length ≤ 1000) (hpos : 0 < S1.length) (hwf0 : wfS S0 n = true) (hwf1 : wfS S1 S1.length = true) (hnd : va_nd (List.range n) = true) (hs0 : ∀ (ac : Nat → ClassId) (a a' : Nat → Nat) (f : Nat → Int32), cel ac a f s0 = cel ac a' f s0) (hσ : ∀ j, σ n j = 0) (hrf : rest.all (rfo n) = true) (hLf : L.all (fun q => rfo n q.2) = true) (hAs : ∀ a, As.map (cv a) = As) (hR : rm.frames + 1 ≤ R0.frames ∧ 8 + (maxL + 11) + rm.locals ≤ R0.locals ∧ rm.cells = mc ∧ rm.slots = ms ∧ ce + mc ≤ R0.cells ∧ sl + ms ≤ R0.slots) (hnp : As.length = np) (hst : As.reverse ++ .ref n :: rest = st) (hw : (rest.map fun v => v.category).sum ≤ 8) (d : decode cc pc = .ok (.invokespecial index, 3)) (hM : CtrA nm y (Cond.code y bytes maxL none :: AW) rm mc ms [s0] z0 (.ref 0 :: As) S1 σ1) (k : XW nm X nL (ce + mc) (sl + ms) (S0 ++ shf n S1) (mrg2 n S1.length σ σ1) (pc + 3) L rest) : XW nm X nL ce sl S σ pc L st := by
  obtain ⟨p, l, e, R, s, m, args, below, meth, c, D, ac, E, A, Q⟩ := X
  obtain ⟨⟨hx, hb, hml, hown, hts⟩, hr, hlk, hK, hN, hA, rfl⟩ := C
  intro a H locs ls hE hP hD hS hl
  subst hSS
  obtain ⟨⟨k1, k2, k3, k4⟩, k5, k6⟩ := K
  have hB : va_CN R s args own index y host bytes maxL none (Cond.code y bytes maxL none :: AW) rm mc ms np := va_cnB np hts (good_all hAW hAT k1) rfl hR.2.2.1 hR.2.2.2.1 (hN.2 _ k2) (hts _ (hAT _ k3)) k4 ⟨hR.1, hR.2.1⟩
  have hw0 : Wd ac (fun q => a (n + q)) z0 0 [s0] = [(a n, cel ac a (σ n) s0)] := by
    have hz : σ n = fun _ => 0 := funext hσ
    show [(a (n + 0), cel ac _ (z0 0) s0)] = _
    rw [hz, hs0 ac _ a]
    rfl
  have hcell : (S0 ++ [s0])[n]? = some s0 := by rw [← hn]; simp
  have hPc : va_P D nm.1 (Wd ac (fun q => a (n + q)) z0 0 [s0]) H := by
    rw [hw0]
    exact hP.sub [n] (by simp [Wd_get0 hcell])
  have hDc : va_D (fun _ => True) (Wd ac (fun q => a (n + q)) z0 0 [s0]) := by
    rw [hw0]
    exact (hD.sub [n] (by rfl) (by simp [Wd_get0 hcell])).weaken (fun _ _ _ _ => trivial)
  refine ctor_end (nm := nm) (av := (Value.ref (a n) :: As).toArray) hX hn hn0 hlen hpos hwf0 hwf1 hnd hs0 hσ hrf hLf hA hE hP hD hS hl ?_ k
  have hst2 : st.map (cv a) = As.reverse ++ Value.ref (a n) :: rest.map (cv a) := by
    rw [← hst, List.map_append, List.map_reverse, hAs]
    rfl
  exact va_runIN (b := a n) (As := As) (rest := rest.map (cv a)) ⟨hx, hb, hml, hown, hts⟩ (hM l D ac (fun q => a (n + q)) H.size) ⟨hB, k6, hts _ (hAT _ k5)⟩ ⟨QX_blind, fun U hU hW => ⟨by show _ = (Value.ref (a (n + 0)) :: As.map (cv _)).toArray; rw [hAs]; rfl, by rw [hU], by rw [hU]; exact hPc, va_K.moved hW.alike hK, hN.warm hW, hDc⟩⟩ rfl hnp hl.1 hst2 (lv_room (by rw [cat_sum]; exact hw)) d ⟨hR.2.2.2.2.1, hR.2.2.2.2.2⟩
end XB

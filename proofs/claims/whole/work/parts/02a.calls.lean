def Ey (X : Ctx) (n0 : Nat) : Prop := match X with
  | (_, _, _, _, _, _, _, _, _, _, _, _, E, _, _) => ∀ (a a' : Nat → Nat), E a → (∀ q, (q < n0 ∨ 1000 ≤ q) → a' q = a q) → E a'
theorem Ctr.of {nm : Nm} {y : MethodName} {ws ws' : List Cond} {rm : Room} {S : List Shp} {σ : Sg} {vs : List Value} {ret : Option Value} {σ' : Sg} {cc : ByteArray} {maxL : Nat} {rty : Option FieldType} (hy : plainName y.cls = true) (hw : ws = Cond.code y cc maxL rty :: ws') (hv : (lg_sl vs).length ≤ maxL)
    (body : ∀ X : Ctx, Cx nm X cc maxL y.cls ws rty rm → Rx nm X 0 0 ret S σ' → XW nm X maxL 0 0 S σ 0 (lv_args 0 vs) []) : Ctr nm y ws rm S σ vs ret σ' := by
  intro l D ac a sz
  refine Met.ofW (cc := cc) (maxL := maxL) (ret := rty) hy hw ?_
  intro p e s m args below meth c s₁ B hml hv0
  obtain ⟨rfl, hsz, hP, hK, hN, hD0⟩ := hv0
  subst hsz
  have hD := hD0.self (sz := s.heap.size)
  have hl := lv_entry (vs.map (cv a)) (n := maxL) (by rw [lgsl_map]; exact hv)
  rw [lg_entry_eq]
  rw [args_map] at hl
  exact body (p, l, e, (headSpec ws rm).room, s, m, (vs.map (cv a)).toArray, below, meth, c, D, ac, fun a' => a' = a, va_A (Wd ac a σ 0 S) s.heap.size, MQ below (QX nm.1 D ac (fun a' => a' = a) (va_A (Wd ac a σ 0 S) s.heap.size) ret S σ') (vs.map (cv a)).toArray s 0 0 (va_A (Wd ac a σ 0 S) s.heap.size)) ⟨⟨B.exec, B.bytes, hml, findClass_of_methodNamed B.named, atoms_spec (ws := ws) B.pre⟩, B.returns, B.notSynchronized, hK, hN, fun q h => Or.inr h, rfl⟩ rfl a s.heap [] _ rfl hP hD va_S.rf hl
theorem CtrA.of {nm : Nm} {y : MethodName} {ws ws' : List Cond} {rm : Room} {mc ms : Nat} {S S' : List Shp} {σ : Sg} {vs : List Value} {σ' : Sg} {cc : ByteArray} {maxL : Nat} (hy : plainName y.cls = true) (hw : ws = Cond.code y cc maxL none :: ws') (hi : y.name = "<init>") (hv : (lg_sl vs).length ≤ maxL)
    (body : ∀ X : Ctx, Cx nm X cc maxL y.cls ws none rm → Ix X → Ey X S.length → Rx nm X mc ms none S' σ' → XW nm X maxL 0 0 S σ 0 (lv_args 0 vs) []) : CtrA nm y ws rm mc ms S σ vs S' σ' := by
  intro l D ac a sz
  refine Met.ofW (cc := cc) (maxL := maxL) (ret := none) hy hw ?_
  intro p e s m args below meth c s₁ B hml hv0
  obtain ⟨rfl, hsz, hP, hK, hN, hD0⟩ := hv0
  subst hsz
  have hD := hD0.self (sz := s.heap.size)
  have hl := lv_entry (vs.map (cv a)) (n := maxL) (by rw [lgsl_map]; exact hv)
  have hin : meth.name = "<init>" := (name_of_methodNamed B.named B.method).1.trans hi
  rw [lg_entry_eq]
  rw [args_map] at hl
  exact body (p, l, e, (headSpec ws rm).room, s, m, (vs.map (cv a)).toArray, below, meth, c, D, ac, fun a' => ∀ q, q < S.length → a' q = a q, va_A (Wd ac a σ 0 S) s.heap.size, MQ below (QX nm.1 D ac (fun a' => ∀ q, q < S.length → a' q = a q) (va_A (Wd ac a σ 0 S) s.heap.size) none S' σ') (vs.map (cv a)).toArray s mc ms (va_A (Wd ac a σ 0 S) s.heap.size)) ⟨⟨B.exec, B.bytes, hml, findClass_of_methodNamed B.named, atoms_spec (ws := ws) B.pre⟩, B.returns, B.notSynchronized, hK, hN, fun q h => Or.inr h, rfl⟩ hin (fun a1 a2 h1 h2 q hq => (h2 q (Or.inl hq)).trans (h1 q hq)) rfl a s.heap [] _ (fun q _ => rfl) hP hD va_S.rf hl
theorem QX_blind {nm : Nm} {D : va_G} {ac : Nat → ClassId} {a : Nat → Nat} {S : List Shp} {σ : Sg} {sz : Nat} {av : List Value} : FrameBlind (va_Pc av (PX nm D ac a S σ sz)) := by
  intro a0 U g mk q
  obtain ⟨q0, q1, qP, qK, qN, qD⟩ := q
  exact ⟨q0, q1, qP, va_K.moved (u := U) (U := U.calling g mk a0) (Vm.Alike.refl U.vm) qK, NWok.same (u := U) (U := U.calling g mk a0) rfl qN, qD⟩
section RUN
variable {p : Program} {l : Launch} {e : Env} {R : Room} {s : State} {m : MethodId} {args : Array Value} {below : List Frame} {meth : Method} {c : Code} {H : Heap} {locs : List Loc} {ce sl pc mc ms : Nat} {Q : State → Prop} {cl : List vw_C} {D : va_G} {ac : Nat → ClassId} {a : Nat → Nat} {S S' : List Shp} {σ σ' : Sg} {A A1 : Nat → Prop} {ret : Option Value} {ls : Array Slot} {st0 rest : List Value} {av : Array Value} {E : (Nat → Nat) → Prop}
theorem run_any (hr : va_Run p l e R s m args below meth c H locs ce sl mc ms (F0 m pc ls st0) rest (QX cl D ac E A1 ret S' σ' av) A1) (hA1 : ∀ q, A1 q → A q) (hS : va_S A s.heap H locs)
    (kk : ∀ (a' : Nat → Nat) (H1 : Heap) (locs1 : List Loc), E a' → va_P D cl (Wd ac a' σ' 0 S') H1 → va_D A1 (Wd ac a' σ' 0 S') → H.size ≤ H1.size → (∀ q : Nat, q < H.size → ¬ A1 q → H1[q]? = H[q]?) → va_S A s.heap H1 locs1 → W p l e R s m args below meth c H1 locs1 (ce + mc) (sl + ms) Q (F0 m (pc + 3) ls (ret.toList ++ rest))) : W p l e R s m args below meth c H locs ce sl Q (F0 m pc ls st0) := by
  intro T hT X
  obtain ⟨v, st₀, t, T', L, h0, X', hL, e1, e2, ⟨hv, ⟨a', hE, hP1, hD1⟩, hz, hk⟩, st⟩ := hr T hT X
  cases hv
  rw [h0] at hz hk
  obtain ⟨t2, b1, b2⟩ := kk a' T'.heap (locs ++ L) hE (by rw [e1]; exact hP1) hD1 (by rw [e1]; exact hz) (fun q h1 h2 => by rw [e1]; exact hk q h1 h2)
    ⟨Nat.le_trans hS.1 (by rw [e1]; exact hz), fun q h1 h2 => by rw [e1, hk q (Nat.lt_of_lt_of_le h1 hS.1) (fun z => h2 (hA1 q z))]; exact hS.2.1 q h1 h2, fun q hq => by
      rcases List.mem_append.mp hq with h | h
      · exact hS.2.2 q h
      · exact hA1 _ (hL q h)⟩ T' rfl X'
  exact ⟨t2, st t2 b1, b2⟩
theorem A1_sub (hD : va_D A (Wd ac a σ 0 S)) (hS : va_S A s.heap H locs) (hA : ∀ q, s.heap.size ≤ q → A q) : ∀ q, va_A (Wd ac a σ 0 S) H.size q → A q := by
  intro q h
  rcases h with ⟨k, e, h⟩ | h
  · exact hD.2 k (q, e) h
  · exact hA q (Nat.le_trans hS.1 h)
end RUN
def LkB (AW : List Cond) (own : String) (index : Nat) (y : MethodName) (bytes : ByteArray) (maxL : Nat) (rt : Option FieldType) (n : Nat) : Prop := Cond.code y bytes maxL rt ∈ AW ∧ Cond.methodLink own index y ∈ AW ∧ Cond.initialized y.cls ∈ AW ∧ y.cls ≠ "java/lang/invoke/MethodHandle" ∧ y.cls ≠ "java/lang/invoke/VarHandle" ∧ (parseMethodDescriptor y.desc).map (fun d => d.parameters.length) = some n
def LkV (AW : List Cond) (own : String) (index : Nat) (y : MethodName) (bytes : ByteArray) (maxL : Nat) (rt : Option FieldType) (n : Nat) : Prop := LkB AW own index y bytes maxL rt n ∧ Cond.instanceMethod y ∈ AW ∧ Cond.selects y.cls y y ∈ AW
def LkS (AW : List Cond) (own : String) (index : Nat) (y : MethodName) (bytes : ByteArray) (maxL : Nat) (rt : Option FieldType) (n : Nat) : Prop := LkB AW own index y bytes maxL rt n ∧ Cond.static y ∈ AW
def LkI (AW : List Cond) (own : String) (index : Nat) (y : MethodName) (bytes : ByteArray) (maxL : Nat) (n : Nat) : Prop := LkB AW own index y bytes maxL none n ∧ Cond.instanceMethod y ∈ AW ∧ y.name = "<init>"
def LkN (nm : Nm) (AW : List Cond) (own : String) (index : Nat) (y : MethodName) (host : String) (bytes : ByteArray) (maxL : Nat) (n : Nat) : Prop := (Cond.code y bytes maxL none ∈ AW ∧ (own, index, y, host) ∈ nm.2.2 ∧ Cond.initialized y.cls ∈ AW ∧ y.cls ≠ "java/lang/invoke/MethodHandle" ∧ y.cls ≠ "java/lang/invoke/VarHandle" ∧ (parseMethodDescriptor y.desc).map (fun d => d.parameters.length) = some n) ∧ Cond.instanceMethod y ∈ AW ∧ y.name = "<init>"
theorem good_all {AW Ts : List Cond} {w : Cond} (hAW : AW.all goodWord = true) (hAT : ∀ w ∈ AW, w ∈ Ts) (h : w ∈ AW) : GoodIn Ts (w :: AW) := by
  intro x hx
  have hx : x ∈ AW := by
    rcases List.mem_cons.mp hx with rfl | hx
    · exact h
    · exact hx
  exact ⟨hAT x hx, good_of_word (List.all_eq_true.mp hAW x hx)⟩
section XC
variable {nm : Nm} {X : Ctx} {cc : ByteArray} {nL ce sl pc : Nat} {own : String} {Ts : List Cond} {rty : Option FieldType} {R0 : Room} {S : List Shp} {σ : Sg} {L L' : List (Nat × Value)} {st : List Value} {β : Type} {out : β}
variable {AW : List Cond} {y : MethodName} {bytes : ByteArray} {maxL index n b ci : Nat} {rt : Option FieldType} {rm : Room} {As rest : List Value} {ret : Option Value} {σ' : Sg} {fl : List (Option Nat)} {T : u_T} {Nn : Nat}
theorem X_callV (C : Cx nm X cc nL own Ts rty R0) (hAW : AW.all goodWord = true) (hAT : ∀ w ∈ AW, w ∈ Ts) (K : LkV AW own index y bytes maxL rt n) (hq : S[b]? = some (.inl (ci, fl))) (hc : nm.1[ci]? = some (y.cls, T, Nn)) (hR : rm.frames + 1 ≤ R0.frames ∧ 8 + (maxL + 11) + rm.locals ≤ R0.locals ∧ rm.cells = 0 ∧ rm.slots = 0 ∧ ce ≤ R0.cells ∧ sl ≤ R0.slots) (hn : As.length = n) (hst : As.reverse ++ .ref b :: rest = st) (hw : (rest.map fun v => v.category).sum ≤ 8) (hret : ∀ a, ret.toList.map (cv a) = ret.toList) (d : decode cc pc = .ok (.invokevirtual index, 3)) (hM : Ctr nm y (Cond.code y bytes maxL rt :: AW) rm S σ (.ref b :: As) ret σ') (k : XW nm X nL ce sl S σ' (pc + 3) L (ret.toList ++ rest)) : XW nm X nL ce sl S σ pc L st := by
  obtain ⟨p, l, e, R, s, m, args, below, meth, c, D, ac, E, A, Q⟩ := X
  obtain ⟨⟨hx, hb, hml, hown, hts⟩, hr, hlk, hK, hN, hA, rfl⟩ := C
  intro a H locs ls hE hP hD hS hl
  obtain ⟨⟨k1, k2, k3, k4⟩, k5, k6⟩ := K
  subst hst
  have hB : CallB R s args own index y bytes maxL rt (Cond.code y bytes maxL rt :: AW) rm 0 0 n := callB_of n hts (good_all hAW hAT k1) rfl hR.2.2.1 hR.2.2.2.1 (hts _ (hAT _ k3)) (hts _ (hAT _ k2)) k4 ⟨hR.1, hR.2.1⟩
  refine run_any (E := fun a' => a' = a) (va_runV (b := a b) (As := As.map (cv a)) (rest := rest.map (cv a)) ⟨hx, hb, hml, hown, hts⟩ (hM l D ac a H.size) ⟨hB, hts _ (hAT _ k5), hts _ (hAT _ k6)⟩ ⟨QX_blind, va_recv hK hP hc (Wd_get0 hq), fun U hU hW => ⟨rfl, by rw [hU], by rw [hU]; exact hP, va_K.moved hW.alike hK, hN.warm hW, hD.weaken (fun _ _ _ _ => trivial)⟩⟩ rfl (by rw [List.length_map]; exact hn) hl.1 (by simp only [List.map_append, List.map_reverse, List.map_cons]; rfl) (lv_room (by rw [cat_sum]; exact hw)) d ⟨hR.2.2.2.2.1, hR.2.2.2.2.2⟩) (A1_sub hD hS hA) hS (fun a' H1 locs1 ha hP1 hD1 _ _ hS1 => ?_)
  subst ha
  have := k a' H1 locs1 ls hE hP1 (hD1.weaken (fun k q _ h => A1_sub hD hS hA q.1 h)) hS1 hl
  rw [List.map_append, hret] at this
  exact this
theorem X_callS (C : Cx nm X cc nL own Ts rty R0) (hAW : AW.all goodWord = true) (hAT : ∀ w ∈ AW, w ∈ Ts) (K : LkS AW own index y bytes maxL rt n) (hR : rm.frames + 1 ≤ R0.frames ∧ 8 + (maxL + 11) + rm.locals ≤ R0.locals ∧ rm.cells = 0 ∧ rm.slots = 0 ∧ ce ≤ R0.cells ∧ sl ≤ R0.slots) (hn : As.length = n) (hst : As.reverse ++ rest = st) (hw : (rest.map fun v => v.category).sum ≤ 8) (hret : ∀ a, ret.toList.map (cv a) = ret.toList) (d : decode cc pc = .ok (.invokestatic index, 3)) (hM : Ctr nm y (Cond.code y bytes maxL rt :: AW) rm S σ As ret σ') (k : XW nm X nL ce sl S σ' (pc + 3) L (ret.toList ++ rest)) : XW nm X nL ce sl S σ pc L st := by
  obtain ⟨p, l, e, R, s, m, args, below, meth, c, D, ac, E, A, Q⟩ := X
  obtain ⟨⟨hx, hb, hml, hown, hts⟩, hr, hlk, hK, hN, hA, rfl⟩ := C
  intro a H locs ls hE hP hD hS hl
  obtain ⟨⟨k1, k2, k3, k4⟩, k5⟩ := K
  subst hst
  have hB : CallB R s args own index y bytes maxL rt (Cond.code y bytes maxL rt :: AW) rm 0 0 n := callB_of n hts (good_all hAW hAT k1) rfl hR.2.2.1 hR.2.2.2.1 (hts _ (hAT _ k3)) (hts _ (hAT _ k2)) k4 ⟨hR.1, hR.2.1⟩
  refine run_any (E := fun a' => a' = a) (va_runS (As := As.map (cv a)) (rest := rest.map (cv a)) ⟨hx, hb, hml, hown, hts⟩ (hM l D ac a H.size) ⟨hB, hts _ (hAT _ k5)⟩ ⟨QX_blind, fun U hU hW => ⟨rfl, by rw [hU], by rw [hU]; exact hP, va_K.moved hW.alike hK, hN.warm hW, hD.weaken (fun _ _ _ _ => trivial)⟩⟩ rfl (by rw [List.length_map]; exact hn) hl.1 (by simp only [List.map_append, List.map_reverse]) (lv_room (by rw [cat_sum]; exact hw)) d ⟨hR.2.2.2.2.1, hR.2.2.2.2.2⟩) (A1_sub hD hS hA) hS (fun a' H1 locs1 ha hP1 hD1 _ _ hS1 => ?_)
  subst ha
  have := k a' H1 locs1 ls hE hP1 (hD1.weaken (fun k q _ h => A1_sub hD hS hA q.1 h)) hS1 hl
  rw [List.map_append, hret] at this
  exact this
theorem X_callVi (C : Cx nm X cc nL own Ts rty R0) (hAW : AW.all goodWord = true) (hAT : ∀ w ∈ AW, w ∈ Ts) (K : LkV AW own index y bytes maxL rt n) (hq : S[b]? = some (.inl (ci, fl))) (hc : nm.1[ci]? = some (y.cls, T, Nn)) (hR : rm.frames + 1 ≤ R0.frames ∧ 8 + (maxL + 11) + rm.locals ≤ R0.locals ∧ rm.cells = 0 ∧ rm.slots = 0 ∧ ce ≤ R0.cells ∧ sl ≤ R0.slots) (hn : As.length = n) (hst : As.reverse ++ .ref b :: rest = st) (hw : (rest.map fun v => v.category).sum ≤ 8) (d : decode cc pc = .ok (.invokevirtual index, 3)) {fc : Option (Int32 × Sg)} {f : Int32 → Sg → Option β} (hf : bd fc f = some out) (hM : ∀ (r : Int32) (σ' : Sg), fc = some (r, σ') → Ctr nm y (Cond.code y bytes maxL rt :: AW) rm S σ (.ref b :: As) (some (.int r)) σ') (k : ∀ (r : Int32) (σ' : Sg), f r σ' = some out → XW nm X nL ce sl S σ' (pc + 3) L (.int r :: rest)) : XW nm X nL ce sl S σ pc L st := by
  obtain ⟨r, σ', h1, h2⟩ := bd_some hf
  exact X_callV C hAW hAT K hq hc hR hn hst hw (fun _ => rfl) d (hM r σ' h1) (k r σ' h2)
theorem X_callSi (C : Cx nm X cc nL own Ts rty R0) (hAW : AW.all goodWord = true) (hAT : ∀ w ∈ AW, w ∈ Ts) (K : LkS AW own index y bytes maxL rt n) (hR : rm.frames + 1 ≤ R0.frames ∧ 8 + (maxL + 11) + rm.locals ≤ R0.locals ∧ rm.cells = 0 ∧ rm.slots = 0 ∧ ce ≤ R0.cells ∧ sl ≤ R0.slots) (hn : As.length = n) (hst : As.reverse ++ rest = st) (hw : (rest.map fun v => v.category).sum ≤ 8) (d : decode cc pc = .ok (.invokestatic index, 3)) {fc : Option (Int32 × Sg)} {f : Int32 → Sg → Option β} (hf : bd fc f = some out) (hM : ∀ (r : Int32) (σ' : Sg), fc = some (r, σ') → Ctr nm y (Cond.code y bytes maxL rt :: AW) rm S σ As (some (.int r)) σ') (k : ∀ (r : Int32) (σ' : Sg), f r σ' = some out → XW nm X nL ce sl S σ' (pc + 3) L (.int r :: rest)) : XW nm X nL ce sl S σ pc L st := by
  obtain ⟨r, σ', h1, h2⟩ := bd_some hf
  exact X_callS C hAW hAT K hR hn hst hw (fun _ => rfl) d (hM r σ' h1) (k r σ' h2)
theorem X_callVl (C : Cx nm X cc nL own Ts rty R0) (hAW : AW.all goodWord = true) (hAT : ∀ w ∈ AW, w ∈ Ts) (K : LkV AW own index y bytes maxL rt n) (hq : S[b]? = some (.inl (ci, fl))) (hc : nm.1[ci]? = some (y.cls, T, Nn)) (hR : rm.frames + 1 ≤ R0.frames ∧ 8 + (maxL + 11) + rm.locals ≤ R0.locals ∧ rm.cells = 0 ∧ rm.slots = 0 ∧ ce ≤ R0.cells ∧ sl ≤ R0.slots) (hn : As.length = n) (hst : As.reverse ++ .ref b :: rest = st) (hw : (rest.map fun v => v.category).sum ≤ 8) (d : decode cc pc = .ok (.invokevirtual index, 3)) {fc : Option (Int64 × Sg)} {f : Int64 → Sg → Option β} (hf : bdl fc f = some out) (hM : ∀ (r : Int64) (σ' : Sg), fc = some (r, σ') → Ctr nm y (Cond.code y bytes maxL rt :: AW) rm S σ (.ref b :: As) (some (.long r)) σ') (k : ∀ (r : Int64) (σ' : Sg), f r σ' = some out → XW nm X nL ce sl S σ' (pc + 3) L (.long r :: rest)) : XW nm X nL ce sl S σ pc L st := by
  obtain ⟨r, σ', h1, h2⟩ := bdl_some hf
  exact X_callV C hAW hAT K hq hc hR hn hst hw (fun _ => rfl) d (hM r σ' h1) (k r σ' h2)
theorem X_callSl (C : Cx nm X cc nL own Ts rty R0) (hAW : AW.all goodWord = true) (hAT : ∀ w ∈ AW, w ∈ Ts) (K : LkS AW own index y bytes maxL rt n) (hR : rm.frames + 1 ≤ R0.frames ∧ 8 + (maxL + 11) + rm.locals ≤ R0.locals ∧ rm.cells = 0 ∧ rm.slots = 0 ∧ ce ≤ R0.cells ∧ sl ≤ R0.slots) (hn : As.length = n) (hst : As.reverse ++ rest = st) (hw : (rest.map fun v => v.category).sum ≤ 8) (d : decode cc pc = .ok (.invokestatic index, 3)) {fc : Option (Int64 × Sg)} {f : Int64 → Sg → Option β} (hf : bdl fc f = some out) (hM : ∀ (r : Int64) (σ' : Sg), fc = some (r, σ') → Ctr nm y (Cond.code y bytes maxL rt :: AW) rm S σ As (some (.long r)) σ') (k : ∀ (r : Int64) (σ' : Sg), f r σ' = some out → XW nm X nL ce sl S σ' (pc + 3) L (.long r :: rest)) : XW nm X nL ce sl S σ pc L st := by
  obtain ⟨r, σ', h1, h2⟩ := bdl_some hf
  exact X_callS C hAW hAT K hR hn hst hw (fun _ => rfl) d (hM r σ' h1) (k r σ' h2)
theorem X_callVv (C : Cx nm X cc nL own Ts rty R0) (hAW : AW.all goodWord = true) (hAT : ∀ w ∈ AW, w ∈ Ts) (K : LkV AW own index y bytes maxL rt n) (hq : S[b]? = some (.inl (ci, fl))) (hc : nm.1[ci]? = some (y.cls, T, Nn)) (hR : rm.frames + 1 ≤ R0.frames ∧ 8 + (maxL + 11) + rm.locals ≤ R0.locals ∧ rm.cells = 0 ∧ rm.slots = 0 ∧ ce ≤ R0.cells ∧ sl ≤ R0.slots) (hn : As.length = n) (hst : As.reverse ++ .ref b :: rest = st) (hw : (rest.map fun v => v.category).sum ≤ 8) (d : decode cc pc = .ok (.invokevirtual index, 3)) {fc : Option Sg} {f : Sg → Option β} (hf : bdv fc f = some out) (hM : ∀ (σ' : Sg), fc = some σ' → Ctr nm y (Cond.code y bytes maxL rt :: AW) rm S σ (.ref b :: As) none σ') (k : ∀ (σ' : Sg), f σ' = some out → XW nm X nL ce sl S σ' (pc + 3) L (rest)) : XW nm X nL ce sl S σ pc L st := by
  obtain ⟨σ', h1, h2⟩ := bdv_some hf
  exact X_callV C hAW hAT K hq hc hR hn hst hw (fun _ => rfl) d (hM σ' h1) (k σ' h2)
theorem X_callSv (C : Cx nm X cc nL own Ts rty R0) (hAW : AW.all goodWord = true) (hAT : ∀ w ∈ AW, w ∈ Ts) (K : LkS AW own index y bytes maxL rt n) (hR : rm.frames + 1 ≤ R0.frames ∧ 8 + (maxL + 11) + rm.locals ≤ R0.locals ∧ rm.cells = 0 ∧ rm.slots = 0 ∧ ce ≤ R0.cells ∧ sl ≤ R0.slots) (hn : As.length = n) (hst : As.reverse ++ rest = st) (hw : (rest.map fun v => v.category).sum ≤ 8) (d : decode cc pc = .ok (.invokestatic index, 3)) {fc : Option Sg} {f : Sg → Option β} (hf : bdv fc f = some out) (hM : ∀ (σ' : Sg), fc = some σ' → Ctr nm y (Cond.code y bytes maxL rt :: AW) rm S σ As none σ') (k : ∀ (σ' : Sg), f σ' = some out → XW nm X nL ce sl S σ' (pc + 3) L (rest)) : XW nm X nL ce sl S σ pc L st := by
  obtain ⟨σ', h1, h2⟩ := bdv_some hf
  exact X_callS C hAW hAT K hR hn hst hw (fun _ => rfl) d (hM σ' h1) (k σ' h2)
theorem X_sw {x k0 : Int32} {f g : Option β} {P : Prop} (hf : (if x = k0 then f else g) = some out) (kt : x = k0 → f = some out → P) (kf : ¬ x = k0 → g = some out → P) : P := by
  by_cases h : x = k0
  · rw [if_pos h] at hf
    exact kt h hf
  · rw [if_neg h] at hf
    exact kf h hf
end XC

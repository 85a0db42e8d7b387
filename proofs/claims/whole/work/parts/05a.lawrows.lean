/-! THE CLAIM OUT OF ONE WALK OF THE LAW'S BODY. Your part is whole_start (and what it stands on); all else here is the same for every law, but numbers. -/
def R_law : String := "IronCampaignLaw"
def lw_P (b : Addr) (xs : List Int32) (args : Array Value) (s : State) : Prop := args = #[.ref b] ∧ s.IntsAt b xs ∧ xs.length ≤ 2560 ∧ (Jvm.Cond.and given_1 narrow_1).before args s = true
def lw_Q (_ : Array Value) (s : State) (o : Outcome) (t : State) : Prop := o = .returned (some (.int 1)) ∧ Framed s o t [] 600000 7302250
def lw_Z (below : List Frame) (a : Array Value) (s : State) : State → Prop := fun t => ∃ o, t.status = .running ∧ Ended t below o ∧ lw_Q a s o t
/-- the law's own end, with 1 on the stack, nothing written that was there before, its room as the claim has it -/
theorem lw_ret {p : Program} {l : Launch} {e : Env} {s : State} {m : MethodId} {below : List Frame} {meth : Method} {c : Code} {b : Nat} (hx : p.tables.exec = Jvm.exec) (hb : c.code = code) (hr : meth.sig.returnType = ret) (hlocks : meth.locks = false) {pc : Nat} {H : Heap} {ls : Array Slot} (hdg : decode code pc = .ok (.ireturn, 1)) : W p l e room_1 s m #[Value.ref b] below meth c H [] 600000 7302250 (lw_Z below #[Value.ref b] s) (F0 m pc ls [.int 1]) := by
  intro T hT X
  obtain ⟨fs, hret, hrun, hended, hW, hframe⟩ := X.leave (v := some (.int 1)) (hlocks := hlocks) (fun h => by rw [hr] at h; cases h)
  have hmeth' : T.vm.method? m = some meth := X.method'
  refine ⟨T.setFrames fs, ?_, .returned (some (.int 1)), hrun, hended, rfl, ⟨_, rfl⟩, hW, hframe⟩
  jvm_step X.here [X.here.top, hx, hb, hdg, hmeth', hr, ret, narrow_b1]
  (try refine ⟨rfl, ?_⟩); (try refine ⟨rfl, ?_⟩)
  first | (intro acts; rw [hret _ acts rfl rfl rfl]) | rw [hret _ _ rfl rfl rfl]
  exact Steps.refl _
/-- what holds at the law's entry: the machine, the code, the tables' words (any of lw_tbl by 'hts w (by decide +kernel)'), the script of L ints xs at the cell b, what the Statement gives of the start (any of its parts by flat_of_before) -/
def lw_At (p : Program) (s : State) (m : MethodId) (meth : Method) (c : Code) (b L : Nat) (xs : Nat → Int32) : Prop :=
  p.tables.exec = Jvm.exec ∧ c.code = code ∧ meth.sig.returnType = ret ∧ c.maxLocals = 4 ∧ s.vm.findClass R_law = some m.cls ∧ (∀ w ∈ lw_tbl, w.before #[Value.ref b] s = true) ∧ va_X b L xs s s.heap ∧ b < s.heap.size ∧ meth.locks = false ∧ (Jvm.Cond.and given_1 narrow_1).before #[Value.ref b] s = true

def Lx (X : Ctx) (Ln : Nat) (xs : Nat → Int32) : Prop := match X with
  | (_, _, _, _, s, _, _, _, _, _, _, _, E, A, _) => ∃ b, (∀ a : Nat → Nat, E a → a 1000 = b) ∧ va_X b Ln xs s s.heap ∧ b < s.heap.size ∧ ¬ A b
def Lz (X : Ctx) : Prop := match X with
  | (_, _, _, _, s, _, args, below, _, _, _, _, _, A, Q) => ∃ b, args = #[Value.ref b] ∧ Q = lw_Z below #[Value.ref b] s ∧ ∀ q, A q → s.heap.size ≤ q
section XL
variable {nm : Nm} {X : Ctx} {cc : ByteArray} {nL ce sl pc : Nat} {own : String} {Ts : List Cond} {rty : Option FieldType} {R0 : Room} {S : List Shp} {σ : Sg} {L : List (Nat × Value)} {st : List Value} {β : Type} {out : β}
theorem X_sld (C : Cx nm X cc nL own Ts rty R0) {Ln : Nat} {xs : Nat → Int32} (K : Lx X Ln xs) {i : Int32} {f : Option β} (d : decode cc pc = .ok (.iaload, 1)) (hf : gd (vi i Ln) f = some out) (k : f = some out → XW nm X nL ce sl S σ (pc + 1) L (.int (xs i.toNatClampNeg) :: st)) : XW nm X nL ce sl S σ pc L (.int i :: .ref 1000 :: st) := by
  obtain ⟨p, l, e, R, s, m, args, below, meth, c, D, ac, E, A, Q⟩ := X
  obtain ⟨⟨hx, hb, hml, hown, hts⟩, hr, hlk, hK, hN, hA, rfl⟩ := C
  intro a H locs ls hE hP hD hS hl
  obtain ⟨b, hb1, hX, hbl, hbA⟩ := K
  have hg := gd_some hf
  have h0 := hb1 a hE
  show W _ _ _ _ _ _ _ _ _ _ _ _ _ _ _ (F0 m pc ls (.int i :: .ref (a 1000) :: st.map (cv a)))
  rw [h0]
  exact va_sld hx hb hX hbl hbA hS (vi_in hg.1) d (k hg.2 a H locs ls hE hP hD hS hl)
theorem X_slen (C : Cx nm X cc nL own Ts rty R0) {Ln : Nat} {xs : Nat → Int32} (K : Lx X Ln xs) (d : decode cc pc = .ok (.arraylength, 1)) (k : XW nm X nL ce sl S σ (pc + 1) L (.int (Int32.ofNat Ln) :: st)) : XW nm X nL ce sl S σ pc L (.ref 1000 :: st) := by
  obtain ⟨p, l, e, R, s, m, args, below, meth, c, D, ac, E, A, Q⟩ := X
  obtain ⟨⟨hx, hb, hml, hown, hts⟩, hr, hlk, hK, hN, hA, rfl⟩ := C
  intro a H locs ls hE hP hD hS hl
  obtain ⟨b, hb1, hX, hbl, hbA⟩ := K
  have h0 := hb1 a hE
  show W _ _ _ _ _ _ _ _ _ _ _ _ _ _ _ (F0 m pc ls (.ref (a 1000) :: st.map (cv a)))
  rw [h0]
  exact va_slen hx hb hX hbl hbA hS d (k a H locs ls hE hP hD hS hl)
theorem X_lwr (C : Cx nm X cL_law nL own Ts (some .boolean) room_1) (K : Lz X) {v : Int32} {o : Int32 × Sg} (d : decode cL_law pc = .ok (.ireturn, 1)) (hf : gd (bz v) (some (v, σ)) = some o) (ho : o.1 = 1) : XW nm X nL 69 6753 S σ pc L [.int v] := by
  have hg := (gd_some hf).2
  cases hg
  have ho : v = 1 := ho
  subst ho
  obtain ⟨p, l, e, R, s, m, args, below, meth, c, D, ac, E, A, Q⟩ := X
  obtain ⟨⟨hx, hb, hml, hown, hts⟩, hr, hlk, hK, hN, hA, hR⟩ := C
  obtain ⟨b, rfl, rfl, hA2⟩ := K
  intro a H locs ls hE hP hD hS hl
  subst hR
  refine va_forget (fun q hq => hA2 _ (hS.2.2 q hq)) ?_
  refine W.widen (k := 600000) (n := 7302250) (by omega) (by omega) ?_
  exact lw_ret hx hb hr hlk d
end XL

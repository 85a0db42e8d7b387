section
-- ===== PART A: goes FIRST, ahead of the names: the tables' words, and 'selects' of the private methods out of them =====
/-- a private method of a class that the tables say can be made, by its rows of tables_1 -/
def lw_okq (q : MethodName × Nat) : Prop := (q.1.cls ≠ "java/lang/invoke/MethodHandle" ∧ q.1.cls ≠ "java/lang/invoke/VarHandle") ∧ Cond.instantiable q.1.cls q.2 ∈ tables_1 ∧ Cond.privateMethod q.1 ∈ tables_1 ∧ Cond.instanceMethod q.1 ∈ tables_1
theorem lw_p0 : lw_okq (⟨"IronCampaign$Table", "has", "(II)Z"⟩, 4) := ⟨⟨by decide +kernel, by decide +kernel⟩, List.mem_of_getElem? (i := 26) (by decide +kernel), List.mem_of_getElem? (i := 241) (by decide +kernel), List.mem_of_getElem? (i := 242) (by decide +kernel)⟩
theorem lw_p1 : lw_okq (⟨"IronCampaign", "followRules", "()V"⟩, 15) := ⟨⟨by decide +kernel, by decide +kernel⟩, List.mem_of_getElem? (i := 12) (by decide +kernel), List.mem_of_getElem? (i := 354) (by decide +kernel), List.mem_of_getElem? (i := 355) (by decide +kernel)⟩
theorem lw_p2 : lw_okq (⟨"IronCampaign", "isCalledFor", "(I)Z"⟩, 15) := ⟨⟨by decide +kernel, by decide +kernel⟩, List.mem_of_getElem? (i := 12) (by decide +kernel), List.mem_of_getElem? (i := 358) (by decide +kernel), List.mem_of_getElem? (i := 359) (by decide +kernel)⟩
theorem lw_p3 : lw_okq (⟨"IronCampaign", "castPig", "()I"⟩, 15) := ⟨⟨by decide +kernel, by decide +kernel⟩, List.mem_of_getElem? (i := 12) (by decide +kernel), List.mem_of_getElem? (i := 366) (by decide +kernel), List.mem_of_getElem? (i := 367) (by decide +kernel)⟩
theorem lw_p4 : lw_okq (⟨"IronCampaign$Furnace", "bringDown", "(LIronCampaign$Table;ILIronCampaign$Hearth;[I)V"⟩, 10) := ⟨⟨by decide +kernel, by decide +kernel⟩, List.mem_of_getElem? (i := 98) (by decide +kernel), List.mem_of_getElem? (i := 388) (by decide +kernel), List.mem_of_getElem? (i := 389) (by decide +kernel)⟩
theorem lw_p5 : lw_okq (⟨"IronCampaign$Furnace", "sortOf", "(II)I"⟩, 10) := ⟨⟨by decide +kernel, by decide +kernel⟩, List.mem_of_getElem? (i := 98) (by decide +kernel), List.mem_of_getElem? (i := 394) (by decide +kernel), List.mem_of_getElem? (i := 395) (by decide +kernel)⟩
theorem lw_p6 : lw_okq (⟨"IronCampaign$Sale", "readPigs", "(LIronCampaign$Table;)V"⟩, 9) := ⟨⟨by decide +kernel, by decide +kernel⟩, List.mem_of_getElem? (i := 162) (by decide +kernel), List.mem_of_getElem? (i := 458) (by decide +kernel), List.mem_of_getElem? (i := 459) (by decide +kernel)⟩
theorem lw_p7 : lw_okq (⟨"IronCampaign$Sale", "readHopes", "(LIronCampaign$Table;)V"⟩, 9) := ⟨⟨by decide +kernel, by decide +kernel⟩, List.mem_of_getElem? (i := 162) (by decide +kernel), List.mem_of_getElem? (i := 463) (by decide +kernel), List.mem_of_getElem? (i := 464) (by decide +kernel)⟩
theorem lw_p8 : lw_okq (⟨"IronCampaign$Sale", "canTake", "(LIronCampaign$Table;II)Z"⟩, 9) := ⟨⟨by decide +kernel, by decide +kernel⟩, List.mem_of_getElem? (i := 162) (by decide +kernel), List.mem_of_getElem? (i := 467) (by decide +kernel), List.mem_of_getElem? (i := 468) (by decide +kernel)⟩
theorem lw_p9 : lw_okq (⟨"IronCampaignModel", "oneTick", "()V"⟩, 57) := ⟨⟨by decide +kernel, by decide +kernel⟩, List.mem_of_getElem? (i := 526) (by decide +kernel), List.mem_of_getElem? (i := 745) (by decide +kernel), List.mem_of_getElem? (i := 746) (by decide +kernel)⟩
theorem lw_p10 : lw_okq (⟨"IronCampaignModel", "act", "(I)V"⟩, 57) := ⟨⟨by decide +kernel, by decide +kernel⟩, List.mem_of_getElem? (i := 526) (by decide +kernel), List.mem_of_getElem? (i := 749) (by decide +kernel), List.mem_of_getElem? (i := 750) (by decide +kernel)⟩
theorem lw_p11 : lw_okq (⟨"IronCampaignModel", "comesDown", "()V"⟩, 57) := ⟨⟨by decide +kernel, by decide +kernel⟩, List.mem_of_getElem? (i := 526) (by decide +kernel), List.mem_of_getElem? (i := 757) (by decide +kernel), List.mem_of_getElem? (i := 758) (by decide +kernel)⟩
theorem lw_p12 : lw_okq (⟨"IronCampaignModel", "see", "(II)V"⟩, 57) := ⟨⟨by decide +kernel, by decide +kernel⟩, List.mem_of_getElem? (i := 526) (by decide +kernel), List.mem_of_getElem? (i := 761) (by decide +kernel), List.mem_of_getElem? (i := 762) (by decide +kernel)⟩
theorem lw_p13 : lw_okq (⟨"IronCampaignModel", "findSale", "()I"⟩, 57) := ⟨⟨by decide +kernel, by decide +kernel⟩, List.mem_of_getElem? (i := 526) (by decide +kernel), List.mem_of_getElem? (i := 798) (by decide +kernel), List.mem_of_getElem? (i := 799) (by decide +kernel)⟩
theorem lw_p14 : lw_okq (⟨"IronCampaignModel", "payOf", "(I)I"⟩, 57) := ⟨⟨by decide +kernel, by decide +kernel⟩, List.mem_of_getElem? (i := 526) (by decide +kernel), List.mem_of_getElem? (i := 802) (by decide +kernel), List.mem_of_getElem? (i := 803) (by decide +kernel)⟩
theorem lw_p15 : lw_okq (⟨"IronCampaignModel", "digit", "(II)I"⟩, 57) := ⟨⟨by decide +kernel, by decide +kernel⟩, List.mem_of_getElem? (i := 526) (by decide +kernel), List.mem_of_getElem? (i := 806) (by decide +kernel), List.mem_of_getElem? (i := 807) (by decide +kernel)⟩
def lw_privs_1 : List (MethodName × Nat) := [(⟨"IronCampaign$Table", "has", "(II)Z"⟩, 4), (⟨"IronCampaign", "followRules", "()V"⟩, 15), (⟨"IronCampaign", "isCalledFor", "(I)Z"⟩, 15), (⟨"IronCampaign", "castPig", "()I"⟩, 15), (⟨"IronCampaign$Furnace", "bringDown", "(LIronCampaign$Table;ILIronCampaign$Hearth;[I)V"⟩, 10), (⟨"IronCampaign$Furnace", "sortOf", "(II)I"⟩, 10), (⟨"IronCampaign$Sale", "readPigs", "(LIronCampaign$Table;)V"⟩, 9), (⟨"IronCampaign$Sale", "readHopes", "(LIronCampaign$Table;)V"⟩, 9), (⟨"IronCampaign$Sale", "canTake", "(LIronCampaign$Table;II)Z"⟩, 9), (⟨"IronCampaignModel", "oneTick", "()V"⟩, 57), (⟨"IronCampaignModel", "act", "(I)V"⟩, 57), (⟨"IronCampaignModel", "comesDown", "()V"⟩, 57), (⟨"IronCampaignModel", "see", "(II)V"⟩, 57), (⟨"IronCampaignModel", "findSale", "()I"⟩, 57), (⟨"IronCampaignModel", "payOf", "(I)I"⟩, 57), (⟨"IronCampaignModel", "digit", "(II)I"⟩, 57)]
theorem lw_r1 : ∀ q ∈ lw_privs_1, lw_okq q := List.forall_mem_cons.mpr ⟨lw_p0, List.forall_mem_cons.mpr ⟨lw_p1, List.forall_mem_cons.mpr ⟨lw_p2, List.forall_mem_cons.mpr ⟨lw_p3, List.forall_mem_cons.mpr ⟨lw_p4, List.forall_mem_cons.mpr ⟨lw_p5, List.forall_mem_cons.mpr ⟨lw_p6, List.forall_mem_cons.mpr ⟨lw_p7, List.forall_mem_cons.mpr ⟨lw_p8, List.forall_mem_cons.mpr ⟨lw_p9, List.forall_mem_cons.mpr ⟨lw_p10, List.forall_mem_cons.mpr ⟨lw_p11, List.forall_mem_cons.mpr ⟨lw_p12, List.forall_mem_cons.mpr ⟨lw_p13, List.forall_mem_cons.mpr ⟨lw_p14, List.forall_mem_cons.mpr ⟨lw_p15, fun _ h => absurd h List.not_mem_nil⟩⟩⟩⟩⟩⟩⟩⟩⟩⟩⟩⟩⟩⟩⟩⟩
theorem lw_p16 : lw_okq (⟨"IronCampaignModel", "ironOf", "(IIIIII)I"⟩, 57) := ⟨⟨by decide +kernel, by decide +kernel⟩, List.mem_of_getElem? (i := 526) (by decide +kernel), List.mem_of_getElem? (i := 826) (by decide +kernel), List.mem_of_getElem? (i := 827) (by decide +kernel)⟩
def lw_privs_2 : List (MethodName × Nat) := [(⟨"IronCampaignModel", "ironOf", "(IIIIII)I"⟩, 57)]
theorem lw_r2 : ∀ q ∈ lw_privs_2, lw_okq q := List.forall_mem_cons.mpr ⟨lw_p16, fun _ h => absurd h List.not_mem_nil⟩
def lw_privs : List (MethodName × Nat) := lw_privs_1 ++ (lw_privs_2)
def lw_tbl : List Cond := k2_sels lw_privs ++ tables_1
theorem lw_privs_ok : ∀ q ∈ lw_privs, lw_okq q := by
  show ∀ q ∈ lw_privs_1 ++ (lw_privs_2), lw_okq q
  exact List.forall_mem_append.mpr ⟨lw_r1, lw_r2⟩
end
section
abbrev Sg : Type := Nat → Nat → Int32
abbrev Shp : Type := (Nat × List (Option Nat)) ⊕ (Nat × Nat)
def sgu (σ : Sg) (q k : Nat) (v : Int32) : Sg := fun q' => if q' = q then upd (σ q) k v else σ q'
def cv (a : Nat → Nat) (v : Value) : Value := match v with
  | .ref q => .ref (a q)
  | w => w
def cvp (a : Nat → Nat) (x : Nat × Value) : Nat × Value := (x.1, cv a x.2)
def fv (a : Nat → Nat) (f : Nat → Int32) (k : Nat) (x : Option Nat) : Value := match x with
  | none => .int (f k)
  | some 0 => .null
  | some (r + 1) => .ref (a r)
def flds (a : Nat → Nat) (f : Nat → Int32) : Nat → List (Option Nat) → List Value
  | _, [] => []
  | k, x :: xs => fv a f k x :: flds a f (k + 1) xs
def cel (ac : Nat → ClassId) (a : Nat → Nat) (f : Nat → Int32) (s : Shp) : va_E := match s with
  | .inl o => .inr (o.1, flds a f 0 o.2)
  | .inr z => .inl (ac z.1, z.2, .inl f)
def Wd (ac : Nat → ClassId) (a : Nat → Nat) (σ : Sg) : Nat → List Shp → va_W
  | _, [] => []
  | q, s :: ss => (a q, cel ac a (σ q) s) :: Wd ac a σ (q + 1) ss
theorem cv_cat (a : Nat → Nat) (v : Value) : (cv a v).category = v.category := by cases v <;> rfl
theorem flds_len (a : Nat → Nat) (f : Nat → Int32) : ∀ (fl : List (Option Nat)) (i : Nat), (flds a f i fl).length = fl.length
  | [], _ => rfl
  | x :: xs, i => by simp only [flds, List.length_cons, flds_len a f xs (i + 1)]
theorem flds_get (a : Nat → Nat) (f : Nat → Int32) : ∀ (fl : List (Option Nat)) (i k : Nat) (x : Option Nat), fl[k]? = some x → (flds a f i fl)[k]? = some (fv a f (i + k) x)
  | [], i, k, x, h => by simp at h
  | y :: ys, i, 0, x, h => by
    simp only [List.getElem?_cons_zero, Option.some.injEq] at h
    subst h
    rfl
  | y :: ys, i, k + 1, x, h => by
    rw [List.getElem?_cons_succ] at h
    have := flds_get a f ys (i + 1) k x h
    rw [show i + (k + 1) = i + 1 + k by omega]
    show (fv a f i y :: flds a f (i + 1) ys)[k + 1]? = _
    rw [List.getElem?_cons_succ]
    exact this
theorem flds_congr (a : Nat → Nat) {f f' : Nat → Int32} : ∀ (fl : List (Option Nat)) (i : Nat), (∀ j, i ≤ j → f j = f' j) → flds a f i fl = flds a f' i fl
  | [], _, _ => rfl
  | x :: xs, i, h => by
    show fv a f i x :: flds a f (i + 1) xs = fv a f' i x :: flds a f' (i + 1) xs
    rw [flds_congr a xs (i + 1) (fun j hj => h j (by omega))]
    cases x with
    | none => show Value.int (f i) :: _ = Value.int (f' i) :: _; rw [h i (Nat.le_refl i)]
    | some r => cases r <;> rfl
theorem flds_congA {a a' : Nat → Nat} (f : Nat → Int32) : ∀ (fl : List (Option Nat)) (i : Nat), (∀ r, some (r + 1) ∈ fl → a r = a' r) → flds a f i fl = flds a' f i fl
  | [], _, _ => rfl
  | x :: xs, i, h => by
    show fv a f i x :: flds a f (i + 1) xs = fv a' f i x :: flds a' f (i + 1) xs
    rw [flds_congA f xs (i + 1) (fun r hr => h r (List.mem_cons_of_mem _ hr))]
    cases x with
    | none => rfl
    | some r => cases r with
      | zero => rfl
      | succ r => show Value.ref (a r) :: _ = Value.ref (a' r) :: _; rw [h r List.mem_cons_self]
theorem flds_seti (a : Nat → Nat) (v : Int32) : ∀ (fl : List (Option Nat)) (f : Nat → Int32) (i k : Nat), fl[k]? = some none → (flds a f i fl).set k (.int v) = flds a (upd f (i + k) v) i fl
  | [], f, i, k, h => by simp at h
  | x :: xs, f, i, 0, h => by
    simp only [List.getElem?_cons_zero, Option.some.injEq] at h
    subst h
    show Value.int v :: flds a f (i + 1) xs = Value.int (upd f (i + 0) v i) :: flds a (upd f (i + 0) v) (i + 1) xs
    rw [flds_congr (f := f) (f' := upd f (i + 0) v) a xs (i + 1) (fun j hj => by simp only [upd]; rw [if_neg (by omega)])]
    simp [upd]
  | x :: xs, f, i, k + 1, h => by
    rw [List.getElem?_cons_succ] at h
    have ih := flds_seti a v xs f (i + 1) k h
    show fv a f i x :: (flds a f (i + 1) xs).set k (.int v) = fv a (upd f (i + (k + 1)) v) i x :: flds a (upd f (i + (k + 1)) v) (i + 1) xs
    rw [ih, show i + 1 + k = i + (k + 1) by omega]
    cases x with
    | none => show Value.int (f i) :: _ = Value.int (upd f (i + (k + 1)) v i) :: _; rw [show upd f (i + (k + 1)) v i = f i from by simp only [upd]; rw [if_neg (by omega)]]
    | some r => cases r <;> rfl
theorem flds_setr (a : Nat → Nat) (f : Nat → Int32) (r : Nat) : ∀ (fl : List (Option Nat)) (i k : Nat), (flds a f i fl).set k (.ref (a r)) = flds a f i (fl.set k (some (r + 1)))
  | [], i, k => rfl
  | x :: xs, i, 0 => rfl
  | x :: xs, i, k + 1 => by
    show fv a f i x :: (flds a f (i + 1) xs).set k (.ref (a r)) = fv a f i x :: flds a f (i + 1) (xs.set k (some (r + 1)))
    rw [flds_setr a f r xs (i + 1) k]
theorem Wd_len (ac : Nat → ClassId) (a : Nat → Nat) (σ : Sg) : ∀ (S : List Shp) (i : Nat), (Wd ac a σ i S).length = S.length
  | [], _ => rfl
  | x :: xs, i => by simp only [Wd, List.length_cons, Wd_len ac a σ xs (i + 1)]
theorem Wd_get (ac : Nat → ClassId) (a : Nat → Nat) (σ : Sg) : ∀ (S : List Shp) (i q : Nat) (s : Shp), S[q]? = some s → (Wd ac a σ i S)[q]? = some (a (i + q), cel ac a (σ (i + q)) s)
  | [], i, q, s, h => by simp at h
  | y :: ys, i, 0, s, h => by
    simp only [List.getElem?_cons_zero, Option.some.injEq] at h
    subst h
    rfl
  | y :: ys, i, q + 1, s, h => by
    rw [List.getElem?_cons_succ] at h
    have := Wd_get ac a σ ys (i + 1) q s h
    rw [show i + (q + 1) = i + 1 + q by omega]
    show ((a i, cel ac a (σ i) y) :: Wd ac a σ (i + 1) ys)[q + 1]? = _
    rw [List.getElem?_cons_succ]
    exact this
theorem Wd_get0 {ac : Nat → ClassId} {a : Nat → Nat} {σ : Sg} {S : List Shp} {q : Nat} {s : Shp} (h : S[q]? = some s) : (Wd ac a σ 0 S)[q]? = some (a q, cel ac a (σ q) s) := by
  have := Wd_get ac a σ S 0 q s h
  rwa [Nat.zero_add] at this
theorem Wd_congr (ac : Nat → ClassId) (a : Nat → Nat) {σ σ' : Sg} : ∀ (S : List Shp) (i : Nat), (∀ j, i ≤ j → σ j = σ' j) → Wd ac a σ i S = Wd ac a σ' i S
  | [], _, _ => rfl
  | x :: xs, i, h => by
    show (a i, cel ac a (σ i) x) :: Wd ac a σ (i + 1) xs = (a i, cel ac a (σ' i) x) :: Wd ac a σ' (i + 1) xs
    rw [Wd_congr ac a xs (i + 1) (fun j hj => h j (by omega)), h i (Nat.le_refl i)]
theorem Wd_set (ac : Nat → ClassId) (a : Nat → Nat) (f : Nat → Int32) (s' : Shp) : ∀ (S : List Shp) (σ : Sg) (i q : Nat), (Wd ac a σ i S).set q (a (i + q), cel ac a f s') = Wd ac a (fun j => if j = i + q then f else σ j) i (S.set q s')
  | [], σ, i, q => rfl
  | x :: xs, σ, i, 0 => by
    show (a (i + 0), cel ac a f s') :: Wd ac a σ (i + 1) xs = (a i, cel ac a (if i = i + 0 then f else σ i) s') :: Wd ac a (fun j => if j = i + 0 then f else σ j) (i + 1) xs
    rw [if_pos (by omega), Wd_congr (σ := σ) (σ' := fun j => if j = i + 0 then f else σ j) ac a xs (i + 1) (fun j hj => by rw [if_neg (by omega)])]
    rfl
  | x :: xs, σ, i, q + 1 => by
    show (a i, cel ac a (σ i) x) :: (Wd ac a σ (i + 1) xs).set q (a (i + (q + 1)), cel ac a f s') = (a i, cel ac a (if i = i + (q + 1) then f else σ i) x) :: Wd ac a (fun j => if j = i + (q + 1) then f else σ j) (i + 1) (xs.set q s')
    rw [if_neg (by omega), show i + (q + 1) = i + 1 + q by omega, Wd_set ac a f s' xs σ (i + 1) q]
theorem Wd_set0 {ac : Nat → ClassId} {a : Nat → Nat} {f : Nat → Int32} {s' : Shp} {S : List Shp} {σ : Sg} {q : Nat} : (Wd ac a σ 0 S).set q (a q, cel ac a f s') = Wd ac a (fun j => if j = q then f else σ j) 0 (S.set q s') := by
  have := Wd_set ac a f s' S σ 0 q
  rwa [Nat.zero_add] at this
theorem set_same {α : Type} : ∀ (S : List α) (q : Nat) (s : α), S[q]? = some s → S.set q s = S
  | [], q, s, h => by simp at h
  | x :: xs, 0, s, h => by
    simp only [List.getElem?_cons_zero, Option.some.injEq] at h
    subst h
    rfl
  | x :: xs, q + 1, s, h => by
    rw [List.getElem?_cons_succ] at h
    show x :: xs.set q s = x :: xs
    rw [set_same xs q s h]
theorem Wd_puti {ac : Nat → ClassId} {a : Nat → Nat} {S : List Shp} {σ : Sg} {q ci k : Nat} {fl : List (Option Nat)} {v : Int32} (h : S[q]? = some (.inl (ci, fl))) (hk : fl[k]? = some none) : (Wd ac a σ 0 S).set q (a q, .inr (ci, (flds a (σ q) 0 fl).set k (.int v))) = Wd ac a (sgu σ q k v) 0 S := by
  rw [flds_seti a v fl (σ q) 0 k hk, Nat.zero_add]
  show (Wd ac a σ 0 S).set q (a q, cel ac a (upd (σ q) k v) (.inl (ci, fl))) = _
  rw [Wd_set0, set_same S q _ h]
  rfl
theorem Wd_putr {ac : Nat → ClassId} {a : Nat → Nat} {S : List Shp} {σ : Sg} {q ci k r : Nat} {fl : List (Option Nat)} : (Wd ac a σ 0 S).set q (a q, .inr (ci, (flds a (σ q) 0 fl).set k (.ref (a r)))) = Wd ac a σ 0 (S.set q (.inl (ci, fl.set k (some (r + 1))))) := by
  rw [flds_setr a (σ q) r fl 0 k]
  show (Wd ac a σ 0 S).set q (a q, cel ac a (σ q) (.inl (ci, fl.set k (some (r + 1))))) = _
  rw [Wd_set0]
  exact Wd_congr ac a _ 0 (fun j _ => by show (if j = q then σ q else σ j) = σ j; by_cases e : j = q <;> simp [e])
theorem Wd_puta {ac : Nat → ClassId} {a : Nat → Nat} {S : List Shp} {σ : Sg} {q k z n : Nat} {v : Int32} (h : S[q]? = some (.inr (z, n))) : (Wd ac a σ 0 S).set q (a q, .inl (ac z, n, .inl (upd (σ q) k v))) = Wd ac a (sgu σ q k v) 0 S := by
  show (Wd ac a σ 0 S).set q (a q, cel ac a (upd (σ q) k v) (.inr (z, n))) = _
  rw [Wd_set0, set_same S q _ h]
  rfl
def wfS : List Shp → Nat → Bool
  | [], _ => true
  | .inl o :: ss, n => o.2.all (fun x => match x with
    | some (r + 1) => decide (r < n)
    | _ => true) && wfS ss n
  | .inr _ :: ss, n => wfS ss n
theorem Wd_congA {ac : Nat → ClassId} {a a' : Nat → Nat} {σ : Sg} {n : Nat} (h : ∀ q, q < n → a' q = a q) : ∀ (S : List Shp) (i : Nat), wfS S n = true → i + S.length ≤ n → Wd ac a' σ i S = Wd ac a σ i S
  | [], _, _, _ => rfl
  | .inl o :: xs, i, hw, hn => by
    simp only [wfS, Bool.and_eq_true, List.all_eq_true] at hw
    simp only [List.length_cons] at hn
    show (a' i, cel ac a' (σ i) (.inl o)) :: Wd ac a' σ (i + 1) xs = (a i, cel ac a (σ i) (.inl o)) :: Wd ac a σ (i + 1) xs
    rw [Wd_congA h xs (i + 1) hw.2 (by omega), h i (by omega)]
    show (a i, Sum.inr (o.1, flds a' (σ i) 0 o.2)) :: _ = (a i, Sum.inr (o.1, flds a (σ i) 0 o.2)) :: _
    rw [flds_congA (a := a') (a' := a) (σ i) o.2 0 (fun r hr => h r (by have := hw.1 _ hr; simpa using this))]
  | .inr z :: xs, i, hw, hn => by
    simp only [wfS] at hw
    simp only [List.length_cons] at hn
    show (a' i, cel ac a' (σ i) (.inr z)) :: Wd ac a' σ (i + 1) xs = (a i, cel ac a (σ i) (.inr z)) :: Wd ac a σ (i + 1) xs
    rw [Wd_congA h xs (i + 1) hw (by omega), h i (by omega)]
    rfl
theorem Wd_app (ac : Nat → ClassId) (a : Nat → Nat) (σ : Sg) : ∀ (S T : List Shp) (i : Nat), Wd ac a σ i (S ++ T) = Wd ac a σ i S ++ Wd ac a σ (i + S.length) T
  | [], T, i => rfl
  | x :: xs, T, i => by
    show (a i, cel ac a (σ i) x) :: Wd ac a σ (i + 1) (xs ++ T) = (a i, cel ac a (σ i) x) :: (Wd ac a σ (i + 1) xs ++ Wd ac a σ (i + (xs.length + 1)) T)
    rw [Wd_app ac a σ xs T (i + 1), show i + 1 + xs.length = i + (xs.length + 1) by omega]
theorem Wd_push {ac : Nat → ClassId} {a : Nat → Nat} {σ : Sg} {S : List Shp} {s : Shp} {q : Nat} (hw : wfS S S.length = true) (hs : cel ac (fun j => if j = S.length then q else a j) (σ S.length) s = cel ac a (σ S.length) s) : Wd ac a σ 0 S ++ [(q, cel ac a (σ S.length) s)] = Wd ac (fun j => if j = S.length then q else a j) σ 0 (S ++ [s]) := by
  rw [Wd_app, Wd_congA (a := a) (a' := fun j => if j = S.length then q else a j) (n := S.length) (fun j hj => if_neg (by omega)) S 0 hw (by omega), Nat.zero_add]
  show _ = _ ++ [((if S.length = S.length then q else a S.length), cel ac (fun j => if j = S.length then q else a j) (σ S.length) s)]
  rw [if_pos rfl, hs]
end
